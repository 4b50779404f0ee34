theorem dX11_needs_16 : decode cX11_needs 16 = .ok (.iconst 0, 1) := dR0 (k := 0) (i := 16) bn_cX11_needs_0 dop_3 (by decide +kernel)
set_option maxHeartbeats 4000000 in
set_option maxRecDepth 100000 in
theorem c_X11_needsG1 (l : Launch) (D : va_G) (cI : ClassId) (aK aV : Nat → Nat) (k k0 k1 k2 k4 k5 k6 k7 k8 ka kb kl ko : Nat) (sz : Nat) (c3 : Int32) (c9 : Int32) (cc : Int32) (cd : Int32) (ce : Int32) (cf : Int32) (cg : Int32) (ch : Int32) (ci : Int32) (cj : Int32) (ck : Int32) (cm : Int32) (cn : Int32) (a0 : Int32) (pre0 : a0 = 1) : Met l yX11_needs (gW yX11_needs cX11_needs 2 none) ({ frames := 0, cells := 0, slots := 0, locals := 0 } : Room) (kPreX D cI aK aV [.ref k, .int 1] [(k, .inr (11, [.ref k0, .ref k1, .ref k2, .int c3, .ref k4, .ref k5, .ref k6, .ref k7, .ref k8, .int c9, .ref ka, .ref kb, .int cc, .int cd, .int ce, .int cf, .int cg, .int ch, .int ci, .int cj, .int ck, .ref kl, .int cm, .int cn, .ref ko]))] sz) (va_Qv (fun (u : Int32) => (cf.toInt = 0 ∧ u.toInt = 0) ∨ (cf.toInt ≠ 0 ∧ u.toInt = 1)) (fun u t => kWd D cI (va_A [(k, .inr (11, [.ref k0, .ref k1, .ref k2, .int c3, .ref k4, .ref k5, .ref k6, .ref k7, .ref k8, .int c9, .ref ka, .ref kb, .int cc, .int cd, .int ce, .int cf, .int cg, .int ch, .int ci, .int cj, .int ck, .ref kl, .int cm, .int cn, .ref ko]))] sz) [(k, .inr (11, [.ref k0, .ref k1, .ref k2, .int c3, .ref k4, .ref k5, .ref k6, .ref k7, .ref k8, .int c9, .ref ka, .ref kb, .int cc, .int cd, .int ce, .int u, .int cg, .int ch, .int ci, .int cj, .int ck, .ref kl, .int cm, .int cn, .ref ko]))] t) (va_A [(k, .inr (11, [.ref k0, .ref k1, .ref k2, .int c3, .ref k4, .ref k5, .ref k6, .ref k7, .ref k8, .int c9, .ref ka, .ref kb, .int cc, .int cd, .int ce, .int cf, .int cg, .int ch, .int ci, .int cj, .int ck, .ref kl, .int cm, .int cn, .ref ko]))] sz)) 0 0 (va_A [(k, .inr (11, [.ref k0, .ref k1, .ref k2, .int c3, .ref k4, .ref k5, .ref k6, .ref k7, .ref k8, .int c9, .ref ka, .ref kb, .int cc, .int cd, .int ce, .int cf, .int cg, .int ch, .int ci, .int cj, .int ck, .ref kl, .int cm, .int cn, .ref ko]))] sz) := by
  refine kMetVX (own := RX11) (by decide +kernel) rfl (Nat.le_of_ble_eq_true rfl) ?_
  intro p e s m args below meth c hx hb hT hown hname hml A Q hK hP hD hS hA hN hXS hRet ls hl
  subst pre0
  have hl : lv_has ls 2 [(0, .ref k), (1, .int 1)] := hl
  have lo_cf := k_lo cf
  have hi_cf := k_hi cf
  have lo_ci := k_lo ci
  have hi_ci := k_hi ci
  refine lv_aload_n hx hb dX11_needs_0 rfl (lv_at hl 0 rfl) ?_
  refine lv_aload_n hx hb dX11_needs_1 rfl (lv_at hl 0 rfl) ?_
  refine va_get (D := D) (ci := 11) (v := .int cf) (C := RX11) (T := TX11) (N := 25) hx hb hT giX11 hown hK hP 0 rfl rfl 15 (by decide +kernel) (hT (Cond.fieldLink RX11 148 "DesertWireModel" "isWrong" "Z") mw_1171) (fun _ h9 => h9) rfl dX11_needs_2 ?_
  refine b_if_ne hx hb rfl (tgt := 12) dX11_needs_5 (by decide +kernel) (fun c_1 => ?_) (fun c_1 => ?_)
  · refine lv_iconst (v := 1) hx hb dX11_needs_12 (by decide +kernel) ?_
    refine lv_goto (tgt := 17) hx hb dX11_needs_13 (by decide +kernel) ?_
    refine va_put (D := D) (ci := 11) (v := .int 1) (ty := .boolean) (C := RX11) (T := TX11) (N := 25) hx hb hT giX11 tyX11 tyX11_ok nmX11 hown hK hP hD hS 0 rfl rfl 15 (by decide +kernel) (hT (Cond.fieldLink RX11 148 "DesertWireModel" "isWrong" "Z") mw_1171) (fun _ h9 => h9) rfl (by decide +kernel) rfl rfl (Nat.le_of_ble_eq_true rfl) dX11_needs_17 ?_
    clear hP hD hS
    intro H locs hP hD hS
    replace hP : va_P D vwCl [(k, .inr (11, [.ref k0, .ref k1, .ref k2, .int c3, .ref k4, .ref k5, .ref k6, .ref k7, .ref k8, .int c9, .ref ka, .ref kb, .int cc, .int cd, .int ce, .int 1, .int cg, .int ch, .int ci, .int cj, .int ck, .ref kl, .int cm, .int cn, .ref ko]))] H := hP
    replace hD : va_D A [(k, .inr (11, [.ref k0, .ref k1, .ref k2, .int c3, .ref k4, .ref k5, .ref k6, .ref k7, .ref k8, .int c9, .ref ka, .ref kb, .int cc, .int cd, .int ce, .int 1, .int cg, .int ch, .int ci, .int cj, .int ck, .ref kl, .int cm, .int cn, .ref ko]))] := hD
    exact hRet 1 [0] (by first | exact Or.inl ⟨(by omega), (by first | omega | (simp only [zl_1]; first | done | omega) | decide | assumption | rfl)⟩ | exact Or.inr (⟨(by omega), (by first | omega | (simp only [zl_1]; first | done | omega) | decide | assumption | rfl)⟩)) hP hD (by decide +kernel) rfl hS dX11_needs_20
  · refine lv_iload_n hx hb dX11_needs_8 rfl (lv_at hl 1 rfl) ?_
    refine b_if_ne hx hb zl_1 (tgt := 16) dX11_needs_9 (by decide +kernel) (fun c_2 => ?_) (fun c_2 => by exfalso; omega)
    refine lv_iconst (v := 0) hx hb dX11_needs_16 (by decide +kernel) ?_
    refine va_put (D := D) (ci := 11) (v := .int 0) (ty := .boolean) (C := RX11) (T := TX11) (N := 25) hx hb hT giX11 tyX11 tyX11_ok nmX11 hown hK hP hD hS 0 rfl rfl 15 (by decide +kernel) (hT (Cond.fieldLink RX11 148 "DesertWireModel" "isWrong" "Z") mw_1171) (fun _ h9 => h9) rfl (by decide +kernel) rfl rfl (Nat.le_of_ble_eq_true rfl) dX11_needs_17 ?_
    clear hP hD hS
    intro H locs hP hD hS
    replace hP : va_P D vwCl [(k, .inr (11, [.ref k0, .ref k1, .ref k2, .int c3, .ref k4, .ref k5, .ref k6, .ref k7, .ref k8, .int c9, .ref ka, .ref kb, .int cc, .int cd, .int ce, .int 0, .int cg, .int ch, .int ci, .int cj, .int ck, .ref kl, .int cm, .int cn, .ref ko]))] H := hP
    replace hD : va_D A [(k, .inr (11, [.ref k0, .ref k1, .ref k2, .int c3, .ref k4, .ref k5, .ref k6, .ref k7, .ref k8, .int c9, .ref ka, .ref kb, .int cc, .int cd, .int ce, .int 0, .int cg, .int ch, .int ci, .int cj, .int ck, .ref kl, .int cm, .int cn, .ref ko]))] := hD
    exact hRet 0 [0] (by first | exact Or.inl ⟨(by omega), (by first | omega | (simp only [zl_0]; first | done | omega) | decide | assumption | rfl)⟩ | exact Or.inr (⟨(by omega), (by first | omega | (simp only [zl_0]; first | done | omega) | decide | assumption | rfl)⟩)) hP hD (by decide +kernel) rfl hS dX11_needs_20
theorem bn_cX11_nameAt_0 : BN cX11_nameAt 0 0x15a03028055006040054268088701e01540141001509d0221c0c805500404005426c088715a03028055005040054265088701e01540101001509b4221c5680c0a01540181001509b8221c078055005040054264088703201540101001509bc221c1e80402010100402010e80402010080402010180402012980402010080402ac4e0056a2b := by
  unfold BN; decide +kernel
theorem dX11_nameAt_0 : decode cX11_nameAt 0 = .ok (.aload_n 0, 1) := dR0 (k := 0) (i := 0) bn_cX11_nameAt_0 dop_42 (by decide +kernel)
theorem dX11_nameAt_1 : decode cX11_nameAt 1 = .ok (.getfield 155, 3) := dR2 (f := Instr.getfield) (k := 0) (i := 1) bn_cX11_nameAt_0 dop_180 155 (by decide +kernel)
theorem dX11_nameAt_4 : decode cX11_nameAt 4 = .ok (.lookupswitch 82 #[(0, 28), (1, 60)], 28) := by decide +kernel
theorem dX11_nameAt_32 : decode cX11_nameAt 32 = .ok (.iload_n 1, 1) := dR0 (k := 0) (i := 32) bn_cX11_nameAt_0 dop_27 (by decide +kernel)
theorem dX11_nameAt_33 : decode cX11_nameAt 33 = .ok (.bipush 110, 2) := dR1s (f := Instr.bipush) (k := 0) (i := 33) bn_cX11_nameAt_0 dop_16 110 110 (by decide +kernel)
theorem dX11_nameAt_35 : decode cX11_nameAt 35 = .ok (.if_icmp .ne 7, 3) := dR2s (f := Instr.if_icmp .ne) (k := 0) (i := 35) bn_cX11_nameAt_0 dop_160 7 7 (by decide +kernel)
theorem dX11_nameAt_38 : decode cX11_nameAt 38 = .ok (.iconst 0, 1) := dR0 (k := 0) (i := 38) bn_cX11_nameAt_0 dop_3 (by decide +kernel)
theorem dX11_nameAt_39 : decode cX11_nameAt 39 = .ok (.goto 24, 3) := dR2s (f := Instr.goto) (k := 0) (i := 39) bn_cX11_nameAt_0 dop_167 24 24 (by decide +kernel)
theorem dX11_nameAt_42 : decode cX11_nameAt 42 = .ok (.iload_n 1, 1) := dR0 (k := 0) (i := 42) bn_cX11_nameAt_0 dop_27 (by decide +kernel)
theorem dX11_nameAt_43 : decode cX11_nameAt 43 = .ok (.bipush 99, 2) := dR1s (f := Instr.bipush) (k := 0) (i := 43) bn_cX11_nameAt_0 dop_16 99 99 (by decide +kernel)
theorem dX11_nameAt_45 : decode cX11_nameAt 45 = .ok (.if_icmp .ne 7, 3) := dR2s (f := Instr.if_icmp .ne) (k := 0) (i := 45) bn_cX11_nameAt_0 dop_160 7 7 (by decide +kernel)
theorem dX11_nameAt_48 : decode cX11_nameAt 48 = .ok (.iconst 1, 1) := dR0 (k := 0) (i := 48) bn_cX11_nameAt_0 dop_4 (by decide +kernel)
theorem dX11_nameAt_49 : decode cX11_nameAt 49 = .ok (.goto 14, 3) := dR2s (f := Instr.goto) (k := 0) (i := 49) bn_cX11_nameAt_0 dop_167 14 14 (by decide +kernel)
theorem dX11_nameAt_52 : decode cX11_nameAt 52 = .ok (.iload_n 1, 1) := dR0 (k := 0) (i := 52) bn_cX11_nameAt_0 dop_27 (by decide +kernel)
theorem dX11_nameAt_53 : decode cX11_nameAt 53 = .ok (.bipush 109, 2) := dR1s (f := Instr.bipush) (k := 0) (i := 53) bn_cX11_nameAt_0 dop_16 109 109 (by decide +kernel)
theorem dX11_nameAt_55 : decode cX11_nameAt 55 = .ok (.if_icmp .ne 7, 3) := dR2s (f := Instr.if_icmp .ne) (k := 0) (i := 55) bn_cX11_nameAt_0 dop_160 7 7 (by decide +kernel)
theorem dX11_nameAt_58 : decode cX11_nameAt 58 = .ok (.iconst 2, 1) := dR0 (k := 0) (i := 58) bn_cX11_nameAt_0 dop_5 (by decide +kernel)
theorem dX11_nameAt_59 : decode cX11_nameAt 59 = .ok (.goto 4, 3) := dR2s (f := Instr.goto) (k := 0) (i := 59) bn_cX11_nameAt_0 dop_167 4 4 (by decide +kernel)
theorem dX11_nameAt_62 : decode cX11_nameAt 62 = .ok (.iconst (-1), 1) := dR0 (k := 0) (i := 62) bn_cX11_nameAt_0 dop_2 (by decide +kernel)
theorem dX11_nameAt_63 : decode cX11_nameAt 63 = .ok (.ireturn, 1) := dR0 (k := 0) (i := 63) bn_cX11_nameAt_0 dop_172 (by decide +kernel)
theorem dX11_nameAt_64 : decode cX11_nameAt 64 = .ok (.iload_n 1, 1) := dR0 (k := 0) (i := 64) bn_cX11_nameAt_0 dop_27 (by decide +kernel)
theorem dX11_nameAt_65 : decode cX11_nameAt 65 = .ok (.bipush 108, 2) := dR1s (f := Instr.bipush) (k := 0) (i := 65) bn_cX11_nameAt_0 dop_16 108 108 (by decide +kernel)
theorem dX11_nameAt_67 : decode cX11_nameAt 67 = .ok (.if_icmp .ne 7, 3) := dR2s (f := Instr.if_icmp .ne) (k := 0) (i := 67) bn_cX11_nameAt_0 dop_160 7 7 (by decide +kernel)
theorem dX11_nameAt_70 : decode cX11_nameAt 70 = .ok (.iconst 0, 1) := dR0 (k := 0) (i := 70) bn_cX11_nameAt_0 dop_3 (by decide +kernel)
theorem dX11_nameAt_71 : decode cX11_nameAt 71 = .ok (.goto 14, 3) := dR2s (f := Instr.goto) (k := 0) (i := 71) bn_cX11_nameAt_0 dop_167 14 14 (by decide +kernel)
theorem dX11_nameAt_74 : decode cX11_nameAt 74 = .ok (.iload_n 1, 1) := dR0 (k := 0) (i := 74) bn_cX11_nameAt_0 dop_27 (by decide +kernel)
theorem dX11_nameAt_75 : decode cX11_nameAt 75 = .ok (.bipush 100, 2) := dR1s (f := Instr.bipush) (k := 0) (i := 75) bn_cX11_nameAt_0 dop_16 100 100 (by decide +kernel)
theorem dX11_nameAt_77 : decode cX11_nameAt 77 = .ok (.if_icmp .ne 7, 3) := dR2s (f := Instr.if_icmp .ne) (k := 0) (i := 77) bn_cX11_nameAt_0 dop_160 7 7 (by decide +kernel)
theorem dX11_nameAt_80 : decode cX11_nameAt 80 = .ok (.iconst 1, 1) := dR0 (k := 0) (i := 80) bn_cX11_nameAt_0 dop_4 (by decide +kernel)
theorem dX11_nameAt_81 : decode cX11_nameAt 81 = .ok (.goto 4, 3) := dR2s (f := Instr.goto) (k := 0) (i := 81) bn_cX11_nameAt_0 dop_167 4 4 (by decide +kernel)
theorem dX11_nameAt_84 : decode cX11_nameAt 84 = .ok (.iconst (-1), 1) := dR0 (k := 0) (i := 84) bn_cX11_nameAt_0 dop_2 (by decide +kernel)
theorem dX11_nameAt_85 : decode cX11_nameAt 85 = .ok (.ireturn, 1) := dR0 (k := 0) (i := 85) bn_cX11_nameAt_0 dop_172 (by decide +kernel)
theorem dX11_nameAt_86 : decode cX11_nameAt 86 = .ok (.iload_n 1, 1) := dR0 (k := 0) (i := 86) bn_cX11_nameAt_0 dop_27 (by decide +kernel)
theorem dX11_nameAt_87 : decode cX11_nameAt 87 = .ok (.bipush 107, 2) := dR1s (f := Instr.bipush) (k := 0) (i := 87) bn_cX11_nameAt_0 dop_16 107 107 (by decide +kernel)
theorem dX11_nameAt_89 : decode cX11_nameAt 89 = .ok (.if_icmp .ne 7, 3) := dR2s (f := Instr.if_icmp .ne) (k := 0) (i := 89) bn_cX11_nameAt_0 dop_160 7 7 (by decide +kernel)
theorem dX11_nameAt_92 : decode cX11_nameAt 92 = .ok (.iconst 0, 1) := dR0 (k := 0) (i := 92) bn_cX11_nameAt_0 dop_3 (by decide +kernel)
theorem dX11_nameAt_93 : decode cX11_nameAt 93 = .ok (.goto 24, 3) := dR2s (f := Instr.goto) (k := 0) (i := 93) bn_cX11_nameAt_0 dop_167 24 24 (by decide +kernel)
theorem dX11_nameAt_96 : decode cX11_nameAt 96 = .ok (.iload_n 1, 1) := dR0 (k := 0) (i := 96) bn_cX11_nameAt_0 dop_27 (by decide +kernel)
theorem dX11_nameAt_97 : decode cX11_nameAt 97 = .ok (.bipush 115, 2) := dR1s (f := Instr.bipush) (k := 0) (i := 97) bn_cX11_nameAt_0 dop_16 115 115 (by decide +kernel)
theorem dX11_nameAt_99 : decode cX11_nameAt 99 = .ok (.if_icmp .ne 7, 3) := dR2s (f := Instr.if_icmp .ne) (k := 0) (i := 99) bn_cX11_nameAt_0 dop_160 7 7 (by decide +kernel)
theorem dX11_nameAt_102 : decode cX11_nameAt 102 = .ok (.iconst 1, 1) := dR0 (k := 0) (i := 102) bn_cX11_nameAt_0 dop_4 (by decide +kernel)
theorem dX11_nameAt_103 : decode cX11_nameAt 103 = .ok (.goto 14, 3) := dR2s (f := Instr.goto) (k := 0) (i := 103) bn_cX11_nameAt_0 dop_167 14 14 (by decide +kernel)
theorem dX11_nameAt_106 : decode cX11_nameAt 106 = .ok (.iload_n 1, 1) := dR0 (k := 0) (i := 106) bn_cX11_nameAt_0 dop_27 (by decide +kernel)
theorem dX11_nameAt_107 : decode cX11_nameAt 107 = .ok (.bipush 103, 2) := dR1s (f := Instr.bipush) (k := 0) (i := 107) bn_cX11_nameAt_0 dop_16 103 103 (by decide +kernel)
theorem dX11_nameAt_109 : decode cX11_nameAt 109 = .ok (.if_icmp .ne 7, 3) := dR2s (f := Instr.if_icmp .ne) (k := 0) (i := 109) bn_cX11_nameAt_0 dop_160 7 7 (by decide +kernel)
theorem dX11_nameAt_112 : decode cX11_nameAt 112 = .ok (.iconst 2, 1) := dR0 (k := 0) (i := 112) bn_cX11_nameAt_0 dop_5 (by decide +kernel)
theorem dX11_nameAt_113 : decode cX11_nameAt 113 = .ok (.goto 4, 3) := dR2s (f := Instr.goto) (k := 0) (i := 113) bn_cX11_nameAt_0 dop_167 4 4 (by decide +kernel)
theorem dX11_nameAt_116 : decode cX11_nameAt 116 = .ok (.iconst (-1), 1) := dR0 (k := 0) (i := 116) bn_cX11_nameAt_0 dop_2 (by decide +kernel)
theorem dX11_nameAt_117 : decode cX11_nameAt 117 = .ok (.ireturn, 1) := dR0 (k := 0) (i := 117) bn_cX11_nameAt_0 dop_172 (by decide +kernel)
set_option maxHeartbeats 4000000 in
set_option maxRecDepth 100000 in
theorem c_X11_nameAtG (l : Launch) (D : va_G) (cI : ClassId) (aK aV : Nat → Nat) (k k0 k1 k2 k4 k5 k6 k7 k8 ka kb kl ko : Nat) (sz : Nat) (c3 : Int32) (c9 : Int32) (cc : Int32) (cd : Int32) (ce : Int32) (cf : Int32) (cg : Int32) (ch : Int32) (ci : Int32) (cj : Int32) (ck : Int32) (cm : Int32) (cn : Int32) (a0 : Int32) : Met l yX11_nameAt (gW yX11_nameAt cX11_nameAt 2 (some .int)) ({ frames := 0, cells := 0, slots := 0, locals := 0 } : Room) (kPreX D cI aK aV [.ref k, .int a0] [(k, .inr (11, [.ref k0, .ref k1, .ref k2, .int c3, .ref k4, .ref k5, .ref k6, .ref k7, .ref k8, .int c9, .ref ka, .ref kb, .int cc, .int cd, .int ce, .int cf, .int cg, .int ch, .int ci, .int cj, .int ck, .ref kl, .int cm, .int cn, .ref ko]))] sz) (va_Qi (fun (r : Int32) (u : Unit) => (0 ≤ r.toInt ∧ 97 ≤ a0.toInt ∧ a0.toInt ≤ 115 ∧ r.toInt = tx_nm ch a0) ∨ (r = (-1) ∧ r.toInt = tx_nm ch a0)) (fun u t => kWd D cI (va_A [(k, .inr (11, [.ref k0, .ref k1, .ref k2, .int c3, .ref k4, .ref k5, .ref k6, .ref k7, .ref k8, .int c9, .ref ka, .ref kb, .int cc, .int cd, .int ce, .int cf, .int cg, .int ch, .int ci, .int cj, .int ck, .ref kl, .int cm, .int cn, .ref ko]))] sz) [(k, .inr (11, [.ref k0, .ref k1, .ref k2, .int c3, .ref k4, .ref k5, .ref k6, .ref k7, .ref k8, .int c9, .ref ka, .ref kb, .int cc, .int cd, .int ce, .int cf, .int cg, .int ch, .int ci, .int cj, .int ck, .ref kl, .int cm, .int cn, .ref ko]))] t) (va_A [(k, .inr (11, [.ref k0, .ref k1, .ref k2, .int c3, .ref k4, .ref k5, .ref k6, .ref k7, .ref k8, .int c9, .ref ka, .ref kb, .int cc, .int cd, .int ce, .int cf, .int cg, .int ch, .int ci, .int cj, .int ck, .ref kl, .int cm, .int cn, .ref ko]))] sz)) 0 0 (va_A [(k, .inr (11, [.ref k0, .ref k1, .ref k2, .int c3, .ref k4, .ref k5, .ref k6, .ref k7, .ref k8, .int c9, .ref ka, .ref kb, .int cc, .int cd, .int ce, .int cf, .int cg, .int ch, .int ci, .int cj, .int ck, .ref kl, .int cm, .int cn, .ref ko]))] sz) := by
  refine kMetIX (own := RX11) (by decide +kernel) rfl (Nat.le_of_ble_eq_true rfl) ?_
  intro p e s m args below meth c hx hb hT hown hname hml A Q hK hP hD hS hA hN hXS hRet ls hl
  have hl : lv_has ls 2 [(0, .ref k), (1, .int a0)] := hl
  have lo_ch := k_lo ch
  have hi_ch := k_hi ch
  have lo_ci := k_lo ci
  have hi_ci := k_hi ci
  refine lv_aload_n hx hb dX11_nameAt_0 rfl (lv_at hl 0 rfl) ?_
  refine va_get (D := D) (ci := 11) (v := .int ch) (C := RX11) (T := TX11) (N := 25) hx hb hT giX11 hown hK hP 0 rfl rfl 17 (by decide +kernel) (hT (Cond.fieldLink RX11 155 "DesertWireModel" "use" "I") mw_1173) (fun _ h9 => h9) rfl dX11_nameAt_1 ?_
  by_cases c_1 : ch.toInt = 0
  · refine lv_lookup (off := 28) (tgt := 32) hx hb dX11_nameAt_4 (by decide +kernel) (by rw [c_1]; decide) (by decide +kernel) ?_
    refine lv_iload_n hx hb dX11_nameAt_32 rfl (lv_at hl 1 rfl) ?_
    refine lv_bipush (v := 110) hx hb dX11_nameAt_33 (by decide +kernel) ?_
    refine b_icmp_ne hx hb rfl zl_110 (tgt := 42) dX11_nameAt_35 (by decide +kernel) (fun c_2 => ?_) (fun c_2 => ?_)
    · refine lv_iload_n hx hb dX11_nameAt_42 rfl (lv_at hl 1 rfl) ?_
      refine lv_bipush (v := 99) hx hb dX11_nameAt_43 (by decide +kernel) ?_
      refine b_icmp_ne hx hb rfl zl_99 (tgt := 52) dX11_nameAt_45 (by decide +kernel) (fun c_3 => ?_) (fun c_3 => ?_)
      · refine lv_iload_n hx hb dX11_nameAt_52 rfl (lv_at hl 1 rfl) ?_
        refine lv_bipush (v := 109) hx hb dX11_nameAt_53 (by decide +kernel) ?_
        refine b_icmp_ne hx hb rfl zl_109 (tgt := 62) dX11_nameAt_55 (by decide +kernel) (fun c_4 => ?_) (fun c_4 => ?_)
        · refine lv_iconst (v := (-1)) hx hb dX11_nameAt_62 (by decide +kernel) ?_
          exact hRet () [0] (by first | exact Or.inl ⟨(by first | omega | (simp only [zl_m1]; first | done | omega)), (by omega), (by omega), (by (try rw [zl_m1]); unfold tx_nm; (repeat (first | rw [if_pos (by omega)] | rw [if_neg (by omega)])))⟩ | exact Or.inr (⟨rfl, (by (try rw [zl_m1]); unfold tx_nm; (repeat (first | rw [if_pos (by omega)] | rw [if_neg (by omega)])))⟩)) hP hD (by decide +kernel) rfl hS rfl dX11_nameAt_63
        · refine lv_iconst (v := 2) hx hb dX11_nameAt_58 (by decide +kernel) ?_
          refine lv_goto (tgt := 63) hx hb dX11_nameAt_59 (by decide +kernel) ?_
          exact hRet () [0] (Or.inl ⟨(by first | omega | (simp only [zl_2]; first | done | omega)), (by omega), (by omega), (by (try rw [zl_2]); unfold tx_nm; (repeat (first | rw [if_pos (by omega)] | rw [if_neg (by omega)])))⟩) hP hD (by decide +kernel) rfl hS rfl dX11_nameAt_63
      · refine lv_iconst (v := 1) hx hb dX11_nameAt_48 (by decide +kernel) ?_
        refine lv_goto (tgt := 63) hx hb dX11_nameAt_49 (by decide +kernel) ?_
        exact hRet () [0] (Or.inl ⟨(by first | omega | (simp only [zl_1]; first | done | omega)), (by omega), (by omega), (by (try rw [zl_1]); unfold tx_nm; (repeat (first | rw [if_pos (by omega)] | rw [if_neg (by omega)])))⟩) hP hD (by decide +kernel) rfl hS rfl dX11_nameAt_63
    · refine lv_iconst (v := 0) hx hb dX11_nameAt_38 (by decide +kernel) ?_
      refine lv_goto (tgt := 63) hx hb dX11_nameAt_39 (by decide +kernel) ?_
      exact hRet () [0] (Or.inl ⟨(by first | omega | (simp only [zl_0]; first | done | omega)), (by omega), (by omega), (by (try rw [zl_0]); unfold tx_nm; (repeat (first | rw [if_pos (by omega)] | rw [if_neg (by omega)])))⟩) hP hD (by decide +kernel) rfl hS rfl dX11_nameAt_63
  by_cases c_5 : ch.toInt = 1
  · refine lv_lookup (off := 60) (tgt := 64) hx hb dX11_nameAt_4 (by decide +kernel) (by rw [c_5]; decide) (by decide +kernel) ?_
    refine lv_iload_n hx hb dX11_nameAt_64 rfl (lv_at hl 1 rfl) ?_
    refine lv_bipush (v := 108) hx hb dX11_nameAt_65 (by decide +kernel) ?_
    refine b_icmp_ne hx hb rfl zl_108 (tgt := 74) dX11_nameAt_67 (by decide +kernel) (fun c_6 => ?_) (fun c_6 => ?_)
    · refine lv_iload_n hx hb dX11_nameAt_74 rfl (lv_at hl 1 rfl) ?_
      refine lv_bipush (v := 100) hx hb dX11_nameAt_75 (by decide +kernel) ?_
      refine b_icmp_ne hx hb rfl zl_100 (tgt := 84) dX11_nameAt_77 (by decide +kernel) (fun c_7 => ?_) (fun c_7 => ?_)
      · refine lv_iconst (v := (-1)) hx hb dX11_nameAt_84 (by decide +kernel) ?_
        exact hRet () [0] (by first | exact Or.inl ⟨(by first | omega | (simp only [zl_m1]; first | done | omega)), (by omega), (by omega), (by (try rw [zl_m1]); unfold tx_nm; (repeat (first | rw [if_pos (by omega)] | rw [if_neg (by omega)])))⟩ | exact Or.inr (⟨rfl, (by (try rw [zl_m1]); unfold tx_nm; (repeat (first | rw [if_pos (by omega)] | rw [if_neg (by omega)])))⟩)) hP hD (by decide +kernel) rfl hS rfl dX11_nameAt_85
      · refine lv_iconst (v := 1) hx hb dX11_nameAt_80 (by decide +kernel) ?_
        refine lv_goto (tgt := 85) hx hb dX11_nameAt_81 (by decide +kernel) ?_
        exact hRet () [0] (Or.inl ⟨(by first | omega | (simp only [zl_1]; first | done | omega)), (by omega), (by omega), (by (try rw [zl_1]); unfold tx_nm; (repeat (first | rw [if_pos (by omega)] | rw [if_neg (by omega)])))⟩) hP hD (by decide +kernel) rfl hS rfl dX11_nameAt_85
    · refine lv_iconst (v := 0) hx hb dX11_nameAt_70 (by decide +kernel) ?_
      refine lv_goto (tgt := 85) hx hb dX11_nameAt_71 (by decide +kernel) ?_
      exact hRet () [0] (Or.inl ⟨(by first | omega | (simp only [zl_0]; first | done | omega)), (by omega), (by omega), (by (try rw [zl_0]); unfold tx_nm; (repeat (first | rw [if_pos (by omega)] | rw [if_neg (by omega)])))⟩) hP hD (by decide +kernel) rfl hS rfl dX11_nameAt_85
  refine lv_lookup (off := 82) (tgt := 86) hx hb dX11_nameAt_4 (by decide +kernel) (k_osw2 (by omega) (by omega)) (by decide +kernel) ?_
  refine lv_iload_n hx hb dX11_nameAt_86 rfl (lv_at hl 1 rfl) ?_
  refine lv_bipush (v := 107) hx hb dX11_nameAt_87 (by decide +kernel) ?_
  refine b_icmp_ne hx hb rfl zl_107 (tgt := 96) dX11_nameAt_89 (by decide +kernel) (fun c_8 => ?_) (fun c_8 => ?_)
  · refine lv_iload_n hx hb dX11_nameAt_96 rfl (lv_at hl 1 rfl) ?_
    refine lv_bipush (v := 115) hx hb dX11_nameAt_97 (by decide +kernel) ?_
    refine b_icmp_ne hx hb rfl zl_115 (tgt := 106) dX11_nameAt_99 (by decide +kernel) (fun c_9 => ?_) (fun c_9 => ?_)
    · refine lv_iload_n hx hb dX11_nameAt_106 rfl (lv_at hl 1 rfl) ?_
      refine lv_bipush (v := 103) hx hb dX11_nameAt_107 (by decide +kernel) ?_
      refine b_icmp_ne hx hb rfl zl_103 (tgt := 116) dX11_nameAt_109 (by decide +kernel) (fun c_10 => ?_) (fun c_10 => ?_)
      · refine lv_iconst (v := (-1)) hx hb dX11_nameAt_116 (by decide +kernel) ?_
        exact hRet () [0] (by first | exact Or.inl ⟨(by first | omega | (simp only [zl_m1]; first | done | omega)), (by omega), (by omega), (by (try rw [zl_m1]); unfold tx_nm; (repeat (first | rw [if_pos (by omega)] | rw [if_neg (by omega)])))⟩ | exact Or.inr (⟨rfl, (by (try rw [zl_m1]); unfold tx_nm; (repeat (first | rw [if_pos (by omega)] | rw [if_neg (by omega)])))⟩)) hP hD (by decide +kernel) rfl hS rfl dX11_nameAt_117
      · refine lv_iconst (v := 2) hx hb dX11_nameAt_112 (by decide +kernel) ?_
        refine lv_goto (tgt := 117) hx hb dX11_nameAt_113 (by decide +kernel) ?_
        exact hRet () [0] (Or.inl ⟨(by first | omega | (simp only [zl_2]; first | done | omega)), (by omega), (by omega), (by (try rw [zl_2]); unfold tx_nm; (repeat (first | rw [if_pos (by omega)] | rw [if_neg (by omega)])))⟩) hP hD (by decide +kernel) rfl hS rfl dX11_nameAt_117
    · refine lv_iconst (v := 1) hx hb dX11_nameAt_102 (by decide +kernel) ?_
      refine lv_goto (tgt := 117) hx hb dX11_nameAt_103 (by decide +kernel) ?_
      exact hRet () [0] (Or.inl ⟨(by first | omega | (simp only [zl_1]; first | done | omega)), (by omega), (by omega), (by (try rw [zl_1]); unfold tx_nm; (repeat (first | rw [if_pos (by omega)] | rw [if_neg (by omega)])))⟩) hP hD (by decide +kernel) rfl hS rfl dX11_nameAt_117
  · refine lv_iconst (v := 0) hx hb dX11_nameAt_92 (by decide +kernel) ?_
    refine lv_goto (tgt := 117) hx hb dX11_nameAt_93 (by decide +kernel) ?_
    exact hRet () [0] (Or.inl ⟨(by first | omega | (simp only [zl_0]; first | done | omega)), (by omega), (by omega), (by (try rw [zl_0]); unfold tx_nm; (repeat (first | rw [if_pos (by omega)] | rw [if_neg (by omega)])))⟩) hP hD (by decide +kernel) rfl hS rfl dX11_nameAt_117
theorem bn_cX11_both_0 : BN cX11_both 0 0x15a1c72c01503d0201402a802820029a0e830029a0e0f982015b8ac34014d2e002b713844563d608056e2b := by
  unfold BN; decide +kernel
theorem dX11_both_0 : decode cX11_both 0 = .ok (.aload_n 0, 1) := dR0 (k := 0) (i := 0) bn_cX11_both_0 dop_42 (by decide +kernel)
theorem dX11_both_1 : decode cX11_both 1 = .ok (.invokevirtual 192, 3) := dR2 (f := Instr.invokevirtual) (k := 0) (i := 1) bn_cX11_both_0 dop_182 192 (by decide +kernel)
theorem dX11_both_4 : decode cX11_both 4 = .ok (.istore_n 1, 1) := dR0 (k := 0) (i := 4) bn_cX11_both_0 dop_60 (by decide +kernel)
theorem dX11_both_5 : decode cX11_both 5 = .ok (.aload_n 0, 1) := dR0 (k := 0) (i := 5) bn_cX11_both_0 dop_42 (by decide +kernel)
theorem dX11_both_6 : decode cX11_both 6 = .ok (.bipush 38, 2) := dR1s (f := Instr.bipush) (k := 0) (i := 6) bn_cX11_both_0 dop_16 38 38 (by decide +kernel)
theorem dX11_both_8 : decode cX11_both 8 = .ok (.invokevirtual 183, 3) := dR2 (f := Instr.invokevirtual) (k := 0) (i := 8) bn_cX11_both_0 dop_182 183 (by decide +kernel)
theorem dX11_both_11 : decode cX11_both 11 = .ok (.ifCond .eq 25, 3) := dR2s (f := Instr.ifCond .eq) (k := 0) (i := 11) bn_cX11_both_0 dop_153 25 25 (by decide +kernel)
theorem dX11_both_14 : decode cX11_both 14 = .ok (.aload_n 0, 1) := dR0 (k := 0) (i := 14) bn_cX11_both_0 dop_42 (by decide +kernel)
theorem dX11_both_15 : decode cX11_both 15 = .ok (.invokevirtual 192, 3) := dR2 (f := Instr.invokevirtual) (k := 0) (i := 15) bn_cX11_both_0 dop_182 192 (by decide +kernel)
theorem dX11_both_18 : decode cX11_both 18 = .ok (.istore_n 2, 1) := dR0 (k := 0) (i := 18) bn_cX11_both_0 dop_61 (by decide +kernel)
theorem dX11_both_19 : decode cX11_both 19 = .ok (.iload_n 1, 1) := dR0 (k := 0) (i := 19) bn_cX11_both_0 dop_27 (by decide +kernel)
theorem dX11_both_20 : decode cX11_both 20 = .ok (.ifCond .eq 11, 3) := dR2s (f := Instr.ifCond .eq) (k := 0) (i := 20) bn_cX11_both_0 dop_153 11 11 (by decide +kernel)
theorem dX11_both_23 : decode cX11_both 23 = .ok (.iload_n 2, 1) := dR0 (k := 0) (i := 23) bn_cX11_both_0 dop_28 (by decide +kernel)
theorem dX11_both_24 : decode cX11_both 24 = .ok (.ifCond .eq 7, 3) := dR2s (f := Instr.ifCond .eq) (k := 0) (i := 24) bn_cX11_both_0 dop_153 7 7 (by decide +kernel)
theorem dX11_both_27 : decode cX11_both 27 = .ok (.iconst 1, 1) := dR0 (k := 0) (i := 27) bn_cX11_both_0 dop_4 (by decide +kernel)
theorem dX11_both_28 : decode cX11_both 28 = .ok (.goto 4, 3) := dR2s (f := Instr.goto) (k := 0) (i := 28) bn_cX11_both_0 dop_167 4 4 (by decide +kernel)
theorem dX11_both_31 : decode cX11_both 31 = .ok (.iconst 0, 1) := dR0 (k := 0) (i := 31) bn_cX11_both_0 dop_3 (by decide +kernel)
theorem dX11_both_32 : decode cX11_both 32 = .ok (.istore_n 1, 1) := dR0 (k := 0) (i := 32) bn_cX11_both_0 dop_60 (by decide +kernel)
theorem dX11_both_33 : decode cX11_both 33 = .ok (.goto (-28), 3) := dR2s (f := Instr.goto) (k := 0) (i := 33) bn_cX11_both_0 dop_167 65508 (-28) (by decide +kernel)
theorem dX11_both_36 : decode cX11_both 36 = .ok (.iload_n 1, 1) := dR0 (k := 0) (i := 36) bn_cX11_both_0 dop_27 (by decide +kernel)
theorem dX11_both_37 : decode cX11_both 37 = .ok (.ireturn, 1) := dR0 (k := 0) (i := 37) bn_cX11_both_0 dop_172 (by decide +kernel)
theorem bn_cX11_one_0 : BN cX11_one 0 0x88702001500b8221c15ab550015a8ac10015429402b51582c02a10287428015428802b51582c029b0ea2c02b63081516015a968562a00a703a3e4f8056e1c15ab43ad4802a0040442a2c02b63081516015a968563e328c422614c8056e2b34874161110805343000ae474111884532015b8ac5e01518203c3f020f8083a00a6860015c8e82231088715a0403005349500ad4563d4c8056e2b := by
  unfold BN; decide +kernel
theorem dX11_one_0 : decode cX11_one 0 = .ok (.aload_n 0, 1) := dR0 (k := 0) (i := 0) bn_cX11_one_0 dop_42 (by decide +kernel)
theorem dX11_one_1 : decode cX11_one 1 = .ok (.invokevirtual 152, 3) := dR2 (f := Instr.invokevirtual) (k := 0) (i := 1) bn_cX11_one_0 dop_182 152 (by decide +kernel)
theorem dX11_one_4 : decode cX11_one 4 = .ok (.istore_n 1, 1) := dR0 (k := 0) (i := 4) bn_cX11_one_0 dop_60 (by decide +kernel)
theorem dX11_one_5 : decode cX11_one 5 = .ok (.aload_n 0, 1) := dR0 (k := 0) (i := 5) bn_cX11_one_0 dop_42 (by decide +kernel)
theorem dX11_one_6 : decode cX11_one 6 = .ok (.getfield 148, 3) := dR2 (f := Instr.getfield) (k := 0) (i := 6) bn_cX11_one_0 dop_180 148 (by decide +kernel)
theorem dX11_one_9 : decode cX11_one 9 = .ok (.ifCond .eq 5, 3) := dR2s (f := Instr.ifCond .eq) (k := 0) (i := 9) bn_cX11_one_0 dop_153 5 5 (by decide +kernel)
theorem dX11_one_12 : decode cX11_one 12 = .ok (.iconst 0, 1) := dR0 (k := 0) (i := 12) bn_cX11_one_0 dop_3 (by decide +kernel)
theorem dX11_one_13 : decode cX11_one 13 = .ok (.ireturn, 1) := dR0 (k := 0) (i := 13) bn_cX11_one_0 dop_172 (by decide +kernel)
theorem dX11_one_14 : decode cX11_one 14 = .ok (.iload_n 1, 1) := dR0 (k := 0) (i := 14) bn_cX11_one_0 dop_27 (by decide +kernel)
theorem dX11_one_15 : decode cX11_one 15 = .ok (.bipush 48, 2) := dR1s (f := Instr.bipush) (k := 0) (i := 15) bn_cX11_one_0 dop_16 48 48 (by decide +kernel)
theorem dX11_one_17 : decode cX11_one 17 = .ok (.bipush 57, 2) := dR1s (f := Instr.bipush) (k := 0) (i := 17) bn_cX11_one_0 dop_16 57 57 (by decide +kernel)
theorem dX11_one_19 : decode cX11_one 19 = .ok (.invokestatic 47, 3) := dR2 (f := Instr.invokestatic) (k := 0) (i := 19) bn_cX11_one_0 dop_184 47 (by decide +kernel)
theorem dX11_one_22 : decode cX11_one 22 = .ok (.ifCond .eq 57, 3) := dR2s (f := Instr.ifCond .eq) (k := 0) (i := 22) bn_cX11_one_0 dop_153 57 57 (by decide +kernel)
theorem dX11_one_25 : decode cX11_one 25 = .ok (.iconst 0, 1) := dR0 (k := 0) (i := 25) bn_cX11_one_0 dop_3 (by decide +kernel)
theorem dX11_one_26 : decode cX11_one 26 = .ok (.istore_n 2, 1) := dR0 (k := 0) (i := 26) bn_cX11_one_0 dop_61 (by decide +kernel)
theorem dX11_one_27 : decode cX11_one 27 = .ok (.iconst 0, 1) := dR0 (k := 0) (i := 27) bn_cX11_one_0 dop_3 (by decide +kernel)
theorem dX11_one_28 : decode cX11_one 28 = .ok (.istore_n 3, 1) := dR0 (k := 0) (i := 28) bn_cX11_one_0 dop_62 (by decide +kernel)
theorem dX11_one_29 : decode cX11_one 29 = .ok (.iload_n 3, 1) := dR0 (k := 0) (i := 29) bn_cX11_one_0 dop_29 (by decide +kernel)
theorem dX11_one_30 : decode cX11_one 30 = .ok (.iconst 4, 1) := dR0 (k := 0) (i := 30) bn_cX11_one_0 dop_7 (by decide +kernel)
theorem dX11_one_31 : decode cX11_one 31 = .ok (.if_icmp .ge 46, 3) := dR2s (f := Instr.if_icmp .ge) (k := 0) (i := 31) bn_cX11_one_0 dop_162 46 46 (by decide +kernel)
theorem dX11_one_34 : decode cX11_one 34 = .ok (.aload_n 0, 1) := dR0 (k := 0) (i := 34) bn_cX11_one_0 dop_42 (by decide +kernel)
theorem dX11_one_35 : decode cX11_one 35 = .ok (.invokevirtual 152, 3) := dR2 (f := Instr.invokevirtual) (k := 0) (i := 35) bn_cX11_one_0 dop_182 152 (by decide +kernel)
theorem dX11_one_38 : decode cX11_one 38 = .ok (.bipush 48, 2) := dR1s (f := Instr.bipush) (k := 0) (i := 38) bn_cX11_one_0 dop_16 48 48 (by decide +kernel)
theorem dX11_one_40 : decode cX11_one 40 = .ok (.bipush 57, 2) := dR1s (f := Instr.bipush) (k := 0) (i := 40) bn_cX11_one_0 dop_16 57 57 (by decide +kernel)
theorem dX11_one_42 : decode cX11_one 42 = .ok (.invokestatic 47, 3) := dR2 (f := Instr.invokestatic) (k := 0) (i := 42) bn_cX11_one_0 dop_184 47 (by decide +kernel)
theorem dX11_one_45 : decode cX11_one 45 = .ok (.ifCond .eq 32, 3) := dR2s (f := Instr.ifCond .eq) (k := 0) (i := 45) bn_cX11_one_0 dop_153 32 32 (by decide +kernel)
theorem dX11_one_48 : decode cX11_one 48 = .ok (.bipush 10, 2) := dR1s (f := Instr.bipush) (k := 0) (i := 48) bn_cX11_one_0 dop_16 10 10 (by decide +kernel)
theorem dX11_one_50 : decode cX11_one 50 = .ok (.iload_n 2, 1) := dR0 (k := 0) (i := 50) bn_cX11_one_0 dop_28 (by decide +kernel)
theorem dX11_one_51 : decode cX11_one 51 = .ok (.imul, 1) := dR0 (k := 0) (i := 51) bn_cX11_one_0 dop_104 (by decide +kernel)
theorem dX11_one_52 : decode cX11_one 52 = .ok (.aload_n 0, 1) := dR0 (k := 0) (i := 52) bn_cX11_one_0 dop_42 (by decide +kernel)
theorem dX11_one_53 : decode cX11_one 53 = .ok (.invokevirtual 152, 3) := dR2 (f := Instr.invokevirtual) (k := 0) (i := 53) bn_cX11_one_0 dop_182 152 (by decide +kernel)
theorem dX11_one_56 : decode cX11_one 56 = .ok (.iadd, 1) := dR0 (k := 0) (i := 56) bn_cX11_one_0 dop_96 (by decide +kernel)
theorem dX11_one_57 : decode cX11_one 57 = .ok (.bipush 48, 2) := dR1s (f := Instr.bipush) (k := 0) (i := 57) bn_cX11_one_0 dop_16 48 48 (by decide +kernel)
theorem dX11_one_59 : decode cX11_one 59 = .ok (.isub, 1) := dR0 (k := 0) (i := 59) bn_cX11_one_0 dop_100 (by decide +kernel)
theorem dX11_one_60 : decode cX11_one 60 = .ok (.istore_n 2, 1) := dR0 (k := 0) (i := 60) bn_cX11_one_0 dop_61 (by decide +kernel)
theorem dX11_one_61 : decode cX11_one 61 = .ok (.aload_n 0, 1) := dR0 (k := 0) (i := 61) bn_cX11_one_0 dop_42 (by decide +kernel)
theorem dX11_one_62 : decode cX11_one 62 = .ok (.dup, 1) := dR0 (k := 0) (i := 62) bn_cX11_one_0 dop_89 (by decide +kernel)
theorem dX11_one_63 : decode cX11_one 63 = .ok (.getfield 138, 3) := dR2 (f := Instr.getfield) (k := 0) (i := 63) bn_cX11_one_0 dop_180 138 (by decide +kernel)
theorem dX11_one_66 : decode cX11_one 66 = .ok (.iconst 1, 1) := dR0 (k := 0) (i := 66) bn_cX11_one_0 dop_4 (by decide +kernel)
theorem dX11_one_67 : decode cX11_one 67 = .ok (.iadd, 1) := dR0 (k := 0) (i := 67) bn_cX11_one_0 dop_96 (by decide +kernel)
theorem dX11_one_68 : decode cX11_one 68 = .ok (.putfield 138, 3) := dR2 (f := Instr.putfield) (k := 0) (i := 68) bn_cX11_one_0 dop_181 138 (by decide +kernel)
theorem dX11_one_71 : decode cX11_one 71 = .ok (.iinc 3 1, 3) := dRii (f := Instr.iinc) (k := 0) (i := 71) bn_cX11_one_0 dop_132 3 1 1 (by decide +kernel)
theorem dX11_one_74 : decode cX11_one 74 = .ok (.goto (-45), 3) := dR2s (f := Instr.goto) (k := 0) (i := 74) bn_cX11_one_0 dop_167 65491 (-45) (by decide +kernel)
theorem dX11_one_77 : decode cX11_one 77 = .ok (.iload_n 2, 1) := dR0 (k := 0) (i := 77) bn_cX11_one_0 dop_28 (by decide +kernel)
theorem dX11_one_78 : decode cX11_one 78 = .ok (.ireturn, 1) := dR0 (k := 0) (i := 78) bn_cX11_one_0 dop_172 (by decide +kernel)
theorem dX11_one_79 : decode cX11_one 79 = .ok (.aload_n 0, 1) := dR0 (k := 0) (i := 79) bn_cX11_one_0 dop_42 (by decide +kernel)
theorem dX11_one_80 : decode cX11_one 80 = .ok (.iload_n 1, 1) := dR0 (k := 0) (i := 80) bn_cX11_one_0 dop_27 (by decide +kernel)
theorem dX11_one_81 : decode cX11_one 81 = .ok (.invokevirtual 158, 3) := dR2 (f := Instr.invokevirtual) (k := 0) (i := 81) bn_cX11_one_0 dop_182 158 (by decide +kernel)
theorem dX11_one_84 : decode cX11_one 84 = .ok (.istore_n 2, 1) := dR0 (k := 0) (i := 84) bn_cX11_one_0 dop_61 (by decide +kernel)
theorem dX11_one_85 : decode cX11_one 85 = .ok (.iload_n 2, 1) := dR0 (k := 0) (i := 85) bn_cX11_one_0 dop_28 (by decide +kernel)
theorem dX11_one_86 : decode cX11_one 86 = .ok (.ifCond .lt 41, 3) := dR2s (f := Instr.ifCond .lt) (k := 0) (i := 86) bn_cX11_one_0 dop_155 41 41 (by decide +kernel)
theorem dX11_one_89 : decode cX11_one 89 = .ok (.aload_n 0, 1) := dR0 (k := 0) (i := 89) bn_cX11_one_0 dop_42 (by decide +kernel)
theorem dX11_one_90 : decode cX11_one 90 = .ok (.dup, 1) := dR0 (k := 0) (i := 90) bn_cX11_one_0 dop_89 (by decide +kernel)
theorem dX11_one_91 : decode cX11_one 91 = .ok (.getfield 138, 3) := dR2 (f := Instr.getfield) (k := 0) (i := 91) bn_cX11_one_0 dop_180 138 (by decide +kernel)
theorem dX11_one_94 : decode cX11_one 94 = .ok (.iconst 1, 1) := dR0 (k := 0) (i := 94) bn_cX11_one_0 dop_4 (by decide +kernel)
theorem dX11_one_95 : decode cX11_one 95 = .ok (.iadd, 1) := dR0 (k := 0) (i := 95) bn_cX11_one_0 dop_96 (by decide +kernel)
theorem dX11_one_96 : decode cX11_one 96 = .ok (.putfield 138, 3) := dR2 (f := Instr.putfield) (k := 0) (i := 96) bn_cX11_one_0 dop_181 138 (by decide +kernel)
theorem dX11_one_99 : decode cX11_one 99 = .ok (.iload_n 2, 1) := dR0 (k := 0) (i := 99) bn_cX11_one_0 dop_28 (by decide +kernel)
theorem dX11_one_100 : decode cX11_one 100 = .ok (.ifCond .ne 10, 3) := dR2s (f := Instr.ifCond .ne) (k := 0) (i := 100) bn_cX11_one_0 dop_154 10 10 (by decide +kernel)
theorem dX11_one_103 : decode cX11_one 103 = .ok (.aload_n 0, 1) := dR0 (k := 0) (i := 103) bn_cX11_one_0 dop_42 (by decide +kernel)
theorem dX11_one_104 : decode cX11_one 104 = .ok (.getfield 161, 3) := dR2 (f := Instr.getfield) (k := 0) (i := 104) bn_cX11_one_0 dop_180 161 (by decide +kernel)
theorem dX11_one_107 : decode cX11_one 107 = .ok (.goto 19, 3) := dR2s (f := Instr.goto) (k := 0) (i := 107) bn_cX11_one_0 dop_167 19 19 (by decide +kernel)
theorem dX11_one_110 : decode cX11_one 110 = .ok (.iload_n 2, 1) := dR0 (k := 0) (i := 110) bn_cX11_one_0 dop_28 (by decide +kernel)
theorem dX11_one_111 : decode cX11_one 111 = .ok (.iconst 1, 1) := dR0 (k := 0) (i := 111) bn_cX11_one_0 dop_4 (by decide +kernel)
theorem dX11_one_112 : decode cX11_one 112 = .ok (.if_icmp .ne 10, 3) := dR2s (f := Instr.if_icmp .ne) (k := 0) (i := 112) bn_cX11_one_0 dop_160 10 10 (by decide +kernel)
theorem dX11_one_115 : decode cX11_one 115 = .ok (.aload_n 0, 1) := dR0 (k := 0) (i := 115) bn_cX11_one_0 dop_42 (by decide +kernel)
theorem dX11_one_116 : decode cX11_one 116 = .ok (.getfield 164, 3) := dR2 (f := Instr.getfield) (k := 0) (i := 116) bn_cX11_one_0 dop_180 164 (by decide +kernel)
theorem dX11_one_119 : decode cX11_one 119 = .ok (.goto 7, 3) := dR2s (f := Instr.goto) (k := 0) (i := 119) bn_cX11_one_0 dop_167 7 7 (by decide +kernel)
theorem dX11_one_122 : decode cX11_one 122 = .ok (.aload_n 0, 1) := dR0 (k := 0) (i := 122) bn_cX11_one_0 dop_42 (by decide +kernel)
theorem dX11_one_123 : decode cX11_one 123 = .ok (.getfield 167, 3) := dR2 (f := Instr.getfield) (k := 0) (i := 123) bn_cX11_one_0 dop_180 167 (by decide +kernel)
theorem dX11_one_126 : decode cX11_one 126 = .ok (.ireturn, 1) := dR0 (k := 0) (i := 126) bn_cX11_one_0 dop_172 (by decide +kernel)
theorem dX11_one_127 : decode cX11_one 127 = .ok (.aload_n 0, 1) := dR0 (k := 0) (i := 127) bn_cX11_one_0 dop_42 (by decide +kernel)
theorem bn_cX11_one_128 : BN cX11_one 128 0x4005361e080054222088702e01541d43c0900a845c110e2ac02b63281556015a96856ae00adc080500aa00a0800a6970015b8a8222b06805422908870563f5a8056e2b0400550b200adc560b00a8452110e2ac02b63081556015a968568b00ad8c205458056a5a15ab4080600a692a015a8ad5c015b8100a015401410015182156015a8ac2001508a4221c050054022088702001500b8221c := by
  unfold BN; decide +kernel
theorem dX11_one_128 : decode cX11_one 128 = .ok (.iload_n 1, 1) := dR0 (k := 128) (i := 0) bn_cX11_one_128 dop_27 (by decide +kernel)
theorem dX11_one_129 : decode cX11_one 129 = .ok (.bipush 45, 2) := dR1s (f := Instr.bipush) (k := 128) (i := 1) bn_cX11_one_128 dop_16 45 45 (by decide +kernel)
theorem dX11_one_131 : decode cX11_one 131 = .ok (.if_icmp .eq 15, 3) := dR2s (f := Instr.if_icmp .eq) (k := 128) (i := 3) bn_cX11_one_128 dop_159 15 15 (by decide +kernel)
theorem dX11_one_134 : decode cX11_one 134 = .ok (.iload_n 1, 1) := dR0 (k := 128) (i := 6) bn_cX11_one_128 dop_27 (by decide +kernel)
theorem dX11_one_135 : decode cX11_one 135 = .ok (.bipush 33, 2) := dR1s (f := Instr.bipush) (k := 128) (i := 7) bn_cX11_one_128 dop_16 33 33 (by decide +kernel)
theorem dX11_one_137 : decode cX11_one 137 = .ok (.if_icmp .eq 9, 3) := dR2s (f := Instr.if_icmp .eq) (k := 128) (i := 9) bn_cX11_one_128 dop_159 9 9 (by decide +kernel)
theorem dX11_one_140 : decode cX11_one 140 = .ok (.iload_n 1, 1) := dR0 (k := 128) (i := 12) bn_cX11_one_128 dop_27 (by decide +kernel)
theorem dX11_one_141 : decode cX11_one 141 = .ok (.bipush 40, 2) := dR1s (f := Instr.bipush) (k := 128) (i := 13) bn_cX11_one_128 dop_16 40 40 (by decide +kernel)
theorem dX11_one_143 : decode cX11_one 143 = .ok (.if_icmp .ne 15, 3) := dR2s (f := Instr.if_icmp .ne) (k := 128) (i := 15) bn_cX11_one_128 dop_160 15 15 (by decide +kernel)
theorem dX11_one_146 : decode cX11_one 146 = .ok (.aload_n 0, 1) := dR0 (k := 128) (i := 18) bn_cX11_one_128 dop_42 (by decide +kernel)
theorem dX11_one_147 : decode cX11_one 147 = .ok (.getfield 170, 3) := dR2 (f := Instr.getfield) (k := 128) (i := 19) bn_cX11_one_128 dop_180 170 (by decide +kernel)
theorem dX11_one_150 : decode cX11_one 150 = .ok (.iconst 4, 1) := dR0 (k := 128) (i := 22) bn_cX11_one_128 dop_7 (by decide +kernel)
theorem dX11_one_151 : decode cX11_one 151 = .ok (.if_icmp .ge 7, 3) := dR2s (f := Instr.if_icmp .ge) (k := 128) (i := 23) bn_cX11_one_128 dop_162 7 7 (by decide +kernel)
theorem dX11_one_154 : decode cX11_one 154 = .ok (.iconst 1, 1) := dR0 (k := 128) (i := 26) bn_cX11_one_128 dop_4 (by decide +kernel)
theorem dX11_one_155 : decode cX11_one 155 = .ok (.goto 4, 3) := dR2s (f := Instr.goto) (k := 128) (i := 27) bn_cX11_one_128 dop_167 4 4 (by decide +kernel)
theorem dX11_one_158 : decode cX11_one 158 = .ok (.iconst 0, 1) := dR0 (k := 128) (i := 30) bn_cX11_one_128 dop_3 (by decide +kernel)
theorem dX11_one_159 : decode cX11_one 159 = .ok (.invokevirtual 173, 3) := dR2 (f := Instr.invokevirtual) (k := 128) (i := 31) bn_cX11_one_128 dop_182 173 (by decide +kernel)
theorem dX11_one_162 : decode cX11_one 162 = .ok (.aload_n 0, 1) := dR0 (k := 128) (i := 34) bn_cX11_one_128 dop_42 (by decide +kernel)
theorem dX11_one_163 : decode cX11_one 163 = .ok (.getfield 148, 3) := dR2 (f := Instr.getfield) (k := 128) (i := 35) bn_cX11_one_128 dop_180 148 (by decide +kernel)
theorem dX11_one_166 : decode cX11_one 166 = .ok (.ifCond .eq 5, 3) := dR2s (f := Instr.ifCond .eq) (k := 128) (i := 38) bn_cX11_one_128 dop_153 5 5 (by decide +kernel)
theorem dX11_one_169 : decode cX11_one 169 = .ok (.iconst 0, 1) := dR0 (k := 128) (i := 41) bn_cX11_one_128 dop_3 (by decide +kernel)
theorem dX11_one_170 : decode cX11_one 170 = .ok (.ireturn, 1) := dR0 (k := 128) (i := 42) bn_cX11_one_128 dop_172 (by decide +kernel)
theorem dX11_one_171 : decode cX11_one 171 = .ok (.aload_n 0, 1) := dR0 (k := 128) (i := 43) bn_cX11_one_128 dop_42 (by decide +kernel)
theorem dX11_one_172 : decode cX11_one 172 = .ok (.dup, 1) := dR0 (k := 128) (i := 44) bn_cX11_one_128 dop_89 (by decide +kernel)
theorem dX11_one_173 : decode cX11_one 173 = .ok (.getfield 138, 3) := dR2 (f := Instr.getfield) (k := 128) (i := 45) bn_cX11_one_128 dop_180 138 (by decide +kernel)
theorem dX11_one_176 : decode cX11_one 176 = .ok (.iconst 1, 1) := dR0 (k := 128) (i := 48) bn_cX11_one_128 dop_4 (by decide +kernel)
theorem dX11_one_177 : decode cX11_one 177 = .ok (.iadd, 1) := dR0 (k := 128) (i := 49) bn_cX11_one_128 dop_96 (by decide +kernel)
theorem dX11_one_178 : decode cX11_one 178 = .ok (.putfield 138, 3) := dR2 (f := Instr.putfield) (k := 128) (i := 50) bn_cX11_one_128 dop_181 138 (by decide +kernel)
theorem dX11_one_181 : decode cX11_one 181 = .ok (.aload_n 0, 1) := dR0 (k := 128) (i := 53) bn_cX11_one_128 dop_42 (by decide +kernel)
theorem dX11_one_182 : decode cX11_one 182 = .ok (.dup, 1) := dR0 (k := 128) (i := 54) bn_cX11_one_128 dop_89 (by decide +kernel)
theorem dX11_one_183 : decode cX11_one 183 = .ok (.getfield 170, 3) := dR2 (f := Instr.getfield) (k := 128) (i := 55) bn_cX11_one_128 dop_180 170 (by decide +kernel)
theorem dX11_one_186 : decode cX11_one 186 = .ok (.iconst 1, 1) := dR0 (k := 128) (i := 58) bn_cX11_one_128 dop_4 (by decide +kernel)
theorem dX11_one_187 : decode cX11_one 187 = .ok (.iadd, 1) := dR0 (k := 128) (i := 59) bn_cX11_one_128 dop_96 (by decide +kernel)
theorem dX11_one_188 : decode cX11_one 188 = .ok (.putfield 170, 3) := dR2 (f := Instr.putfield) (k := 128) (i := 60) bn_cX11_one_128 dop_181 170 (by decide +kernel)
theorem dX11_one_191 : decode cX11_one 191 = .ok (.iload_n 1, 1) := dR0 (k := 128) (i := 63) bn_cX11_one_128 dop_27 (by decide +kernel)
theorem dX11_one_192 : decode cX11_one 192 = .ok (.bipush 40, 2) := dR1s (f := Instr.bipush) (k := 128) (i := 64) bn_cX11_one_128 dop_16 40 40 (by decide +kernel)
theorem dX11_one_194 : decode cX11_one 194 = .ok (.if_icmp .ne 10, 3) := dR2s (f := Instr.if_icmp .ne) (k := 128) (i := 66) bn_cX11_one_128 dop_160 10 10 (by decide +kernel)
theorem dX11_one_197 : decode cX11_one 197 = .ok (.aload_n 0, 1) := dR0 (k := 128) (i := 69) bn_cX11_one_128 dop_42 (by decide +kernel)
theorem dX11_one_198 : decode cX11_one 198 = .ok (.invokevirtual 177, 3) := dR2 (f := Instr.invokevirtual) (k := 128) (i := 70) bn_cX11_one_128 dop_182 177 (by decide +kernel)
theorem dX11_one_201 : decode cX11_one 201 = .ok (.goto 7, 3) := dR2s (f := Instr.goto) (k := 128) (i := 73) bn_cX11_one_128 dop_167 7 7 (by decide +kernel)
theorem dX11_one_204 : decode cX11_one 204 = .ok (.aload_n 0, 1) := dR0 (k := 128) (i := 76) bn_cX11_one_128 dop_42 (by decide +kernel)
theorem dX11_one_205 : decode cX11_one 205 = .ok (.invokevirtual 180, 3) := dR2 (f := Instr.invokevirtual) (k := 128) (i := 77) bn_cX11_one_128 dop_182 180 (by decide +kernel)
theorem dX11_one_208 : decode cX11_one 208 = .ok (.istore_n 3, 1) := dR0 (k := 128) (i := 80) bn_cX11_one_128 dop_62 (by decide +kernel)
theorem dX11_one_209 : decode cX11_one 209 = .ok (.aload_n 0, 1) := dR0 (k := 128) (i := 81) bn_cX11_one_128 dop_42 (by decide +kernel)
theorem dX11_one_210 : decode cX11_one 210 = .ok (.iload_n 1, 1) := dR0 (k := 128) (i := 82) bn_cX11_one_128 dop_27 (by decide +kernel)
theorem dX11_one_211 : decode cX11_one 211 = .ok (.bipush 40, 2) := dR1s (f := Instr.bipush) (k := 128) (i := 83) bn_cX11_one_128 dop_16 40 40 (by decide +kernel)
theorem dX11_one_213 : decode cX11_one 213 = .ok (.if_icmp .ne 12, 3) := dR2s (f := Instr.if_icmp .ne) (k := 128) (i := 85) bn_cX11_one_128 dop_160 12 12 (by decide +kernel)
theorem dX11_one_216 : decode cX11_one 216 = .ok (.aload_n 0, 1) := dR0 (k := 128) (i := 88) bn_cX11_one_128 dop_42 (by decide +kernel)
theorem dX11_one_217 : decode cX11_one 217 = .ok (.bipush 41, 2) := dR1s (f := Instr.bipush) (k := 128) (i := 89) bn_cX11_one_128 dop_16 41 41 (by decide +kernel)
theorem dX11_one_219 : decode cX11_one 219 = .ok (.invokevirtual 183, 3) := dR2 (f := Instr.invokevirtual) (k := 128) (i := 91) bn_cX11_one_128 dop_182 183 (by decide +kernel)
theorem dX11_one_222 : decode cX11_one 222 = .ok (.ifCond .eq 7, 3) := dR2s (f := Instr.ifCond .eq) (k := 128) (i := 94) bn_cX11_one_128 dop_153 7 7 (by decide +kernel)
theorem dX11_one_225 : decode cX11_one 225 = .ok (.iconst 1, 1) := dR0 (k := 128) (i := 97) bn_cX11_one_128 dop_4 (by decide +kernel)
theorem dX11_one_226 : decode cX11_one 226 = .ok (.goto 4, 3) := dR2s (f := Instr.goto) (k := 128) (i := 98) bn_cX11_one_128 dop_167 4 4 (by decide +kernel)
theorem dX11_one_229 : decode cX11_one 229 = .ok (.iconst 0, 1) := dR0 (k := 128) (i := 101) bn_cX11_one_128 dop_3 (by decide +kernel)
theorem dX11_one_230 : decode cX11_one 230 = .ok (.invokevirtual 173, 3) := dR2 (f := Instr.invokevirtual) (k := 128) (i := 102) bn_cX11_one_128 dop_182 173 (by decide +kernel)
theorem dX11_one_233 : decode cX11_one 233 = .ok (.aload_n 0, 1) := dR0 (k := 128) (i := 105) bn_cX11_one_128 dop_42 (by decide +kernel)
theorem dX11_one_234 : decode cX11_one 234 = .ok (.dup, 1) := dR0 (k := 128) (i := 106) bn_cX11_one_128 dop_89 (by decide +kernel)
theorem dX11_one_235 : decode cX11_one 235 = .ok (.getfield 170, 3) := dR2 (f := Instr.getfield) (k := 128) (i := 107) bn_cX11_one_128 dop_180 170 (by decide +kernel)
theorem dX11_one_238 : decode cX11_one 238 = .ok (.iconst 1, 1) := dR0 (k := 128) (i := 110) bn_cX11_one_128 dop_4 (by decide +kernel)
theorem dX11_one_239 : decode cX11_one 239 = .ok (.isub, 1) := dR0 (k := 128) (i := 111) bn_cX11_one_128 dop_100 (by decide +kernel)
theorem dX11_one_240 : decode cX11_one 240 = .ok (.putfield 170, 3) := dR2 (f := Instr.putfield) (k := 128) (i := 112) bn_cX11_one_128 dop_181 170 (by decide +kernel)
theorem dX11_one_243 : decode cX11_one 243 = .ok (.iload_n 1, 1) := dR0 (k := 128) (i := 115) bn_cX11_one_128 dop_27 (by decide +kernel)
theorem dX11_one_244 : decode cX11_one 244 = .ok (.bipush 45, 2) := dR1s (f := Instr.bipush) (k := 128) (i := 116) bn_cX11_one_128 dop_16 45 45 (by decide +kernel)
theorem dX11_one_246 : decode cX11_one 246 = .ok (.if_icmp .ne 8, 3) := dR2s (f := Instr.if_icmp .ne) (k := 128) (i := 118) bn_cX11_one_128 dop_160 8 8 (by decide +kernel)
theorem dX11_one_249 : decode cX11_one 249 = .ok (.iload_n 3, 1) := dR0 (k := 128) (i := 121) bn_cX11_one_128 dop_29 (by decide +kernel)
theorem dX11_one_250 : decode cX11_one 250 = .ok (.ineg, 1) := dR0 (k := 128) (i := 122) bn_cX11_one_128 dop_116 (by decide +kernel)
theorem dX11_one_251 : decode cX11_one 251 = .ok (.goto 22, 3) := dR2s (f := Instr.goto) (k := 128) (i := 123) bn_cX11_one_128 dop_167 22 22 (by decide +kernel)
theorem dX11_one_254 : decode cX11_one 254 = .ok (.iload_n 1, 1) := dR0 (k := 128) (i := 126) bn_cX11_one_128 dop_27 (by decide +kernel)
theorem dX11_one_255 : decode cX11_one 255 = .ok (.bipush 33, 2) := dR1s (f := Instr.bipush) (k := 128) (i := 127) bn_cX11_one_128 dop_16 33 33 (by decide +kernel)
theorem bn_cX11_one_256 : BN cX11_one 256 0x15a1e02805500404805500504005361e080054222 := by
  unfold BN; decide +kernel
theorem dX11_one_257 : decode cX11_one 257 = .ok (.if_icmp .ne 15, 3) := dR2s (f := Instr.if_icmp .ne) (k := 256) (i := 1) bn_cX11_one_256 dop_160 15 15 (by decide +kernel)
theorem dX11_one_260 : decode cX11_one 260 = .ok (.iload_n 3, 1) := dR0 (k := 256) (i := 4) bn_cX11_one_256 dop_29 (by decide +kernel)
theorem dX11_one_261 : decode cX11_one 261 = .ok (.ifCond .ne 7, 3) := dR2s (f := Instr.ifCond .ne) (k := 256) (i := 5) bn_cX11_one_256 dop_154 7 7 (by decide +kernel)
theorem dX11_one_264 : decode cX11_one 264 = .ok (.iconst 1, 1) := dR0 (k := 256) (i := 8) bn_cX11_one_256 dop_4 (by decide +kernel)
theorem dX11_one_265 : decode cX11_one 265 = .ok (.goto 8, 3) := dR2s (f := Instr.goto) (k := 256) (i := 9) bn_cX11_one_256 dop_167 8 8 (by decide +kernel)
theorem dX11_one_268 : decode cX11_one 268 = .ok (.iconst 0, 1) := dR0 (k := 256) (i := 12) bn_cX11_one_256 dop_3 (by decide +kernel)
theorem dX11_one_269 : decode cX11_one 269 = .ok (.goto 4, 3) := dR2s (f := Instr.goto) (k := 256) (i := 13) bn_cX11_one_256 dop_167 4 4 (by decide +kernel)
theorem dX11_one_272 : decode cX11_one 272 = .ok (.iload_n 3, 1) := dR0 (k := 256) (i := 16) bn_cX11_one_256 dop_29 (by decide +kernel)
theorem dX11_one_273 : decode cX11_one 273 = .ok (.ireturn, 1) := dR0 (k := 256) (i := 17) bn_cX11_one_256 dop_172 (by decide +kernel)
theorem bn_cX11_product_0 : BN cX11_product 0 0x2b438b4802a07a710f0700e015401010014d8781e01541a43c1c05005341d1fad402b715a2c02b63081516015a968563e0201402a80282002a11584532015b8ac760150898229900adc560d00a8056114c8056e2b26805369500ad4563d5a8056e2b := by
  unfold BN; decide +kernel
theorem dX11_product_0 : decode cX11_product 0 = .ok (.aload_n 0, 1) := dR0 (k := 0) (i := 0) bn_cX11_product_0 dop_42 (by decide +kernel)
theorem dX11_product_1 : decode cX11_product 1 = .ok (.invokevirtual 180, 3) := dR2 (f := Instr.invokevirtual) (k := 0) (i := 1) bn_cX11_product_0 dop_182 180 (by decide +kernel)
theorem dX11_product_4 : decode cX11_product 4 = .ok (.istore_n 1, 1) := dR0 (k := 0) (i := 4) bn_cX11_product_0 dop_60 (by decide +kernel)
theorem dX11_product_5 : decode cX11_product 5 = .ok (.aload_n 0, 1) := dR0 (k := 0) (i := 5) bn_cX11_product_0 dop_42 (by decide +kernel)
theorem dX11_product_6 : decode cX11_product 6 = .ok (.getfield 148, 3) := dR2 (f := Instr.getfield) (k := 0) (i := 6) bn_cX11_product_0 dop_180 148 (by decide +kernel)
theorem dX11_product_9 : decode cX11_product 9 = .ok (.ifCond .ne 76, 3) := dR2s (f := Instr.ifCond .ne) (k := 0) (i := 9) bn_cX11_product_0 dop_154 76 76 (by decide +kernel)
theorem dX11_product_12 : decode cX11_product 12 = .ok (.aload_n 0, 1) := dR0 (k := 0) (i := 12) bn_cX11_product_0 dop_42 (by decide +kernel)
theorem dX11_product_13 : decode cX11_product 13 = .ok (.invokevirtual 152, 3) := dR2 (f := Instr.invokevirtual) (k := 0) (i := 13) bn_cX11_product_0 dop_182 152 (by decide +kernel)
theorem dX11_product_16 : decode cX11_product 16 = .ok (.bipush 42, 2) := dR1s (f := Instr.bipush) (k := 0) (i := 16) bn_cX11_product_0 dop_16 42 42 (by decide +kernel)
theorem dX11_product_18 : decode cX11_product 18 = .ok (.if_icmp .eq 12, 3) := dR2s (f := Instr.if_icmp .eq) (k := 0) (i := 18) bn_cX11_product_0 dop_159 12 12 (by decide +kernel)
theorem dX11_product_21 : decode cX11_product 21 = .ok (.aload_n 0, 1) := dR0 (k := 0) (i := 21) bn_cX11_product_0 dop_42 (by decide +kernel)
theorem dX11_product_22 : decode cX11_product 22 = .ok (.invokevirtual 152, 3) := dR2 (f := Instr.invokevirtual) (k := 0) (i := 22) bn_cX11_product_0 dop_182 152 (by decide +kernel)
theorem dX11_product_25 : decode cX11_product 25 = .ok (.bipush 37, 2) := dR1s (f := Instr.bipush) (k := 0) (i := 25) bn_cX11_product_0 dop_16 37 37 (by decide +kernel)
theorem dX11_product_27 : decode cX11_product 27 = .ok (.if_icmp .ne 58, 3) := dR2s (f := Instr.if_icmp .ne) (k := 0) (i := 27) bn_cX11_product_0 dop_160 58 58 (by decide +kernel)
theorem dX11_product_30 : decode cX11_product 30 = .ok (.aload_n 0, 1) := dR0 (k := 0) (i := 30) bn_cX11_product_0 dop_42 (by decide +kernel)
theorem dX11_product_31 : decode cX11_product 31 = .ok (.invokevirtual 152, 3) := dR2 (f := Instr.invokevirtual) (k := 0) (i := 31) bn_cX11_product_0 dop_182 152 (by decide +kernel)
theorem dX11_product_34 : decode cX11_product 34 = .ok (.bipush 42, 2) := dR1s (f := Instr.bipush) (k := 0) (i := 34) bn_cX11_product_0 dop_16 42 42 (by decide +kernel)
theorem dX11_product_36 : decode cX11_product 36 = .ok (.if_icmp .ne 7, 3) := dR2s (f := Instr.if_icmp .ne) (k := 0) (i := 36) bn_cX11_product_0 dop_160 7 7 (by decide +kernel)
theorem dX11_product_39 : decode cX11_product 39 = .ok (.iconst 1, 1) := dR0 (k := 0) (i := 39) bn_cX11_product_0 dop_4 (by decide +kernel)
theorem dX11_product_40 : decode cX11_product 40 = .ok (.goto 4, 3) := dR2s (f := Instr.goto) (k := 0) (i := 40) bn_cX11_product_0 dop_167 4 4 (by decide +kernel)
theorem dX11_product_43 : decode cX11_product 43 = .ok (.iconst 0, 1) := dR0 (k := 0) (i := 43) bn_cX11_product_0 dop_3 (by decide +kernel)
theorem dX11_product_44 : decode cX11_product 44 = .ok (.istore_n 2, 1) := dR0 (k := 0) (i := 44) bn_cX11_product_0 dop_61 (by decide +kernel)
theorem dX11_product_45 : decode cX11_product 45 = .ok (.aload_n 0, 1) := dR0 (k := 0) (i := 45) bn_cX11_product_0 dop_42 (by decide +kernel)
theorem dX11_product_46 : decode cX11_product 46 = .ok (.dup, 1) := dR0 (k := 0) (i := 46) bn_cX11_product_0 dop_89 (by decide +kernel)
theorem dX11_product_47 : decode cX11_product 47 = .ok (.getfield 138, 3) := dR2 (f := Instr.getfield) (k := 0) (i := 47) bn_cX11_product_0 dop_180 138 (by decide +kernel)
theorem dX11_product_50 : decode cX11_product 50 = .ok (.iconst 1, 1) := dR0 (k := 0) (i := 50) bn_cX11_product_0 dop_4 (by decide +kernel)
theorem dX11_product_51 : decode cX11_product 51 = .ok (.iadd, 1) := dR0 (k := 0) (i := 51) bn_cX11_product_0 dop_96 (by decide +kernel)
theorem dX11_product_52 : decode cX11_product 52 = .ok (.putfield 138, 3) := dR2 (f := Instr.putfield) (k := 0) (i := 52) bn_cX11_product_0 dop_181 138 (by decide +kernel)
theorem dX11_product_55 : decode cX11_product 55 = .ok (.aload_n 0, 1) := dR0 (k := 0) (i := 55) bn_cX11_product_0 dop_42 (by decide +kernel)
theorem dX11_product_56 : decode cX11_product 56 = .ok (.invokevirtual 180, 3) := dR2 (f := Instr.invokevirtual) (k := 0) (i := 56) bn_cX11_product_0 dop_182 180 (by decide +kernel)
theorem dX11_product_59 : decode cX11_product 59 = .ok (.istore_n 3, 1) := dR0 (k := 0) (i := 59) bn_cX11_product_0 dop_62 (by decide +kernel)
theorem dX11_product_60 : decode cX11_product 60 = .ok (.iload_n 2, 1) := dR0 (k := 0) (i := 60) bn_cX11_product_0 dop_28 (by decide +kernel)
theorem dX11_product_61 : decode cX11_product 61 = .ok (.ifCond .eq 9, 3) := dR2s (f := Instr.ifCond .eq) (k := 0) (i := 61) bn_cX11_product_0 dop_153 9 9 (by decide +kernel)
theorem dX11_product_64 : decode cX11_product 64 = .ok (.iload_n 1, 1) := dR0 (k := 0) (i := 64) bn_cX11_product_0 dop_27 (by decide +kernel)
theorem dX11_product_65 : decode cX11_product 65 = .ok (.iload_n 3, 1) := dR0 (k := 0) (i := 65) bn_cX11_product_0 dop_29 (by decide +kernel)
theorem dX11_product_66 : decode cX11_product 66 = .ok (.imul, 1) := dR0 (k := 0) (i := 66) bn_cX11_product_0 dop_104 (by decide +kernel)
theorem dX11_product_67 : decode cX11_product 67 = .ok (.goto 14, 3) := dR2s (f := Instr.goto) (k := 0) (i := 67) bn_cX11_product_0 dop_167 14 14 (by decide +kernel)
theorem dX11_product_70 : decode cX11_product 70 = .ok (.iload_n 3, 1) := dR0 (k := 0) (i := 70) bn_cX11_product_0 dop_29 (by decide +kernel)
theorem dX11_product_71 : decode cX11_product 71 = .ok (.ifCond .ne 7, 3) := dR2s (f := Instr.ifCond .ne) (k := 0) (i := 71) bn_cX11_product_0 dop_154 7 7 (by decide +kernel)
theorem dX11_product_74 : decode cX11_product 74 = .ok (.iconst 0, 1) := dR0 (k := 0) (i := 74) bn_cX11_product_0 dop_3 (by decide +kernel)
theorem dX11_product_75 : decode cX11_product 75 = .ok (.goto 6, 3) := dR2s (f := Instr.goto) (k := 0) (i := 75) bn_cX11_product_0 dop_167 6 6 (by decide +kernel)
theorem dX11_product_78 : decode cX11_product 78 = .ok (.iload_n 1, 1) := dR0 (k := 0) (i := 78) bn_cX11_product_0 dop_27 (by decide +kernel)
theorem dX11_product_79 : decode cX11_product 79 = .ok (.iload_n 3, 1) := dR0 (k := 0) (i := 79) bn_cX11_product_0 dop_29 (by decide +kernel)
theorem dX11_product_80 : decode cX11_product 80 = .ok (.irem, 1) := dR0 (k := 0) (i := 80) bn_cX11_product_0 dop_112 (by decide +kernel)
theorem dX11_product_81 : decode cX11_product 81 = .ok (.istore_n 1, 1) := dR0 (k := 0) (i := 81) bn_cX11_product_0 dop_60 (by decide +kernel)
theorem dX11_product_82 : decode cX11_product 82 = .ok (.goto (-77), 3) := dR2s (f := Instr.goto) (k := 0) (i := 82) bn_cX11_product_0 dop_167 65459 (-77) (by decide +kernel)
theorem dX11_product_85 : decode cX11_product 85 = .ok (.iload_n 1, 1) := dR0 (k := 0) (i := 85) bn_cX11_product_0 dop_27 (by decide +kernel)
theorem dX11_product_86 : decode cX11_product 86 = .ok (.ireturn, 1) := dR0 (k := 0) (i := 86) bn_cX11_product_0 dop_172 (by decide +kernel)
theorem bn_cX11_sum_0 : BN cX11_sum 0 0x2b438bc802a07a650f0700e01541843c1c05005341d1faec02b715a2c02b63081516015a968563e0201402a80282002a11604532015b8ac6601508b8229900adc560d00a8058114c8056e2b22805369500ad4563d5d8056e2b := by
  unfold BN; decide +kernel
theorem dX11_sum_0 : decode cX11_sum 0 = .ok (.aload_n 0, 1) := dR0 (k := 0) (i := 0) bn_cX11_sum_0 dop_42 (by decide +kernel)
theorem dX11_sum_1 : decode cX11_sum 1 = .ok (.invokevirtual 186, 3) := dR2 (f := Instr.invokevirtual) (k := 0) (i := 1) bn_cX11_sum_0 dop_182 186 (by decide +kernel)
theorem dX11_sum_4 : decode cX11_sum 4 = .ok (.istore_n 1, 1) := dR0 (k := 0) (i := 4) bn_cX11_sum_0 dop_60 (by decide +kernel)
theorem dX11_sum_5 : decode cX11_sum 5 = .ok (.aload_n 0, 1) := dR0 (k := 0) (i := 5) bn_cX11_sum_0 dop_42 (by decide +kernel)
theorem dX11_sum_6 : decode cX11_sum 6 = .ok (.getfield 148, 3) := dR2 (f := Instr.getfield) (k := 0) (i := 6) bn_cX11_sum_0 dop_180 148 (by decide +kernel)
theorem dX11_sum_9 : decode cX11_sum 9 = .ok (.ifCond .ne 68, 3) := dR2s (f := Instr.ifCond .ne) (k := 0) (i := 9) bn_cX11_sum_0 dop_154 68 68 (by decide +kernel)
theorem dX11_sum_12 : decode cX11_sum 12 = .ok (.aload_n 0, 1) := dR0 (k := 0) (i := 12) bn_cX11_sum_0 dop_42 (by decide +kernel)
theorem dX11_sum_13 : decode cX11_sum 13 = .ok (.invokevirtual 152, 3) := dR2 (f := Instr.invokevirtual) (k := 0) (i := 13) bn_cX11_sum_0 dop_182 152 (by decide +kernel)
theorem dX11_sum_16 : decode cX11_sum 16 = .ok (.bipush 43, 2) := dR1s (f := Instr.bipush) (k := 0) (i := 16) bn_cX11_sum_0 dop_16 43 43 (by decide +kernel)
theorem dX11_sum_18 : decode cX11_sum 18 = .ok (.if_icmp .eq 12, 3) := dR2s (f := Instr.if_icmp .eq) (k := 0) (i := 18) bn_cX11_sum_0 dop_159 12 12 (by decide +kernel)
theorem dX11_sum_21 : decode cX11_sum 21 = .ok (.aload_n 0, 1) := dR0 (k := 0) (i := 21) bn_cX11_sum_0 dop_42 (by decide +kernel)
theorem dX11_sum_22 : decode cX11_sum 22 = .ok (.invokevirtual 152, 3) := dR2 (f := Instr.invokevirtual) (k := 0) (i := 22) bn_cX11_sum_0 dop_182 152 (by decide +kernel)
theorem dX11_sum_25 : decode cX11_sum 25 = .ok (.bipush 45, 2) := dR1s (f := Instr.bipush) (k := 0) (i := 25) bn_cX11_sum_0 dop_16 45 45 (by decide +kernel)
theorem dX11_sum_27 : decode cX11_sum 27 = .ok (.if_icmp .ne 50, 3) := dR2s (f := Instr.if_icmp .ne) (k := 0) (i := 27) bn_cX11_sum_0 dop_160 50 50 (by decide +kernel)
theorem dX11_sum_30 : decode cX11_sum 30 = .ok (.aload_n 0, 1) := dR0 (k := 0) (i := 30) bn_cX11_sum_0 dop_42 (by decide +kernel)
theorem dX11_sum_31 : decode cX11_sum 31 = .ok (.invokevirtual 152, 3) := dR2 (f := Instr.invokevirtual) (k := 0) (i := 31) bn_cX11_sum_0 dop_182 152 (by decide +kernel)
theorem dX11_sum_34 : decode cX11_sum 34 = .ok (.bipush 43, 2) := dR1s (f := Instr.bipush) (k := 0) (i := 34) bn_cX11_sum_0 dop_16 43 43 (by decide +kernel)
theorem dX11_sum_36 : decode cX11_sum 36 = .ok (.if_icmp .ne 7, 3) := dR2s (f := Instr.if_icmp .ne) (k := 0) (i := 36) bn_cX11_sum_0 dop_160 7 7 (by decide +kernel)
theorem dX11_sum_39 : decode cX11_sum 39 = .ok (.iconst 1, 1) := dR0 (k := 0) (i := 39) bn_cX11_sum_0 dop_4 (by decide +kernel)
theorem dX11_sum_40 : decode cX11_sum 40 = .ok (.goto 4, 3) := dR2s (f := Instr.goto) (k := 0) (i := 40) bn_cX11_sum_0 dop_167 4 4 (by decide +kernel)
theorem dX11_sum_43 : decode cX11_sum 43 = .ok (.iconst 0, 1) := dR0 (k := 0) (i := 43) bn_cX11_sum_0 dop_3 (by decide +kernel)
theorem dX11_sum_44 : decode cX11_sum 44 = .ok (.istore_n 2, 1) := dR0 (k := 0) (i := 44) bn_cX11_sum_0 dop_61 (by decide +kernel)
theorem dX11_sum_45 : decode cX11_sum 45 = .ok (.aload_n 0, 1) := dR0 (k := 0) (i := 45) bn_cX11_sum_0 dop_42 (by decide +kernel)
theorem dX11_sum_46 : decode cX11_sum 46 = .ok (.dup, 1) := dR0 (k := 0) (i := 46) bn_cX11_sum_0 dop_89 (by decide +kernel)
theorem dX11_sum_47 : decode cX11_sum 47 = .ok (.getfield 138, 3) := dR2 (f := Instr.getfield) (k := 0) (i := 47) bn_cX11_sum_0 dop_180 138 (by decide +kernel)
theorem dX11_sum_50 : decode cX11_sum 50 = .ok (.iconst 1, 1) := dR0 (k := 0) (i := 50) bn_cX11_sum_0 dop_4 (by decide +kernel)
theorem dX11_sum_51 : decode cX11_sum 51 = .ok (.iadd, 1) := dR0 (k := 0) (i := 51) bn_cX11_sum_0 dop_96 (by decide +kernel)
theorem dX11_sum_52 : decode cX11_sum 52 = .ok (.putfield 138, 3) := dR2 (f := Instr.putfield) (k := 0) (i := 52) bn_cX11_sum_0 dop_181 138 (by decide +kernel)
theorem dX11_sum_55 : decode cX11_sum 55 = .ok (.aload_n 0, 1) := dR0 (k := 0) (i := 55) bn_cX11_sum_0 dop_42 (by decide +kernel)
theorem dX11_sum_56 : decode cX11_sum 56 = .ok (.invokevirtual 186, 3) := dR2 (f := Instr.invokevirtual) (k := 0) (i := 56) bn_cX11_sum_0 dop_182 186 (by decide +kernel)
theorem dX11_sum_59 : decode cX11_sum 59 = .ok (.istore_n 3, 1) := dR0 (k := 0) (i := 59) bn_cX11_sum_0 dop_62 (by decide +kernel)
theorem dX11_sum_60 : decode cX11_sum 60 = .ok (.iload_n 2, 1) := dR0 (k := 0) (i := 60) bn_cX11_sum_0 dop_28 (by decide +kernel)
theorem dX11_sum_61 : decode cX11_sum 61 = .ok (.ifCond .eq 9, 3) := dR2s (f := Instr.ifCond .eq) (k := 0) (i := 61) bn_cX11_sum_0 dop_153 9 9 (by decide +kernel)
theorem dX11_sum_64 : decode cX11_sum 64 = .ok (.iload_n 1, 1) := dR0 (k := 0) (i := 64) bn_cX11_sum_0 dop_27 (by decide +kernel)
theorem dX11_sum_65 : decode cX11_sum 65 = .ok (.iload_n 3, 1) := dR0 (k := 0) (i := 65) bn_cX11_sum_0 dop_29 (by decide +kernel)
theorem dX11_sum_66 : decode cX11_sum 66 = .ok (.iadd, 1) := dR0 (k := 0) (i := 66) bn_cX11_sum_0 dop_96 (by decide +kernel)
theorem dX11_sum_67 : decode cX11_sum 67 = .ok (.goto 6, 3) := dR2s (f := Instr.goto) (k := 0) (i := 67) bn_cX11_sum_0 dop_167 6 6 (by decide +kernel)
theorem dX11_sum_70 : decode cX11_sum 70 = .ok (.iload_n 1, 1) := dR0 (k := 0) (i := 70) bn_cX11_sum_0 dop_27 (by decide +kernel)
theorem dX11_sum_71 : decode cX11_sum 71 = .ok (.iload_n 3, 1) := dR0 (k := 0) (i := 71) bn_cX11_sum_0 dop_29 (by decide +kernel)
theorem dX11_sum_72 : decode cX11_sum 72 = .ok (.isub, 1) := dR0 (k := 0) (i := 72) bn_cX11_sum_0 dop_100 (by decide +kernel)
theorem dX11_sum_73 : decode cX11_sum 73 = .ok (.istore_n 1, 1) := dR0 (k := 0) (i := 73) bn_cX11_sum_0 dop_60 (by decide +kernel)
theorem dX11_sum_74 : decode cX11_sum 74 = .ok (.goto (-69), 3) := dR2s (f := Instr.goto) (k := 0) (i := 74) bn_cX11_sum_0 dop_167 65467 (-69) (by decide +kernel)
theorem dX11_sum_77 : decode cX11_sum 77 = .ok (.iload_n 1, 1) := dR0 (k := 0) (i := 77) bn_cX11_sum_0 dop_27 (by decide +kernel)
theorem dX11_sum_78 : decode cX11_sum 78 = .ok (.ireturn, 1) := dR0 (k := 0) (i := 78) bn_cX11_sum_0 dop_172 (by decide +kernel)
theorem bn_cX11_test_0 : BN cX11_test 0 0x2b4080500aa00a0800a843c1c04805501000a943c1c06005423f088742e015407802a30f0701801508f4221d1faf802b715a2c02b63081516015a96856ad0e01802a01f8443a0c00a807c110e84802a01e8443a1600a6d2a015a8ac7c9900adc563d5f0056e2b := by
  unfold BN; decide +kernel
theorem dX11_test_0 : decode cX11_test 0 = .ok (.aload_n 0, 1) := dR0 (k := 0) (i := 0) bn_cX11_test_0 dop_42 (by decide +kernel)
theorem dX11_test_1 : decode cX11_test 1 = .ok (.invokevirtual 189, 3) := dR2 (f := Instr.invokevirtual) (k := 0) (i := 1) bn_cX11_test_0 dop_182 189 (by decide +kernel)
theorem dX11_test_4 : decode cX11_test 4 = .ok (.istore_n 1, 1) := dR0 (k := 0) (i := 4) bn_cX11_test_0 dop_60 (by decide +kernel)
theorem dX11_test_5 : decode cX11_test 5 = .ok (.aload_n 0, 1) := dR0 (k := 0) (i := 5) bn_cX11_test_0 dop_42 (by decide +kernel)
theorem dX11_test_6 : decode cX11_test 6 = .ok (.invokevirtual 152, 3) := dR2 (f := Instr.invokevirtual) (k := 0) (i := 6) bn_cX11_test_0 dop_182 152 (by decide +kernel)
theorem dX11_test_9 : decode cX11_test 9 = .ok (.istore_n 2, 1) := dR0 (k := 0) (i := 9) bn_cX11_test_0 dop_61 (by decide +kernel)
theorem dX11_test_10 : decode cX11_test 10 = .ok (.aload_n 0, 1) := dR0 (k := 0) (i := 10) bn_cX11_test_0 dop_42 (by decide +kernel)
theorem dX11_test_11 : decode cX11_test 11 = .ok (.getfield 148, 3) := dR2 (f := Instr.getfield) (k := 0) (i := 11) bn_cX11_test_0 dop_180 148 (by decide +kernel)
theorem dX11_test_14 : decode cX11_test 14 = .ok (.ifCond .ne 21, 3) := dR2s (f := Instr.ifCond .ne) (k := 0) (i := 14) bn_cX11_test_0 dop_154 21 21 (by decide +kernel)
theorem dX11_test_17 : decode cX11_test 17 = .ok (.iload_n 2, 1) := dR0 (k := 0) (i := 17) bn_cX11_test_0 dop_28 (by decide +kernel)
theorem dX11_test_18 : decode cX11_test 18 = .ok (.bipush 60, 2) := dR1s (f := Instr.bipush) (k := 0) (i := 18) bn_cX11_test_0 dop_16 60 60 (by decide +kernel)
theorem dX11_test_20 : decode cX11_test 20 = .ok (.if_icmp .eq 17, 3) := dR2s (f := Instr.if_icmp .eq) (k := 0) (i := 20) bn_cX11_test_0 dop_159 17 17 (by decide +kernel)
theorem dX11_test_23 : decode cX11_test 23 = .ok (.iload_n 2, 1) := dR0 (k := 0) (i := 23) bn_cX11_test_0 dop_28 (by decide +kernel)
theorem dX11_test_24 : decode cX11_test 24 = .ok (.bipush 61, 2) := dR1s (f := Instr.bipush) (k := 0) (i := 24) bn_cX11_test_0 dop_16 61 61 (by decide +kernel)
theorem dX11_test_26 : decode cX11_test 26 = .ok (.if_icmp .eq 11, 3) := dR2s (f := Instr.if_icmp .eq) (k := 0) (i := 26) bn_cX11_test_0 dop_159 11 11 (by decide +kernel)
theorem dX11_test_29 : decode cX11_test 29 = .ok (.iload_n 2, 1) := dR0 (k := 0) (i := 29) bn_cX11_test_0 dop_28 (by decide +kernel)
theorem dX11_test_30 : decode cX11_test 30 = .ok (.bipush 62, 2) := dR1s (f := Instr.bipush) (k := 0) (i := 30) bn_cX11_test_0 dop_16 62 62 (by decide +kernel)
theorem dX11_test_32 : decode cX11_test 32 = .ok (.if_icmp .eq 5, 3) := dR2s (f := Instr.if_icmp .eq) (k := 0) (i := 32) bn_cX11_test_0 dop_159 5 5 (by decide +kernel)
theorem dX11_test_35 : decode cX11_test 35 = .ok (.iload_n 1, 1) := dR0 (k := 0) (i := 35) bn_cX11_test_0 dop_27 (by decide +kernel)
theorem dX11_test_36 : decode cX11_test 36 = .ok (.ireturn, 1) := dR0 (k := 0) (i := 36) bn_cX11_test_0 dop_172 (by decide +kernel)
theorem dX11_test_37 : decode cX11_test 37 = .ok (.aload_n 0, 1) := dR0 (k := 0) (i := 37) bn_cX11_test_0 dop_42 (by decide +kernel)
theorem dX11_test_38 : decode cX11_test 38 = .ok (.dup, 1) := dR0 (k := 0) (i := 38) bn_cX11_test_0 dop_89 (by decide +kernel)
theorem dX11_test_39 : decode cX11_test 39 = .ok (.getfield 138, 3) := dR2 (f := Instr.getfield) (k := 0) (i := 39) bn_cX11_test_0 dop_180 138 (by decide +kernel)
theorem dX11_test_42 : decode cX11_test 42 = .ok (.iconst 1, 1) := dR0 (k := 0) (i := 42) bn_cX11_test_0 dop_4 (by decide +kernel)
theorem dX11_test_43 : decode cX11_test 43 = .ok (.iadd, 1) := dR0 (k := 0) (i := 43) bn_cX11_test_0 dop_96 (by decide +kernel)
theorem dX11_test_44 : decode cX11_test 44 = .ok (.putfield 138, 3) := dR2 (f := Instr.putfield) (k := 0) (i := 44) bn_cX11_test_0 dop_181 138 (by decide +kernel)
theorem dX11_test_47 : decode cX11_test 47 = .ok (.aload_n 0, 1) := dR0 (k := 0) (i := 47) bn_cX11_test_0 dop_42 (by decide +kernel)
theorem dX11_test_48 : decode cX11_test 48 = .ok (.invokevirtual 189, 3) := dR2 (f := Instr.invokevirtual) (k := 0) (i := 48) bn_cX11_test_0 dop_182 189 (by decide +kernel)
theorem dX11_test_51 : decode cX11_test 51 = .ok (.istore_n 3, 1) := dR0 (k := 0) (i := 51) bn_cX11_test_0 dop_62 (by decide +kernel)
theorem dX11_test_52 : decode cX11_test 52 = .ok (.iload_n 2, 1) := dR0 (k := 0) (i := 52) bn_cX11_test_0 dop_28 (by decide +kernel)
theorem dX11_test_53 : decode cX11_test 53 = .ok (.bipush 60, 2) := dR1s (f := Instr.bipush) (k := 0) (i := 53) bn_cX11_test_0 dop_16 60 60 (by decide +kernel)
theorem dX11_test_55 : decode cX11_test 55 = .ok (.if_icmp .ne 11, 3) := dR2s (f := Instr.if_icmp .ne) (k := 0) (i := 55) bn_cX11_test_0 dop_160 11 11 (by decide +kernel)
theorem dX11_test_58 : decode cX11_test 58 = .ok (.iload_n 1, 1) := dR0 (k := 0) (i := 58) bn_cX11_test_0 dop_27 (by decide +kernel)
theorem dX11_test_59 : decode cX11_test 59 = .ok (.iload_n 3, 1) := dR0 (k := 0) (i := 59) bn_cX11_test_0 dop_29 (by decide +kernel)
theorem dX11_test_60 : decode cX11_test 60 = .ok (.if_icmp .ge 29, 3) := dR2s (f := Instr.if_icmp .ge) (k := 0) (i := 60) bn_cX11_test_0 dop_162 29 29 (by decide +kernel)
theorem dX11_test_63 : decode cX11_test 63 = .ok (.goto 22, 3) := dR2s (f := Instr.goto) (k := 0) (i := 63) bn_cX11_test_0 dop_167 22 22 (by decide +kernel)
theorem dX11_test_66 : decode cX11_test 66 = .ok (.iload_n 2, 1) := dR0 (k := 0) (i := 66) bn_cX11_test_0 dop_28 (by decide +kernel)
theorem dX11_test_67 : decode cX11_test 67 = .ok (.bipush 62, 2) := dR1s (f := Instr.bipush) (k := 0) (i := 67) bn_cX11_test_0 dop_16 62 62 (by decide +kernel)
theorem dX11_test_69 : decode cX11_test 69 = .ok (.if_icmp .ne 11, 3) := dR2s (f := Instr.if_icmp .ne) (k := 0) (i := 69) bn_cX11_test_0 dop_160 11 11 (by decide +kernel)
theorem dX11_test_72 : decode cX11_test 72 = .ok (.iload_n 1, 1) := dR0 (k := 0) (i := 72) bn_cX11_test_0 dop_27 (by decide +kernel)
theorem dX11_test_73 : decode cX11_test 73 = .ok (.iload_n 3, 1) := dR0 (k := 0) (i := 73) bn_cX11_test_0 dop_29 (by decide +kernel)
theorem dX11_test_74 : decode cX11_test 74 = .ok (.if_icmp .le 15, 3) := dR2s (f := Instr.if_icmp .le) (k := 0) (i := 74) bn_cX11_test_0 dop_164 15 15 (by decide +kernel)
theorem dX11_test_77 : decode cX11_test 77 = .ok (.goto 8, 3) := dR2s (f := Instr.goto) (k := 0) (i := 77) bn_cX11_test_0 dop_167 8 8 (by decide +kernel)
theorem dX11_test_80 : decode cX11_test 80 = .ok (.iload_n 1, 1) := dR0 (k := 0) (i := 80) bn_cX11_test_0 dop_27 (by decide +kernel)
theorem dX11_test_81 : decode cX11_test 81 = .ok (.iload_n 3, 1) := dR0 (k := 0) (i := 81) bn_cX11_test_0 dop_29 (by decide +kernel)
theorem dX11_test_82 : decode cX11_test 82 = .ok (.if_icmp .ne 7, 3) := dR2s (f := Instr.if_icmp .ne) (k := 0) (i := 82) bn_cX11_test_0 dop_160 7 7 (by decide +kernel)
theorem dX11_test_85 : decode cX11_test 85 = .ok (.iconst 1, 1) := dR0 (k := 0) (i := 85) bn_cX11_test_0 dop_4 (by decide +kernel)
theorem dX11_test_86 : decode cX11_test 86 = .ok (.goto 4, 3) := dR2s (f := Instr.goto) (k := 0) (i := 86) bn_cX11_test_0 dop_167 4 4 (by decide +kernel)
theorem dX11_test_89 : decode cX11_test 89 = .ok (.iconst 0, 1) := dR0 (k := 0) (i := 89) bn_cX11_test_0 dop_3 (by decide +kernel)
theorem dX11_test_90 : decode cX11_test 90 = .ok (.ireturn, 1) := dR0 (k := 0) (i := 90) bn_cX11_test_0 dop_172 (by decide +kernel)
theorem bn_cX11_whole_0 : BN cX11_whole 0 0x15a1c72c01503d0201402a802820029a0e820029b0e0f988015b8ac34014d2e002b73e844563d620056e2b := by
  unfold BN; decide +kernel
theorem dX11_whole_0 : decode cX11_whole 0 = .ok (.aload_n 0, 1) := dR0 (k := 0) (i := 0) bn_cX11_whole_0 dop_42 (by decide +kernel)
theorem dX11_whole_1 : decode cX11_whole 1 = .ok (.invokevirtual 195, 3) := dR2 (f := Instr.invokevirtual) (k := 0) (i := 1) bn_cX11_whole_0 dop_182 195 (by decide +kernel)
theorem dX11_whole_4 : decode cX11_whole 4 = .ok (.istore_n 1, 1) := dR0 (k := 0) (i := 4) bn_cX11_whole_0 dop_60 (by decide +kernel)
theorem dX11_whole_5 : decode cX11_whole 5 = .ok (.aload_n 0, 1) := dR0 (k := 0) (i := 5) bn_cX11_whole_0 dop_42 (by decide +kernel)
theorem dX11_whole_6 : decode cX11_whole 6 = .ok (.bipush 124, 2) := dR1s (f := Instr.bipush) (k := 0) (i := 6) bn_cX11_whole_0 dop_16 124 124 (by decide +kernel)
theorem dX11_whole_8 : decode cX11_whole 8 = .ok (.invokevirtual 183, 3) := dR2 (f := Instr.invokevirtual) (k := 0) (i := 8) bn_cX11_whole_0 dop_182 183 (by decide +kernel)
theorem dX11_whole_11 : decode cX11_whole 11 = .ok (.ifCond .eq 25, 3) := dR2s (f := Instr.ifCond .eq) (k := 0) (i := 11) bn_cX11_whole_0 dop_153 25 25 (by decide +kernel)
theorem dX11_whole_14 : decode cX11_whole 14 = .ok (.aload_n 0, 1) := dR0 (k := 0) (i := 14) bn_cX11_whole_0 dop_42 (by decide +kernel)
theorem dX11_whole_15 : decode cX11_whole 15 = .ok (.invokevirtual 195, 3) := dR2 (f := Instr.invokevirtual) (k := 0) (i := 15) bn_cX11_whole_0 dop_182 195 (by decide +kernel)
theorem dX11_whole_18 : decode cX11_whole 18 = .ok (.istore_n 2, 1) := dR0 (k := 0) (i := 18) bn_cX11_whole_0 dop_61 (by decide +kernel)
theorem dX11_whole_19 : decode cX11_whole 19 = .ok (.iload_n 1, 1) := dR0 (k := 0) (i := 19) bn_cX11_whole_0 dop_27 (by decide +kernel)
theorem dX11_whole_20 : decode cX11_whole 20 = .ok (.ifCond .ne 7, 3) := dR2s (f := Instr.ifCond .ne) (k := 0) (i := 20) bn_cX11_whole_0 dop_154 7 7 (by decide +kernel)
theorem dX11_whole_23 : decode cX11_whole 23 = .ok (.iload_n 2, 1) := dR0 (k := 0) (i := 23) bn_cX11_whole_0 dop_28 (by decide +kernel)
theorem dX11_whole_24 : decode cX11_whole 24 = .ok (.ifCond .eq 7, 3) := dR2s (f := Instr.ifCond .eq) (k := 0) (i := 24) bn_cX11_whole_0 dop_153 7 7 (by decide +kernel)
theorem dX11_whole_27 : decode cX11_whole 27 = .ok (.iconst 1, 1) := dR0 (k := 0) (i := 27) bn_cX11_whole_0 dop_4 (by decide +kernel)
theorem dX11_whole_28 : decode cX11_whole 28 = .ok (.goto 4, 3) := dR2s (f := Instr.goto) (k := 0) (i := 28) bn_cX11_whole_0 dop_167 4 4 (by decide +kernel)
theorem dX11_whole_31 : decode cX11_whole 31 = .ok (.iconst 0, 1) := dR0 (k := 0) (i := 31) bn_cX11_whole_0 dop_3 (by decide +kernel)
theorem dX11_whole_32 : decode cX11_whole 32 = .ok (.istore_n 1, 1) := dR0 (k := 0) (i := 32) bn_cX11_whole_0 dop_60 (by decide +kernel)
theorem dX11_whole_33 : decode cX11_whole 33 = .ok (.goto (-28), 3) := dR2s (f := Instr.goto) (k := 0) (i := 33) bn_cX11_whole_0 dop_167 65508 (-28) (by decide +kernel)
theorem dX11_whole_36 : decode cX11_whole 36 = .ok (.iload_n 1, 1) := dR0 (k := 0) (i := 36) bn_cX11_whole_0 dop_27 (by decide +kernel)
theorem dX11_whole_37 : decode cX11_whole 37 = .ok (.ireturn, 1) := dR0 (k := 0) (i := 37) bn_cX11_whole_0 dop_172 (by decide +kernel)
def RTP (dd : Nat) : Prop := (∀ (l : Launch) (D : va_G) (cI : ClassId) (aK aV : Nat → Nat) (k k0 k1 k2 k4 k5 k6 k7 k8 ka kb kl ko : Nat) (sz : Nat) (c3 : Int32) (c9 : Int32) (cc : Int32) (cd : Int32) (ce : Int32) (cf : Int32) (cg : Int32) (ch : Int32) (ci : Int32) (cj : Int32) (ck : Int32) (cm : Int32) (cn : Int32) (c0 : Nat → Int32) (pre0 : 0 ≤ cc.toInt) (pre1 : cc.toInt ≤ 1151) (pre2 : 0 ≤ cd.toInt) (pre3 : cd.toInt ≤ ce.toInt) (pre4 : ce.toInt ≤ 50) (pre5 : 0 ≤ cg.toInt) (pre6 : cg.toInt ≤ 4) (pre7 : (4 - cg.toInt).toNat < dd) , Met l yX11_one (gW yX11_one cX11_one 4 (some .int)) ({ frames := 20 * dd + 13, cells := 0, slots := 0, locals := 1400 * dd + 910 } : Room) (kPreX D cI aK aV [.ref k] [(k, .inr (11, [.ref k0, .ref k1, .ref k2, .int c3, .ref k4, .ref k5, .ref k6, .ref k7, .ref k8, .int c9, .ref ka, .ref kb, .int cc, .int cd, .int ce, .int cf, .int cg, .int ch, .int ci, .int cj, .int ck, .ref kl, .int cm, .int cn, .ref ko])), (k0, .inl (cI, 1201, .inl c0))] sz) (va_Qi (fun (r : Int32) (u : Int32 × Int32 × Int32) => cd.toInt ≤ u.1.toInt ∧ u.1.toInt ≤ ce.toInt ∧ u.2.2.toInt = cg.toInt ∧ TXQ (tG c0 cc.toInt.toNat ce) ch ci cj ck 5 cg.toInt cf 0 cd.toInt r u.1.toInt u.2.1) (fun u t => kWd D cI (va_A [(k, .inr (11, [.ref k0, .ref k1, .ref k2, .int c3, .ref k4, .ref k5, .ref k6, .ref k7, .ref k8, .int c9, .ref ka, .ref kb, .int cc, .int cd, .int ce, .int cf, .int cg, .int ch, .int ci, .int cj, .int ck, .ref kl, .int cm, .int cn, .ref ko])), (k0, .inl (cI, 1201, .inl c0))] sz) [(k, .inr (11, [.ref k0, .ref k1, .ref k2, .int c3, .ref k4, .ref k5, .ref k6, .ref k7, .ref k8, .int c9, .ref ka, .ref kb, .int cc, .int u.1, .int ce, .int u.2.1, .int u.2.2, .int ch, .int ci, .int cj, .int ck, .ref kl, .int cm, .int cn, .ref ko])), (k0, .inl (cI, 1201, .inl c0))] t) (va_A [(k, .inr (11, [.ref k0, .ref k1, .ref k2, .int c3, .ref k4, .ref k5, .ref k6, .ref k7, .ref k8, .int c9, .ref ka, .ref kb, .int cc, .int cd, .int ce, .int cf, .int cg, .int ch, .int ci, .int cj, .int ck, .ref kl, .int cm, .int cn, .ref ko])), (k0, .inl (cI, 1201, .inl c0))] sz)) 0 0 (va_A [(k, .inr (11, [.ref k0, .ref k1, .ref k2, .int c3, .ref k4, .ref k5, .ref k6, .ref k7, .ref k8, .int c9, .ref ka, .ref kb, .int cc, .int cd, .int ce, .int cf, .int cg, .int ch, .int ci, .int cj, .int ck, .ref kl, .int cm, .int cn, .ref ko])), (k0, .inl (cI, 1201, .inl c0))] sz)) ∧ (∀ (l : Launch) (D : va_G) (cI : ClassId) (aK aV : Nat → Nat) (k k0 k1 k2 k4 k5 k6 k7 k8 ka kb kl ko : Nat) (sz : Nat) (c3 : Int32) (c9 : Int32) (cc : Int32) (cd : Int32) (ce : Int32) (cf : Int32) (cg : Int32) (ch : Int32) (ci : Int32) (cj : Int32) (ck : Int32) (cm : Int32) (cn : Int32) (c0 : Nat → Int32) (pre0 : 0 ≤ cc.toInt) (pre1 : cc.toInt ≤ 1151) (pre2 : 0 ≤ cd.toInt) (pre3 : cd.toInt ≤ ce.toInt) (pre4 : ce.toInt ≤ 50) (pre5 : 0 ≤ cg.toInt) (pre6 : cg.toInt ≤ 4) (pre7 : (4 - cg.toInt).toNat < dd) , Met l yX11_whole (gW yX11_whole cX11_whole 3 (some .int)) ({ frames := 20 * dd + 18, cells := 0, slots := 0, locals := 1400 * dd + 1260 } : Room) (kPreX D cI aK aV [.ref k] [(k, .inr (11, [.ref k0, .ref k1, .ref k2, .int c3, .ref k4, .ref k5, .ref k6, .ref k7, .ref k8, .int c9, .ref ka, .ref kb, .int cc, .int cd, .int ce, .int cf, .int cg, .int ch, .int ci, .int cj, .int ck, .ref kl, .int cm, .int cn, .ref ko])), (k0, .inl (cI, 1201, .inl c0))] sz) (va_Qi (fun (r : Int32) (u : Int32 × Int32 × Int32) => cd.toInt ≤ u.1.toInt ∧ u.1.toInt ≤ ce.toInt ∧ u.2.2.toInt = cg.toInt ∧ TXQ (tG c0 cc.toInt.toNat ce) ch ci cj ck 0 cg.toInt cf 0 cd.toInt r u.1.toInt u.2.1) (fun u t => kWd D cI (va_A [(k, .inr (11, [.ref k0, .ref k1, .ref k2, .int c3, .ref k4, .ref k5, .ref k6, .ref k7, .ref k8, .int c9, .ref ka, .ref kb, .int cc, .int cd, .int ce, .int cf, .int cg, .int ch, .int ci, .int cj, .int ck, .ref kl, .int cm, .int cn, .ref ko])), (k0, .inl (cI, 1201, .inl c0))] sz) [(k, .inr (11, [.ref k0, .ref k1, .ref k2, .int c3, .ref k4, .ref k5, .ref k6, .ref k7, .ref k8, .int c9, .ref ka, .ref kb, .int cc, .int u.1, .int ce, .int u.2.1, .int u.2.2, .int ch, .int ci, .int cj, .int ck, .ref kl, .int cm, .int cn, .ref ko])), (k0, .inl (cI, 1201, .inl c0))] t) (va_A [(k, .inr (11, [.ref k0, .ref k1, .ref k2, .int c3, .ref k4, .ref k5, .ref k6, .ref k7, .ref k8, .int c9, .ref ka, .ref kb, .int cc, .int cd, .int ce, .int cf, .int cg, .int ch, .int ci, .int cj, .int ck, .ref kl, .int cm, .int cn, .ref ko])), (k0, .inl (cI, 1201, .inl c0))] sz)) 0 0 (va_A [(k, .inr (11, [.ref k0, .ref k1, .ref k2, .int c3, .ref k4, .ref k5, .ref k6, .ref k7, .ref k8, .int c9, .ref ka, .ref kb, .int cc, .int cd, .int ce, .int cf, .int cg, .int ch, .int ci, .int cj, .int ck, .ref kl, .int cm, .int cn, .ref ko])), (k0, .inl (cI, 1201, .inl c0))] sz))
set_option maxHeartbeats 4000000 in
set_option maxRecDepth 100000 in
theorem c_X11_one_of (dd : Nat) (ih : RTP dd) (l : Launch) (D : va_G) (cI : ClassId) (aK aV : Nat → Nat) (k k0 k1 k2 k4 k5 k6 k7 k8 ka kb kl ko : Nat) (sz : Nat) (c3 : Int32) (c9 : Int32) (cc : Int32) (cd : Int32) (ce : Int32) (cf : Int32) (cg : Int32) (ch : Int32) (ci : Int32) (cj : Int32) (ck : Int32) (cm : Int32) (cn : Int32) (c0 : Nat → Int32) (pre0 : 0 ≤ cc.toInt) (pre1 : cc.toInt ≤ 1151) (pre2 : 0 ≤ cd.toInt) (pre3 : cd.toInt ≤ ce.toInt) (pre4 : ce.toInt ≤ 50) (pre5 : 0 ≤ cg.toInt) (pre6 : cg.toInt ≤ 4) (pre7 : (4 - cg.toInt).toNat < dd + 1)  : Met l yX11_one (gW yX11_one cX11_one 4 (some .int)) ({ frames := 20 * (dd + 1) + 13, cells := 0, slots := 0, locals := 1400 * (dd + 1) + 910 } : Room) (kPreX D cI aK aV [.ref k] [(k, .inr (11, [.ref k0, .ref k1, .ref k2, .int c3, .ref k4, .ref k5, .ref k6, .ref k7, .ref k8, .int c9, .ref ka, .ref kb, .int cc, .int cd, .int ce, .int cf, .int cg, .int ch, .int ci, .int cj, .int ck, .ref kl, .int cm, .int cn, .ref ko])), (k0, .inl (cI, 1201, .inl c0))] sz) (va_Qi (fun (r : Int32) (u : Int32 × Int32 × Int32) => cd.toInt ≤ u.1.toInt ∧ u.1.toInt ≤ ce.toInt ∧ u.2.2.toInt = cg.toInt ∧ TXQ (tG c0 cc.toInt.toNat ce) ch ci cj ck 5 cg.toInt cf 0 cd.toInt r u.1.toInt u.2.1) (fun u t => kWd D cI (va_A [(k, .inr (11, [.ref k0, .ref k1, .ref k2, .int c3, .ref k4, .ref k5, .ref k6, .ref k7, .ref k8, .int c9, .ref ka, .ref kb, .int cc, .int cd, .int ce, .int cf, .int cg, .int ch, .int ci, .int cj, .int ck, .ref kl, .int cm, .int cn, .ref ko])), (k0, .inl (cI, 1201, .inl c0))] sz) [(k, .inr (11, [.ref k0, .ref k1, .ref k2, .int c3, .ref k4, .ref k5, .ref k6, .ref k7, .ref k8, .int c9, .ref ka, .ref kb, .int cc, .int u.1, .int ce, .int u.2.1, .int u.2.2, .int ch, .int ci, .int cj, .int ck, .ref kl, .int cm, .int cn, .ref ko])), (k0, .inl (cI, 1201, .inl c0))] t) (va_A [(k, .inr (11, [.ref k0, .ref k1, .ref k2, .int c3, .ref k4, .ref k5, .ref k6, .ref k7, .ref k8, .int c9, .ref ka, .ref kb, .int cc, .int cd, .int ce, .int cf, .int cg, .int ch, .int ci, .int cj, .int ck, .ref kl, .int cm, .int cn, .ref ko])), (k0, .inl (cI, 1201, .inl c0))] sz)) 0 0 (va_A [(k, .inr (11, [.ref k0, .ref k1, .ref k2, .int c3, .ref k4, .ref k5, .ref k6, .ref k7, .ref k8, .int c9, .ref ka, .ref kb, .int cc, .int cd, .int ce, .int cf, .int cg, .int ch, .int ci, .int cj, .int ck, .ref kl, .int cm, .int cn, .ref ko])), (k0, .inl (cI, 1201, .inl c0))] sz) := by
  refine kMetIX (own := RX11) (by decide +kernel) rfl (Nat.le_of_ble_eq_true rfl) ?_
  intro p e s m args below meth c hx hb hT hown hname hml A Q hK hP hD hS hA hN hXS hRet ls hl
  have hl : lv_has ls 4 [(0, .ref k)] := hl
  have lo_c3 := k_lo c3
  have hi_c3 := k_hi c3
  have lo_c9 := k_lo c9
  have hi_c9 := k_hi c9
  have lo_cc := k_lo cc
  have hi_cc := k_hi cc
  have lo_cd := k_lo cd
  have hi_cd := k_hi cd
  have lo_ce := k_lo ce
  have hi_ce := k_hi ce
  have lo_cf := k_lo cf
  have hi_cf := k_hi cf
  have lo_cg := k_lo cg
  have hi_cg := k_hi cg
  have lo_ch := k_lo ch
  have hi_ch := k_hi ch
  have lo_ci := k_lo ci
  have hi_ci := k_hi ci
  have lo_cj := k_lo cj
  have hi_cj := k_hi cj
  have lo_ck := k_lo ck
  have hi_ck := k_hi ck
  have lo_cm := k_lo cm
  have hi_cm := k_hi cm
  have lo_cn := k_lo cn
  have hi_cn := k_hi cn
  have hm1 := zl_m1
  refine lv_aload_n hx hb dX11_one_0 rfl (lv_at hl 0 rfl) ?_
  refine kJi (wr := []) (va_runV (As := []) (rest := []) ⟨hx, hb, hml, hown, hT⟩ (c_X11_nowG l D cI aK aV k k0 k1 k2 k4 k5 k6 k7 k8 ka kb kl ko s.heap.size c3 c9 cc cd ce cf cg ch ci cj ck cm cn c0 (by first | omega | decide | assumption | rfl) (by first | omega | decide | assumption | rfl) (by first | omega | decide | assumption | rfl) (by first | omega | decide | assumption | rfl) (by first | omega | decide | assumption | rfl)) (cwV 0 hT (gV_in mw_1339 mw_1336 mw_1338 mw_p4_9 mw_12) rfl rfl rfl (by decide +kernel) ⟨(by dsimp only; omega), (by dsimp only; omega)⟩) (kRecvX (q0 := 0) (ci := 11) hK hP hD hN hXS hS hA rfl rfl [0, 1] rfl (by decide +kernel)) rfl rfl hl.1 rfl (lv_room (Nat.le_of_ble_eq_true rfl)) dX11_one_1 ⟨Nat.le_of_ble_eq_true rfl, Nat.le_of_ble_eq_true rfl⟩) hP hD hS hA [0, 1] [] rfl rfl (by decide +kernel) (by decide +kernel) ?_
  clear hP hD hS
  intro r_1 u_3 H locs w_2 hP hD hS
  replace hP : va_P D vwCl [(k, .inr (11, [.ref k0, .ref k1, .ref k2, .int c3, .ref k4, .ref k5, .ref k6, .ref k7, .ref k8, .int c9, .ref ka, .ref kb, .int cc, .int cd, .int ce, .int cf, .int cg, .int ch, .int ci, .int cj, .int ck, .ref kl, .int cm, .int cn, .ref ko])), (k0, .inl (cI, 1201, .inl c0))] H := hP
  replace hD : va_D A [(k, .inr (11, [.ref k0, .ref k1, .ref k2, .int c3, .ref k4, .ref k5, .ref k6, .ref k7, .ref k8, .int c9, .ref ka, .ref kb, .int cc, .int cd, .int ce, .int cf, .int cg, .int ch, .int ci, .int cj, .int ck, .ref kl, .int cm, .int cn, .ref ko])), (k0, .inl (cI, 1201, .inl c0))] := hD
  rcases w_2 with ⟨h_4, h_5⟩ | ⟨hr_1, h_6, h_7⟩
  · have h_4 : r_1 = tG c0 cc.toInt.toNat ce cd.toInt := h_4
    have h_4 : r_1 = tG c0 cc.toInt.toNat ce cd.toInt := h_4
    have h_5 : cd.toInt < ce.toInt := h_5
    have lo_r_1 := k_lo r_1
    have hi_r_1 := k_hi r_1
    refine lv_istore_n (lv' := [(1, .int r_1), (0, .ref k)]) hx hb dX11_one_4 rfl hl (by decide +kernel) rfl ?_
    clear hl
    intro ls hl
    refine lv_aload_n hx hb dX11_one_5 rfl (lv_at hl 1 rfl) ?_
    refine va_get (D := D) (ci := 11) (v := .int cf) (C := RX11) (T := TX11) (N := 25) hx hb hT giX11 hown hK hP 0 rfl rfl 15 (by decide +kernel) (hT (Cond.fieldLink RX11 148 "DesertWireModel" "isWrong" "Z") mw_1171) (fun _ h9 => h9) rfl dX11_one_6 ?_
    refine b_if_eq hx hb rfl (tgt := 14) dX11_one_9 (by decide +kernel) (fun c_8 => ?_) (fun c_8 => ?_)
    · refine lv_iload_n hx hb dX11_one_14 rfl (lv_at hl 0 rfl) ?_
      refine lv_bipush (v := 48) hx hb dX11_one_15 (by decide +kernel) ?_
      refine lv_bipush (v := 57) hx hb dX11_one_17 (by decide +kernel) ?_
      refine kJi (wr := [(k, .inr (11, [.ref k0, .ref k1, .ref k2, .int c3, .ref k4, .ref k5, .ref k6, .ref k7, .ref k8, .int c9, .ref ka, .ref kb, .int cc, .int cd, .int ce, .int cf, .int cg, .int ch, .int ci, .int cj, .int ck, .ref kl, .int cm, .int cn, .ref ko])), (k0, .inl (cI, 1201, .inl c0))]) (va_runS (As := [.int r_1, .int 48, .int 57]) (rest := []) ⟨hx, hb, hml, hown, hT⟩ (c_X11_inG l D cI aK aV H.size r_1 48 57) (cwS 3 hT (gS_in mw_1238 mw_1236 mw_1237 mw_12) rfl rfl rfl (by decide +kernel) ⟨(by dsimp only; omega), (by dsimp only; omega)⟩) (kStatX hK hP hD hN hXS hS hA [] rfl (by decide +kernel)) rfl rfl hl.1 rfl (lv_room (Nat.le_of_ble_eq_true rfl)) dX11_one_19 ⟨Nat.le_of_ble_eq_true rfl, Nat.le_of_ble_eq_true rfl⟩) hP hD hS hA [] [0, 1] rfl rfl (by decide +kernel) (by decide +kernel) ?_
      clear hP hD hS
      intro r_9 u_11 H locs w_10 hP hD hS
      replace hP : va_P D vwCl [(k, .inr (11, [.ref k0, .ref k1, .ref k2, .int c3, .ref k4, .ref k5, .ref k6, .ref k7, .ref k8, .int c9, .ref ka, .ref kb, .int cc, .int cd, .int ce, .int cf, .int cg, .int ch, .int ci, .int cj, .int ck, .ref kl, .int cm, .int cn, .ref ko])), (k0, .inl (cI, 1201, .inl c0))] H := hP
      replace hD : va_D A [(k, .inr (11, [.ref k0, .ref k1, .ref k2, .int c3, .ref k4, .ref k5, .ref k6, .ref k7, .ref k8, .int c9, .ref ka, .ref kb, .int cc, .int cd, .int ce, .int cf, .int cg, .int ch, .int ci, .int cj, .int ck, .ref kl, .int cm, .int cn, .ref ko])), (k0, .inl (cI, 1201, .inl c0))] := hD
      rcases w_10 with ⟨hr_9, h_12, h_13⟩ | ⟨hr_9, h_14⟩
      · try simp only [zl_48, zl_57] at h_12
        have h_12 : 48 ≤ r_1.toInt := h_12
        try simp only [zl_48, zl_57] at h_13
        have h_13 : r_1.toInt ≤ 57 := h_13
        obtain rfl : r_9 = 1 := hr_9.trans (by decide +kernel)
        refine b_if_eq hx hb zl_1 (tgt := 79) dX11_one_22 (by decide +kernel) (fun c_15 => by exfalso; omega) (fun c_15 => ?_)
        refine lv_iconst (v := 0) hx hb dX11_one_25 (by decide +kernel) ?_
        refine lv_istore_n (lv' := [(2, .int 0), (1, .int r_1), (0, .ref k)]) hx hb dX11_one_26 rfl hl (by decide +kernel) rfl ?_
        clear hl
        intro ls hl
        refine lv_iconst (v := 0) hx hb dX11_one_27 (by decide +kernel) ?_
        refine lv_istore_n (lv' := [(3, .int 0), (2, .int 0), (1, .int r_1), (0, .ref k)]) hx hb dX11_one_28 rfl hl (by decide +kernel) rfl ?_
        clear hl
        intro ls hl
        have hloop_29 : ∀ (fu_ : Nat) (l29_2 : Int32) (l29_3 : Int32) (f29_kd : Int32), 0 ≤ l29_3.toInt → cd.toInt ≤ f29_kd.toInt → l29_3.toInt ≤ 4 → f29_kd.toInt ≤ ce.toInt → tx_num (tG c0 cc.toInt.toNat ce) (4 - l29_3.toInt).toNat l29_2 f29_kd.toInt = tx_num (tG c0 cc.toInt.toNat ce) 4 0 cd.toInt → (4 - l29_3.toInt).toNat < fu_ → ∀ (ls : Array Slot) (H : Heap) (locs : List Loc), lv_has ls 4 [(3, .int l29_3), (2, .int l29_2), (1, .int r_1), (0, .ref k)] → va_P D vwCl [(k, .inr (11, [.ref k0, .ref k1, .ref k2, .int c3, .ref k4, .ref k5, .ref k6, .ref k7, .ref k8, .int c9, .ref ka, .ref kb, .int cc, .int f29_kd, .int ce, .int cf, .int cg, .int ch, .int ci, .int cj, .int ck, .ref kl, .int cm, .int cn, .ref ko])), (k0, .inl (cI, 1201, .inl c0))] H → va_D A [(k, .inr (11, [.ref k0, .ref k1, .ref k2, .int c3, .ref k4, .ref k5, .ref k6, .ref k7, .ref k8, .int c9, .ref ka, .ref kb, .int cc, .int f29_kd, .int ce, .int cf, .int cg, .int ch, .int ci, .int cj, .int ck, .ref kl, .int cm, .int cn, .ref ko])), (k0, .inl (cI, 1201, .inl c0))] → va_S A s.heap H locs → W p l e ({ frames := 20 * (dd + 1) + 13, cells := 0, slots := 0, locals := 1400 * (dd + 1) + 910 } : Room) s m args below meth c H locs 0 0 Q (F0 m 29 ls []) := by
          intro fu_; induction fu_ with
          | zero => intro l29_2 l29_3 f29_kd i29_0 i29_1 i29_2 i29_3 i29_4 hm; exact absurd hm (by omega)
          | succ fu_ ih29 =>
              intro l29_2 l29_3 f29_kd i29_0 i29_1 i29_2 i29_3 i29_4 hm ls H locs hl hP hD hS
              have lo_l29_2 := k_lo l29_2
              have hi_l29_2 := k_hi l29_2
              have lo_l29_3 := k_lo l29_3
              have hi_l29_3 := k_hi l29_3
              have lo_f29_kd := k_lo f29_kd
              have hi_f29_kd := k_hi f29_kd
              have i29_4 : tx_num (tG c0 cc.toInt.toNat ce) (4 - l29_3.toInt).toNat l29_2 f29_kd.toInt = tx_num (tG c0 cc.toInt.toNat ce) 4 0 cd.toInt := i29_4
              refine lv_iload_n hx hb dX11_one_29 rfl (lv_at hl 0 rfl) ?_
              refine lv_iconst (v := 4) hx hb dX11_one_30 (by decide +kernel) ?_
              refine b_icmp_ge hx hb rfl zl_4 (tgt := 77) dX11_one_31 (by decide +kernel) (fun c_16 => ?_) (fun c_16 => ?_)
              · refine lv_iload_n hx hb dX11_one_77 rfl (lv_at hl 1 rfl) ?_
                exact hRet (f29_kd, cf, cg) [0, 1] ⟨(by first | omega | decide | assumption | rfl | (dsimp only; first | omega)), (by first | omega | decide | assumption | rfl | (dsimp only; first | omega)), (by first | omega | decide | assumption | rfl | (dsimp only; first | omega)), (by (try dsimp only); exact (TXQ.num (by omega) (by rw [← h_4]; omega) (by rw [← h_4]; omega) (i29_4.symm.trans (tx_num_end (Or.inl (by omega)))) (by omega)))⟩ hP hD (by decide +kernel) rfl hS rfl dX11_one_78
              · refine lv_aload_n hx hb dX11_one_34 rfl (lv_at hl 3 rfl) ?_
                refine kJi (wr := []) (va_runV (As := []) (rest := []) ⟨hx, hb, hml, hown, hT⟩ (c_X11_nowG l D cI aK aV k k0 k1 k2 k4 k5 k6 k7 k8 ka kb kl ko H.size c3 c9 cc f29_kd ce cf cg ch ci cj ck cm cn c0 (by first | omega | decide | assumption | rfl) (by first | omega | decide | assumption | rfl) (by first | omega | decide | assumption | rfl) (by first | omega | decide | assumption | rfl) (by first | omega | decide | assumption | rfl)) (cwV 0 hT (gV_in mw_1339 mw_1336 mw_1338 mw_p4_9 mw_12) rfl rfl rfl (by decide +kernel) ⟨(by dsimp only; omega), (by dsimp only; omega)⟩) (kRecvX (q0 := 0) (ci := 11) hK hP hD hN hXS hS hA rfl rfl [0, 1] rfl (by decide +kernel)) rfl rfl hl.1 rfl (lv_room (Nat.le_of_ble_eq_true rfl)) dX11_one_35 ⟨Nat.le_of_ble_eq_true rfl, Nat.le_of_ble_eq_true rfl⟩) hP hD hS hA [0, 1] [] rfl rfl (by decide +kernel) (by decide +kernel) ?_
                clear hP hD hS
                intro r_17 u_19 H locs w_18 hP hD hS
                replace hP : va_P D vwCl [(k, .inr (11, [.ref k0, .ref k1, .ref k2, .int c3, .ref k4, .ref k5, .ref k6, .ref k7, .ref k8, .int c9, .ref ka, .ref kb, .int cc, .int f29_kd, .int ce, .int cf, .int cg, .int ch, .int ci, .int cj, .int ck, .ref kl, .int cm, .int cn, .ref ko])), (k0, .inl (cI, 1201, .inl c0))] H := hP
                replace hD : va_D A [(k, .inr (11, [.ref k0, .ref k1, .ref k2, .int c3, .ref k4, .ref k5, .ref k6, .ref k7, .ref k8, .int c9, .ref ka, .ref kb, .int cc, .int f29_kd, .int ce, .int cf, .int cg, .int ch, .int ci, .int cj, .int ck, .ref kl, .int cm, .int cn, .ref ko])), (k0, .inl (cI, 1201, .inl c0))] := hD
                rcases w_18 with ⟨h_20, h_21⟩ | ⟨hr_17, h_22, h_23⟩
                · have h_20 : r_17 = tG c0 cc.toInt.toNat ce f29_kd.toInt := h_20
                  have h_20 : r_17 = tG c0 cc.toInt.toNat ce f29_kd.toInt := h_20
                  have h_21 : f29_kd.toInt < ce.toInt := h_21
                  have lo_r_17 := k_lo r_17
                  have hi_r_17 := k_hi r_17
                  refine lv_bipush (v := 48) hx hb dX11_one_38 (by decide +kernel) ?_
                  refine lv_bipush (v := 57) hx hb dX11_one_40 (by decide +kernel) ?_
                  refine kJi (wr := [(k, .inr (11, [.ref k0, .ref k1, .ref k2, .int c3, .ref k4, .ref k5, .ref k6, .ref k7, .ref k8, .int c9, .ref ka, .ref kb, .int cc, .int f29_kd, .int ce, .int cf, .int cg, .int ch, .int ci, .int cj, .int ck, .ref kl, .int cm, .int cn, .ref ko])), (k0, .inl (cI, 1201, .inl c0))]) (va_runS (As := [.int r_17, .int 48, .int 57]) (rest := []) ⟨hx, hb, hml, hown, hT⟩ (c_X11_inG l D cI aK aV H.size r_17 48 57) (cwS 3 hT (gS_in mw_1238 mw_1236 mw_1237 mw_12) rfl rfl rfl (by decide +kernel) ⟨(by dsimp only; omega), (by dsimp only; omega)⟩) (kStatX hK hP hD hN hXS hS hA [] rfl (by decide +kernel)) rfl rfl hl.1 rfl (lv_room (Nat.le_of_ble_eq_true rfl)) dX11_one_42 ⟨Nat.le_of_ble_eq_true rfl, Nat.le_of_ble_eq_true rfl⟩) hP hD hS hA [] [0, 1] rfl rfl (by decide +kernel) (by decide +kernel) ?_
                  clear hP hD hS
                  intro r_24 u_26 H locs w_25 hP hD hS
                  replace hP : va_P D vwCl [(k, .inr (11, [.ref k0, .ref k1, .ref k2, .int c3, .ref k4, .ref k5, .ref k6, .ref k7, .ref k8, .int c9, .ref ka, .ref kb, .int cc, .int f29_kd, .int ce, .int cf, .int cg, .int ch, .int ci, .int cj, .int ck, .ref kl, .int cm, .int cn, .ref ko])), (k0, .inl (cI, 1201, .inl c0))] H := hP
                  replace hD : va_D A [(k, .inr (11, [.ref k0, .ref k1, .ref k2, .int c3, .ref k4, .ref k5, .ref k6, .ref k7, .ref k8, .int c9, .ref ka, .ref kb, .int cc, .int f29_kd, .int ce, .int cf, .int cg, .int ch, .int ci, .int cj, .int ck, .ref kl, .int cm, .int cn, .ref ko])), (k0, .inl (cI, 1201, .inl c0))] := hD
                  rcases w_25 with ⟨hr_24, h_27, h_28⟩ | ⟨hr_24, h_29⟩
                  · try simp only [zl_48, zl_57] at h_27
                    have h_27 : 48 ≤ r_17.toInt := h_27
                    try simp only [zl_48, zl_57] at h_28
                    have h_28 : r_17.toInt ≤ 57 := h_28
                    obtain rfl : r_24 = 1 := hr_24.trans (by decide +kernel)
                    refine b_if_eq hx hb zl_1 (tgt := 77) dX11_one_45 (by decide +kernel) (fun c_30 => by exfalso; omega) (fun c_30 => ?_)
                    refine lv_bipush (v := 10) hx hb dX11_one_48 (by decide +kernel) ?_
                    refine lv_iload_n hx hb dX11_one_50 rfl (lv_at hl 1 rfl) ?_
                    refine lv_imul hx hb dX11_one_51 ?_
                    refine lv_topi (fun v_31 ev_31 => ?_)
                    have lo_v_31 := k_lo v_31
                    have hi_v_31 := k_hi v_31
                    refine lv_aload_n hx hb dX11_one_52 rfl (lv_at hl 3 rfl) ?_
                    refine kJi (wr := []) (va_runV (As := []) (rest := [.int v_31]) ⟨hx, hb, hml, hown, hT⟩ (c_X11_nowG l D cI aK aV k k0 k1 k2 k4 k5 k6 k7 k8 ka kb kl ko H.size c3 c9 cc f29_kd ce cf cg ch ci cj ck cm cn c0 (by first | omega | decide | assumption | rfl) (by first | omega | decide | assumption | rfl) (by first | omega | decide | assumption | rfl) (by first | omega | decide | assumption | rfl) (by first | omega | decide | assumption | rfl)) (cwV 0 hT (gV_in mw_1339 mw_1336 mw_1338 mw_p4_9 mw_12) rfl rfl rfl (by decide +kernel) ⟨(by dsimp only; omega), (by dsimp only; omega)⟩) (kRecvX (q0 := 0) (ci := 11) hK hP hD hN hXS hS hA rfl rfl [0, 1] rfl (by decide +kernel)) rfl rfl hl.1 rfl (lv_room (Nat.le_of_ble_eq_true rfl)) dX11_one_53 ⟨Nat.le_of_ble_eq_true rfl, Nat.le_of_ble_eq_true rfl⟩) hP hD hS hA [0, 1] [] rfl rfl (by decide +kernel) (by decide +kernel) ?_
                    clear hP hD hS
                    intro r_32 u_34 H locs w_33 hP hD hS
                    replace hP : va_P D vwCl [(k, .inr (11, [.ref k0, .ref k1, .ref k2, .int c3, .ref k4, .ref k5, .ref k6, .ref k7, .ref k8, .int c9, .ref ka, .ref kb, .int cc, .int f29_kd, .int ce, .int cf, .int cg, .int ch, .int ci, .int cj, .int ck, .ref kl, .int cm, .int cn, .ref ko])), (k0, .inl (cI, 1201, .inl c0))] H := hP
                    replace hD : va_D A [(k, .inr (11, [.ref k0, .ref k1, .ref k2, .int c3, .ref k4, .ref k5, .ref k6, .ref k7, .ref k8, .int c9, .ref ka, .ref kb, .int cc, .int f29_kd, .int ce, .int cf, .int cg, .int ch, .int ci, .int cj, .int ck, .ref kl, .int cm, .int cn, .ref ko])), (k0, .inl (cI, 1201, .inl c0))] := hD
                    rcases w_33 with ⟨h_35, h_36⟩ | ⟨hr_32, h_37, h_38⟩
                    · have h_35 : r_32 = tG c0 cc.toInt.toNat ce f29_kd.toInt := h_35
                      have h_35 : r_32 = tG c0 cc.toInt.toNat ce f29_kd.toInt := h_35
                      have q_39 : r_32.toInt = r_17.toInt := by rw [h_35, h_20]
                      have h_36 : f29_kd.toInt < ce.toInt := h_36
                      have lo_r_32 := k_lo r_32
                      have hi_r_32 := k_hi r_32
                      refine lv_iadd hx hb dX11_one_56 ?_
                      refine lv_topi (fun v_40 ev_40 => ?_)
                      have lo_v_40 := k_lo v_40
                      have hi_v_40 := k_hi v_40
                      refine lv_bipush (v := 48) hx hb dX11_one_57 (by decide +kernel) ?_
                      refine lv_isub hx hb dX11_one_59 ?_
                      refine lv_topi (fun v_41 ev_41 => ?_)
                      have lo_v_41 := k_lo v_41
                      have hi_v_41 := k_hi v_41
                      refine lv_istore_n (lv' := [(2, .int v_41), (3, .int l29_3), (1, .int r_1), (0, .ref k)]) hx hb dX11_one_60 rfl hl (by decide +kernel) rfl ?_
                      clear hl
                      intro ls hl
                      refine lv_aload_n hx hb dX11_one_61 rfl (lv_at hl 3 rfl) ?_
                      refine lv_dup hx hb dX11_one_62 rfl ?_
                      refine va_get (D := D) (ci := 11) (v := .int f29_kd) (C := RX11) (T := TX11) (N := 25) hx hb hT giX11 hown hK hP 0 rfl rfl 13 (by decide +kernel) (hT (Cond.fieldLink RX11 138 "DesertWireModel" "here" "I") mw_1169) (fun _ h9 => h9) rfl dX11_one_63 ?_
                      refine lv_iconst (v := 1) hx hb dX11_one_66 (by decide +kernel) ?_
                      refine lv_iadd hx hb dX11_one_67 ?_
                      refine lv_topi (fun v_42 ev_42 => ?_)
                      have tv_42 : v_42.toInt = f29_kd.toInt + 1 := by rw [ev_42]; exact k_addv rfl zl_1 (by omega) (by omega)
                      refine va_put (D := D) (ci := 11) (v := .int v_42) (ty := .int) (C := RX11) (T := TX11) (N := 25) hx hb hT giX11 tyX11 tyX11_ok nmX11 hown hK hP hD hS 0 rfl rfl 13 (by decide +kernel) (hT (Cond.fieldLink RX11 138 "DesertWireModel" "here" "I") mw_1169) (fun _ h9 => h9) rfl (by decide +kernel) rfl rfl (Nat.le_of_ble_eq_true rfl) dX11_one_68 ?_
                      clear hP hD hS
                      intro H locs hP hD hS
                      replace hP : va_P D vwCl [(k, .inr (11, [.ref k0, .ref k1, .ref k2, .int c3, .ref k4, .ref k5, .ref k6, .ref k7, .ref k8, .int c9, .ref ka, .ref kb, .int cc, .int v_42, .int ce, .int cf, .int cg, .int ch, .int ci, .int cj, .int ck, .ref kl, .int cm, .int cn, .ref ko])), (k0, .inl (cI, 1201, .inl c0))] H := hP
                      replace hD : va_D A [(k, .inr (11, [.ref k0, .ref k1, .ref k2, .int c3, .ref k4, .ref k5, .ref k6, .ref k7, .ref k8, .int c9, .ref ka, .ref kb, .int cc, .int v_42, .int ce, .int cf, .int cg, .int ch, .int ci, .int cj, .int ck, .ref kl, .int cm, .int cn, .ref ko])), (k0, .inl (cI, 1201, .inl c0))] := hD
                      obtain ⟨v_43, ev_43⟩ : ∃ y : Int32, y = l29_3 + 1 := ⟨_, rfl⟩
                      have tv_43 : v_43.toInt = l29_3.toInt + 1 := by rw [ev_43]; exact k_addv rfl zl_1 (by omega) (by omega)
                      refine lv_iinc (v := v_43) (lv' := [(3, .int v_43), (2, .int v_41), (1, .int r_1), (0, .ref k)]) hx hb dX11_one_71 hl (k := 1) rfl (by rw [ev_43]; rfl) (by decide +kernel) rfl ?_
                      clear hl
                      intro ls hl
                      refine lv_goto (tgt := 29) hx hb dX11_one_74 (by decide +kernel) ?_
                      exact ih29 v_41 v_43 v_42 (by first | omega | decide | assumption | rfl) (by first | omega | decide | assumption | rfl) (by first | omega | decide | assumption | rfl) (by first | omega | decide | assumption | rfl) (num_step i29_4 (by omega) h_35 (by omega) (by omega) (by rw [ev_41, ev_40, ev_31]) (by omega)) (by omega) ls _ _ (lv_sub hl [0, 1, 2, 3] rfl) (hP.sub [0, 1] rfl) (hD.sub [0, 1] (by decide +kernel) rfl) hS
                    · exfalso; omega
                  · try simp only [zl_48, zl_57] at h_29
                    have h_29 : r_17.toInt < 48 ∨ 57 < r_17.toInt := h_29
                    obtain rfl : r_24 = 0 := hr_24.trans (by decide +kernel)
                    refine b_if_eq hx hb zl_0 (tgt := 77) dX11_one_45 (by decide +kernel) (fun c_44 => ?_) (fun c_44 => by exfalso; omega)
                    refine lv_iload_n hx hb dX11_one_77 rfl (lv_at hl 1 rfl) ?_
                    exact hRet (f29_kd, cf, cg) [0, 1] ⟨(by first | omega | decide | assumption | rfl | (dsimp only; first | omega)), (by first | omega | decide | assumption | rfl | (dsimp only; first | omega)), (by first | omega | decide | assumption | rfl | (dsimp only; first | omega)), (by (try dsimp only); exact (TXQ.num (by omega) (by rw [← h_4]; omega) (by rw [← h_4]; omega) (i29_4.symm.trans (tx_num_end (Or.inr (by rw [← h_20]; omega)))) (by omega)))⟩ hP hD (by decide +kernel) rfl hS rfl dX11_one_78
                · have h_22 : r_17 = tG c0 cc.toInt.toNat ce f29_kd.toInt := h_22
                  have h_22 : r_17 = tG c0 cc.toInt.toNat ce f29_kd.toInt := h_22
                  have h_23 : f29_kd.toInt = ce.toInt := h_23
                  obtain rfl : r_17 = (-1) := hr_17.trans (by decide +kernel)
                  refine lv_bipush (v := 48) hx hb dX11_one_38 (by decide +kernel) ?_
                  refine lv_bipush (v := 57) hx hb dX11_one_40 (by decide +kernel) ?_
                  refine kJi (wr := [(k, .inr (11, [.ref k0, .ref k1, .ref k2, .int c3, .ref k4, .ref k5, .ref k6, .ref k7, .ref k8, .int c9, .ref ka, .ref kb, .int cc, .int f29_kd, .int ce, .int cf, .int cg, .int ch, .int ci, .int cj, .int ck, .ref kl, .int cm, .int cn, .ref ko])), (k0, .inl (cI, 1201, .inl c0))]) (va_runS (As := [.int (-1), .int 48, .int 57]) (rest := []) ⟨hx, hb, hml, hown, hT⟩ (c_X11_inG l D cI aK aV H.size (-1) 48 57) (cwS 3 hT (gS_in mw_1238 mw_1236 mw_1237 mw_12) rfl rfl rfl (by decide +kernel) ⟨(by dsimp only; omega), (by dsimp only; omega)⟩) (kStatX hK hP hD hN hXS hS hA [] rfl (by decide +kernel)) rfl rfl hl.1 rfl (lv_room (Nat.le_of_ble_eq_true rfl)) dX11_one_42 ⟨Nat.le_of_ble_eq_true rfl, Nat.le_of_ble_eq_true rfl⟩) hP hD hS hA [] [0, 1] rfl rfl (by decide +kernel) (by decide +kernel) ?_
                  clear hP hD hS
                  intro r_45 u_47 H locs w_46 hP hD hS
                  replace hP : va_P D vwCl [(k, .inr (11, [.ref k0, .ref k1, .ref k2, .int c3, .ref k4, .ref k5, .ref k6, .ref k7, .ref k8, .int c9, .ref ka, .ref kb, .int cc, .int f29_kd, .int ce, .int cf, .int cg, .int ch, .int ci, .int cj, .int ck, .ref kl, .int cm, .int cn, .ref ko])), (k0, .inl (cI, 1201, .inl c0))] H := hP
                  replace hD : va_D A [(k, .inr (11, [.ref k0, .ref k1, .ref k2, .int c3, .ref k4, .ref k5, .ref k6, .ref k7, .ref k8, .int c9, .ref ka, .ref kb, .int cc, .int f29_kd, .int ce, .int cf, .int cg, .int ch, .int ci, .int cj, .int ck, .ref kl, .int cm, .int cn, .ref ko])), (k0, .inl (cI, 1201, .inl c0))] := hD
                  rcases w_46 with ⟨hr_45, h_48, h_49⟩ | ⟨hr_45, h_50⟩
                  · (try simp only [zl_m1, zl_48, zl_57] at h_48 h_49); exfalso; omega
                  · try simp only [zl_m1, zl_48, zl_57] at h_50
                    obtain rfl : r_45 = 0 := hr_45.trans (by decide +kernel)
                    refine b_if_eq hx hb zl_0 (tgt := 77) dX11_one_45 (by decide +kernel) (fun c_51 => ?_) (fun c_51 => by exfalso; omega)
                    refine lv_iload_n hx hb dX11_one_77 rfl (lv_at hl 1 rfl) ?_
                    exact hRet (f29_kd, cf, cg) [0, 1] ⟨(by first | omega | decide | assumption | rfl | (dsimp only; first | omega)), (by first | omega | decide | assumption | rfl | (dsimp only; first | omega)), (by first | omega | decide | assumption | rfl | (dsimp only; first | omega)), (by (try dsimp only); exact (TXQ.num (by omega) (by rw [← h_4]; omega) (by rw [← h_4]; omega) (i29_4.symm.trans (tx_num_end (Or.inr (by rw [← h_22]; omega)))) (by omega)))⟩ hP hD (by decide +kernel) rfl hS rfl dX11_one_78
        exact hloop_29 _ 0 0 cd (by first | omega | (simp only [zl_0]; first | done | omega) | decide | assumption | rfl) (by first | omega | (simp only [zl_0]; first | done | omega) | decide | assumption | rfl) (by first | omega | (simp only [zl_0]; first | done | omega) | decide | assumption | rfl) (by first | omega | (simp only [zl_0]; first | done | omega) | decide | assumption | rfl) (by rw [zl_0]; rfl) (Nat.lt_succ_self _) ls _ _ (lv_sub hl [0, 1, 2, 3] rfl) hP hD hS
      · try simp only [zl_48, zl_57] at h_14
        have h_14 : r_1.toInt < 48 ∨ 57 < r_1.toInt := h_14
        obtain rfl : r_9 = 0 := hr_9.trans (by decide +kernel)
        refine b_if_eq hx hb zl_0 (tgt := 79) dX11_one_22 (by decide +kernel) (fun c_52 => ?_) (fun c_52 => by exfalso; omega)
        refine lv_aload_n hx hb dX11_one_79 rfl (lv_at hl 1 rfl) ?_
        refine lv_iload_n hx hb dX11_one_80 rfl (lv_at hl 0 rfl) ?_
        refine kJi (wr := [(k0, .inl (cI, 1201, .inl c0))]) (va_runV (As := [.int r_1]) (rest := []) ⟨hx, hb, hml, hown, hT⟩ (c_X11_nameAtG l D cI aK aV k k0 k1 k2 k4 k5 k6 k7 k8 ka kb kl ko H.size c3 c9 cc cd ce cf cg ch ci cj ck cm cn r_1) (cwV 1 hT (gV_in mw_1343 mw_1340 mw_1342 mw_p4_10 mw_12) rfl rfl rfl (by decide +kernel) ⟨(by dsimp only; omega), (by dsimp only; omega)⟩) (kRecvX (q0 := 0) (ci := 11) hK hP hD hN hXS hS hA rfl rfl [0] rfl (by decide +kernel)) rfl rfl hl.1 rfl (lv_room (Nat.le_of_ble_eq_true rfl)) dX11_one_81 ⟨Nat.le_of_ble_eq_true rfl, Nat.le_of_ble_eq_true rfl⟩) hP hD hS hA [0] [1] rfl rfl (by decide +kernel) (by decide +kernel) ?_
        clear hP hD hS
        intro r_53 u_55 H locs w_54 hP hD hS
        replace hP : va_P D vwCl [(k0, .inl (cI, 1201, .inl c0)), (k, .inr (11, [.ref k0, .ref k1, .ref k2, .int c3, .ref k4, .ref k5, .ref k6, .ref k7, .ref k8, .int c9, .ref ka, .ref kb, .int cc, .int cd, .int ce, .int cf, .int cg, .int ch, .int ci, .int cj, .int ck, .ref kl, .int cm, .int cn, .ref ko]))] H := hP
        replace hD : va_D A [(k0, .inl (cI, 1201, .inl c0)), (k, .inr (11, [.ref k0, .ref k1, .ref k2, .int c3, .ref k4, .ref k5, .ref k6, .ref k7, .ref k8, .int c9, .ref ka, .ref kb, .int cc, .int cd, .int ce, .int cf, .int cg, .int ch, .int ci, .int cj, .int ck, .ref kl, .int cm, .int cn, .ref ko]))] := hD
        rcases w_54 with ⟨h_56, h_57, h_58, h_59⟩ | ⟨hr_53, h_60⟩
        · have h_56 : 0 ≤ r_53.toInt := h_56
          have h_57 : 97 ≤ r_1.toInt := h_57
          have h_58 : r_1.toInt ≤ 115 := h_58
          have h_59 : r_53.toInt = tx_nm ch r_1 := h_59
          have lo_r_53 := k_lo r_53
          have hi_r_53 := k_hi r_53
          refine lv_istore_n (lv' := [(2, .int r_53), (1, .int r_1), (0, .ref k)]) hx hb dX11_one_84 rfl hl (by decide +kernel) rfl ?_
          clear hl
          intro ls hl
          refine lv_iload_n hx hb dX11_one_85 rfl (lv_at hl 0 rfl) ?_
          refine b_if_lt hx hb rfl (tgt := 127) dX11_one_86 (by decide +kernel) (fun c_61 => by exfalso; omega) (fun c_61 => ?_)
          refine lv_aload_n hx hb dX11_one_89 rfl (lv_at hl 2 rfl) ?_
          refine lv_dup hx hb dX11_one_90 rfl ?_
          refine va_get (D := D) (ci := 11) (v := .int cd) (C := RX11) (T := TX11) (N := 25) hx hb hT giX11 hown hK hP 1 rfl rfl 13 (by decide +kernel) (hT (Cond.fieldLink RX11 138 "DesertWireModel" "here" "I") mw_1169) (fun _ h9 => h9) rfl dX11_one_91 ?_
          refine lv_iconst (v := 1) hx hb dX11_one_94 (by decide +kernel) ?_
          refine lv_iadd hx hb dX11_one_95 ?_
          refine lv_topi (fun v_62 ev_62 => ?_)
          have tv_62 : v_62.toInt = cd.toInt + 1 := by rw [ev_62]; exact k_addv rfl zl_1 (by omega) (by omega)
          refine va_put (D := D) (ci := 11) (v := .int v_62) (ty := .int) (C := RX11) (T := TX11) (N := 25) hx hb hT giX11 tyX11 tyX11_ok nmX11 hown hK hP hD hS 1 rfl rfl 13 (by decide +kernel) (hT (Cond.fieldLink RX11 138 "DesertWireModel" "here" "I") mw_1169) (fun _ h9 => h9) rfl (by decide +kernel) rfl rfl (Nat.le_of_ble_eq_true rfl) dX11_one_96 ?_
          clear hP hD hS
          intro H locs hP hD hS
          replace hP : va_P D vwCl [(k0, .inl (cI, 1201, .inl c0)), (k, .inr (11, [.ref k0, .ref k1, .ref k2, .int c3, .ref k4, .ref k5, .ref k6, .ref k7, .ref k8, .int c9, .ref ka, .ref kb, .int cc, .int v_62, .int ce, .int cf, .int cg, .int ch, .int ci, .int cj, .int ck, .ref kl, .int cm, .int cn, .ref ko]))] H := hP
          replace hD : va_D A [(k0, .inl (cI, 1201, .inl c0)), (k, .inr (11, [.ref k0, .ref k1, .ref k2, .int c3, .ref k4, .ref k5, .ref k6, .ref k7, .ref k8, .int c9, .ref ka, .ref kb, .int cc, .int v_62, .int ce, .int cf, .int cg, .int ch, .int ci, .int cj, .int ck, .ref kl, .int cm, .int cn, .ref ko]))] := hD
          refine lv_iload_n hx hb dX11_one_99 rfl (lv_at hl 0 rfl) ?_
          refine b_if_ne hx hb rfl (tgt := 110) dX11_one_100 (by decide +kernel) (fun c_63 => ?_) (fun c_63 => ?_)
          · refine lv_iload_n hx hb dX11_one_110 rfl (lv_at hl 0 rfl) ?_
            refine lv_iconst (v := 1) hx hb dX11_one_111 (by decide +kernel) ?_
            refine b_icmp_ne hx hb rfl zl_1 (tgt := 122) dX11_one_112 (by decide +kernel) (fun c_64 => ?_) (fun c_64 => ?_)
            · refine lv_aload_n hx hb dX11_one_122 rfl (lv_at hl 2 rfl) ?_
              refine va_get (D := D) (ci := 11) (v := .int ck) (C := RX11) (T := TX11) (N := 25) hx hb hT giX11 hown hK hP 1 rfl rfl 20 (by decide +kernel) (hT (Cond.fieldLink RX11 167 "DesertWireModel" "nameC" "I") mw_1176) (fun _ h9 => h9) rfl dX11_one_123 ?_
              exact hRet (v_62, cf, cg) [1, 0] ⟨(by first | omega | decide | assumption | rfl | (dsimp only; first | omega)), (by first | omega | decide | assumption | rfl | (dsimp only; first | omega)), (by first | omega | decide | assumption | rfl | (dsimp only; first | omega)), (by (try dsimp only); exact (by rw [tv_62]; exact TXQ.name (by omega) (by rw [← h_4]; omega) (by rw [← h_4]; exact ⟨by omega, by omega, by omega⟩) (by rw [← h_4]; exact Or.inr (Or.inr ⟨by omega, rfl⟩)) (by omega)))⟩ hP hD (by decide +kernel) rfl hS rfl dX11_one_126
            · refine lv_aload_n hx hb dX11_one_115 rfl (lv_at hl 2 rfl) ?_
              refine va_get (D := D) (ci := 11) (v := .int cj) (C := RX11) (T := TX11) (N := 25) hx hb hT giX11 hown hK hP 1 rfl rfl 19 (by decide +kernel) (hT (Cond.fieldLink RX11 164 "DesertWireModel" "nameB" "I") mw_1175) (fun _ h9 => h9) rfl dX11_one_116 ?_
              refine lv_goto (tgt := 126) hx hb dX11_one_119 (by decide +kernel) ?_
              exact hRet (v_62, cf, cg) [1, 0] ⟨(by first | omega | decide | assumption | rfl | (dsimp only; first | omega)), (by first | omega | decide | assumption | rfl | (dsimp only; first | omega)), (by first | omega | decide | assumption | rfl | (dsimp only; first | omega)), (by (try dsimp only); exact (by rw [tv_62]; exact TXQ.name (by omega) (by rw [← h_4]; omega) (by rw [← h_4]; exact ⟨by omega, by omega, by omega⟩) (by rw [← h_4]; exact Or.inr (Or.inl ⟨by omega, rfl⟩)) (by omega)))⟩ hP hD (by decide +kernel) rfl hS rfl dX11_one_126
          · refine lv_aload_n hx hb dX11_one_103 rfl (lv_at hl 2 rfl) ?_
            refine va_get (D := D) (ci := 11) (v := .int ci) (C := RX11) (T := TX11) (N := 25) hx hb hT giX11 hown hK hP 1 rfl rfl 18 (by decide +kernel) (hT (Cond.fieldLink RX11 161 "DesertWireModel" "nameA" "I") mw_1174) (fun _ h9 => h9) rfl dX11_one_104 ?_
            refine lv_goto (tgt := 126) hx hb dX11_one_107 (by decide +kernel) ?_
            exact hRet (v_62, cf, cg) [1, 0] ⟨(by first | omega | decide | assumption | rfl | (dsimp only; first | omega)), (by first | omega | decide | assumption | rfl | (dsimp only; first | omega)), (by first | omega | decide | assumption | rfl | (dsimp only; first | omega)), (by (try dsimp only); exact (by rw [tv_62]; exact TXQ.name (by omega) (by rw [← h_4]; omega) (by rw [← h_4]; exact ⟨by omega, by omega, by omega⟩) (by rw [← h_4]; exact Or.inl ⟨by omega, rfl⟩) (by omega)))⟩ hP hD (by decide +kernel) rfl hS rfl dX11_one_126
        · have h_60 : r_53.toInt = tx_nm ch r_1 := h_60
          obtain rfl : r_53 = (-1) := hr_53.trans (by decide +kernel)
          refine lv_istore_n (lv' := [(2, .int (-1)), (1, .int r_1), (0, .ref k)]) hx hb dX11_one_84 rfl hl (by decide +kernel) rfl ?_
          clear hl
          intro ls hl
          refine lv_iload_n hx hb dX11_one_85 rfl (lv_at hl 0 rfl) ?_
          refine b_if_lt hx hb zl_m1 (tgt := 127) dX11_one_86 (by decide +kernel) (fun c_65 => ?_) (fun c_65 => by exfalso; omega)
          refine lv_aload_n hx hb dX11_one_127 rfl (lv_at hl 2 rfl) ?_
          refine lv_iload_n hx hb dX11_one_128 rfl (lv_at hl 1 rfl) ?_
          refine lv_bipush (v := 45) hx hb dX11_one_129 (by decide +kernel) ?_
          refine b_icmp_eq hx hb rfl zl_45 (tgt := 146) dX11_one_131 (by decide +kernel) (fun c_66 => ?_) (fun c_66 => ?_)
          · refine lv_aload_n hx hb dX11_one_146 rfl (lv_at hl 2 rfl) ?_
            refine va_get (D := D) (ci := 11) (v := .int cg) (C := RX11) (T := TX11) (N := 25) hx hb hT giX11 hown hK hP 1 rfl rfl 16 (by decide +kernel) (hT (Cond.fieldLink RX11 170 "DesertWireModel" "open" "I") mw_1172) (fun _ h9 => h9) rfl dX11_one_147 ?_
            refine lv_iconst (v := 4) hx hb dX11_one_150 (by decide +kernel) ?_
            refine b_icmp_ge hx hb rfl zl_4 (tgt := 158) dX11_one_151 (by decide +kernel) (fun c_67 => ?_) (fun c_67 => ?_)
            · refine lv_iconst (v := 0) hx hb dX11_one_158 (by decide +kernel) ?_
              refine kJv (wr := [(k0, .inl (cI, 1201, .inl c0))]) (va_runV (As := [.int 0]) (rest := []) ⟨hx, hb, hml, hown, hT⟩ (c_X11_needsG0 l D cI aK aV k k0 k1 k2 k4 k5 k6 k7 k8 ka kb kl ko H.size c3 c9 cc cd ce cf cg ch ci cj ck cm cn 0 (by first | omega | (simp only [zl_0]; first | done | omega) | decide | assumption | rfl)) (cwV 1 hT (gV_in mw_1347 mw_1344 mw_1346 mw_p4_11 mw_12) rfl rfl rfl (by decide +kernel) ⟨(by dsimp only; omega), (by dsimp only; omega)⟩) (kRecvX (q0 := 1) (ci := 11) hK hP hD hN hXS hS hA rfl rfl [1] rfl (by decide +kernel)) rfl rfl hl.1 rfl (lv_room (Nat.le_of_ble_eq_true rfl)) dX11_one_159 ⟨Nat.le_of_ble_eq_true rfl, Nat.le_of_ble_eq_true rfl⟩) hP hD hS hA [1] [0] rfl rfl (by decide +kernel) (by decide +kernel) ?_
              clear hP hD hS
              intro scf_70 H locs w_69 hP hD hS
              replace hP : va_P D vwCl [(k0, .inl (cI, 1201, .inl c0)), (k, .inr (11, [.ref k0, .ref k1, .ref k2, .int c3, .ref k4, .ref k5, .ref k6, .ref k7, .ref k8, .int c9, .ref ka, .ref kb, .int cc, .int cd, .int ce, .int scf_70, .int cg, .int ch, .int ci, .int cj, .int ck, .ref kl, .int cm, .int cn, .ref ko]))] H := hP
              replace hD : va_D A [(k0, .inl (cI, 1201, .inl c0)), (k, .inr (11, [.ref k0, .ref k1, .ref k2, .int c3, .ref k4, .ref k5, .ref k6, .ref k7, .ref k8, .int c9, .ref ka, .ref kb, .int cc, .int cd, .int ce, .int scf_70, .int cg, .int ch, .int ci, .int cj, .int ck, .ref kl, .int cm, .int cn, .ref ko]))] := hD
              have lo_scf_70 := k_lo scf_70
              have hi_scf_70 := k_hi scf_70
              have h_71 := w_69
              try simp only [zl_0] at h_71
              have h_71 : scf_70.toInt = 1 := h_71
              refine lv_aload_n hx hb dX11_one_162 rfl (lv_at hl 2 rfl) ?_
              refine va_get (D := D) (ci := 11) (v := .int scf_70) (C := RX11) (T := TX11) (N := 25) hx hb hT giX11 hown hK hP 1 rfl rfl 15 (by decide +kernel) (hT (Cond.fieldLink RX11 148 "DesertWireModel" "isWrong" "Z") mw_1171) (fun _ h9 => h9) rfl dX11_one_163 ?_
              refine b_if_eq hx hb rfl (tgt := 171) dX11_one_166 (by decide +kernel) (fun c_72 => by exfalso; omega) (fun c_72 => ?_)
              refine lv_iconst (v := 0) hx hb dX11_one_169 (by decide +kernel) ?_
              exact hRet (cd, scf_70, cg) [1, 0] ⟨(by first | omega | (simp only [zl_0]; first | done | omega) | decide | assumption | rfl | (dsimp only; first | omega | (simp only [zl_0]; first | done | omega))), (by first | omega | (simp only [zl_0]; first | done | omega) | decide | assumption | rfl | (dsimp only; first | omega | (simp only [zl_0]; first | done | omega))), (by first | omega | (simp only [zl_0]; first | done | omega) | decide | assumption | rfl | (dsimp only; first | omega | (simp only [zl_0]; first | done | omega))), (by (try dsimp only); exact (TXQ.fail (by omega) (by rw [← h_4]; omega) (by rw [← h_4]; first | exact Or.inl ⟨by omega, by omega⟩ | exact Or.inr ⟨by omega, by omega, by omega, by omega⟩) (by omega)))⟩ hP hD (by decide +kernel) rfl hS rfl dX11_one_170
            · refine lv_iconst (v := 1) hx hb dX11_one_154 (by decide +kernel) ?_
              refine lv_goto (tgt := 159) hx hb dX11_one_155 (by decide +kernel) ?_
              refine kJv (wr := [(k0, .inl (cI, 1201, .inl c0))]) (va_runV (As := [.int 1]) (rest := []) ⟨hx, hb, hml, hown, hT⟩ (c_X11_needsG1 l D cI aK aV k k0 k1 k2 k4 k5 k6 k7 k8 ka kb kl ko H.size c3 c9 cc cd ce cf cg ch ci cj ck cm cn 1 (by first | omega | (simp only [zl_1]; first | done | omega) | decide | assumption | rfl)) (cwV 1 hT (gV_in mw_1347 mw_1344 mw_1346 mw_p4_11 mw_12) rfl rfl rfl (by decide +kernel) ⟨(by dsimp only; omega), (by dsimp only; omega)⟩) (kRecvX (q0 := 1) (ci := 11) hK hP hD hN hXS hS hA rfl rfl [1] rfl (by decide +kernel)) rfl rfl hl.1 rfl (lv_room (Nat.le_of_ble_eq_true rfl)) dX11_one_159 ⟨Nat.le_of_ble_eq_true rfl, Nat.le_of_ble_eq_true rfl⟩) hP hD hS hA [1] [0] rfl rfl (by decide +kernel) (by decide +kernel) ?_
              clear hP hD hS
              intro scf_75 H locs w_74 hP hD hS
              replace hP : va_P D vwCl [(k0, .inl (cI, 1201, .inl c0)), (k, .inr (11, [.ref k0, .ref k1, .ref k2, .int c3, .ref k4, .ref k5, .ref k6, .ref k7, .ref k8, .int c9, .ref ka, .ref kb, .int cc, .int cd, .int ce, .int scf_75, .int cg, .int ch, .int ci, .int cj, .int ck, .ref kl, .int cm, .int cn, .ref ko]))] H := hP
              replace hD : va_D A [(k0, .inl (cI, 1201, .inl c0)), (k, .inr (11, [.ref k0, .ref k1, .ref k2, .int c3, .ref k4, .ref k5, .ref k6, .ref k7, .ref k8, .int c9, .ref ka, .ref kb, .int cc, .int cd, .int ce, .int scf_75, .int cg, .int ch, .int ci, .int cj, .int ck, .ref kl, .int cm, .int cn, .ref ko]))] := hD
              have lo_scf_75 := k_lo scf_75
              have hi_scf_75 := k_hi scf_75
              rcases w_74 with ⟨h_76, h_77⟩ | ⟨h_78, h_79⟩
              · try simp only [zl_1] at h_76
                have h_76 : cf.toInt = 0 := h_76
                try simp only [zl_1] at h_77
                have h_77 : scf_75.toInt = 0 := h_77
                refine lv_aload_n hx hb dX11_one_162 rfl (lv_at hl 2 rfl) ?_
                refine va_get (D := D) (ci := 11) (v := .int scf_75) (C := RX11) (T := TX11) (N := 25) hx hb hT giX11 hown hK hP 1 rfl rfl 15 (by decide +kernel) (hT (Cond.fieldLink RX11 148 "DesertWireModel" "isWrong" "Z") mw_1171) (fun _ h9 => h9) rfl dX11_one_163 ?_
                refine b_if_eq hx hb rfl (tgt := 171) dX11_one_166 (by decide +kernel) (fun c_80 => ?_) (fun c_80 => by exfalso; omega)
                refine lv_aload_n hx hb dX11_one_171 rfl (lv_at hl 2 rfl) ?_
                refine lv_dup hx hb dX11_one_172 rfl ?_
                refine va_get (D := D) (ci := 11) (v := .int cd) (C := RX11) (T := TX11) (N := 25) hx hb hT giX11 hown hK hP 1 rfl rfl 13 (by decide +kernel) (hT (Cond.fieldLink RX11 138 "DesertWireModel" "here" "I") mw_1169) (fun _ h9 => h9) rfl dX11_one_173 ?_
                refine lv_iconst (v := 1) hx hb dX11_one_176 (by decide +kernel) ?_
                refine lv_iadd hx hb dX11_one_177 ?_
                refine lv_topi (fun v_81 ev_81 => ?_)
                have tv_81 : v_81.toInt = cd.toInt + 1 := by rw [ev_81]; exact k_addv rfl zl_1 (by omega) (by omega)
                refine va_put (D := D) (ci := 11) (v := .int v_81) (ty := .int) (C := RX11) (T := TX11) (N := 25) hx hb hT giX11 tyX11 tyX11_ok nmX11 hown hK hP hD hS 1 rfl rfl 13 (by decide +kernel) (hT (Cond.fieldLink RX11 138 "DesertWireModel" "here" "I") mw_1169) (fun _ h9 => h9) rfl (by decide +kernel) rfl rfl (Nat.le_of_ble_eq_true rfl) dX11_one_178 ?_
                clear hP hD hS
                intro H locs hP hD hS
                replace hP : va_P D vwCl [(k0, .inl (cI, 1201, .inl c0)), (k, .inr (11, [.ref k0, .ref k1, .ref k2, .int c3, .ref k4, .ref k5, .ref k6, .ref k7, .ref k8, .int c9, .ref ka, .ref kb, .int cc, .int v_81, .int ce, .int scf_75, .int cg, .int ch, .int ci, .int cj, .int ck, .ref kl, .int cm, .int cn, .ref ko]))] H := hP
                replace hD : va_D A [(k0, .inl (cI, 1201, .inl c0)), (k, .inr (11, [.ref k0, .ref k1, .ref k2, .int c3, .ref k4, .ref k5, .ref k6, .ref k7, .ref k8, .int c9, .ref ka, .ref kb, .int cc, .int v_81, .int ce, .int scf_75, .int cg, .int ch, .int ci, .int cj, .int ck, .ref kl, .int cm, .int cn, .ref ko]))] := hD
                refine lv_aload_n hx hb dX11_one_181 rfl (lv_at hl 2 rfl) ?_
                refine lv_dup hx hb dX11_one_182 rfl ?_
                refine va_get (D := D) (ci := 11) (v := .int cg) (C := RX11) (T := TX11) (N := 25) hx hb hT giX11 hown hK hP 1 rfl rfl 16 (by decide +kernel) (hT (Cond.fieldLink RX11 170 "DesertWireModel" "open" "I") mw_1172) (fun _ h9 => h9) rfl dX11_one_183 ?_
                refine lv_iconst (v := 1) hx hb dX11_one_186 (by decide +kernel) ?_
                refine lv_iadd hx hb dX11_one_187 ?_
                refine lv_topi (fun v_82 ev_82 => ?_)
                have tv_82 : v_82.toInt = cg.toInt + 1 := by rw [ev_82]; exact k_addv rfl zl_1 (by omega) (by omega)
                refine va_put (D := D) (ci := 11) (v := .int v_82) (ty := .int) (C := RX11) (T := TX11) (N := 25) hx hb hT giX11 tyX11 tyX11_ok nmX11 hown hK hP hD hS 1 rfl rfl 16 (by decide +kernel) (hT (Cond.fieldLink RX11 170 "DesertWireModel" "open" "I") mw_1172) (fun _ h9 => h9) rfl (by decide +kernel) rfl rfl (Nat.le_of_ble_eq_true rfl) dX11_one_188 ?_
                clear hP hD hS
                intro H locs hP hD hS
                replace hP : va_P D vwCl [(k0, .inl (cI, 1201, .inl c0)), (k, .inr (11, [.ref k0, .ref k1, .ref k2, .int c3, .ref k4, .ref k5, .ref k6, .ref k7, .ref k8, .int c9, .ref ka, .ref kb, .int cc, .int v_81, .int ce, .int scf_75, .int v_82, .int ch, .int ci, .int cj, .int ck, .ref kl, .int cm, .int cn, .ref ko]))] H := hP
                replace hD : va_D A [(k0, .inl (cI, 1201, .inl c0)), (k, .inr (11, [.ref k0, .ref k1, .ref k2, .int c3, .ref k4, .ref k5, .ref k6, .ref k7, .ref k8, .int c9, .ref ka, .ref kb, .int cc, .int v_81, .int ce, .int scf_75, .int v_82, .int ch, .int ci, .int cj, .int ck, .ref kl, .int cm, .int cn, .ref ko]))] := hD
                refine lv_iload_n hx hb dX11_one_191 rfl (lv_at hl 1 rfl) ?_
                refine lv_bipush (v := 40) hx hb dX11_one_192 (by decide +kernel) ?_
                refine b_icmp_ne hx hb rfl zl_40 (tgt := 204) dX11_one_194 (by decide +kernel) (fun c_83 => ?_) (fun c_83 => by exfalso; omega)
                refine lv_aload_n hx hb dX11_one_204 rfl (lv_at hl 2 rfl) ?_
                refine kJi (wr := []) (va_runV (As := []) (rest := []) ⟨hx, hb, hml, hown, hT⟩ (ih.1 l D cI aK aV k k0 k1 k2 k4 k5 k6 k7 k8 ka kb kl ko H.size c3 c9 cc v_81 ce scf_75 v_82 ch ci cj ck cm cn c0 (by first | omega | decide | assumption | rfl) (by first | omega | decide | assumption | rfl) (by first | omega | decide | assumption | rfl) (by first | omega | decide | assumption | rfl) (by first | omega | decide | assumption | rfl) (by first | omega | decide | assumption | rfl) (by first | omega | decide | assumption | rfl) (by first | omega | decide | assumption | rfl)) (cwV 0 hT (gV_in mw_1335 mw_1332 mw_1334 mw_p4_8 mw_12) rfl rfl rfl (by decide +kernel) ⟨(by dsimp only; omega), (by dsimp only; omega)⟩) (kRecvX (q0 := 1) (ci := 11) hK hP hD hN hXS hS hA rfl rfl [1, 0] rfl (by decide +kernel)) rfl rfl hl.1 rfl (lv_room (Nat.le_of_ble_eq_true rfl)) dX11_one_205 ⟨Nat.le_of_ble_eq_true rfl, Nat.le_of_ble_eq_true rfl⟩) hP hD hS hA [1, 0] [] rfl rfl (by decide +kernel) (by decide +kernel) ?_
                clear hP hD hS
                intro r_84 u_89 H locs w_85 hP hD hS
                obtain ⟨scd_86, scf_87, scg_88⟩ := u_89
                replace hP : va_P D vwCl [(k, .inr (11, [.ref k0, .ref k1, .ref k2, .int c3, .ref k4, .ref k5, .ref k6, .ref k7, .ref k8, .int c9, .ref ka, .ref kb, .int cc, .int scd_86, .int ce, .int scf_87, .int scg_88, .int ch, .int ci, .int cj, .int ck, .ref kl, .int cm, .int cn, .ref ko])), (k0, .inl (cI, 1201, .inl c0))] H := hP
                replace hD : va_D A [(k, .inr (11, [.ref k0, .ref k1, .ref k2, .int c3, .ref k4, .ref k5, .ref k6, .ref k7, .ref k8, .int c9, .ref ka, .ref kb, .int cc, .int scd_86, .int ce, .int scf_87, .int scg_88, .int ch, .int ci, .int cj, .int ck, .ref kl, .int cm, .int cn, .ref ko])), (k0, .inl (cI, 1201, .inl c0))] := hD
                have lo_scd_86 := k_lo scd_86
                have hi_scd_86 := k_hi scd_86
                have lo_scf_87 := k_lo scf_87
                have hi_scf_87 := k_hi scf_87
                have lo_scg_88 := k_lo scg_88
                have hi_scg_88 := k_hi scg_88
                obtain ⟨h_90, h_91, h_92, h_93⟩ := w_85
                have h_90 : v_81.toInt ≤ scd_86.toInt := h_90
                have h_91 : scd_86.toInt ≤ ce.toInt := h_91
                have h_92 : scg_88.toInt = v_82.toInt := h_92
                have h_93 : TXQ (tG c0 cc.toInt.toNat ce) ch ci cj ck 5 v_82.toInt scf_75 0 v_81.toInt r_84 scd_86.toInt scf_87 := h_93
                have h_93 : TXQ (tG c0 cc.toInt.toNat ce) ch ci cj ck 5 v_82.toInt scf_75 0 v_81.toInt r_84 scd_86.toInt scf_87 := h_93
                have hq_94 : TXQ (tG c0 cc.toInt.toNat ce) ch ci cj ck 5 (cg.toInt + 1) scf_75 0 (cd.toInt + 1) r_84 scd_86.toInt scf_87 := by rw [← tv_82, ← tv_81]; exact h_93
                have lo_r_84 := k_lo r_84
                have hi_r_84 := k_hi r_84
                refine lv_istore_n (lv' := [(3, .int r_84), (2, .int (-1)), (1, .int r_1), (0, .ref k)]) hx hb dX11_one_208 rfl hl (by decide +kernel) rfl ?_
                clear hl
                intro ls hl
                refine lv_aload_n hx hb dX11_one_209 rfl (lv_at hl 3 rfl) ?_
                refine lv_iload_n hx hb dX11_one_210 rfl (lv_at hl 2 rfl) ?_
                refine lv_bipush (v := 40) hx hb dX11_one_211 (by decide +kernel) ?_
                refine b_icmp_ne hx hb rfl zl_40 (tgt := 225) dX11_one_213 (by decide +kernel) (fun c_95 => ?_) (fun c_95 => by exfalso; omega)
                refine lv_iconst (v := 1) hx hb dX11_one_225 (by decide +kernel) ?_
                refine lv_goto (tgt := 230) hx hb dX11_one_226 (by decide +kernel) ?_
                refine kJv (wr := [(k0, .inl (cI, 1201, .inl c0))]) (va_runV (As := [.int 1]) (rest := []) ⟨hx, hb, hml, hown, hT⟩ (c_X11_needsG1 l D cI aK aV k k0 k1 k2 k4 k5 k6 k7 k8 ka kb kl ko H.size c3 c9 cc scd_86 ce scf_87 scg_88 ch ci cj ck cm cn 1 (by first | omega | (simp only [zl_1]; first | done | omega) | decide | assumption | rfl)) (cwV 1 hT (gV_in mw_1347 mw_1344 mw_1346 mw_p4_11 mw_12) rfl rfl rfl (by decide +kernel) ⟨(by dsimp only; omega), (by dsimp only; omega)⟩) (kRecvX (q0 := 0) (ci := 11) hK hP hD hN hXS hS hA rfl rfl [0] rfl (by decide +kernel)) rfl rfl hl.1 rfl (lv_room (Nat.le_of_ble_eq_true rfl)) dX11_one_230 ⟨Nat.le_of_ble_eq_true rfl, Nat.le_of_ble_eq_true rfl⟩) hP hD hS hA [0] [1] rfl rfl (by decide +kernel) (by decide +kernel) ?_
                clear hP hD hS
                intro scf_98 H locs w_97 hP hD hS
                replace hP : va_P D vwCl [(k0, .inl (cI, 1201, .inl c0)), (k, .inr (11, [.ref k0, .ref k1, .ref k2, .int c3, .ref k4, .ref k5, .ref k6, .ref k7, .ref k8, .int c9, .ref ka, .ref kb, .int cc, .int scd_86, .int ce, .int scf_98, .int scg_88, .int ch, .int ci, .int cj, .int ck, .ref kl, .int cm, .int cn, .ref ko]))] H := hP
                replace hD : va_D A [(k0, .inl (cI, 1201, .inl c0)), (k, .inr (11, [.ref k0, .ref k1, .ref k2, .int c3, .ref k4, .ref k5, .ref k6, .ref k7, .ref k8, .int c9, .ref ka, .ref kb, .int cc, .int scd_86, .int ce, .int scf_98, .int scg_88, .int ch, .int ci, .int cj, .int ck, .ref kl, .int cm, .int cn, .ref ko]))] := hD
                have lo_scf_98 := k_lo scf_98
                have hi_scf_98 := k_hi scf_98
                rcases w_97 with ⟨h_99, h_100⟩ | ⟨h_101, h_102⟩
                · try simp only [zl_1] at h_99
                  have h_99 : scf_87.toInt = 0 := h_99
                  try simp only [zl_1] at h_100
                  have h_100 : scf_98.toInt = 0 := h_100
                  refine lv_aload_n hx hb dX11_one_233 rfl (lv_at hl 3 rfl) ?_
                  refine lv_dup hx hb dX11_one_234 rfl ?_
                  refine va_get (D := D) (ci := 11) (v := .int scg_88) (C := RX11) (T := TX11) (N := 25) hx hb hT giX11 hown hK hP 1 rfl rfl 16 (by decide +kernel) (hT (Cond.fieldLink RX11 170 "DesertWireModel" "open" "I") mw_1172) (fun _ h9 => h9) rfl dX11_one_235 ?_
                  refine lv_iconst (v := 1) hx hb dX11_one_238 (by decide +kernel) ?_
                  refine lv_isub hx hb dX11_one_239 ?_
                  refine lv_topi (fun v_103 ev_103 => ?_)
                  have tv_103 : v_103.toInt = scg_88.toInt - 1 := by rw [ev_103]; exact k_subv rfl zl_1 (by omega) (by omega)
                  refine va_put (D := D) (ci := 11) (v := .int v_103) (ty := .int) (C := RX11) (T := TX11) (N := 25) hx hb hT giX11 tyX11 tyX11_ok nmX11 hown hK hP hD hS 1 rfl rfl 16 (by decide +kernel) (hT (Cond.fieldLink RX11 170 "DesertWireModel" "open" "I") mw_1172) (fun _ h9 => h9) rfl (by decide +kernel) rfl rfl (Nat.le_of_ble_eq_true rfl) dX11_one_240 ?_
                  clear hP hD hS
                  intro H locs hP hD hS
                  replace hP : va_P D vwCl [(k0, .inl (cI, 1201, .inl c0)), (k, .inr (11, [.ref k0, .ref k1, .ref k2, .int c3, .ref k4, .ref k5, .ref k6, .ref k7, .ref k8, .int c9, .ref ka, .ref kb, .int cc, .int scd_86, .int ce, .int scf_98, .int v_103, .int ch, .int ci, .int cj, .int ck, .ref kl, .int cm, .int cn, .ref ko]))] H := hP
                  replace hD : va_D A [(k0, .inl (cI, 1201, .inl c0)), (k, .inr (11, [.ref k0, .ref k1, .ref k2, .int c3, .ref k4, .ref k5, .ref k6, .ref k7, .ref k8, .int c9, .ref ka, .ref kb, .int cc, .int scd_86, .int ce, .int scf_98, .int v_103, .int ch, .int ci, .int cj, .int ck, .ref kl, .int cm, .int cn, .ref ko]))] := hD
                  refine lv_iload_n hx hb dX11_one_243 rfl (lv_at hl 2 rfl) ?_
                  refine lv_bipush (v := 45) hx hb dX11_one_244 (by decide +kernel) ?_
                  refine b_icmp_ne hx hb rfl zl_45 (tgt := 254) dX11_one_246 (by decide +kernel) (fun c_104 => by exfalso; omega) (fun c_104 => ?_)
                  refine lv_iload_n hx hb dX11_one_249 rfl (lv_at hl 0 rfl) ?_
                  refine lv_ineg hx hb dX11_one_250 ?_
                  refine lv_topi (fun v_105 ev_105 => ?_)
                  have lo_v_105 := k_lo v_105
                  have hi_v_105 := k_hi v_105
                  refine lv_goto (tgt := 273) hx hb dX11_one_251 (by decide +kernel) ?_
                  exact hRet (scd_86, scf_98, v_103) [1, 0] ⟨(by first | omega | decide | assumption | rfl | (dsimp only; first | omega)), (by first | omega | decide | assumption | rfl | (dsimp only; first | omega)), (by first | omega | decide | assumption | rfl | (dsimp only; first | omega)), (by (try dsimp only); exact (TXQ.cv (TXQ.un (b0 := cf) (bz := scf_75) (w := r_84) (b := scf_87) (by omega) (by omega) (by omega) (by rw [← h_4]; omega) hq_94 (fun hb0 => by first | (exfalso; omega) | (rw [← h_4]; (repeat (first | rw [if_pos (by omega)] | rw [if_neg (by omega)])); first | done | exact ev_105))) rfl rfl (by omega) Iff.rfl (by omega)))⟩ hP hD (by decide +kernel) rfl hS rfl dX11_one_273
                · try simp only [zl_1] at h_101
                  have h_101 : scf_87.toInt ≠ 0 := h_101
                  try simp only [zl_1] at h_102
                  have h_102 : scf_98.toInt = 1 := h_102
                  refine lv_aload_n hx hb dX11_one_233 rfl (lv_at hl 3 rfl) ?_
                  refine lv_dup hx hb dX11_one_234 rfl ?_
                  refine va_get (D := D) (ci := 11) (v := .int scg_88) (C := RX11) (T := TX11) (N := 25) hx hb hT giX11 hown hK hP 1 rfl rfl 16 (by decide +kernel) (hT (Cond.fieldLink RX11 170 "DesertWireModel" "open" "I") mw_1172) (fun _ h9 => h9) rfl dX11_one_235 ?_
                  refine lv_iconst (v := 1) hx hb dX11_one_238 (by decide +kernel) ?_
                  refine lv_isub hx hb dX11_one_239 ?_
                  refine lv_topi (fun v_106 ev_106 => ?_)
                  have tv_106 : v_106.toInt = scg_88.toInt - 1 := by rw [ev_106]; exact k_subv rfl zl_1 (by omega) (by omega)
                  refine va_put (D := D) (ci := 11) (v := .int v_106) (ty := .int) (C := RX11) (T := TX11) (N := 25) hx hb hT giX11 tyX11 tyX11_ok nmX11 hown hK hP hD hS 1 rfl rfl 16 (by decide +kernel) (hT (Cond.fieldLink RX11 170 "DesertWireModel" "open" "I") mw_1172) (fun _ h9 => h9) rfl (by decide +kernel) rfl rfl (Nat.le_of_ble_eq_true rfl) dX11_one_240 ?_
                  clear hP hD hS
                  intro H locs hP hD hS
                  replace hP : va_P D vwCl [(k0, .inl (cI, 1201, .inl c0)), (k, .inr (11, [.ref k0, .ref k1, .ref k2, .int c3, .ref k4, .ref k5, .ref k6, .ref k7, .ref k8, .int c9, .ref ka, .ref kb, .int cc, .int scd_86, .int ce, .int scf_98, .int v_106, .int ch, .int ci, .int cj, .int ck, .ref kl, .int cm, .int cn, .ref ko]))] H := hP
                  replace hD : va_D A [(k0, .inl (cI, 1201, .inl c0)), (k, .inr (11, [.ref k0, .ref k1, .ref k2, .int c3, .ref k4, .ref k5, .ref k6, .ref k7, .ref k8, .int c9, .ref ka, .ref kb, .int cc, .int scd_86, .int ce, .int scf_98, .int v_106, .int ch, .int ci, .int cj, .int ck, .ref kl, .int cm, .int cn, .ref ko]))] := hD
                  refine lv_iload_n hx hb dX11_one_243 rfl (lv_at hl 2 rfl) ?_
                  refine lv_bipush (v := 45) hx hb dX11_one_244 (by decide +kernel) ?_
                  refine b_icmp_ne hx hb rfl zl_45 (tgt := 254) dX11_one_246 (by decide +kernel) (fun c_107 => by exfalso; omega) (fun c_107 => ?_)
                  refine lv_iload_n hx hb dX11_one_249 rfl (lv_at hl 0 rfl) ?_
                  refine lv_ineg hx hb dX11_one_250 ?_
                  refine lv_topi (fun v_108 ev_108 => ?_)
                  have lo_v_108 := k_lo v_108
                  have hi_v_108 := k_hi v_108
                  refine lv_goto (tgt := 273) hx hb dX11_one_251 (by decide +kernel) ?_
                  exact hRet (scd_86, scf_98, v_106) [1, 0] ⟨(by first | omega | decide | assumption | rfl | (dsimp only; first | omega)), (by first | omega | decide | assumption | rfl | (dsimp only; first | omega)), (by first | omega | decide | assumption | rfl | (dsimp only; first | omega)), (by (try dsimp only); exact (TXQ.cv (TXQ.un (b0 := cf) (bz := scf_75) (w := r_84) (b := scf_87) (by omega) (by omega) (by omega) (by rw [← h_4]; omega) hq_94 (fun hb0 => by first | (exfalso; omega) | (rw [← h_4]; (repeat (first | rw [if_pos (by omega)] | rw [if_neg (by omega)])); first | done | exact ev_108))) rfl rfl (by omega) Iff.rfl (by omega)))⟩ hP hD (by decide +kernel) rfl hS rfl dX11_one_273
              · (try simp only [zl_1] at h_78 h_79); exfalso; omega
          · refine lv_iload_n hx hb dX11_one_134 rfl (lv_at hl 1 rfl) ?_
            refine lv_bipush (v := 33) hx hb dX11_one_135 (by decide +kernel) ?_
            refine b_icmp_eq hx hb rfl zl_33 (tgt := 146) dX11_one_137 (by decide +kernel) (fun c_109 => ?_) (fun c_109 => ?_)
            · refine lv_aload_n hx hb dX11_one_146 rfl (lv_at hl 2 rfl) ?_
              refine va_get (D := D) (ci := 11) (v := .int cg) (C := RX11) (T := TX11) (N := 25) hx hb hT giX11 hown hK hP 1 rfl rfl 16 (by decide +kernel) (hT (Cond.fieldLink RX11 170 "DesertWireModel" "open" "I") mw_1172) (fun _ h9 => h9) rfl dX11_one_147 ?_
              refine lv_iconst (v := 4) hx hb dX11_one_150 (by decide +kernel) ?_
              refine b_icmp_ge hx hb rfl zl_4 (tgt := 158) dX11_one_151 (by decide +kernel) (fun c_110 => ?_) (fun c_110 => ?_)
              · refine lv_iconst (v := 0) hx hb dX11_one_158 (by decide +kernel) ?_
                refine kJv (wr := [(k0, .inl (cI, 1201, .inl c0))]) (va_runV (As := [.int 0]) (rest := []) ⟨hx, hb, hml, hown, hT⟩ (c_X11_needsG0 l D cI aK aV k k0 k1 k2 k4 k5 k6 k7 k8 ka kb kl ko H.size c3 c9 cc cd ce cf cg ch ci cj ck cm cn 0 (by first | omega | (simp only [zl_0]; first | done | omega) | decide | assumption | rfl)) (cwV 1 hT (gV_in mw_1347 mw_1344 mw_1346 mw_p4_11 mw_12) rfl rfl rfl (by decide +kernel) ⟨(by dsimp only; omega), (by dsimp only; omega)⟩) (kRecvX (q0 := 1) (ci := 11) hK hP hD hN hXS hS hA rfl rfl [1] rfl (by decide +kernel)) rfl rfl hl.1 rfl (lv_room (Nat.le_of_ble_eq_true rfl)) dX11_one_159 ⟨Nat.le_of_ble_eq_true rfl, Nat.le_of_ble_eq_true rfl⟩) hP hD hS hA [1] [0] rfl rfl (by decide +kernel) (by decide +kernel) ?_
                clear hP hD hS
                intro scf_113 H locs w_112 hP hD hS
                replace hP : va_P D vwCl [(k0, .inl (cI, 1201, .inl c0)), (k, .inr (11, [.ref k0, .ref k1, .ref k2, .int c3, .ref k4, .ref k5, .ref k6, .ref k7, .ref k8, .int c9, .ref ka, .ref kb, .int cc, .int cd, .int ce, .int scf_113, .int cg, .int ch, .int ci, .int cj, .int ck, .ref kl, .int cm, .int cn, .ref ko]))] H := hP
                replace hD : va_D A [(k0, .inl (cI, 1201, .inl c0)), (k, .inr (11, [.ref k0, .ref k1, .ref k2, .int c3, .ref k4, .ref k5, .ref k6, .ref k7, .ref k8, .int c9, .ref ka, .ref kb, .int cc, .int cd, .int ce, .int scf_113, .int cg, .int ch, .int ci, .int cj, .int ck, .ref kl, .int cm, .int cn, .ref ko]))] := hD
                have lo_scf_113 := k_lo scf_113
                have hi_scf_113 := k_hi scf_113
                have h_114 := w_112
                try simp only [zl_0] at h_114
                have h_114 : scf_113.toInt = 1 := h_114
                refine lv_aload_n hx hb dX11_one_162 rfl (lv_at hl 2 rfl) ?_
                refine va_get (D := D) (ci := 11) (v := .int scf_113) (C := RX11) (T := TX11) (N := 25) hx hb hT giX11 hown hK hP 1 rfl rfl 15 (by decide +kernel) (hT (Cond.fieldLink RX11 148 "DesertWireModel" "isWrong" "Z") mw_1171) (fun _ h9 => h9) rfl dX11_one_163 ?_
                refine b_if_eq hx hb rfl (tgt := 171) dX11_one_166 (by decide +kernel) (fun c_115 => by exfalso; omega) (fun c_115 => ?_)
                refine lv_iconst (v := 0) hx hb dX11_one_169 (by decide +kernel) ?_
                exact hRet (cd, scf_113, cg) [1, 0] ⟨(by first | omega | (simp only [zl_0]; first | done | omega) | decide | assumption | rfl | (dsimp only; first | omega | (simp only [zl_0]; first | done | omega))), (by first | omega | (simp only [zl_0]; first | done | omega) | decide | assumption | rfl | (dsimp only; first | omega | (simp only [zl_0]; first | done | omega))), (by first | omega | (simp only [zl_0]; first | done | omega) | decide | assumption | rfl | (dsimp only; first | omega | (simp only [zl_0]; first | done | omega))), (by (try dsimp only); exact (TXQ.fail (by omega) (by rw [← h_4]; omega) (by rw [← h_4]; first | exact Or.inl ⟨by omega, by omega⟩ | exact Or.inr ⟨by omega, by omega, by omega, by omega⟩) (by omega)))⟩ hP hD (by decide +kernel) rfl hS rfl dX11_one_170
              · refine lv_iconst (v := 1) hx hb dX11_one_154 (by decide +kernel) ?_
                refine lv_goto (tgt := 159) hx hb dX11_one_155 (by decide +kernel) ?_
                refine kJv (wr := [(k0, .inl (cI, 1201, .inl c0))]) (va_runV (As := [.int 1]) (rest := []) ⟨hx, hb, hml, hown, hT⟩ (c_X11_needsG1 l D cI aK aV k k0 k1 k2 k4 k5 k6 k7 k8 ka kb kl ko H.size c3 c9 cc cd ce cf cg ch ci cj ck cm cn 1 (by first | omega | (simp only [zl_1]; first | done | omega) | decide | assumption | rfl)) (cwV 1 hT (gV_in mw_1347 mw_1344 mw_1346 mw_p4_11 mw_12) rfl rfl rfl (by decide +kernel) ⟨(by dsimp only; omega), (by dsimp only; omega)⟩) (kRecvX (q0 := 1) (ci := 11) hK hP hD hN hXS hS hA rfl rfl [1] rfl (by decide +kernel)) rfl rfl hl.1 rfl (lv_room (Nat.le_of_ble_eq_true rfl)) dX11_one_159 ⟨Nat.le_of_ble_eq_true rfl, Nat.le_of_ble_eq_true rfl⟩) hP hD hS hA [1] [0] rfl rfl (by decide +kernel) (by decide +kernel) ?_
                clear hP hD hS
                intro scf_118 H locs w_117 hP hD hS
                replace hP : va_P D vwCl [(k0, .inl (cI, 1201, .inl c0)), (k, .inr (11, [.ref k0, .ref k1, .ref k2, .int c3, .ref k4, .ref k5, .ref k6, .ref k7, .ref k8, .int c9, .ref ka, .ref kb, .int cc, .int cd, .int ce, .int scf_118, .int cg, .int ch, .int ci, .int cj, .int ck, .ref kl, .int cm, .int cn, .ref ko]))] H := hP
                replace hD : va_D A [(k0, .inl (cI, 1201, .inl c0)), (k, .inr (11, [.ref k0, .ref k1, .ref k2, .int c3, .ref k4, .ref k5, .ref k6, .ref k7, .ref k8, .int c9, .ref ka, .ref kb, .int cc, .int cd, .int ce, .int scf_118, .int cg, .int ch, .int ci, .int cj, .int ck, .ref kl, .int cm, .int cn, .ref ko]))] := hD
                have lo_scf_118 := k_lo scf_118
                have hi_scf_118 := k_hi scf_118
                rcases w_117 with ⟨h_119, h_120⟩ | ⟨h_121, h_122⟩
                · try simp only [zl_1] at h_119
                  have h_119 : cf.toInt = 0 := h_119
                  try simp only [zl_1] at h_120
                  have h_120 : scf_118.toInt = 0 := h_120
                  refine lv_aload_n hx hb dX11_one_162 rfl (lv_at hl 2 rfl) ?_
                  refine va_get (D := D) (ci := 11) (v := .int scf_118) (C := RX11) (T := TX11) (N := 25) hx hb hT giX11 hown hK hP 1 rfl rfl 15 (by decide +kernel) (hT (Cond.fieldLink RX11 148 "DesertWireModel" "isWrong" "Z") mw_1171) (fun _ h9 => h9) rfl dX11_one_163 ?_
                  refine b_if_eq hx hb rfl (tgt := 171) dX11_one_166 (by decide +kernel) (fun c_123 => ?_) (fun c_123 => by exfalso; omega)
                  refine lv_aload_n hx hb dX11_one_171 rfl (lv_at hl 2 rfl) ?_
                  refine lv_dup hx hb dX11_one_172 rfl ?_
                  refine va_get (D := D) (ci := 11) (v := .int cd) (C := RX11) (T := TX11) (N := 25) hx hb hT giX11 hown hK hP 1 rfl rfl 13 (by decide +kernel) (hT (Cond.fieldLink RX11 138 "DesertWireModel" "here" "I") mw_1169) (fun _ h9 => h9) rfl dX11_one_173 ?_
                  refine lv_iconst (v := 1) hx hb dX11_one_176 (by decide +kernel) ?_
                  refine lv_iadd hx hb dX11_one_177 ?_
                  refine lv_topi (fun v_124 ev_124 => ?_)
                  have tv_124 : v_124.toInt = cd.toInt + 1 := by rw [ev_124]; exact k_addv rfl zl_1 (by omega) (by omega)
                  refine va_put (D := D) (ci := 11) (v := .int v_124) (ty := .int) (C := RX11) (T := TX11) (N := 25) hx hb hT giX11 tyX11 tyX11_ok nmX11 hown hK hP hD hS 1 rfl rfl 13 (by decide +kernel) (hT (Cond.fieldLink RX11 138 "DesertWireModel" "here" "I") mw_1169) (fun _ h9 => h9) rfl (by decide +kernel) rfl rfl (Nat.le_of_ble_eq_true rfl) dX11_one_178 ?_
                  clear hP hD hS
                  intro H locs hP hD hS
                  replace hP : va_P D vwCl [(k0, .inl (cI, 1201, .inl c0)), (k, .inr (11, [.ref k0, .ref k1, .ref k2, .int c3, .ref k4, .ref k5, .ref k6, .ref k7, .ref k8, .int c9, .ref ka, .ref kb, .int cc, .int v_124, .int ce, .int scf_118, .int cg, .int ch, .int ci, .int cj, .int ck, .ref kl, .int cm, .int cn, .ref ko]))] H := hP
                  replace hD : va_D A [(k0, .inl (cI, 1201, .inl c0)), (k, .inr (11, [.ref k0, .ref k1, .ref k2, .int c3, .ref k4, .ref k5, .ref k6, .ref k7, .ref k8, .int c9, .ref ka, .ref kb, .int cc, .int v_124, .int ce, .int scf_118, .int cg, .int ch, .int ci, .int cj, .int ck, .ref kl, .int cm, .int cn, .ref ko]))] := hD
                  refine lv_aload_n hx hb dX11_one_181 rfl (lv_at hl 2 rfl) ?_
                  refine lv_dup hx hb dX11_one_182 rfl ?_
                  refine va_get (D := D) (ci := 11) (v := .int cg) (C := RX11) (T := TX11) (N := 25) hx hb hT giX11 hown hK hP 1 rfl rfl 16 (by decide +kernel) (hT (Cond.fieldLink RX11 170 "DesertWireModel" "open" "I") mw_1172) (fun _ h9 => h9) rfl dX11_one_183 ?_
                  refine lv_iconst (v := 1) hx hb dX11_one_186 (by decide +kernel) ?_
                  refine lv_iadd hx hb dX11_one_187 ?_
                  refine lv_topi (fun v_125 ev_125 => ?_)
                  have tv_125 : v_125.toInt = cg.toInt + 1 := by rw [ev_125]; exact k_addv rfl zl_1 (by omega) (by omega)
                  refine va_put (D := D) (ci := 11) (v := .int v_125) (ty := .int) (C := RX11) (T := TX11) (N := 25) hx hb hT giX11 tyX11 tyX11_ok nmX11 hown hK hP hD hS 1 rfl rfl 16 (by decide +kernel) (hT (Cond.fieldLink RX11 170 "DesertWireModel" "open" "I") mw_1172) (fun _ h9 => h9) rfl (by decide +kernel) rfl rfl (Nat.le_of_ble_eq_true rfl) dX11_one_188 ?_
                  clear hP hD hS
                  intro H locs hP hD hS
                  replace hP : va_P D vwCl [(k0, .inl (cI, 1201, .inl c0)), (k, .inr (11, [.ref k0, .ref k1, .ref k2, .int c3, .ref k4, .ref k5, .ref k6, .ref k7, .ref k8, .int c9, .ref ka, .ref kb, .int cc, .int v_124, .int ce, .int scf_118, .int v_125, .int ch, .int ci, .int cj, .int ck, .ref kl, .int cm, .int cn, .ref ko]))] H := hP
                  replace hD : va_D A [(k0, .inl (cI, 1201, .inl c0)), (k, .inr (11, [.ref k0, .ref k1, .ref k2, .int c3, .ref k4, .ref k5, .ref k6, .ref k7, .ref k8, .int c9, .ref ka, .ref kb, .int cc, .int v_124, .int ce, .int scf_118, .int v_125, .int ch, .int ci, .int cj, .int ck, .ref kl, .int cm, .int cn, .ref ko]))] := hD
                  refine lv_iload_n hx hb dX11_one_191 rfl (lv_at hl 1 rfl) ?_
                  refine lv_bipush (v := 40) hx hb dX11_one_192 (by decide +kernel) ?_
                  refine b_icmp_ne hx hb rfl zl_40 (tgt := 204) dX11_one_194 (by decide +kernel) (fun c_126 => ?_) (fun c_126 => by exfalso; omega)
                  refine lv_aload_n hx hb dX11_one_204 rfl (lv_at hl 2 rfl) ?_
                  refine kJi (wr := []) (va_runV (As := []) (rest := []) ⟨hx, hb, hml, hown, hT⟩ (ih.1 l D cI aK aV k k0 k1 k2 k4 k5 k6 k7 k8 ka kb kl ko H.size c3 c9 cc v_124 ce scf_118 v_125 ch ci cj ck cm cn c0 (by first | omega | decide | assumption | rfl) (by first | omega | decide | assumption | rfl) (by first | omega | decide | assumption | rfl) (by first | omega | decide | assumption | rfl) (by first | omega | decide | assumption | rfl) (by first | omega | decide | assumption | rfl) (by first | omega | decide | assumption | rfl) (by first | omega | decide | assumption | rfl)) (cwV 0 hT (gV_in mw_1335 mw_1332 mw_1334 mw_p4_8 mw_12) rfl rfl rfl (by decide +kernel) ⟨(by dsimp only; omega), (by dsimp only; omega)⟩) (kRecvX (q0 := 1) (ci := 11) hK hP hD hN hXS hS hA rfl rfl [1, 0] rfl (by decide +kernel)) rfl rfl hl.1 rfl (lv_room (Nat.le_of_ble_eq_true rfl)) dX11_one_205 ⟨Nat.le_of_ble_eq_true rfl, Nat.le_of_ble_eq_true rfl⟩) hP hD hS hA [1, 0] [] rfl rfl (by decide +kernel) (by decide +kernel) ?_
                  clear hP hD hS
                  intro r_127 u_132 H locs w_128 hP hD hS
                  obtain ⟨scd_129, scf_130, scg_131⟩ := u_132
                  replace hP : va_P D vwCl [(k, .inr (11, [.ref k0, .ref k1, .ref k2, .int c3, .ref k4, .ref k5, .ref k6, .ref k7, .ref k8, .int c9, .ref ka, .ref kb, .int cc, .int scd_129, .int ce, .int scf_130, .int scg_131, .int ch, .int ci, .int cj, .int ck, .ref kl, .int cm, .int cn, .ref ko])), (k0, .inl (cI, 1201, .inl c0))] H := hP
                  replace hD : va_D A [(k, .inr (11, [.ref k0, .ref k1, .ref k2, .int c3, .ref k4, .ref k5, .ref k6, .ref k7, .ref k8, .int c9, .ref ka, .ref kb, .int cc, .int scd_129, .int ce, .int scf_130, .int scg_131, .int ch, .int ci, .int cj, .int ck, .ref kl, .int cm, .int cn, .ref ko])), (k0, .inl (cI, 1201, .inl c0))] := hD
                  have lo_scd_129 := k_lo scd_129
                  have hi_scd_129 := k_hi scd_129
                  have lo_scf_130 := k_lo scf_130
                  have hi_scf_130 := k_hi scf_130
                  have lo_scg_131 := k_lo scg_131
                  have hi_scg_131 := k_hi scg_131
                  obtain ⟨h_133, h_134, h_135, h_136⟩ := w_128
                  have h_133 : v_124.toInt ≤ scd_129.toInt := h_133
                  have h_134 : scd_129.toInt ≤ ce.toInt := h_134
                  have h_135 : scg_131.toInt = v_125.toInt := h_135
                  have h_136 : TXQ (tG c0 cc.toInt.toNat ce) ch ci cj ck 5 v_125.toInt scf_118 0 v_124.toInt r_127 scd_129.toInt scf_130 := h_136
                  have h_136 : TXQ (tG c0 cc.toInt.toNat ce) ch ci cj ck 5 v_125.toInt scf_118 0 v_124.toInt r_127 scd_129.toInt scf_130 := h_136
                  have hq_137 : TXQ (tG c0 cc.toInt.toNat ce) ch ci cj ck 5 (cg.toInt + 1) scf_118 0 (cd.toInt + 1) r_127 scd_129.toInt scf_130 := by rw [← tv_125, ← tv_124]; exact h_136
                  have lo_r_127 := k_lo r_127
                  have hi_r_127 := k_hi r_127
                  refine lv_istore_n (lv' := [(3, .int r_127), (2, .int (-1)), (1, .int r_1), (0, .ref k)]) hx hb dX11_one_208 rfl hl (by decide +kernel) rfl ?_
                  clear hl
                  intro ls hl
                  refine lv_aload_n hx hb dX11_one_209 rfl (lv_at hl 3 rfl) ?_
                  refine lv_iload_n hx hb dX11_one_210 rfl (lv_at hl 2 rfl) ?_
                  refine lv_bipush (v := 40) hx hb dX11_one_211 (by decide +kernel) ?_
                  refine b_icmp_ne hx hb rfl zl_40 (tgt := 225) dX11_one_213 (by decide +kernel) (fun c_138 => ?_) (fun c_138 => by exfalso; omega)
                  refine lv_iconst (v := 1) hx hb dX11_one_225 (by decide +kernel) ?_
                  refine lv_goto (tgt := 230) hx hb dX11_one_226 (by decide +kernel) ?_
                  refine kJv (wr := [(k0, .inl (cI, 1201, .inl c0))]) (va_runV (As := [.int 1]) (rest := []) ⟨hx, hb, hml, hown, hT⟩ (c_X11_needsG1 l D cI aK aV k k0 k1 k2 k4 k5 k6 k7 k8 ka kb kl ko H.size c3 c9 cc scd_129 ce scf_130 scg_131 ch ci cj ck cm cn 1 (by first | omega | (simp only [zl_1]; first | done | omega) | decide | assumption | rfl)) (cwV 1 hT (gV_in mw_1347 mw_1344 mw_1346 mw_p4_11 mw_12) rfl rfl rfl (by decide +kernel) ⟨(by dsimp only; omega), (by dsimp only; omega)⟩) (kRecvX (q0 := 0) (ci := 11) hK hP hD hN hXS hS hA rfl rfl [0] rfl (by decide +kernel)) rfl rfl hl.1 rfl (lv_room (Nat.le_of_ble_eq_true rfl)) dX11_one_230 ⟨Nat.le_of_ble_eq_true rfl, Nat.le_of_ble_eq_true rfl⟩) hP hD hS hA [0] [1] rfl rfl (by decide +kernel) (by decide +kernel) ?_
                  clear hP hD hS
                  intro scf_141 H locs w_140 hP hD hS
                  replace hP : va_P D vwCl [(k0, .inl (cI, 1201, .inl c0)), (k, .inr (11, [.ref k0, .ref k1, .ref k2, .int c3, .ref k4, .ref k5, .ref k6, .ref k7, .ref k8, .int c9, .ref ka, .ref kb, .int cc, .int scd_129, .int ce, .int scf_141, .int scg_131, .int ch, .int ci, .int cj, .int ck, .ref kl, .int cm, .int cn, .ref ko]))] H := hP
                  replace hD : va_D A [(k0, .inl (cI, 1201, .inl c0)), (k, .inr (11, [.ref k0, .ref k1, .ref k2, .int c3, .ref k4, .ref k5, .ref k6, .ref k7, .ref k8, .int c9, .ref ka, .ref kb, .int cc, .int scd_129, .int ce, .int scf_141, .int scg_131, .int ch, .int ci, .int cj, .int ck, .ref kl, .int cm, .int cn, .ref ko]))] := hD
                  have lo_scf_141 := k_lo scf_141
                  have hi_scf_141 := k_hi scf_141
                  rcases w_140 with ⟨h_142, h_143⟩ | ⟨h_144, h_145⟩
                  · try simp only [zl_1] at h_142
                    have h_142 : scf_130.toInt = 0 := h_142
                    try simp only [zl_1] at h_143
                    have h_143 : scf_141.toInt = 0 := h_143
                    refine lv_aload_n hx hb dX11_one_233 rfl (lv_at hl 3 rfl) ?_
                    refine lv_dup hx hb dX11_one_234 rfl ?_
                    refine va_get (D := D) (ci := 11) (v := .int scg_131) (C := RX11) (T := TX11) (N := 25) hx hb hT giX11 hown hK hP 1 rfl rfl 16 (by decide +kernel) (hT (Cond.fieldLink RX11 170 "DesertWireModel" "open" "I") mw_1172) (fun _ h9 => h9) rfl dX11_one_235 ?_
                    refine lv_iconst (v := 1) hx hb dX11_one_238 (by decide +kernel) ?_
                    refine lv_isub hx hb dX11_one_239 ?_
                    refine lv_topi (fun v_146 ev_146 => ?_)
                    have tv_146 : v_146.toInt = scg_131.toInt - 1 := by rw [ev_146]; exact k_subv rfl zl_1 (by omega) (by omega)
                    refine va_put (D := D) (ci := 11) (v := .int v_146) (ty := .int) (C := RX11) (T := TX11) (N := 25) hx hb hT giX11 tyX11 tyX11_ok nmX11 hown hK hP hD hS 1 rfl rfl 16 (by decide +kernel) (hT (Cond.fieldLink RX11 170 "DesertWireModel" "open" "I") mw_1172) (fun _ h9 => h9) rfl (by decide +kernel) rfl rfl (Nat.le_of_ble_eq_true rfl) dX11_one_240 ?_
                    clear hP hD hS
                    intro H locs hP hD hS
                    replace hP : va_P D vwCl [(k0, .inl (cI, 1201, .inl c0)), (k, .inr (11, [.ref k0, .ref k1, .ref k2, .int c3, .ref k4, .ref k5, .ref k6, .ref k7, .ref k8, .int c9, .ref ka, .ref kb, .int cc, .int scd_129, .int ce, .int scf_141, .int v_146, .int ch, .int ci, .int cj, .int ck, .ref kl, .int cm, .int cn, .ref ko]))] H := hP
                    replace hD : va_D A [(k0, .inl (cI, 1201, .inl c0)), (k, .inr (11, [.ref k0, .ref k1, .ref k2, .int c3, .ref k4, .ref k5, .ref k6, .ref k7, .ref k8, .int c9, .ref ka, .ref kb, .int cc, .int scd_129, .int ce, .int scf_141, .int v_146, .int ch, .int ci, .int cj, .int ck, .ref kl, .int cm, .int cn, .ref ko]))] := hD
                    refine lv_iload_n hx hb dX11_one_243 rfl (lv_at hl 2 rfl) ?_
                    refine lv_bipush (v := 45) hx hb dX11_one_244 (by decide +kernel) ?_
                    refine b_icmp_ne hx hb rfl zl_45 (tgt := 254) dX11_one_246 (by decide +kernel) (fun c_147 => ?_) (fun c_147 => by exfalso; omega)
                    refine lv_iload_n hx hb dX11_one_254 rfl (lv_at hl 2 rfl) ?_
                    refine lv_bipush (v := 33) hx hb dX11_one_255 (by decide +kernel) ?_
                    refine b_icmp_ne hx hb rfl zl_33 (tgt := 272) dX11_one_257 (by decide +kernel) (fun c_148 => by exfalso; omega) (fun c_148 => ?_)
                    refine lv_iload_n hx hb dX11_one_260 rfl (lv_at hl 0 rfl) ?_
                    refine b_if_ne hx hb rfl (tgt := 268) dX11_one_261 (by decide +kernel) (fun c_149 => ?_) (fun c_149 => ?_)
                    · refine lv_iconst (v := 0) hx hb dX11_one_268 (by decide +kernel) ?_
                      refine lv_goto (tgt := 273) hx hb dX11_one_269 (by decide +kernel) ?_
                      exact hRet (scd_129, scf_141, v_146) [1, 0] ⟨(by first | omega | (simp only [zl_0]; first | done | omega) | decide | assumption | rfl | (dsimp only; first | omega | (simp only [zl_0]; first | done | omega))), (by first | omega | (simp only [zl_0]; first | done | omega) | decide | assumption | rfl | (dsimp only; first | omega | (simp only [zl_0]; first | done | omega))), (by first | omega | (simp only [zl_0]; first | done | omega) | decide | assumption | rfl | (dsimp only; first | omega | (simp only [zl_0]; first | done | omega))), (by (try dsimp only); exact (TXQ.cv (TXQ.un (b0 := cf) (bz := scf_118) (w := r_127) (b := scf_130) (by omega) (by omega) (by omega) (by rw [← h_4]; omega) hq_137 (fun hb0 => by first | (exfalso; omega) | (rw [← h_4]; (repeat (first | rw [if_pos (by omega)] | rw [if_neg (by omega)])); first | done | exact rfl))) rfl rfl (by omega) Iff.rfl (by omega)))⟩ hP hD (by decide +kernel) rfl hS rfl dX11_one_273
                    · refine lv_iconst (v := 1) hx hb dX11_one_264 (by decide +kernel) ?_
                      refine lv_goto (tgt := 273) hx hb dX11_one_265 (by decide +kernel) ?_
                      exact hRet (scd_129, scf_141, v_146) [1, 0] ⟨(by first | omega | (simp only [zl_1]; first | done | omega) | decide | assumption | rfl | (dsimp only; first | omega | (simp only [zl_1]; first | done | omega))), (by first | omega | (simp only [zl_1]; first | done | omega) | decide | assumption | rfl | (dsimp only; first | omega | (simp only [zl_1]; first | done | omega))), (by first | omega | (simp only [zl_1]; first | done | omega) | decide | assumption | rfl | (dsimp only; first | omega | (simp only [zl_1]; first | done | omega))), (by (try dsimp only); exact (TXQ.cv (TXQ.un (b0 := cf) (bz := scf_118) (w := r_127) (b := scf_130) (by omega) (by omega) (by omega) (by rw [← h_4]; omega) hq_137 (fun hb0 => by first | (exfalso; omega) | (rw [← h_4]; (repeat (first | rw [if_pos (by omega)] | rw [if_neg (by omega)])); first | done | exact rfl))) rfl rfl (by omega) Iff.rfl (by omega)))⟩ hP hD (by decide +kernel) rfl hS rfl dX11_one_273
                  · try simp only [zl_1] at h_144
                    have h_144 : scf_130.toInt ≠ 0 := h_144
                    try simp only [zl_1] at h_145
                    have h_145 : scf_141.toInt = 1 := h_145
                    refine lv_aload_n hx hb dX11_one_233 rfl (lv_at hl 3 rfl) ?_
                    refine lv_dup hx hb dX11_one_234 rfl ?_
                    refine va_get (D := D) (ci := 11) (v := .int scg_131) (C := RX11) (T := TX11) (N := 25) hx hb hT giX11 hown hK hP 1 rfl rfl 16 (by decide +kernel) (hT (Cond.fieldLink RX11 170 "DesertWireModel" "open" "I") mw_1172) (fun _ h9 => h9) rfl dX11_one_235 ?_
                    refine lv_iconst (v := 1) hx hb dX11_one_238 (by decide +kernel) ?_
                    refine lv_isub hx hb dX11_one_239 ?_
                    refine lv_topi (fun v_150 ev_150 => ?_)
                    have tv_150 : v_150.toInt = scg_131.toInt - 1 := by rw [ev_150]; exact k_subv rfl zl_1 (by omega) (by omega)
                    refine va_put (D := D) (ci := 11) (v := .int v_150) (ty := .int) (C := RX11) (T := TX11) (N := 25) hx hb hT giX11 tyX11 tyX11_ok nmX11 hown hK hP hD hS 1 rfl rfl 16 (by decide +kernel) (hT (Cond.fieldLink RX11 170 "DesertWireModel" "open" "I") mw_1172) (fun _ h9 => h9) rfl (by decide +kernel) rfl rfl (Nat.le_of_ble_eq_true rfl) dX11_one_240 ?_
                    clear hP hD hS
                    intro H locs hP hD hS
                    replace hP : va_P D vwCl [(k0, .inl (cI, 1201, .inl c0)), (k, .inr (11, [.ref k0, .ref k1, .ref k2, .int c3, .ref k4, .ref k5, .ref k6, .ref k7, .ref k8, .int c9, .ref ka, .ref kb, .int cc, .int scd_129, .int ce, .int scf_141, .int v_150, .int ch, .int ci, .int cj, .int ck, .ref kl, .int cm, .int cn, .ref ko]))] H := hP
                    replace hD : va_D A [(k0, .inl (cI, 1201, .inl c0)), (k, .inr (11, [.ref k0, .ref k1, .ref k2, .int c3, .ref k4, .ref k5, .ref k6, .ref k7, .ref k8, .int c9, .ref ka, .ref kb, .int cc, .int scd_129, .int ce, .int scf_141, .int v_150, .int ch, .int ci, .int cj, .int ck, .ref kl, .int cm, .int cn, .ref ko]))] := hD
                    refine lv_iload_n hx hb dX11_one_243 rfl (lv_at hl 2 rfl) ?_
                    refine lv_bipush (v := 45) hx hb dX11_one_244 (by decide +kernel) ?_
                    refine b_icmp_ne hx hb rfl zl_45 (tgt := 254) dX11_one_246 (by decide +kernel) (fun c_151 => ?_) (fun c_151 => by exfalso; omega)
                    refine lv_iload_n hx hb dX11_one_254 rfl (lv_at hl 2 rfl) ?_
                    refine lv_bipush (v := 33) hx hb dX11_one_255 (by decide +kernel) ?_
                    refine b_icmp_ne hx hb rfl zl_33 (tgt := 272) dX11_one_257 (by decide +kernel) (fun c_152 => by exfalso; omega) (fun c_152 => ?_)
                    refine lv_iload_n hx hb dX11_one_260 rfl (lv_at hl 0 rfl) ?_
                    refine b_if_ne hx hb rfl (tgt := 268) dX11_one_261 (by decide +kernel) (fun c_153 => ?_) (fun c_153 => ?_)
                    · refine lv_iconst (v := 0) hx hb dX11_one_268 (by decide +kernel) ?_
                      refine lv_goto (tgt := 273) hx hb dX11_one_269 (by decide +kernel) ?_
                      exact hRet (scd_129, scf_141, v_150) [1, 0] ⟨(by first | omega | (simp only [zl_0]; first | done | omega) | decide | assumption | rfl | (dsimp only; first | omega | (simp only [zl_0]; first | done | omega))), (by first | omega | (simp only [zl_0]; first | done | omega) | decide | assumption | rfl | (dsimp only; first | omega | (simp only [zl_0]; first | done | omega))), (by first | omega | (simp only [zl_0]; first | done | omega) | decide | assumption | rfl | (dsimp only; first | omega | (simp only [zl_0]; first | done | omega))), (by (try dsimp only); exact (TXQ.cv (TXQ.un (b0 := cf) (bz := scf_118) (w := r_127) (b := scf_130) (by omega) (by omega) (by omega) (by rw [← h_4]; omega) hq_137 (fun hb0 => by first | (exfalso; omega) | (rw [← h_4]; (repeat (first | rw [if_pos (by omega)] | rw [if_neg (by omega)])); first | done | exact rfl))) rfl rfl (by omega) Iff.rfl (by omega)))⟩ hP hD (by decide +kernel) rfl hS rfl dX11_one_273
                    · refine lv_iconst (v := 1) hx hb dX11_one_264 (by decide +kernel) ?_
                      refine lv_goto (tgt := 273) hx hb dX11_one_265 (by decide +kernel) ?_
                      exact hRet (scd_129, scf_141, v_150) [1, 0] ⟨(by first | omega | (simp only [zl_1]; first | done | omega) | decide | assumption | rfl | (dsimp only; first | omega | (simp only [zl_1]; first | done | omega))), (by first | omega | (simp only [zl_1]; first | done | omega) | decide | assumption | rfl | (dsimp only; first | omega | (simp only [zl_1]; first | done | omega))), (by first | omega | (simp only [zl_1]; first | done | omega) | decide | assumption | rfl | (dsimp only; first | omega | (simp only [zl_1]; first | done | omega))), (by (try dsimp only); exact (TXQ.cv (TXQ.un (b0 := cf) (bz := scf_118) (w := r_127) (b := scf_130) (by omega) (by omega) (by omega) (by rw [← h_4]; omega) hq_137 (fun hb0 => by first | (exfalso; omega) | (rw [← h_4]; (repeat (first | rw [if_pos (by omega)] | rw [if_neg (by omega)])); first | done | exact rfl))) rfl rfl (by omega) Iff.rfl (by omega)))⟩ hP hD (by decide +kernel) rfl hS rfl dX11_one_273
                · (try simp only [zl_1] at h_121 h_122); exfalso; omega
            · refine lv_iload_n hx hb dX11_one_140 rfl (lv_at hl 1 rfl) ?_
              refine lv_bipush (v := 40) hx hb dX11_one_141 (by decide +kernel) ?_
              refine b_icmp_ne hx hb rfl zl_40 (tgt := 158) dX11_one_143 (by decide +kernel) (fun c_154 => ?_) (fun c_154 => ?_)
              · refine lv_iconst (v := 0) hx hb dX11_one_158 (by decide +kernel) ?_
                refine kJv (wr := [(k0, .inl (cI, 1201, .inl c0))]) (va_runV (As := [.int 0]) (rest := []) ⟨hx, hb, hml, hown, hT⟩ (c_X11_needsG0 l D cI aK aV k k0 k1 k2 k4 k5 k6 k7 k8 ka kb kl ko H.size c3 c9 cc cd ce cf cg ch ci cj ck cm cn 0 (by first | omega | (simp only [zl_0]; first | done | omega) | decide | assumption | rfl)) (cwV 1 hT (gV_in mw_1347 mw_1344 mw_1346 mw_p4_11 mw_12) rfl rfl rfl (by decide +kernel) ⟨(by dsimp only; omega), (by dsimp only; omega)⟩) (kRecvX (q0 := 1) (ci := 11) hK hP hD hN hXS hS hA rfl rfl [1] rfl (by decide +kernel)) rfl rfl hl.1 rfl (lv_room (Nat.le_of_ble_eq_true rfl)) dX11_one_159 ⟨Nat.le_of_ble_eq_true rfl, Nat.le_of_ble_eq_true rfl⟩) hP hD hS hA [1] [0] rfl rfl (by decide +kernel) (by decide +kernel) ?_
                clear hP hD hS
                intro scf_157 H locs w_156 hP hD hS
                replace hP : va_P D vwCl [(k0, .inl (cI, 1201, .inl c0)), (k, .inr (11, [.ref k0, .ref k1, .ref k2, .int c3, .ref k4, .ref k5, .ref k6, .ref k7, .ref k8, .int c9, .ref ka, .ref kb, .int cc, .int cd, .int ce, .int scf_157, .int cg, .int ch, .int ci, .int cj, .int ck, .ref kl, .int cm, .int cn, .ref ko]))] H := hP
                replace hD : va_D A [(k0, .inl (cI, 1201, .inl c0)), (k, .inr (11, [.ref k0, .ref k1, .ref k2, .int c3, .ref k4, .ref k5, .ref k6, .ref k7, .ref k8, .int c9, .ref ka, .ref kb, .int cc, .int cd, .int ce, .int scf_157, .int cg, .int ch, .int ci, .int cj, .int ck, .ref kl, .int cm, .int cn, .ref ko]))] := hD
                have lo_scf_157 := k_lo scf_157
                have hi_scf_157 := k_hi scf_157
                have h_158 := w_156
                try simp only [zl_0] at h_158
                have h_158 : scf_157.toInt = 1 := h_158
                refine lv_aload_n hx hb dX11_one_162 rfl (lv_at hl 2 rfl) ?_
                refine va_get (D := D) (ci := 11) (v := .int scf_157) (C := RX11) (T := TX11) (N := 25) hx hb hT giX11 hown hK hP 1 rfl rfl 15 (by decide +kernel) (hT (Cond.fieldLink RX11 148 "DesertWireModel" "isWrong" "Z") mw_1171) (fun _ h9 => h9) rfl dX11_one_163 ?_
                refine b_if_eq hx hb rfl (tgt := 171) dX11_one_166 (by decide +kernel) (fun c_159 => by exfalso; omega) (fun c_159 => ?_)
                refine lv_iconst (v := 0) hx hb dX11_one_169 (by decide +kernel) ?_
                exact hRet (cd, scf_157, cg) [1, 0] ⟨(by first | omega | (simp only [zl_0]; first | done | omega) | decide | assumption | rfl | (dsimp only; first | omega | (simp only [zl_0]; first | done | omega))), (by first | omega | (simp only [zl_0]; first | done | omega) | decide | assumption | rfl | (dsimp only; first | omega | (simp only [zl_0]; first | done | omega))), (by first | omega | (simp only [zl_0]; first | done | omega) | decide | assumption | rfl | (dsimp only; first | omega | (simp only [zl_0]; first | done | omega))), (by (try dsimp only); exact (TXQ.fail (by omega) (by rw [← h_4]; omega) (by rw [← h_4]; first | exact Or.inl ⟨by omega, by omega⟩ | exact Or.inr ⟨by omega, by omega, by omega, by omega⟩) (by omega)))⟩ hP hD (by decide +kernel) rfl hS rfl dX11_one_170
              · refine lv_aload_n hx hb dX11_one_146 rfl (lv_at hl 2 rfl) ?_
                refine va_get (D := D) (ci := 11) (v := .int cg) (C := RX11) (T := TX11) (N := 25) hx hb hT giX11 hown hK hP 1 rfl rfl 16 (by decide +kernel) (hT (Cond.fieldLink RX11 170 "DesertWireModel" "open" "I") mw_1172) (fun _ h9 => h9) rfl dX11_one_147 ?_
                refine lv_iconst (v := 4) hx hb dX11_one_150 (by decide +kernel) ?_
                refine b_icmp_ge hx hb rfl zl_4 (tgt := 158) dX11_one_151 (by decide +kernel) (fun c_160 => ?_) (fun c_160 => ?_)
                · refine lv_iconst (v := 0) hx hb dX11_one_158 (by decide +kernel) ?_
                  refine kJv (wr := [(k0, .inl (cI, 1201, .inl c0))]) (va_runV (As := [.int 0]) (rest := []) ⟨hx, hb, hml, hown, hT⟩ (c_X11_needsG0 l D cI aK aV k k0 k1 k2 k4 k5 k6 k7 k8 ka kb kl ko H.size c3 c9 cc cd ce cf cg ch ci cj ck cm cn 0 (by first | omega | (simp only [zl_0]; first | done | omega) | decide | assumption | rfl)) (cwV 1 hT (gV_in mw_1347 mw_1344 mw_1346 mw_p4_11 mw_12) rfl rfl rfl (by decide +kernel) ⟨(by dsimp only; omega), (by dsimp only; omega)⟩) (kRecvX (q0 := 1) (ci := 11) hK hP hD hN hXS hS hA rfl rfl [1] rfl (by decide +kernel)) rfl rfl hl.1 rfl (lv_room (Nat.le_of_ble_eq_true rfl)) dX11_one_159 ⟨Nat.le_of_ble_eq_true rfl, Nat.le_of_ble_eq_true rfl⟩) hP hD hS hA [1] [0] rfl rfl (by decide +kernel) (by decide +kernel) ?_
                  clear hP hD hS
                  intro scf_163 H locs w_162 hP hD hS
                  replace hP : va_P D vwCl [(k0, .inl (cI, 1201, .inl c0)), (k, .inr (11, [.ref k0, .ref k1, .ref k2, .int c3, .ref k4, .ref k5, .ref k6, .ref k7, .ref k8, .int c9, .ref ka, .ref kb, .int cc, .int cd, .int ce, .int scf_163, .int cg, .int ch, .int ci, .int cj, .int ck, .ref kl, .int cm, .int cn, .ref ko]))] H := hP
                  replace hD : va_D A [(k0, .inl (cI, 1201, .inl c0)), (k, .inr (11, [.ref k0, .ref k1, .ref k2, .int c3, .ref k4, .ref k5, .ref k6, .ref k7, .ref k8, .int c9, .ref ka, .ref kb, .int cc, .int cd, .int ce, .int scf_163, .int cg, .int ch, .int ci, .int cj, .int ck, .ref kl, .int cm, .int cn, .ref ko]))] := hD
                  have lo_scf_163 := k_lo scf_163
                  have hi_scf_163 := k_hi scf_163
                  have h_164 := w_162
                  try simp only [zl_0] at h_164
                  have h_164 : scf_163.toInt = 1 := h_164
                  refine lv_aload_n hx hb dX11_one_162 rfl (lv_at hl 2 rfl) ?_
                  refine va_get (D := D) (ci := 11) (v := .int scf_163) (C := RX11) (T := TX11) (N := 25) hx hb hT giX11 hown hK hP 1 rfl rfl 15 (by decide +kernel) (hT (Cond.fieldLink RX11 148 "DesertWireModel" "isWrong" "Z") mw_1171) (fun _ h9 => h9) rfl dX11_one_163 ?_
                  refine b_if_eq hx hb rfl (tgt := 171) dX11_one_166 (by decide +kernel) (fun c_165 => by exfalso; omega) (fun c_165 => ?_)
                  refine lv_iconst (v := 0) hx hb dX11_one_169 (by decide +kernel) ?_
                  exact hRet (cd, scf_163, cg) [1, 0] ⟨(by first | omega | (simp only [zl_0]; first | done | omega) | decide | assumption | rfl | (dsimp only; first | omega | (simp only [zl_0]; first | done | omega))), (by first | omega | (simp only [zl_0]; first | done | omega) | decide | assumption | rfl | (dsimp only; first | omega | (simp only [zl_0]; first | done | omega))), (by first | omega | (simp only [zl_0]; first | done | omega) | decide | assumption | rfl | (dsimp only; first | omega | (simp only [zl_0]; first | done | omega))), (by (try dsimp only); exact (TXQ.fail (by omega) (by rw [← h_4]; omega) (by rw [← h_4]; first | exact Or.inl ⟨by omega, by omega⟩ | exact Or.inr ⟨by omega, by omega, by omega, by omega⟩) (by omega)))⟩ hP hD (by decide +kernel) rfl hS rfl dX11_one_170
                · refine lv_iconst (v := 1) hx hb dX11_one_154 (by decide +kernel) ?_
                  refine lv_goto (tgt := 159) hx hb dX11_one_155 (by decide +kernel) ?_
                  refine kJv (wr := [(k0, .inl (cI, 1201, .inl c0))]) (va_runV (As := [.int 1]) (rest := []) ⟨hx, hb, hml, hown, hT⟩ (c_X11_needsG1 l D cI aK aV k k0 k1 k2 k4 k5 k6 k7 k8 ka kb kl ko H.size c3 c9 cc cd ce cf cg ch ci cj ck cm cn 1 (by first | omega | (simp only [zl_1]; first | done | omega) | decide | assumption | rfl)) (cwV 1 hT (gV_in mw_1347 mw_1344 mw_1346 mw_p4_11 mw_12) rfl rfl rfl (by decide +kernel) ⟨(by dsimp only; omega), (by dsimp only; omega)⟩) (kRecvX (q0 := 1) (ci := 11) hK hP hD hN hXS hS hA rfl rfl [1] rfl (by decide +kernel)) rfl rfl hl.1 rfl (lv_room (Nat.le_of_ble_eq_true rfl)) dX11_one_159 ⟨Nat.le_of_ble_eq_true rfl, Nat.le_of_ble_eq_true rfl⟩) hP hD hS hA [1] [0] rfl rfl (by decide +kernel) (by decide +kernel) ?_
                  clear hP hD hS
                  intro scf_168 H locs w_167 hP hD hS
                  replace hP : va_P D vwCl [(k0, .inl (cI, 1201, .inl c0)), (k, .inr (11, [.ref k0, .ref k1, .ref k2, .int c3, .ref k4, .ref k5, .ref k6, .ref k7, .ref k8, .int c9, .ref ka, .ref kb, .int cc, .int cd, .int ce, .int scf_168, .int cg, .int ch, .int ci, .int cj, .int ck, .ref kl, .int cm, .int cn, .ref ko]))] H := hP
                  replace hD : va_D A [(k0, .inl (cI, 1201, .inl c0)), (k, .inr (11, [.ref k0, .ref k1, .ref k2, .int c3, .ref k4, .ref k5, .ref k6, .ref k7, .ref k8, .int c9, .ref ka, .ref kb, .int cc, .int cd, .int ce, .int scf_168, .int cg, .int ch, .int ci, .int cj, .int ck, .ref kl, .int cm, .int cn, .ref ko]))] := hD
                  have lo_scf_168 := k_lo scf_168
                  have hi_scf_168 := k_hi scf_168
                  rcases w_167 with ⟨h_169, h_170⟩ | ⟨h_171, h_172⟩
                  · try simp only [zl_1] at h_169
                    have h_169 : cf.toInt = 0 := h_169
                    try simp only [zl_1] at h_170
                    have h_170 : scf_168.toInt = 0 := h_170
                    refine lv_aload_n hx hb dX11_one_162 rfl (lv_at hl 2 rfl) ?_
                    refine va_get (D := D) (ci := 11) (v := .int scf_168) (C := RX11) (T := TX11) (N := 25) hx hb hT giX11 hown hK hP 1 rfl rfl 15 (by decide +kernel) (hT (Cond.fieldLink RX11 148 "DesertWireModel" "isWrong" "Z") mw_1171) (fun _ h9 => h9) rfl dX11_one_163 ?_
                    refine b_if_eq hx hb rfl (tgt := 171) dX11_one_166 (by decide +kernel) (fun c_173 => ?_) (fun c_173 => by exfalso; omega)
                    refine lv_aload_n hx hb dX11_one_171 rfl (lv_at hl 2 rfl) ?_
                    refine lv_dup hx hb dX11_one_172 rfl ?_
                    refine va_get (D := D) (ci := 11) (v := .int cd) (C := RX11) (T := TX11) (N := 25) hx hb hT giX11 hown hK hP 1 rfl rfl 13 (by decide +kernel) (hT (Cond.fieldLink RX11 138 "DesertWireModel" "here" "I") mw_1169) (fun _ h9 => h9) rfl dX11_one_173 ?_
                    refine lv_iconst (v := 1) hx hb dX11_one_176 (by decide +kernel) ?_
                    refine lv_iadd hx hb dX11_one_177 ?_
                    refine lv_topi (fun v_174 ev_174 => ?_)
                    have tv_174 : v_174.toInt = cd.toInt + 1 := by rw [ev_174]; exact k_addv rfl zl_1 (by omega) (by omega)
                    refine va_put (D := D) (ci := 11) (v := .int v_174) (ty := .int) (C := RX11) (T := TX11) (N := 25) hx hb hT giX11 tyX11 tyX11_ok nmX11 hown hK hP hD hS 1 rfl rfl 13 (by decide +kernel) (hT (Cond.fieldLink RX11 138 "DesertWireModel" "here" "I") mw_1169) (fun _ h9 => h9) rfl (by decide +kernel) rfl rfl (Nat.le_of_ble_eq_true rfl) dX11_one_178 ?_
                    clear hP hD hS
                    intro H locs hP hD hS
                    replace hP : va_P D vwCl [(k0, .inl (cI, 1201, .inl c0)), (k, .inr (11, [.ref k0, .ref k1, .ref k2, .int c3, .ref k4, .ref k5, .ref k6, .ref k7, .ref k8, .int c9, .ref ka, .ref kb, .int cc, .int v_174, .int ce, .int scf_168, .int cg, .int ch, .int ci, .int cj, .int ck, .ref kl, .int cm, .int cn, .ref ko]))] H := hP
                    replace hD : va_D A [(k0, .inl (cI, 1201, .inl c0)), (k, .inr (11, [.ref k0, .ref k1, .ref k2, .int c3, .ref k4, .ref k5, .ref k6, .ref k7, .ref k8, .int c9, .ref ka, .ref kb, .int cc, .int v_174, .int ce, .int scf_168, .int cg, .int ch, .int ci, .int cj, .int ck, .ref kl, .int cm, .int cn, .ref ko]))] := hD
                    refine lv_aload_n hx hb dX11_one_181 rfl (lv_at hl 2 rfl) ?_
                    refine lv_dup hx hb dX11_one_182 rfl ?_
                    refine va_get (D := D) (ci := 11) (v := .int cg) (C := RX11) (T := TX11) (N := 25) hx hb hT giX11 hown hK hP 1 rfl rfl 16 (by decide +kernel) (hT (Cond.fieldLink RX11 170 "DesertWireModel" "open" "I") mw_1172) (fun _ h9 => h9) rfl dX11_one_183 ?_
                    refine lv_iconst (v := 1) hx hb dX11_one_186 (by decide +kernel) ?_
                    refine lv_iadd hx hb dX11_one_187 ?_
                    refine lv_topi (fun v_175 ev_175 => ?_)
                    have tv_175 : v_175.toInt = cg.toInt + 1 := by rw [ev_175]; exact k_addv rfl zl_1 (by omega) (by omega)
                    refine va_put (D := D) (ci := 11) (v := .int v_175) (ty := .int) (C := RX11) (T := TX11) (N := 25) hx hb hT giX11 tyX11 tyX11_ok nmX11 hown hK hP hD hS 1 rfl rfl 16 (by decide +kernel) (hT (Cond.fieldLink RX11 170 "DesertWireModel" "open" "I") mw_1172) (fun _ h9 => h9) rfl (by decide +kernel) rfl rfl (Nat.le_of_ble_eq_true rfl) dX11_one_188 ?_
                    clear hP hD hS
                    intro H locs hP hD hS
                    replace hP : va_P D vwCl [(k0, .inl (cI, 1201, .inl c0)), (k, .inr (11, [.ref k0, .ref k1, .ref k2, .int c3, .ref k4, .ref k5, .ref k6, .ref k7, .ref k8, .int c9, .ref ka, .ref kb, .int cc, .int v_174, .int ce, .int scf_168, .int v_175, .int ch, .int ci, .int cj, .int ck, .ref kl, .int cm, .int cn, .ref ko]))] H := hP
                    replace hD : va_D A [(k0, .inl (cI, 1201, .inl c0)), (k, .inr (11, [.ref k0, .ref k1, .ref k2, .int c3, .ref k4, .ref k5, .ref k6, .ref k7, .ref k8, .int c9, .ref ka, .ref kb, .int cc, .int v_174, .int ce, .int scf_168, .int v_175, .int ch, .int ci, .int cj, .int ck, .ref kl, .int cm, .int cn, .ref ko]))] := hD
                    refine lv_iload_n hx hb dX11_one_191 rfl (lv_at hl 1 rfl) ?_
                    refine lv_bipush (v := 40) hx hb dX11_one_192 (by decide +kernel) ?_
                    refine b_icmp_ne hx hb rfl zl_40 (tgt := 204) dX11_one_194 (by decide +kernel) (fun c_176 => by exfalso; omega) (fun c_176 => ?_)
                    refine lv_aload_n hx hb dX11_one_197 rfl (lv_at hl 2 rfl) ?_
                    refine kJi (wr := []) (va_runV (As := []) (rest := []) ⟨hx, hb, hml, hown, hT⟩ (ih.2 l D cI aK aV k k0 k1 k2 k4 k5 k6 k7 k8 ka kb kl ko H.size c3 c9 cc v_174 ce scf_168 v_175 ch ci cj ck cm cn c0 (by first | omega | decide | assumption | rfl) (by first | omega | decide | assumption | rfl) (by first | omega | decide | assumption | rfl) (by first | omega | decide | assumption | rfl) (by first | omega | decide | assumption | rfl) (by first | omega | decide | assumption | rfl) (by first | omega | decide | assumption | rfl) (by first | omega | decide | assumption | rfl)) (cwV 0 hT (gV_in mw_1315 mw_1312 mw_1314 mw_p4_3 mw_12) rfl rfl rfl (by decide +kernel) ⟨(by dsimp only; omega), (by dsimp only; omega)⟩) (kRecvX (q0 := 1) (ci := 11) hK hP hD hN hXS hS hA rfl rfl [1, 0] rfl (by decide +kernel)) rfl rfl hl.1 rfl (lv_room (Nat.le_of_ble_eq_true rfl)) dX11_one_198 ⟨Nat.le_of_ble_eq_true rfl, Nat.le_of_ble_eq_true rfl⟩) hP hD hS hA [1, 0] [] rfl rfl (by decide +kernel) (by decide +kernel) ?_
                    clear hP hD hS
                    intro r_177 u_182 H locs w_178 hP hD hS
                    obtain ⟨scd_179, scf_180, scg_181⟩ := u_182
                    replace hP : va_P D vwCl [(k, .inr (11, [.ref k0, .ref k1, .ref k2, .int c3, .ref k4, .ref k5, .ref k6, .ref k7, .ref k8, .int c9, .ref ka, .ref kb, .int cc, .int scd_179, .int ce, .int scf_180, .int scg_181, .int ch, .int ci, .int cj, .int ck, .ref kl, .int cm, .int cn, .ref ko])), (k0, .inl (cI, 1201, .inl c0))] H := hP
                    replace hD : va_D A [(k, .inr (11, [.ref k0, .ref k1, .ref k2, .int c3, .ref k4, .ref k5, .ref k6, .ref k7, .ref k8, .int c9, .ref ka, .ref kb, .int cc, .int scd_179, .int ce, .int scf_180, .int scg_181, .int ch, .int ci, .int cj, .int ck, .ref kl, .int cm, .int cn, .ref ko])), (k0, .inl (cI, 1201, .inl c0))] := hD
                    have lo_scd_179 := k_lo scd_179
                    have hi_scd_179 := k_hi scd_179
                    have lo_scf_180 := k_lo scf_180
                    have hi_scf_180 := k_hi scf_180
                    have lo_scg_181 := k_lo scg_181
                    have hi_scg_181 := k_hi scg_181
                    obtain ⟨h_183, h_184, h_185, h_186⟩ := w_178
                    have h_183 : v_174.toInt ≤ scd_179.toInt := h_183
                    have h_184 : scd_179.toInt ≤ ce.toInt := h_184
                    have h_185 : scg_181.toInt = v_175.toInt := h_185
                    have h_186 : TXQ (tG c0 cc.toInt.toNat ce) ch ci cj ck 0 v_175.toInt scf_168 0 v_174.toInt r_177 scd_179.toInt scf_180 := h_186
                    have h_186 : TXQ (tG c0 cc.toInt.toNat ce) ch ci cj ck 0 v_175.toInt scf_168 0 v_174.toInt r_177 scd_179.toInt scf_180 := h_186
                    have hq_187 : TXQ (tG c0 cc.toInt.toNat ce) ch ci cj ck 0 (cg.toInt + 1) scf_168 0 (cd.toInt + 1) r_177 scd_179.toInt scf_180 := by rw [← tv_175, ← tv_174]; exact h_186
                    have lo_r_177 := k_lo r_177
                    have hi_r_177 := k_hi r_177
                    refine lv_goto (tgt := 208) hx hb dX11_one_201 (by decide +kernel) ?_
                    refine lv_istore_n (lv' := [(3, .int r_177), (2, .int (-1)), (1, .int r_1), (0, .ref k)]) hx hb dX11_one_208 rfl hl (by decide +kernel) rfl ?_
                    clear hl
                    intro ls hl
                    refine lv_aload_n hx hb dX11_one_209 rfl (lv_at hl 3 rfl) ?_
                    refine lv_iload_n hx hb dX11_one_210 rfl (lv_at hl 2 rfl) ?_
                    refine lv_bipush (v := 40) hx hb dX11_one_211 (by decide +kernel) ?_
                    refine b_icmp_ne hx hb rfl zl_40 (tgt := 225) dX11_one_213 (by decide +kernel) (fun c_188 => by exfalso; omega) (fun c_188 => ?_)
                    refine lv_aload_n hx hb dX11_one_216 rfl (lv_at hl 3 rfl) ?_
                    refine lv_bipush (v := 41) hx hb dX11_one_217 (by decide +kernel) ?_
                    refine kJi (wr := []) (va_runV (As := [.int 41]) (rest := [.ref k]) ⟨hx, hb, hml, hown, hT⟩ (c_X11_takesG l D cI aK aV k k0 k1 k2 k4 k5 k6 k7 k8 ka kb kl ko H.size c3 c9 cc scd_179 ce scf_180 scg_181 ch ci cj ck cm cn c0 41 (by first | omega | (simp only [zl_41]; first | done | omega) | decide | assumption | rfl) (by first | omega | (simp only [zl_41]; first | done | omega) | decide | assumption | rfl) (by first | omega | (simp only [zl_41]; first | done | omega) | decide | assumption | rfl) (by first | omega | (simp only [zl_41]; first | done | omega) | decide | assumption | rfl) (by first | omega | (simp only [zl_41]; first | done | omega) | decide | assumption | rfl) (by first | omega | (simp only [zl_41]; first | done | omega) | decide | assumption | rfl)) (cwV 1 hT (gV_in mw_1351 mw_1348 mw_1350 mw_p4_12 mw_12) rfl rfl rfl (by decide +kernel) ⟨(by dsimp only; omega), (by dsimp only; omega)⟩) (kRecvX (q0 := 0) (ci := 11) hK hP hD hN hXS hS hA rfl rfl [0, 1] rfl (by decide +kernel)) rfl rfl hl.1 rfl (lv_room (Nat.le_of_ble_eq_true rfl)) dX11_one_219 ⟨Nat.le_of_ble_eq_true rfl, Nat.le_of_ble_eq_true rfl⟩) hP hD hS hA [0, 1] [] rfl rfl (by decide +kernel) (by decide +kernel) ?_
                    clear hP hD hS
                    intro r_189 scd_191 H locs w_190 hP hD hS
                    replace hP : va_P D vwCl [(k, .inr (11, [.ref k0, .ref k1, .ref k2, .int c3, .ref k4, .ref k5, .ref k6, .ref k7, .ref k8, .int c9, .ref ka, .ref kb, .int cc, .int scd_191, .int ce, .int scf_180, .int scg_181, .int ch, .int ci, .int cj, .int ck, .ref kl, .int cm, .int cn, .ref ko])), (k0, .inl (cI, 1201, .inl c0))] H := hP
                    replace hD : va_D A [(k, .inr (11, [.ref k0, .ref k1, .ref k2, .int c3, .ref k4, .ref k5, .ref k6, .ref k7, .ref k8, .int c9, .ref ka, .ref kb, .int cc, .int scd_191, .int ce, .int scf_180, .int scg_181, .int ch, .int ci, .int cj, .int ck, .ref kl, .int cm, .int cn, .ref ko])), (k0, .inl (cI, 1201, .inl c0))] := hD
                    have lo_scd_191 := k_lo scd_191
                    have hi_scd_191 := k_hi scd_191
                    rcases w_190 with ⟨hr_189, h_192, h_193, h_194, h_195, h_196⟩ | ⟨hr_189, h_197, h_198⟩ | ⟨hr_189, h_199, h_200, h_201⟩
                    · try simp only [zl_41] at h_192
                      have h_192 : scf_180.toInt = 0 := h_192
                      try simp only [zl_41] at h_193
                      have h_193 : (tG c0 cc.toInt.toNat ce scd_179.toInt).toInt = 41 := h_193
                      try simp only [zl_41] at h_194
                      have h_194 : scd_191.toInt = scd_179.toInt + 1 := h_194
                      try simp only [zl_41] at h_195
                      have h_195 : scd_179.toInt < ce.toInt := h_195
                      try simp only [zl_41] at h_196
                      have h_196 : scd_191.toInt ≤ ce.toInt := h_196
                      obtain rfl : r_189 = 1 := hr_189.trans (by decide +kernel)
                      refine b_if_eq hx hb zl_1 (tgt := 229) dX11_one_222 (by decide +kernel) (fun c_202 => by exfalso; omega) (fun c_202 => ?_)
                      refine lv_iconst (v := 1) hx hb dX11_one_225 (by decide +kernel) ?_
                      refine lv_goto (tgt := 230) hx hb dX11_one_226 (by decide +kernel) ?_
                      refine kJv (wr := [(k0, .inl (cI, 1201, .inl c0))]) (va_runV (As := [.int 1]) (rest := []) ⟨hx, hb, hml, hown, hT⟩ (c_X11_needsG1 l D cI aK aV k k0 k1 k2 k4 k5 k6 k7 k8 ka kb kl ko H.size c3 c9 cc scd_191 ce scf_180 scg_181 ch ci cj ck cm cn 1 (by first | omega | (simp only [zl_1]; first | done | omega) | decide | assumption | rfl)) (cwV 1 hT (gV_in mw_1347 mw_1344 mw_1346 mw_p4_11 mw_12) rfl rfl rfl (by decide +kernel) ⟨(by dsimp only; omega), (by dsimp only; omega)⟩) (kRecvX (q0 := 0) (ci := 11) hK hP hD hN hXS hS hA rfl rfl [0] rfl (by decide +kernel)) rfl rfl hl.1 rfl (lv_room (Nat.le_of_ble_eq_true rfl)) dX11_one_230 ⟨Nat.le_of_ble_eq_true rfl, Nat.le_of_ble_eq_true rfl⟩) hP hD hS hA [0] [1] rfl rfl (by decide +kernel) (by decide +kernel) ?_
                      clear hP hD hS
                      intro scf_205 H locs w_204 hP hD hS
                      replace hP : va_P D vwCl [(k0, .inl (cI, 1201, .inl c0)), (k, .inr (11, [.ref k0, .ref k1, .ref k2, .int c3, .ref k4, .ref k5, .ref k6, .ref k7, .ref k8, .int c9, .ref ka, .ref kb, .int cc, .int scd_191, .int ce, .int scf_205, .int scg_181, .int ch, .int ci, .int cj, .int ck, .ref kl, .int cm, .int cn, .ref ko]))] H := hP
                      replace hD : va_D A [(k0, .inl (cI, 1201, .inl c0)), (k, .inr (11, [.ref k0, .ref k1, .ref k2, .int c3, .ref k4, .ref k5, .ref k6, .ref k7, .ref k8, .int c9, .ref ka, .ref kb, .int cc, .int scd_191, .int ce, .int scf_205, .int scg_181, .int ch, .int ci, .int cj, .int ck, .ref kl, .int cm, .int cn, .ref ko]))] := hD
                      have lo_scf_205 := k_lo scf_205
                      have hi_scf_205 := k_hi scf_205
                      rcases w_204 with ⟨h_206, h_207⟩ | ⟨h_208, h_209⟩
                      · try simp only [zl_1] at h_206
                        have h_206 : scf_180.toInt = 0 := h_206
                        try simp only [zl_1] at h_207
                        have h_207 : scf_205.toInt = 0 := h_207
                        refine lv_aload_n hx hb dX11_one_233 rfl (lv_at hl 3 rfl) ?_
                        refine lv_dup hx hb dX11_one_234 rfl ?_
                        refine va_get (D := D) (ci := 11) (v := .int scg_181) (C := RX11) (T := TX11) (N := 25) hx hb hT giX11 hown hK hP 1 rfl rfl 16 (by decide +kernel) (hT (Cond.fieldLink RX11 170 "DesertWireModel" "open" "I") mw_1172) (fun _ h9 => h9) rfl dX11_one_235 ?_
                        refine lv_iconst (v := 1) hx hb dX11_one_238 (by decide +kernel) ?_
                        refine lv_isub hx hb dX11_one_239 ?_
                        refine lv_topi (fun v_210 ev_210 => ?_)
                        have tv_210 : v_210.toInt = scg_181.toInt - 1 := by rw [ev_210]; exact k_subv rfl zl_1 (by omega) (by omega)
                        refine va_put (D := D) (ci := 11) (v := .int v_210) (ty := .int) (C := RX11) (T := TX11) (N := 25) hx hb hT giX11 tyX11 tyX11_ok nmX11 hown hK hP hD hS 1 rfl rfl 16 (by decide +kernel) (hT (Cond.fieldLink RX11 170 "DesertWireModel" "open" "I") mw_1172) (fun _ h9 => h9) rfl (by decide +kernel) rfl rfl (Nat.le_of_ble_eq_true rfl) dX11_one_240 ?_
                        clear hP hD hS
                        intro H locs hP hD hS
                        replace hP : va_P D vwCl [(k0, .inl (cI, 1201, .inl c0)), (k, .inr (11, [.ref k0, .ref k1, .ref k2, .int c3, .ref k4, .ref k5, .ref k6, .ref k7, .ref k8, .int c9, .ref ka, .ref kb, .int cc, .int scd_191, .int ce, .int scf_205, .int v_210, .int ch, .int ci, .int cj, .int ck, .ref kl, .int cm, .int cn, .ref ko]))] H := hP
                        replace hD : va_D A [(k0, .inl (cI, 1201, .inl c0)), (k, .inr (11, [.ref k0, .ref k1, .ref k2, .int c3, .ref k4, .ref k5, .ref k6, .ref k7, .ref k8, .int c9, .ref ka, .ref kb, .int cc, .int scd_191, .int ce, .int scf_205, .int v_210, .int ch, .int ci, .int cj, .int ck, .ref kl, .int cm, .int cn, .ref ko]))] := hD
                        refine lv_iload_n hx hb dX11_one_243 rfl (lv_at hl 2 rfl) ?_
                        refine lv_bipush (v := 45) hx hb dX11_one_244 (by decide +kernel) ?_
                        refine b_icmp_ne hx hb rfl zl_45 (tgt := 254) dX11_one_246 (by decide +kernel) (fun c_211 => ?_) (fun c_211 => by exfalso; omega)
                        refine lv_iload_n hx hb dX11_one_254 rfl (lv_at hl 2 rfl) ?_
                        refine lv_bipush (v := 33) hx hb dX11_one_255 (by decide +kernel) ?_
                        refine b_icmp_ne hx hb rfl zl_33 (tgt := 272) dX11_one_257 (by decide +kernel) (fun c_212 => ?_) (fun c_212 => by exfalso; omega)
                        refine lv_iload_n hx hb dX11_one_272 rfl (lv_at hl 0 rfl) ?_
                        exact hRet (scd_191, scf_205, v_210) [1, 0] ⟨(by first | omega | decide | assumption | rfl | (dsimp only; first | omega)), (by first | omega | decide | assumption | rfl | (dsimp only; first | omega)), (by first | omega | decide | assumption | rfl | (dsimp only; first | omega)), (by (try dsimp only); exact (by rw [show scd_191.toInt = scd_179.toInt + 1 from by omega]; exact TXQ.par_ok (bz := scf_168) (w := r_177) (b := scf_180) (by omega) (by omega) (by omega) (by rw [← h_4]; omega) hq_187 (by omega) (by rw [h_193] <;> decide) (by omega)))⟩ hP hD (by decide +kernel) rfl hS rfl dX11_one_273
                      · (try simp only [zl_1] at h_208 h_209); exfalso; omega
                    · try simp only [zl_41] at h_197
                      have h_197 : scf_180.toInt ≠ 0 := h_197
                      try simp only [zl_41] at h_198
                      have h_198 : scd_191.toInt = scd_179.toInt := h_198
                      obtain rfl : r_189 = 0 := hr_189.trans (by decide +kernel)
                      refine b_if_eq hx hb zl_0 (tgt := 229) dX11_one_222 (by decide +kernel) (fun c_213 => ?_) (fun c_213 => by exfalso; omega)
                      refine lv_iconst (v := 0) hx hb dX11_one_229 (by decide +kernel) ?_
                      refine kJv (wr := [(k0, .inl (cI, 1201, .inl c0))]) (va_runV (As := [.int 0]) (rest := []) ⟨hx, hb, hml, hown, hT⟩ (c_X11_needsG0 l D cI aK aV k k0 k1 k2 k4 k5 k6 k7 k8 ka kb kl ko H.size c3 c9 cc scd_191 ce scf_180 scg_181 ch ci cj ck cm cn 0 (by first | omega | (simp only [zl_0]; first | done | omega) | decide | assumption | rfl)) (cwV 1 hT (gV_in mw_1347 mw_1344 mw_1346 mw_p4_11 mw_12) rfl rfl rfl (by decide +kernel) ⟨(by dsimp only; omega), (by dsimp only; omega)⟩) (kRecvX (q0 := 0) (ci := 11) hK hP hD hN hXS hS hA rfl rfl [0] rfl (by decide +kernel)) rfl rfl hl.1 rfl (lv_room (Nat.le_of_ble_eq_true rfl)) dX11_one_230 ⟨Nat.le_of_ble_eq_true rfl, Nat.le_of_ble_eq_true rfl⟩) hP hD hS hA [0] [1] rfl rfl (by decide +kernel) (by decide +kernel) ?_
                      clear hP hD hS
                      intro scf_216 H locs w_215 hP hD hS
                      replace hP : va_P D vwCl [(k0, .inl (cI, 1201, .inl c0)), (k, .inr (11, [.ref k0, .ref k1, .ref k2, .int c3, .ref k4, .ref k5, .ref k6, .ref k7, .ref k8, .int c9, .ref ka, .ref kb, .int cc, .int scd_191, .int ce, .int scf_216, .int scg_181, .int ch, .int ci, .int cj, .int ck, .ref kl, .int cm, .int cn, .ref ko]))] H := hP
                      replace hD : va_D A [(k0, .inl (cI, 1201, .inl c0)), (k, .inr (11, [.ref k0, .ref k1, .ref k2, .int c3, .ref k4, .ref k5, .ref k6, .ref k7, .ref k8, .int c9, .ref ka, .ref kb, .int cc, .int scd_191, .int ce, .int scf_216, .int scg_181, .int ch, .int ci, .int cj, .int ck, .ref kl, .int cm, .int cn, .ref ko]))] := hD
                      have lo_scf_216 := k_lo scf_216
                      have hi_scf_216 := k_hi scf_216
                      have h_217 := w_215
                      try simp only [zl_0] at h_217
                      have h_217 : scf_216.toInt = 1 := h_217
                      refine lv_aload_n hx hb dX11_one_233 rfl (lv_at hl 3 rfl) ?_
                      refine lv_dup hx hb dX11_one_234 rfl ?_
                      refine va_get (D := D) (ci := 11) (v := .int scg_181) (C := RX11) (T := TX11) (N := 25) hx hb hT giX11 hown hK hP 1 rfl rfl 16 (by decide +kernel) (hT (Cond.fieldLink RX11 170 "DesertWireModel" "open" "I") mw_1172) (fun _ h9 => h9) rfl dX11_one_235 ?_
                      refine lv_iconst (v := 1) hx hb dX11_one_238 (by decide +kernel) ?_
                      refine lv_isub hx hb dX11_one_239 ?_
                      refine lv_topi (fun v_218 ev_218 => ?_)
                      have tv_218 : v_218.toInt = scg_181.toInt - 1 := by rw [ev_218]; exact k_subv rfl zl_1 (by omega) (by omega)
                      refine va_put (D := D) (ci := 11) (v := .int v_218) (ty := .int) (C := RX11) (T := TX11) (N := 25) hx hb hT giX11 tyX11 tyX11_ok nmX11 hown hK hP hD hS 1 rfl rfl 16 (by decide +kernel) (hT (Cond.fieldLink RX11 170 "DesertWireModel" "open" "I") mw_1172) (fun _ h9 => h9) rfl (by decide +kernel) rfl rfl (Nat.le_of_ble_eq_true rfl) dX11_one_240 ?_
                      clear hP hD hS
                      intro H locs hP hD hS
                      replace hP : va_P D vwCl [(k0, .inl (cI, 1201, .inl c0)), (k, .inr (11, [.ref k0, .ref k1, .ref k2, .int c3, .ref k4, .ref k5, .ref k6, .ref k7, .ref k8, .int c9, .ref ka, .ref kb, .int cc, .int scd_191, .int ce, .int scf_216, .int v_218, .int ch, .int ci, .int cj, .int ck, .ref kl, .int cm, .int cn, .ref ko]))] H := hP
                      replace hD : va_D A [(k0, .inl (cI, 1201, .inl c0)), (k, .inr (11, [.ref k0, .ref k1, .ref k2, .int c3, .ref k4, .ref k5, .ref k6, .ref k7, .ref k8, .int c9, .ref ka, .ref kb, .int cc, .int scd_191, .int ce, .int scf_216, .int v_218, .int ch, .int ci, .int cj, .int ck, .ref kl, .int cm, .int cn, .ref ko]))] := hD
                      refine lv_iload_n hx hb dX11_one_243 rfl (lv_at hl 2 rfl) ?_
                      refine lv_bipush (v := 45) hx hb dX11_one_244 (by decide +kernel) ?_
                      refine b_icmp_ne hx hb rfl zl_45 (tgt := 254) dX11_one_246 (by decide +kernel) (fun c_219 => ?_) (fun c_219 => by exfalso; omega)
                      refine lv_iload_n hx hb dX11_one_254 rfl (lv_at hl 2 rfl) ?_
                      refine lv_bipush (v := 33) hx hb dX11_one_255 (by decide +kernel) ?_
                      refine b_icmp_ne hx hb rfl zl_33 (tgt := 272) dX11_one_257 (by decide +kernel) (fun c_220 => ?_) (fun c_220 => by exfalso; omega)
                      refine lv_iload_n hx hb dX11_one_272 rfl (lv_at hl 0 rfl) ?_
                      exact hRet (scd_191, scf_216, v_218) [1, 0] ⟨(by first | omega | decide | assumption | rfl | (dsimp only; first | omega)), (by first | omega | decide | assumption | rfl | (dsimp only; first | omega)), (by first | omega | decide | assumption | rfl | (dsimp only; first | omega)), (by (try dsimp only); exact (by rw [show scd_191.toInt = scd_179.toInt from by omega]; exact TXQ.par_no (bz := scf_168) (w := r_177) (b := scf_180) (by omega) (by omega) (by omega) (by rw [← h_4]; omega) hq_187 (Or.inl (by omega)) (by omega)))⟩ hP hD (by decide +kernel) rfl hS rfl dX11_one_273
                    · try simp only [zl_41] at h_199
                      have h_199 : scf_180.toInt = 0 := h_199
                      try simp only [zl_41] at h_200
                      have h_200 : (tG c0 cc.toInt.toNat ce scd_179.toInt).toInt ≠ 41 := h_200
                      try simp only [zl_41] at h_201
                      have h_201 : scd_191.toInt = scd_179.toInt := h_201
                      obtain rfl : r_189 = 0 := hr_189.trans (by decide +kernel)
                      refine b_if_eq hx hb zl_0 (tgt := 229) dX11_one_222 (by decide +kernel) (fun c_221 => ?_) (fun c_221 => by exfalso; omega)
                      refine lv_iconst (v := 0) hx hb dX11_one_229 (by decide +kernel) ?_
                      refine kJv (wr := [(k0, .inl (cI, 1201, .inl c0))]) (va_runV (As := [.int 0]) (rest := []) ⟨hx, hb, hml, hown, hT⟩ (c_X11_needsG0 l D cI aK aV k k0 k1 k2 k4 k5 k6 k7 k8 ka kb kl ko H.size c3 c9 cc scd_191 ce scf_180 scg_181 ch ci cj ck cm cn 0 (by first | omega | (simp only [zl_0]; first | done | omega) | decide | assumption | rfl)) (cwV 1 hT (gV_in mw_1347 mw_1344 mw_1346 mw_p4_11 mw_12) rfl rfl rfl (by decide +kernel) ⟨(by dsimp only; omega), (by dsimp only; omega)⟩) (kRecvX (q0 := 0) (ci := 11) hK hP hD hN hXS hS hA rfl rfl [0] rfl (by decide +kernel)) rfl rfl hl.1 rfl (lv_room (Nat.le_of_ble_eq_true rfl)) dX11_one_230 ⟨Nat.le_of_ble_eq_true rfl, Nat.le_of_ble_eq_true rfl⟩) hP hD hS hA [0] [1] rfl rfl (by decide +kernel) (by decide +kernel) ?_
                      clear hP hD hS
                      intro scf_224 H locs w_223 hP hD hS
                      replace hP : va_P D vwCl [(k0, .inl (cI, 1201, .inl c0)), (k, .inr (11, [.ref k0, .ref k1, .ref k2, .int c3, .ref k4, .ref k5, .ref k6, .ref k7, .ref k8, .int c9, .ref ka, .ref kb, .int cc, .int scd_191, .int ce, .int scf_224, .int scg_181, .int ch, .int ci, .int cj, .int ck, .ref kl, .int cm, .int cn, .ref ko]))] H := hP
                      replace hD : va_D A [(k0, .inl (cI, 1201, .inl c0)), (k, .inr (11, [.ref k0, .ref k1, .ref k2, .int c3, .ref k4, .ref k5, .ref k6, .ref k7, .ref k8, .int c9, .ref ka, .ref kb, .int cc, .int scd_191, .int ce, .int scf_224, .int scg_181, .int ch, .int ci, .int cj, .int ck, .ref kl, .int cm, .int cn, .ref ko]))] := hD
                      have lo_scf_224 := k_lo scf_224
                      have hi_scf_224 := k_hi scf_224
                      have h_225 := w_223
                      try simp only [zl_0] at h_225
                      have h_225 : scf_224.toInt = 1 := h_225
                      refine lv_aload_n hx hb dX11_one_233 rfl (lv_at hl 3 rfl) ?_
                      refine lv_dup hx hb dX11_one_234 rfl ?_
                      refine va_get (D := D) (ci := 11) (v := .int scg_181) (C := RX11) (T := TX11) (N := 25) hx hb hT giX11 hown hK hP 1 rfl rfl 16 (by decide +kernel) (hT (Cond.fieldLink RX11 170 "DesertWireModel" "open" "I") mw_1172) (fun _ h9 => h9) rfl dX11_one_235 ?_
                      refine lv_iconst (v := 1) hx hb dX11_one_238 (by decide +kernel) ?_
                      refine lv_isub hx hb dX11_one_239 ?_
                      refine lv_topi (fun v_226 ev_226 => ?_)
                      have tv_226 : v_226.toInt = scg_181.toInt - 1 := by rw [ev_226]; exact k_subv rfl zl_1 (by omega) (by omega)
                      refine va_put (D := D) (ci := 11) (v := .int v_226) (ty := .int) (C := RX11) (T := TX11) (N := 25) hx hb hT giX11 tyX11 tyX11_ok nmX11 hown hK hP hD hS 1 rfl rfl 16 (by decide +kernel) (hT (Cond.fieldLink RX11 170 "DesertWireModel" "open" "I") mw_1172) (fun _ h9 => h9) rfl (by decide +kernel) rfl rfl (Nat.le_of_ble_eq_true rfl) dX11_one_240 ?_
                      clear hP hD hS
                      intro H locs hP hD hS
                      replace hP : va_P D vwCl [(k0, .inl (cI, 1201, .inl c0)), (k, .inr (11, [.ref k0, .ref k1, .ref k2, .int c3, .ref k4, .ref k5, .ref k6, .ref k7, .ref k8, .int c9, .ref ka, .ref kb, .int cc, .int scd_191, .int ce, .int scf_224, .int v_226, .int ch, .int ci, .int cj, .int ck, .ref kl, .int cm, .int cn, .ref ko]))] H := hP
                      replace hD : va_D A [(k0, .inl (cI, 1201, .inl c0)), (k, .inr (11, [.ref k0, .ref k1, .ref k2, .int c3, .ref k4, .ref k5, .ref k6, .ref k7, .ref k8, .int c9, .ref ka, .ref kb, .int cc, .int scd_191, .int ce, .int scf_224, .int v_226, .int ch, .int ci, .int cj, .int ck, .ref kl, .int cm, .int cn, .ref ko]))] := hD
                      refine lv_iload_n hx hb dX11_one_243 rfl (lv_at hl 2 rfl) ?_
                      refine lv_bipush (v := 45) hx hb dX11_one_244 (by decide +kernel) ?_
                      refine b_icmp_ne hx hb rfl zl_45 (tgt := 254) dX11_one_246 (by decide +kernel) (fun c_227 => ?_) (fun c_227 => by exfalso; omega)
                      refine lv_iload_n hx hb dX11_one_254 rfl (lv_at hl 2 rfl) ?_
                      refine lv_bipush (v := 33) hx hb dX11_one_255 (by decide +kernel) ?_
                      refine b_icmp_ne hx hb rfl zl_33 (tgt := 272) dX11_one_257 (by decide +kernel) (fun c_228 => ?_) (fun c_228 => by exfalso; omega)
                      refine lv_iload_n hx hb dX11_one_272 rfl (lv_at hl 0 rfl) ?_
                      exact hRet (scd_191, scf_224, v_226) [1, 0] ⟨(by first | omega | decide | assumption | rfl | (dsimp only; first | omega)), (by first | omega | decide | assumption | rfl | (dsimp only; first | omega)), (by first | omega | decide | assumption | rfl | (dsimp only; first | omega)), (by (try dsimp only); exact (by rw [show scd_191.toInt = scd_179.toInt from by omega]; exact TXQ.par_no (bz := scf_168) (w := r_177) (b := scf_180) (by omega) (by omega) (by omega) (by rw [← h_4]; omega) hq_187 (Or.inr (by intro z; exact h_200 (by rw [z] <;> decide))) (by omega)))⟩ hP hD (by decide +kernel) rfl hS rfl dX11_one_273
                  · (try simp only [zl_1] at h_171 h_172); exfalso; omega
    · refine lv_iconst (v := 0) hx hb dX11_one_12 (by decide +kernel) ?_
      exact hRet (cd, cf, cg) [0, 1] ⟨(by first | omega | (simp only [zl_0]; first | done | omega) | decide | assumption | rfl | (dsimp only; first | omega | (simp only [zl_0]; first | done | omega))), (by first | omega | (simp only [zl_0]; first | done | omega) | decide | assumption | rfl | (dsimp only; first | omega | (simp only [zl_0]; first | done | omega))), (by first | omega | (simp only [zl_0]; first | done | omega) | decide | assumption | rfl | (dsimp only; first | omega | (simp only [zl_0]; first | done | omega))), (by (try dsimp only); exact (TXQ.badE (by omega) (by omega) (by omega)))⟩ hP hD (by decide +kernel) rfl hS rfl dX11_one_13
  · have h_6 : r_1 = tG c0 cc.toInt.toNat ce cd.toInt := h_6
    have h_6 : r_1 = tG c0 cc.toInt.toNat ce cd.toInt := h_6
    have h_7 : cd.toInt = ce.toInt := h_7
    obtain rfl : r_1 = (-1) := hr_1.trans (by decide +kernel)
    refine lv_istore_n (lv' := [(1, .int (-1)), (0, .ref k)]) hx hb dX11_one_4 rfl hl (by decide +kernel) rfl ?_
    clear hl
    intro ls hl
    refine lv_aload_n hx hb dX11_one_5 rfl (lv_at hl 1 rfl) ?_
    refine va_get (D := D) (ci := 11) (v := .int cf) (C := RX11) (T := TX11) (N := 25) hx hb hT giX11 hown hK hP 0 rfl rfl 15 (by decide +kernel) (hT (Cond.fieldLink RX11 148 "DesertWireModel" "isWrong" "Z") mw_1171) (fun _ h9 => h9) rfl dX11_one_6 ?_
    refine b_if_eq hx hb rfl (tgt := 14) dX11_one_9 (by decide +kernel) (fun c_229 => ?_) (fun c_229 => ?_)
    · refine lv_iload_n hx hb dX11_one_14 rfl (lv_at hl 0 rfl) ?_
      refine lv_bipush (v := 48) hx hb dX11_one_15 (by decide +kernel) ?_
      refine lv_bipush (v := 57) hx hb dX11_one_17 (by decide +kernel) ?_
      refine kJi (wr := [(k, .inr (11, [.ref k0, .ref k1, .ref k2, .int c3, .ref k4, .ref k5, .ref k6, .ref k7, .ref k8, .int c9, .ref ka, .ref kb, .int cc, .int cd, .int ce, .int cf, .int cg, .int ch, .int ci, .int cj, .int ck, .ref kl, .int cm, .int cn, .ref ko])), (k0, .inl (cI, 1201, .inl c0))]) (va_runS (As := [.int (-1), .int 48, .int 57]) (rest := []) ⟨hx, hb, hml, hown, hT⟩ (c_X11_inG l D cI aK aV H.size (-1) 48 57) (cwS 3 hT (gS_in mw_1238 mw_1236 mw_1237 mw_12) rfl rfl rfl (by decide +kernel) ⟨(by dsimp only; omega), (by dsimp only; omega)⟩) (kStatX hK hP hD hN hXS hS hA [] rfl (by decide +kernel)) rfl rfl hl.1 rfl (lv_room (Nat.le_of_ble_eq_true rfl)) dX11_one_19 ⟨Nat.le_of_ble_eq_true rfl, Nat.le_of_ble_eq_true rfl⟩) hP hD hS hA [] [0, 1] rfl rfl (by decide +kernel) (by decide +kernel) ?_
      clear hP hD hS
      intro r_230 u_232 H locs w_231 hP hD hS
      replace hP : va_P D vwCl [(k, .inr (11, [.ref k0, .ref k1, .ref k2, .int c3, .ref k4, .ref k5, .ref k6, .ref k7, .ref k8, .int c9, .ref ka, .ref kb, .int cc, .int cd, .int ce, .int cf, .int cg, .int ch, .int ci, .int cj, .int ck, .ref kl, .int cm, .int cn, .ref ko])), (k0, .inl (cI, 1201, .inl c0))] H := hP
      replace hD : va_D A [(k, .inr (11, [.ref k0, .ref k1, .ref k2, .int c3, .ref k4, .ref k5, .ref k6, .ref k7, .ref k8, .int c9, .ref ka, .ref kb, .int cc, .int cd, .int ce, .int cf, .int cg, .int ch, .int ci, .int cj, .int ck, .ref kl, .int cm, .int cn, .ref ko])), (k0, .inl (cI, 1201, .inl c0))] := hD
      rcases w_231 with ⟨hr_230, h_233, h_234⟩ | ⟨hr_230, h_235⟩
      · (try simp only [zl_m1, zl_48, zl_57] at h_233 h_234); exfalso; omega
      · try simp only [zl_m1, zl_48, zl_57] at h_235
        obtain rfl : r_230 = 0 := hr_230.trans (by decide +kernel)
        refine b_if_eq hx hb zl_0 (tgt := 79) dX11_one_22 (by decide +kernel) (fun c_236 => ?_) (fun c_236 => by exfalso; omega)
        refine lv_aload_n hx hb dX11_one_79 rfl (lv_at hl 1 rfl) ?_
        refine lv_iload_n hx hb dX11_one_80 rfl (lv_at hl 0 rfl) ?_
        refine kJi (wr := [(k0, .inl (cI, 1201, .inl c0))]) (va_runV (As := [.int (-1)]) (rest := []) ⟨hx, hb, hml, hown, hT⟩ (c_X11_nameAtG l D cI aK aV k k0 k1 k2 k4 k5 k6 k7 k8 ka kb kl ko H.size c3 c9 cc cd ce cf cg ch ci cj ck cm cn (-1)) (cwV 1 hT (gV_in mw_1343 mw_1340 mw_1342 mw_p4_10 mw_12) rfl rfl rfl (by decide +kernel) ⟨(by dsimp only; omega), (by dsimp only; omega)⟩) (kRecvX (q0 := 0) (ci := 11) hK hP hD hN hXS hS hA rfl rfl [0] rfl (by decide +kernel)) rfl rfl hl.1 rfl (lv_room (Nat.le_of_ble_eq_true rfl)) dX11_one_81 ⟨Nat.le_of_ble_eq_true rfl, Nat.le_of_ble_eq_true rfl⟩) hP hD hS hA [0] [1] rfl rfl (by decide +kernel) (by decide +kernel) ?_
        clear hP hD hS
        intro r_237 u_239 H locs w_238 hP hD hS
        replace hP : va_P D vwCl [(k0, .inl (cI, 1201, .inl c0)), (k, .inr (11, [.ref k0, .ref k1, .ref k2, .int c3, .ref k4, .ref k5, .ref k6, .ref k7, .ref k8, .int c9, .ref ka, .ref kb, .int cc, .int cd, .int ce, .int cf, .int cg, .int ch, .int ci, .int cj, .int ck, .ref kl, .int cm, .int cn, .ref ko]))] H := hP
        replace hD : va_D A [(k0, .inl (cI, 1201, .inl c0)), (k, .inr (11, [.ref k0, .ref k1, .ref k2, .int c3, .ref k4, .ref k5, .ref k6, .ref k7, .ref k8, .int c9, .ref ka, .ref kb, .int cc, .int cd, .int ce, .int cf, .int cg, .int ch, .int ci, .int cj, .int ck, .ref kl, .int cm, .int cn, .ref ko]))] := hD
        rcases w_238 with ⟨h_240, h_241, h_242, h_243⟩ | ⟨hr_237, h_244⟩
        · (try simp only [zl_m1] at h_240 h_241 h_242 h_243); exfalso; omega
        · try simp only [zl_m1] at h_244
          have h_244 : r_237.toInt = tx_nm ch (-1) := h_244
          obtain rfl : r_237 = (-1) := hr_237.trans (by decide +kernel)
          refine lv_istore_n (lv' := [(2, .int (-1)), (1, .int (-1)), (0, .ref k)]) hx hb dX11_one_84 rfl hl (by decide +kernel) rfl ?_
          clear hl
          intro ls hl
          refine lv_iload_n hx hb dX11_one_85 rfl (lv_at hl 0 rfl) ?_
          refine b_if_lt hx hb zl_m1 (tgt := 127) dX11_one_86 (by decide +kernel) (fun c_245 => ?_) (fun c_245 => by exfalso; omega)
          refine lv_aload_n hx hb dX11_one_127 rfl (lv_at hl 2 rfl) ?_
          refine lv_iload_n hx hb dX11_one_128 rfl (lv_at hl 1 rfl) ?_
          refine lv_bipush (v := 45) hx hb dX11_one_129 (by decide +kernel) ?_
          refine b_icmp_eq hx hb zl_m1 zl_45 (tgt := 146) dX11_one_131 (by decide +kernel) (fun c_246 => by exfalso; omega) (fun c_246 => ?_)
          refine lv_iload_n hx hb dX11_one_134 rfl (lv_at hl 1 rfl) ?_
          refine lv_bipush (v := 33) hx hb dX11_one_135 (by decide +kernel) ?_
          refine b_icmp_eq hx hb zl_m1 zl_33 (tgt := 146) dX11_one_137 (by decide +kernel) (fun c_247 => by exfalso; omega) (fun c_247 => ?_)
          refine lv_iload_n hx hb dX11_one_140 rfl (lv_at hl 1 rfl) ?_
          refine lv_bipush (v := 40) hx hb dX11_one_141 (by decide +kernel) ?_
          refine b_icmp_ne hx hb zl_m1 zl_40 (tgt := 158) dX11_one_143 (by decide +kernel) (fun c_248 => ?_) (fun c_248 => by exfalso; omega)
          refine lv_iconst (v := 0) hx hb dX11_one_158 (by decide +kernel) ?_
          refine kJv (wr := [(k0, .inl (cI, 1201, .inl c0))]) (va_runV (As := [.int 0]) (rest := []) ⟨hx, hb, hml, hown, hT⟩ (c_X11_needsG0 l D cI aK aV k k0 k1 k2 k4 k5 k6 k7 k8 ka kb kl ko H.size c3 c9 cc cd ce cf cg ch ci cj ck cm cn 0 (by first | omega | (simp only [zl_0]; first | done | omega) | decide | assumption | rfl)) (cwV 1 hT (gV_in mw_1347 mw_1344 mw_1346 mw_p4_11 mw_12) rfl rfl rfl (by decide +kernel) ⟨(by dsimp only; omega), (by dsimp only; omega)⟩) (kRecvX (q0 := 1) (ci := 11) hK hP hD hN hXS hS hA rfl rfl [1] rfl (by decide +kernel)) rfl rfl hl.1 rfl (lv_room (Nat.le_of_ble_eq_true rfl)) dX11_one_159 ⟨Nat.le_of_ble_eq_true rfl, Nat.le_of_ble_eq_true rfl⟩) hP hD hS hA [1] [0] rfl rfl (by decide +kernel) (by decide +kernel) ?_
          clear hP hD hS
          intro scf_251 H locs w_250 hP hD hS
          replace hP : va_P D vwCl [(k0, .inl (cI, 1201, .inl c0)), (k, .inr (11, [.ref k0, .ref k1, .ref k2, .int c3, .ref k4, .ref k5, .ref k6, .ref k7, .ref k8, .int c9, .ref ka, .ref kb, .int cc, .int cd, .int ce, .int scf_251, .int cg, .int ch, .int ci, .int cj, .int ck, .ref kl, .int cm, .int cn, .ref ko]))] H := hP
          replace hD : va_D A [(k0, .inl (cI, 1201, .inl c0)), (k, .inr (11, [.ref k0, .ref k1, .ref k2, .int c3, .ref k4, .ref k5, .ref k6, .ref k7, .ref k8, .int c9, .ref ka, .ref kb, .int cc, .int cd, .int ce, .int scf_251, .int cg, .int ch, .int ci, .int cj, .int ck, .ref kl, .int cm, .int cn, .ref ko]))] := hD
          have lo_scf_251 := k_lo scf_251
          have hi_scf_251 := k_hi scf_251
          have h_252 := w_250
          try simp only [zl_0] at h_252
          have h_252 : scf_251.toInt = 1 := h_252
          refine lv_aload_n hx hb dX11_one_162 rfl (lv_at hl 2 rfl) ?_
          refine va_get (D := D) (ci := 11) (v := .int scf_251) (C := RX11) (T := TX11) (N := 25) hx hb hT giX11 hown hK hP 1 rfl rfl 15 (by decide +kernel) (hT (Cond.fieldLink RX11 148 "DesertWireModel" "isWrong" "Z") mw_1171) (fun _ h9 => h9) rfl dX11_one_163 ?_
          refine b_if_eq hx hb rfl (tgt := 171) dX11_one_166 (by decide +kernel) (fun c_253 => by exfalso; omega) (fun c_253 => ?_)
          refine lv_iconst (v := 0) hx hb dX11_one_169 (by decide +kernel) ?_
          exact hRet (cd, scf_251, cg) [1, 0] ⟨(by first | omega | (simp only [zl_0]; first | done | omega) | decide | assumption | rfl | (dsimp only; first | omega | (simp only [zl_0]; first | done | omega))), (by first | omega | (simp only [zl_0]; first | done | omega) | decide | assumption | rfl | (dsimp only; first | omega | (simp only [zl_0]; first | done | omega))), (by first | omega | (simp only [zl_0]; first | done | omega) | decide | assumption | rfl | (dsimp only; first | omega | (simp only [zl_0]; first | done | omega))), (by (try dsimp only); exact (TXQ.fail (by omega) (by rw [← h_6]; omega) (by rw [← h_6]; first | exact Or.inl ⟨by omega, by omega⟩ | exact Or.inr ⟨by omega, by omega, by omega, by omega⟩) (by omega)))⟩ hP hD (by decide +kernel) rfl hS rfl dX11_one_170
    · refine lv_iconst (v := 0) hx hb dX11_one_12 (by decide +kernel) ?_
      exact hRet (cd, cf, cg) [0, 1] ⟨(by first | omega | (simp only [zl_0]; first | done | omega) | decide | assumption | rfl | (dsimp only; first | omega | (simp only [zl_0]; first | done | omega))), (by first | omega | (simp only [zl_0]; first | done | omega) | decide | assumption | rfl | (dsimp only; first | omega | (simp only [zl_0]; first | done | omega))), (by first | omega | (simp only [zl_0]; first | done | omega) | decide | assumption | rfl | (dsimp only; first | omega | (simp only [zl_0]; first | done | omega))), (by (try dsimp only); exact (TXQ.badE (by omega) (by omega) (by omega)))⟩ hP hD (by decide +kernel) rfl hS rfl dX11_one_13
set_option maxHeartbeats 4000000 in
set_option maxRecDepth 100000 in
theorem c_X11_product_of (dd : Nat) (ih : RTP dd) (l : Launch) (D : va_G) (cI : ClassId) (aK aV : Nat → Nat) (k k0 k1 k2 k4 k5 k6 k7 k8 ka kb kl ko : Nat) (sz : Nat) (c3 : Int32) (c9 : Int32) (cc : Int32) (cd : Int32) (ce : Int32) (cf : Int32) (cg : Int32) (ch : Int32) (ci : Int32) (cj : Int32) (ck : Int32) (cm : Int32) (cn : Int32) (c0 : Nat → Int32) (pre0 : 0 ≤ cc.toInt) (pre1 : cc.toInt ≤ 1151) (pre2 : 0 ≤ cd.toInt) (pre3 : cd.toInt ≤ ce.toInt) (pre4 : ce.toInt ≤ 50) (pre5 : 0 ≤ cg.toInt) (pre6 : cg.toInt ≤ 4) (pre7 : (4 - cg.toInt).toNat < dd + 1)  : Met l yX11_product (gW yX11_product cX11_product 4 (some .int)) ({ frames := 20 * (dd + 1) + 14, cells := 0, slots := 0, locals := 1400 * (dd + 1) + 980 } : Room) (kPreX D cI aK aV [.ref k] [(k, .inr (11, [.ref k0, .ref k1, .ref k2, .int c3, .ref k4, .ref k5, .ref k6, .ref k7, .ref k8, .int c9, .ref ka, .ref kb, .int cc, .int cd, .int ce, .int cf, .int cg, .int ch, .int ci, .int cj, .int ck, .ref kl, .int cm, .int cn, .ref ko])), (k0, .inl (cI, 1201, .inl c0))] sz) (va_Qi (fun (r : Int32) (u : Int32 × Int32 × Int32) => cd.toInt ≤ u.1.toInt ∧ u.1.toInt ≤ ce.toInt ∧ u.2.2.toInt = cg.toInt ∧ TXQ (tG c0 cc.toInt.toNat ce) ch ci cj ck 4 cg.toInt cf 0 cd.toInt r u.1.toInt u.2.1) (fun u t => kWd D cI (va_A [(k, .inr (11, [.ref k0, .ref k1, .ref k2, .int c3, .ref k4, .ref k5, .ref k6, .ref k7, .ref k8, .int c9, .ref ka, .ref kb, .int cc, .int cd, .int ce, .int cf, .int cg, .int ch, .int ci, .int cj, .int ck, .ref kl, .int cm, .int cn, .ref ko])), (k0, .inl (cI, 1201, .inl c0))] sz) [(k, .inr (11, [.ref k0, .ref k1, .ref k2, .int c3, .ref k4, .ref k5, .ref k6, .ref k7, .ref k8, .int c9, .ref ka, .ref kb, .int cc, .int u.1, .int ce, .int u.2.1, .int u.2.2, .int ch, .int ci, .int cj, .int ck, .ref kl, .int cm, .int cn, .ref ko])), (k0, .inl (cI, 1201, .inl c0))] t) (va_A [(k, .inr (11, [.ref k0, .ref k1, .ref k2, .int c3, .ref k4, .ref k5, .ref k6, .ref k7, .ref k8, .int c9, .ref ka, .ref kb, .int cc, .int cd, .int ce, .int cf, .int cg, .int ch, .int ci, .int cj, .int ck, .ref kl, .int cm, .int cn, .ref ko])), (k0, .inl (cI, 1201, .inl c0))] sz)) 0 0 (va_A [(k, .inr (11, [.ref k0, .ref k1, .ref k2, .int c3, .ref k4, .ref k5, .ref k6, .ref k7, .ref k8, .int c9, .ref ka, .ref kb, .int cc, .int cd, .int ce, .int cf, .int cg, .int ch, .int ci, .int cj, .int ck, .ref kl, .int cm, .int cn, .ref ko])), (k0, .inl (cI, 1201, .inl c0))] sz) := by
  refine kMetIX (own := RX11) (by decide +kernel) rfl (Nat.le_of_ble_eq_true rfl) ?_
  intro p e s m args below meth c hx hb hT hown hname hml A Q hK hP hD hS hA hN hXS hRet ls hl
  have hl : lv_has ls 4 [(0, .ref k)] := hl
  have lo_cc := k_lo cc
  have hi_cc := k_hi cc
  have lo_cd := k_lo cd
  have hi_cd := k_hi cd
  have lo_ce := k_lo ce
  have hi_ce := k_hi ce
  have lo_cf := k_lo cf
  have hi_cf := k_hi cf
  have lo_cg := k_lo cg
  have hi_cg := k_hi cg
  have lo_ch := k_lo ch
  have hi_ch := k_hi ch
  have lo_ci := k_lo ci
  have hi_ci := k_hi ci
  have lo_cj := k_lo cj
  have hi_cj := k_hi cj
  have lo_ck := k_lo ck
  have hi_ck := k_hi ck
  have hm1 := zl_m1
  refine lv_aload_n hx hb dX11_product_0 rfl (lv_at hl 0 rfl) ?_
  refine kJi (wr := []) (va_runV (As := []) (rest := []) ⟨hx, hb, hml, hown, hT⟩ (c_X11_one_of dd ih l D cI aK aV k k0 k1 k2 k4 k5 k6 k7 k8 ka kb kl ko s.heap.size c3 c9 cc cd ce cf cg ch ci cj ck cm cn c0 (by first | omega | decide | assumption | rfl) (by first | omega | decide | assumption | rfl) (by first | omega | decide | assumption | rfl) (by first | omega | decide | assumption | rfl) (by first | omega | decide | assumption | rfl) (by first | omega | decide | assumption | rfl) (by first | omega | decide | assumption | rfl) (by first | omega | decide | assumption | rfl)) (cwV 0 hT (gV_in mw_1335 mw_1332 mw_1334 mw_p4_8 mw_12) rfl rfl rfl (by decide +kernel) ⟨(by dsimp only; omega), (by dsimp only; omega)⟩) (kRecvX (q0 := 0) (ci := 11) hK hP hD hN hXS hS hA rfl rfl [0, 1] rfl (by decide +kernel)) rfl rfl hl.1 rfl (lv_room (Nat.le_of_ble_eq_true rfl)) dX11_product_1 ⟨Nat.le_of_ble_eq_true rfl, Nat.le_of_ble_eq_true rfl⟩) hP hD hS hA [0, 1] [] rfl rfl (by decide +kernel) (by decide +kernel) ?_
  clear hP hD hS
  intro r_1 u_6 H locs w_2 hP hD hS
  obtain ⟨scd_3, scf_4, scg_5⟩ := u_6
  replace hP : va_P D vwCl [(k, .inr (11, [.ref k0, .ref k1, .ref k2, .int c3, .ref k4, .ref k5, .ref k6, .ref k7, .ref k8, .int c9, .ref ka, .ref kb, .int cc, .int scd_3, .int ce, .int scf_4, .int scg_5, .int ch, .int ci, .int cj, .int ck, .ref kl, .int cm, .int cn, .ref ko])), (k0, .inl (cI, 1201, .inl c0))] H := hP
  replace hD : va_D A [(k, .inr (11, [.ref k0, .ref k1, .ref k2, .int c3, .ref k4, .ref k5, .ref k6, .ref k7, .ref k8, .int c9, .ref ka, .ref kb, .int cc, .int scd_3, .int ce, .int scf_4, .int scg_5, .int ch, .int ci, .int cj, .int ck, .ref kl, .int cm, .int cn, .ref ko])), (k0, .inl (cI, 1201, .inl c0))] := hD
  have lo_scd_3 := k_lo scd_3
  have hi_scd_3 := k_hi scd_3
  have lo_scf_4 := k_lo scf_4
  have hi_scf_4 := k_hi scf_4
  have lo_scg_5 := k_lo scg_5
  have hi_scg_5 := k_hi scg_5
  obtain ⟨h_7, h_8, h_9, h_10⟩ := w_2
  have h_7 : cd.toInt ≤ scd_3.toInt := h_7
  have h_8 : scd_3.toInt ≤ ce.toInt := h_8
  have h_9 : scg_5.toInt = cg.toInt := h_9
  have h_10 : TXQ (tG c0 cc.toInt.toNat ce) ch ci cj ck 5 cg.toInt cf 0 cd.toInt r_1 scd_3.toInt scf_4 := h_10
  have h_10 : TXQ (tG c0 cc.toInt.toNat ce) ch ci cj ck 5 cg.toInt cf 0 cd.toInt r_1 scd_3.toInt scf_4 := h_10
  have lo_r_1 := k_lo r_1
  have hi_r_1 := k_hi r_1
  refine lv_istore_n (lv' := [(1, .int r_1), (0, .ref k)]) hx hb dX11_product_4 rfl hl (by decide +kernel) rfl ?_
  clear hl
  intro ls hl
  have hloop_5 : ∀ (fu_ : Nat) (l5_1 : Int32) (f5_kd : Int32) (f5_kf : Int32) (f5_kg : Int32), scd_3.toInt ≤ f5_kd.toInt → scg_5.toInt ≤ f5_kg.toInt → f5_kg.toInt ≤ scg_5.toInt → f5_kd.toInt ≤ ce.toInt → cd.toInt ≤ f5_kd.toInt → f5_kg.toInt = cg.toInt → (∀ (r : Int32) (q : Int) (b : Int32), TXQ (tG c0 cc.toInt.toNat ce) ch ci cj ck 14 cg.toInt f5_kf l5_1 f5_kd.toInt r q b → TXQ (tG c0 cc.toInt.toNat ce) ch ci cj ck 4 cg.toInt cf 0 cd.toInt r q b) → (ce.toInt - f5_kd.toInt).toNat < fu_ → ∀ (ls : Array Slot) (H : Heap) (locs : List Loc), lv_has ls 4 [(1, .int l5_1), (0, .ref k)] → va_P D vwCl [(k, .inr (11, [.ref k0, .ref k1, .ref k2, .int c3, .ref k4, .ref k5, .ref k6, .ref k7, .ref k8, .int c9, .ref ka, .ref kb, .int cc, .int f5_kd, .int ce, .int f5_kf, .int f5_kg, .int ch, .int ci, .int cj, .int ck, .ref kl, .int cm, .int cn, .ref ko])), (k0, .inl (cI, 1201, .inl c0))] H → va_D A [(k, .inr (11, [.ref k0, .ref k1, .ref k2, .int c3, .ref k4, .ref k5, .ref k6, .ref k7, .ref k8, .int c9, .ref ka, .ref kb, .int cc, .int f5_kd, .int ce, .int f5_kf, .int f5_kg, .int ch, .int ci, .int cj, .int ck, .ref kl, .int cm, .int cn, .ref ko])), (k0, .inl (cI, 1201, .inl c0))] → va_S A s.heap H locs → W p l e ({ frames := 20 * (dd + 1) + 14, cells := 0, slots := 0, locals := 1400 * (dd + 1) + 980 } : Room) s m args below meth c H locs 0 0 Q (F0 m 5 ls []) := by
    intro fu_; induction fu_ with
    | zero => intro l5_1 f5_kd f5_kf f5_kg i5_0 i5_1 i5_2 i5_3 i5_4 i5_5 i5_6 hm; exact absurd hm (by omega)
    | succ fu_ ih5 =>
        intro l5_1 f5_kd f5_kf f5_kg i5_0 i5_1 i5_2 i5_3 i5_4 i5_5 i5_6 hm ls H locs hl hP hD hS
        have lo_l5_1 := k_lo l5_1
        have hi_l5_1 := k_hi l5_1
        have lo_f5_kd := k_lo f5_kd
        have hi_f5_kd := k_hi f5_kd
        have lo_f5_kf := k_lo f5_kf
        have hi_f5_kf := k_hi f5_kf
        have lo_f5_kg := k_lo f5_kg
        have hi_f5_kg := k_hi f5_kg
        refine lv_aload_n hx hb dX11_product_5 rfl (lv_at hl 1 rfl) ?_
        refine va_get (D := D) (ci := 11) (v := .int f5_kf) (C := RX11) (T := TX11) (N := 25) hx hb hT giX11 hown hK hP 0 rfl rfl 15 (by decide +kernel) (hT (Cond.fieldLink RX11 148 "DesertWireModel" "isWrong" "Z") mw_1171) (fun _ h9 => h9) rfl dX11_product_6 ?_
        refine b_if_ne hx hb rfl (tgt := 85) dX11_product_9 (by decide +kernel) (fun c_11 => ?_) (fun c_11 => ?_)
        · refine lv_iload_n hx hb dX11_product_85 rfl (lv_at hl 0 rfl) ?_
          exact hRet (f5_kd, f5_kf, f5_kg) [0, 1] ⟨(by first | omega | decide | assumption | rfl | (dsimp only; first | omega)), (by first | omega | decide | assumption | rfl | (dsimp only; first | omega)), (by first | omega | decide | assumption | rfl | (dsimp only; first | omega)), (by (try dsimp only); exact (i5_6 _ _ _ (TXQ.badE (by omega) (by omega) (by omega))))⟩ hP hD (by decide +kernel) rfl hS rfl dX11_product_86
        · refine lv_aload_n hx hb dX11_product_12 rfl (lv_at hl 1 rfl) ?_
          refine kJi (wr := []) (va_runV (As := []) (rest := []) ⟨hx, hb, hml, hown, hT⟩ (c_X11_nowG l D cI aK aV k k0 k1 k2 k4 k5 k6 k7 k8 ka kb kl ko H.size c3 c9 cc f5_kd ce f5_kf f5_kg ch ci cj ck cm cn c0 (by first | omega | decide | assumption | rfl) (by first | omega | decide | assumption | rfl) (by first | omega | decide | assumption | rfl) (by first | omega | decide | assumption | rfl) (by first | omega | decide | assumption | rfl)) (cwV 0 hT (gV_in mw_1339 mw_1336 mw_1338 mw_p4_9 mw_12) rfl rfl rfl (by decide +kernel) ⟨(by dsimp only; omega), (by dsimp only; omega)⟩) (kRecvX (q0 := 0) (ci := 11) hK hP hD hN hXS hS hA rfl rfl [0, 1] rfl (by decide +kernel)) rfl rfl hl.1 rfl (lv_room (Nat.le_of_ble_eq_true rfl)) dX11_product_13 ⟨Nat.le_of_ble_eq_true rfl, Nat.le_of_ble_eq_true rfl⟩) hP hD hS hA [0, 1] [] rfl rfl (by decide +kernel) (by decide +kernel) ?_
          clear hP hD hS
          intro r_12 u_14 H locs w_13 hP hD hS
          replace hP : va_P D vwCl [(k, .inr (11, [.ref k0, .ref k1, .ref k2, .int c3, .ref k4, .ref k5, .ref k6, .ref k7, .ref k8, .int c9, .ref ka, .ref kb, .int cc, .int f5_kd, .int ce, .int f5_kf, .int f5_kg, .int ch, .int ci, .int cj, .int ck, .ref kl, .int cm, .int cn, .ref ko])), (k0, .inl (cI, 1201, .inl c0))] H := hP
          replace hD : va_D A [(k, .inr (11, [.ref k0, .ref k1, .ref k2, .int c3, .ref k4, .ref k5, .ref k6, .ref k7, .ref k8, .int c9, .ref ka, .ref kb, .int cc, .int f5_kd, .int ce, .int f5_kf, .int f5_kg, .int ch, .int ci, .int cj, .int ck, .ref kl, .int cm, .int cn, .ref ko])), (k0, .inl (cI, 1201, .inl c0))] := hD
          rcases w_13 with ⟨h_15, h_16⟩ | ⟨hr_12, h_17, h_18⟩
          · have h_15 : r_12 = tG c0 cc.toInt.toNat ce f5_kd.toInt := h_15
            have h_15 : r_12 = tG c0 cc.toInt.toNat ce f5_kd.toInt := h_15
            have h_16 : f5_kd.toInt < ce.toInt := h_16
            have lo_r_12 := k_lo r_12
            have hi_r_12 := k_hi r_12
            refine lv_bipush (v := 42) hx hb dX11_product_16 (by decide +kernel) ?_
            refine b_icmp_eq hx hb rfl zl_42 (tgt := 30) dX11_product_18 (by decide +kernel) (fun c_19 => ?_) (fun c_19 => ?_)
            · refine lv_aload_n hx hb dX11_product_30 rfl (lv_at hl 1 rfl) ?_
              refine kJi (wr := []) (va_runV (As := []) (rest := []) ⟨hx, hb, hml, hown, hT⟩ (c_X11_nowG l D cI aK aV k k0 k1 k2 k4 k5 k6 k7 k8 ka kb kl ko H.size c3 c9 cc f5_kd ce f5_kf f5_kg ch ci cj ck cm cn c0 (by first | omega | decide | assumption | rfl) (by first | omega | decide | assumption | rfl) (by first | omega | decide | assumption | rfl) (by first | omega | decide | assumption | rfl) (by first | omega | decide | assumption | rfl)) (cwV 0 hT (gV_in mw_1339 mw_1336 mw_1338 mw_p4_9 mw_12) rfl rfl rfl (by decide +kernel) ⟨(by dsimp only; omega), (by dsimp only; omega)⟩) (kRecvX (q0 := 0) (ci := 11) hK hP hD hN hXS hS hA rfl rfl [0, 1] rfl (by decide +kernel)) rfl rfl hl.1 rfl (lv_room (Nat.le_of_ble_eq_true rfl)) dX11_product_31 ⟨Nat.le_of_ble_eq_true rfl, Nat.le_of_ble_eq_true rfl⟩) hP hD hS hA [0, 1] [] rfl rfl (by decide +kernel) (by decide +kernel) ?_
              clear hP hD hS
              intro r_20 u_22 H locs w_21 hP hD hS
              replace hP : va_P D vwCl [(k, .inr (11, [.ref k0, .ref k1, .ref k2, .int c3, .ref k4, .ref k5, .ref k6, .ref k7, .ref k8, .int c9, .ref ka, .ref kb, .int cc, .int f5_kd, .int ce, .int f5_kf, .int f5_kg, .int ch, .int ci, .int cj, .int ck, .ref kl, .int cm, .int cn, .ref ko])), (k0, .inl (cI, 1201, .inl c0))] H := hP
              replace hD : va_D A [(k, .inr (11, [.ref k0, .ref k1, .ref k2, .int c3, .ref k4, .ref k5, .ref k6, .ref k7, .ref k8, .int c9, .ref ka, .ref kb, .int cc, .int f5_kd, .int ce, .int f5_kf, .int f5_kg, .int ch, .int ci, .int cj, .int ck, .ref kl, .int cm, .int cn, .ref ko])), (k0, .inl (cI, 1201, .inl c0))] := hD
              rcases w_21 with ⟨h_23, h_24⟩ | ⟨hr_20, h_25, h_26⟩
              · have h_23 : r_20 = tG c0 cc.toInt.toNat ce f5_kd.toInt := h_23
                have h_23 : r_20 = tG c0 cc.toInt.toNat ce f5_kd.toInt := h_23
                have q_27 : r_20.toInt = r_12.toInt := by rw [h_23, h_15]
                have h_24 : f5_kd.toInt < ce.toInt := h_24
                have lo_r_20 := k_lo r_20
                have hi_r_20 := k_hi r_20
                refine lv_bipush (v := 42) hx hb dX11_product_34 (by decide +kernel) ?_
                refine b_icmp_ne hx hb rfl zl_42 (tgt := 43) dX11_product_36 (by decide +kernel) (fun c_28 => by exfalso; omega) (fun c_28 => ?_)
                refine lv_iconst (v := 1) hx hb dX11_product_39 (by decide +kernel) ?_
                refine lv_goto (tgt := 44) hx hb dX11_product_40 (by decide +kernel) ?_
                refine lv_istore_n (lv' := [(2, .int 1), (1, .int l5_1), (0, .ref k)]) hx hb dX11_product_44 rfl hl (by decide +kernel) rfl ?_
                clear hl
                intro ls hl
                refine lv_aload_n hx hb dX11_product_45 rfl (lv_at hl 2 rfl) ?_
                refine lv_dup hx hb dX11_product_46 rfl ?_
                refine va_get (D := D) (ci := 11) (v := .int f5_kd) (C := RX11) (T := TX11) (N := 25) hx hb hT giX11 hown hK hP 0 rfl rfl 13 (by decide +kernel) (hT (Cond.fieldLink RX11 138 "DesertWireModel" "here" "I") mw_1169) (fun _ h9 => h9) rfl dX11_product_47 ?_
                refine lv_iconst (v := 1) hx hb dX11_product_50 (by decide +kernel) ?_
                refine lv_iadd hx hb dX11_product_51 ?_
                refine lv_topi (fun v_29 ev_29 => ?_)
                have tv_29 : v_29.toInt = f5_kd.toInt + 1 := by rw [ev_29]; exact k_addv rfl zl_1 (by omega) (by omega)
                refine va_put (D := D) (ci := 11) (v := .int v_29) (ty := .int) (C := RX11) (T := TX11) (N := 25) hx hb hT giX11 tyX11 tyX11_ok nmX11 hown hK hP hD hS 0 rfl rfl 13 (by decide +kernel) (hT (Cond.fieldLink RX11 138 "DesertWireModel" "here" "I") mw_1169) (fun _ h9 => h9) rfl (by decide +kernel) rfl rfl (Nat.le_of_ble_eq_true rfl) dX11_product_52 ?_
                clear hP hD hS
                intro H locs hP hD hS
                replace hP : va_P D vwCl [(k, .inr (11, [.ref k0, .ref k1, .ref k2, .int c3, .ref k4, .ref k5, .ref k6, .ref k7, .ref k8, .int c9, .ref ka, .ref kb, .int cc, .int v_29, .int ce, .int f5_kf, .int f5_kg, .int ch, .int ci, .int cj, .int ck, .ref kl, .int cm, .int cn, .ref ko])), (k0, .inl (cI, 1201, .inl c0))] H := hP
                replace hD : va_D A [(k, .inr (11, [.ref k0, .ref k1, .ref k2, .int c3, .ref k4, .ref k5, .ref k6, .ref k7, .ref k8, .int c9, .ref ka, .ref kb, .int cc, .int v_29, .int ce, .int f5_kf, .int f5_kg, .int ch, .int ci, .int cj, .int ck, .ref kl, .int cm, .int cn, .ref ko])), (k0, .inl (cI, 1201, .inl c0))] := hD
                refine lv_aload_n hx hb dX11_product_55 rfl (lv_at hl 2 rfl) ?_
                refine kJi (wr := []) (va_runV (As := []) (rest := []) ⟨hx, hb, hml, hown, hT⟩ (c_X11_one_of dd ih l D cI aK aV k k0 k1 k2 k4 k5 k6 k7 k8 ka kb kl ko H.size c3 c9 cc v_29 ce f5_kf f5_kg ch ci cj ck cm cn c0 (by first | omega | decide | assumption | rfl) (by first | omega | decide | assumption | rfl) (by first | omega | decide | assumption | rfl) (by first | omega | decide | assumption | rfl) (by first | omega | decide | assumption | rfl) (by first | omega | decide | assumption | rfl) (by first | omega | decide | assumption | rfl) (by first | omega | decide | assumption | rfl)) (cwV 0 hT (gV_in mw_1335 mw_1332 mw_1334 mw_p4_8 mw_12) rfl rfl rfl (by decide +kernel) ⟨(by dsimp only; omega), (by dsimp only; omega)⟩) (kRecvX (q0 := 0) (ci := 11) hK hP hD hN hXS hS hA rfl rfl [0, 1] rfl (by decide +kernel)) rfl rfl hl.1 rfl (lv_room (Nat.le_of_ble_eq_true rfl)) dX11_product_56 ⟨Nat.le_of_ble_eq_true rfl, Nat.le_of_ble_eq_true rfl⟩) hP hD hS hA [0, 1] [] rfl rfl (by decide +kernel) (by decide +kernel) ?_
                clear hP hD hS
                intro r_30 u_35 H locs w_31 hP hD hS
                obtain ⟨scd_32, scf_33, scg_34⟩ := u_35
                replace hP : va_P D vwCl [(k, .inr (11, [.ref k0, .ref k1, .ref k2, .int c3, .ref k4, .ref k5, .ref k6, .ref k7, .ref k8, .int c9, .ref ka, .ref kb, .int cc, .int scd_32, .int ce, .int scf_33, .int scg_34, .int ch, .int ci, .int cj, .int ck, .ref kl, .int cm, .int cn, .ref ko])), (k0, .inl (cI, 1201, .inl c0))] H := hP
                replace hD : va_D A [(k, .inr (11, [.ref k0, .ref k1, .ref k2, .int c3, .ref k4, .ref k5, .ref k6, .ref k7, .ref k8, .int c9, .ref ka, .ref kb, .int cc, .int scd_32, .int ce, .int scf_33, .int scg_34, .int ch, .int ci, .int cj, .int ck, .ref kl, .int cm, .int cn, .ref ko])), (k0, .inl (cI, 1201, .inl c0))] := hD
                have lo_scd_32 := k_lo scd_32
                have hi_scd_32 := k_hi scd_32
                have lo_scf_33 := k_lo scf_33
                have hi_scf_33 := k_hi scf_33
                have lo_scg_34 := k_lo scg_34
                have hi_scg_34 := k_hi scg_34
                obtain ⟨h_36, h_37, h_38, h_39⟩ := w_31
                have h_36 : v_29.toInt ≤ scd_32.toInt := h_36
                have h_37 : scd_32.toInt ≤ ce.toInt := h_37
                have h_38 : scg_34.toInt = f5_kg.toInt := h_38
                have h_39 : TXQ (tG c0 cc.toInt.toNat ce) ch ci cj ck 5 f5_kg.toInt f5_kf 0 v_29.toInt r_30 scd_32.toInt scf_33 := h_39
                have h_39 : TXQ (tG c0 cc.toInt.toNat ce) ch ci cj ck 5 f5_kg.toInt f5_kf 0 v_29.toInt r_30 scd_32.toInt scf_33 := h_39
                have lo_r_30 := k_lo r_30
                have hi_r_30 := k_hi r_30
                refine lv_istore_n (lv' := [(3, .int r_30), (2, .int 1), (1, .int l5_1), (0, .ref k)]) hx hb dX11_product_59 rfl hl (by decide +kernel) rfl ?_
                clear hl
                intro ls hl
                refine lv_iload_n hx hb dX11_product_60 rfl (lv_at hl 1 rfl) ?_
                refine b_if_eq hx hb zl_1 (tgt := 70) dX11_product_61 (by decide +kernel) (fun c_40 => by exfalso; omega) (fun c_40 => ?_)
                refine lv_iload_n hx hb dX11_product_64 rfl (lv_at hl 2 rfl) ?_
                refine lv_iload_n hx hb dX11_product_65 rfl (lv_at hl 0 rfl) ?_
                refine lv_imul hx hb dX11_product_66 ?_
                refine lv_topi (fun v_41 ev_41 => ?_)
                have lo_v_41 := k_lo v_41
                have hi_v_41 := k_hi v_41
                refine lv_goto (tgt := 81) hx hb dX11_product_67 (by decide +kernel) ?_
                refine lv_istore_n (lv' := [(1, .int v_41), (3, .int r_30), (2, .int 1), (0, .ref k)]) hx hb dX11_product_81 rfl hl (by decide +kernel) rfl ?_
                clear hl
                intro ls hl
                refine lv_goto (tgt := 5) hx hb dX11_product_82 (by decide +kernel) ?_
                exact ih5 v_41 scd_32 scf_33 scg_34 (by first | omega | decide | assumption | rfl) (by first | omega | decide | assumption | rfl) (by first | omega | decide | assumption | rfl) (by first | omega | decide | assumption | rfl) (by first | omega | decide | assumption | rfl) (by first | omega | decide | assumption | rfl) (fun r q b z => i5_6 r q b (TXQ.more (bz := f5_kf) (w := r_30) (tx_mul (tG c0 cc.toInt.toNat ce f5_kd.toInt) l5_1) (by omega) (by omega) (tx_y14 (by rw [← h_23]; omega)) (TXQ.cv h_39 (by omega) (by omega) (by omega) (by omega) (by omega)) (fun _ => (by unfold tx_mul; rw [← h_23, if_pos (by omega)]; exact ev_41)) r q b z)) (by omega) ls _ _ (lv_sub hl [0, 3] rfl) (hP.sub [0, 1] rfl) (hD.sub [0, 1] (by decide +kernel) rfl) hS
              · exfalso; omega
            · refine lv_aload_n hx hb dX11_product_21 rfl (lv_at hl 1 rfl) ?_
              refine kJi (wr := []) (va_runV (As := []) (rest := []) ⟨hx, hb, hml, hown, hT⟩ (c_X11_nowG l D cI aK aV k k0 k1 k2 k4 k5 k6 k7 k8 ka kb kl ko H.size c3 c9 cc f5_kd ce f5_kf f5_kg ch ci cj ck cm cn c0 (by first | omega | decide | assumption | rfl) (by first | omega | decide | assumption | rfl) (by first | omega | decide | assumption | rfl) (by first | omega | decide | assumption | rfl) (by first | omega | decide | assumption | rfl)) (cwV 0 hT (gV_in mw_1339 mw_1336 mw_1338 mw_p4_9 mw_12) rfl rfl rfl (by decide +kernel) ⟨(by dsimp only; omega), (by dsimp only; omega)⟩) (kRecvX (q0 := 0) (ci := 11) hK hP hD hN hXS hS hA rfl rfl [0, 1] rfl (by decide +kernel)) rfl rfl hl.1 rfl (lv_room (Nat.le_of_ble_eq_true rfl)) dX11_product_22 ⟨Nat.le_of_ble_eq_true rfl, Nat.le_of_ble_eq_true rfl⟩) hP hD hS hA [0, 1] [] rfl rfl (by decide +kernel) (by decide +kernel) ?_
              clear hP hD hS
              intro r_42 u_44 H locs w_43 hP hD hS
              replace hP : va_P D vwCl [(k, .inr (11, [.ref k0, .ref k1, .ref k2, .int c3, .ref k4, .ref k5, .ref k6, .ref k7, .ref k8, .int c9, .ref ka, .ref kb, .int cc, .int f5_kd, .int ce, .int f5_kf, .int f5_kg, .int ch, .int ci, .int cj, .int ck, .ref kl, .int cm, .int cn, .ref ko])), (k0, .inl (cI, 1201, .inl c0))] H := hP
              replace hD : va_D A [(k, .inr (11, [.ref k0, .ref k1, .ref k2, .int c3, .ref k4, .ref k5, .ref k6, .ref k7, .ref k8, .int c9, .ref ka, .ref kb, .int cc, .int f5_kd, .int ce, .int f5_kf, .int f5_kg, .int ch, .int ci, .int cj, .int ck, .ref kl, .int cm, .int cn, .ref ko])), (k0, .inl (cI, 1201, .inl c0))] := hD
              rcases w_43 with ⟨h_45, h_46⟩ | ⟨hr_42, h_47, h_48⟩
              · have h_45 : r_42 = tG c0 cc.toInt.toNat ce f5_kd.toInt := h_45
                have h_45 : r_42 = tG c0 cc.toInt.toNat ce f5_kd.toInt := h_45
                have q_49 : r_42.toInt = r_12.toInt := by rw [h_45, h_15]
                have h_46 : f5_kd.toInt < ce.toInt := h_46
                have lo_r_42 := k_lo r_42
                have hi_r_42 := k_hi r_42
                refine lv_bipush (v := 37) hx hb dX11_product_25 (by decide +kernel) ?_
                refine b_icmp_ne hx hb rfl zl_37 (tgt := 85) dX11_product_27 (by decide +kernel) (fun c_50 => ?_) (fun c_50 => ?_)
                · refine lv_iload_n hx hb dX11_product_85 rfl (lv_at hl 0 rfl) ?_
                  exact hRet (f5_kd, f5_kf, f5_kg) [0, 1] ⟨(by first | omega | decide | assumption | rfl | (dsimp only; first | omega)), (by first | omega | decide | assumption | rfl | (dsimp only; first | omega)), (by first | omega | decide | assumption | rfl | (dsimp only; first | omega)), (by (try dsimp only); exact (i5_6 _ _ _ (TXQ.stopE (tx_n14 (by rw [← h_45]; omega) (by rw [← h_45]; omega)) (by omega) (by omega))))⟩ hP hD (by decide +kernel) rfl hS rfl dX11_product_86
                · refine lv_aload_n hx hb dX11_product_30 rfl (lv_at hl 1 rfl) ?_
                  refine kJi (wr := []) (va_runV (As := []) (rest := []) ⟨hx, hb, hml, hown, hT⟩ (c_X11_nowG l D cI aK aV k k0 k1 k2 k4 k5 k6 k7 k8 ka kb kl ko H.size c3 c9 cc f5_kd ce f5_kf f5_kg ch ci cj ck cm cn c0 (by first | omega | decide | assumption | rfl) (by first | omega | decide | assumption | rfl) (by first | omega | decide | assumption | rfl) (by first | omega | decide | assumption | rfl) (by first | omega | decide | assumption | rfl)) (cwV 0 hT (gV_in mw_1339 mw_1336 mw_1338 mw_p4_9 mw_12) rfl rfl rfl (by decide +kernel) ⟨(by dsimp only; omega), (by dsimp only; omega)⟩) (kRecvX (q0 := 0) (ci := 11) hK hP hD hN hXS hS hA rfl rfl [0, 1] rfl (by decide +kernel)) rfl rfl hl.1 rfl (lv_room (Nat.le_of_ble_eq_true rfl)) dX11_product_31 ⟨Nat.le_of_ble_eq_true rfl, Nat.le_of_ble_eq_true rfl⟩) hP hD hS hA [0, 1] [] rfl rfl (by decide +kernel) (by decide +kernel) ?_
                  clear hP hD hS
                  intro r_51 u_53 H locs w_52 hP hD hS
                  replace hP : va_P D vwCl [(k, .inr (11, [.ref k0, .ref k1, .ref k2, .int c3, .ref k4, .ref k5, .ref k6, .ref k7, .ref k8, .int c9, .ref ka, .ref kb, .int cc, .int f5_kd, .int ce, .int f5_kf, .int f5_kg, .int ch, .int ci, .int cj, .int ck, .ref kl, .int cm, .int cn, .ref ko])), (k0, .inl (cI, 1201, .inl c0))] H := hP
                  replace hD : va_D A [(k, .inr (11, [.ref k0, .ref k1, .ref k2, .int c3, .ref k4, .ref k5, .ref k6, .ref k7, .ref k8, .int c9, .ref ka, .ref kb, .int cc, .int f5_kd, .int ce, .int f5_kf, .int f5_kg, .int ch, .int ci, .int cj, .int ck, .ref kl, .int cm, .int cn, .ref ko])), (k0, .inl (cI, 1201, .inl c0))] := hD
                  rcases w_52 with ⟨h_54, h_55⟩ | ⟨hr_51, h_56, h_57⟩
                  · have h_54 : r_51 = tG c0 cc.toInt.toNat ce f5_kd.toInt := h_54
                    have h_54 : r_51 = tG c0 cc.toInt.toNat ce f5_kd.toInt := h_54
                    have q_58 : r_51.toInt = r_42.toInt := by rw [h_54, h_45]
                    have h_55 : f5_kd.toInt < ce.toInt := h_55
                    have lo_r_51 := k_lo r_51
                    have hi_r_51 := k_hi r_51
                    refine lv_bipush (v := 42) hx hb dX11_product_34 (by decide +kernel) ?_
                    refine b_icmp_ne hx hb rfl zl_42 (tgt := 43) dX11_product_36 (by decide +kernel) (fun c_59 => ?_) (fun c_59 => by exfalso; omega)
                    refine lv_iconst (v := 0) hx hb dX11_product_43 (by decide +kernel) ?_
                    refine lv_istore_n (lv' := [(2, .int 0), (1, .int l5_1), (0, .ref k)]) hx hb dX11_product_44 rfl hl (by decide +kernel) rfl ?_
                    clear hl
                    intro ls hl
                    refine lv_aload_n hx hb dX11_product_45 rfl (lv_at hl 2 rfl) ?_
                    refine lv_dup hx hb dX11_product_46 rfl ?_
                    refine va_get (D := D) (ci := 11) (v := .int f5_kd) (C := RX11) (T := TX11) (N := 25) hx hb hT giX11 hown hK hP 0 rfl rfl 13 (by decide +kernel) (hT (Cond.fieldLink RX11 138 "DesertWireModel" "here" "I") mw_1169) (fun _ h9 => h9) rfl dX11_product_47 ?_
                    refine lv_iconst (v := 1) hx hb dX11_product_50 (by decide +kernel) ?_
                    refine lv_iadd hx hb dX11_product_51 ?_
                    refine lv_topi (fun v_60 ev_60 => ?_)
                    have tv_60 : v_60.toInt = f5_kd.toInt + 1 := by rw [ev_60]; exact k_addv rfl zl_1 (by omega) (by omega)
                    refine va_put (D := D) (ci := 11) (v := .int v_60) (ty := .int) (C := RX11) (T := TX11) (N := 25) hx hb hT giX11 tyX11 tyX11_ok nmX11 hown hK hP hD hS 0 rfl rfl 13 (by decide +kernel) (hT (Cond.fieldLink RX11 138 "DesertWireModel" "here" "I") mw_1169) (fun _ h9 => h9) rfl (by decide +kernel) rfl rfl (Nat.le_of_ble_eq_true rfl) dX11_product_52 ?_
                    clear hP hD hS
                    intro H locs hP hD hS
                    replace hP : va_P D vwCl [(k, .inr (11, [.ref k0, .ref k1, .ref k2, .int c3, .ref k4, .ref k5, .ref k6, .ref k7, .ref k8, .int c9, .ref ka, .ref kb, .int cc, .int v_60, .int ce, .int f5_kf, .int f5_kg, .int ch, .int ci, .int cj, .int ck, .ref kl, .int cm, .int cn, .ref ko])), (k0, .inl (cI, 1201, .inl c0))] H := hP
                    replace hD : va_D A [(k, .inr (11, [.ref k0, .ref k1, .ref k2, .int c3, .ref k4, .ref k5, .ref k6, .ref k7, .ref k8, .int c9, .ref ka, .ref kb, .int cc, .int v_60, .int ce, .int f5_kf, .int f5_kg, .int ch, .int ci, .int cj, .int ck, .ref kl, .int cm, .int cn, .ref ko])), (k0, .inl (cI, 1201, .inl c0))] := hD
                    refine lv_aload_n hx hb dX11_product_55 rfl (lv_at hl 2 rfl) ?_
                    refine kJi (wr := []) (va_runV (As := []) (rest := []) ⟨hx, hb, hml, hown, hT⟩ (c_X11_one_of dd ih l D cI aK aV k k0 k1 k2 k4 k5 k6 k7 k8 ka kb kl ko H.size c3 c9 cc v_60 ce f5_kf f5_kg ch ci cj ck cm cn c0 (by first | omega | decide | assumption | rfl) (by first | omega | decide | assumption | rfl) (by first | omega | decide | assumption | rfl) (by first | omega | decide | assumption | rfl) (by first | omega | decide | assumption | rfl) (by first | omega | decide | assumption | rfl) (by first | omega | decide | assumption | rfl) (by first | omega | decide | assumption | rfl)) (cwV 0 hT (gV_in mw_1335 mw_1332 mw_1334 mw_p4_8 mw_12) rfl rfl rfl (by decide +kernel) ⟨(by dsimp only; omega), (by dsimp only; omega)⟩) (kRecvX (q0 := 0) (ci := 11) hK hP hD hN hXS hS hA rfl rfl [0, 1] rfl (by decide +kernel)) rfl rfl hl.1 rfl (lv_room (Nat.le_of_ble_eq_true rfl)) dX11_product_56 ⟨Nat.le_of_ble_eq_true rfl, Nat.le_of_ble_eq_true rfl⟩) hP hD hS hA [0, 1] [] rfl rfl (by decide +kernel) (by decide +kernel) ?_
                    clear hP hD hS
                    intro r_61 u_66 H locs w_62 hP hD hS
                    obtain ⟨scd_63, scf_64, scg_65⟩ := u_66
                    replace hP : va_P D vwCl [(k, .inr (11, [.ref k0, .ref k1, .ref k2, .int c3, .ref k4, .ref k5, .ref k6, .ref k7, .ref k8, .int c9, .ref ka, .ref kb, .int cc, .int scd_63, .int ce, .int scf_64, .int scg_65, .int ch, .int ci, .int cj, .int ck, .ref kl, .int cm, .int cn, .ref ko])), (k0, .inl (cI, 1201, .inl c0))] H := hP
                    replace hD : va_D A [(k, .inr (11, [.ref k0, .ref k1, .ref k2, .int c3, .ref k4, .ref k5, .ref k6, .ref k7, .ref k8, .int c9, .ref ka, .ref kb, .int cc, .int scd_63, .int ce, .int scf_64, .int scg_65, .int ch, .int ci, .int cj, .int ck, .ref kl, .int cm, .int cn, .ref ko])), (k0, .inl (cI, 1201, .inl c0))] := hD
                    have lo_scd_63 := k_lo scd_63
                    have hi_scd_63 := k_hi scd_63
                    have lo_scf_64 := k_lo scf_64
                    have hi_scf_64 := k_hi scf_64
                    have lo_scg_65 := k_lo scg_65
                    have hi_scg_65 := k_hi scg_65
                    obtain ⟨h_67, h_68, h_69, h_70⟩ := w_62
                    have h_67 : v_60.toInt ≤ scd_63.toInt := h_67
                    have h_68 : scd_63.toInt ≤ ce.toInt := h_68
                    have h_69 : scg_65.toInt = f5_kg.toInt := h_69
                    have h_70 : TXQ (tG c0 cc.toInt.toNat ce) ch ci cj ck 5 f5_kg.toInt f5_kf 0 v_60.toInt r_61 scd_63.toInt scf_64 := h_70
                    have h_70 : TXQ (tG c0 cc.toInt.toNat ce) ch ci cj ck 5 f5_kg.toInt f5_kf 0 v_60.toInt r_61 scd_63.toInt scf_64 := h_70
                    have lo_r_61 := k_lo r_61
                    have hi_r_61 := k_hi r_61
                    refine lv_istore_n (lv' := [(3, .int r_61), (2, .int 0), (1, .int l5_1), (0, .ref k)]) hx hb dX11_product_59 rfl hl (by decide +kernel) rfl ?_
                    clear hl
                    intro ls hl
                    refine lv_iload_n hx hb dX11_product_60 rfl (lv_at hl 1 rfl) ?_
                    refine b_if_eq hx hb zl_0 (tgt := 70) dX11_product_61 (by decide +kernel) (fun c_71 => ?_) (fun c_71 => by exfalso; omega)
                    refine lv_iload_n hx hb dX11_product_70 rfl (lv_at hl 0 rfl) ?_
                    refine b_if_ne hx hb rfl (tgt := 78) dX11_product_71 (by decide +kernel) (fun c_72 => ?_) (fun c_72 => ?_)
                    · refine lv_iload_n hx hb dX11_product_78 rfl (lv_at hl 2 rfl) ?_
                      refine lv_iload_n hx hb dX11_product_79 rfl (lv_at hl 0 rfl) ?_
                      refine lv_irem hx hb dX11_product_80 (k_ne0 (by omega)) ?_
                      refine lv_topi (fun v_73 ev_73 => ?_)
                      have lo_v_73 := k_lo v_73
                      have hi_v_73 := k_hi v_73
                      refine lv_istore_n (lv' := [(1, .int v_73), (3, .int r_61), (2, .int 0), (0, .ref k)]) hx hb dX11_product_81 rfl hl (by decide +kernel) rfl ?_
                      clear hl
                      intro ls hl
                      refine lv_goto (tgt := 5) hx hb dX11_product_82 (by decide +kernel) ?_
                      exact ih5 v_73 scd_63 scf_64 scg_65 (by first | omega | decide | assumption | rfl) (by first | omega | decide | assumption | rfl) (by first | omega | decide | assumption | rfl) (by first | omega | decide | assumption | rfl) (by first | omega | decide | assumption | rfl) (by first | omega | decide | assumption | rfl) (fun r q b z => i5_6 r q b (TXQ.more (bz := f5_kf) (w := r_61) (tx_mul (tG c0 cc.toInt.toNat ce f5_kd.toInt) l5_1) (by omega) (by omega) (tx_y14 (by rw [← h_54]; omega)) (TXQ.cv h_70 (by omega) (by omega) (by omega) (by omega) (by omega)) (fun _ => (by unfold tx_mul; rw [← h_54, if_neg (by omega), if_neg (by omega)]; exact ev_73)) r q b z)) (by omega) ls _ _ (lv_sub hl [0, 3] rfl) (hP.sub [0, 1] rfl) (hD.sub [0, 1] (by decide +kernel) rfl) hS
                    · refine lv_iconst (v := 0) hx hb dX11_product_74 (by decide +kernel) ?_
                      refine lv_goto (tgt := 81) hx hb dX11_product_75 (by decide +kernel) ?_
                      refine lv_istore_n (lv' := [(1, .int 0), (3, .int r_61), (2, .int 0), (0, .ref k)]) hx hb dX11_product_81 rfl hl (by decide +kernel) rfl ?_
                      clear hl
                      intro ls hl
                      refine lv_goto (tgt := 5) hx hb dX11_product_82 (by decide +kernel) ?_
                      exact ih5 0 scd_63 scf_64 scg_65 (by first | omega | (simp only [zl_0]; first | done | omega) | decide | assumption | rfl) (by first | omega | (simp only [zl_0]; first | done | omega) | decide | assumption | rfl) (by first | omega | (simp only [zl_0]; first | done | omega) | decide | assumption | rfl) (by first | omega | (simp only [zl_0]; first | done | omega) | decide | assumption | rfl) (by first | omega | (simp only [zl_0]; first | done | omega) | decide | assumption | rfl) (by first | omega | (simp only [zl_0]; first | done | omega) | decide | assumption | rfl) (fun r q b z => i5_6 r q b (TXQ.more (bz := f5_kf) (w := r_61) (tx_mul (tG c0 cc.toInt.toNat ce f5_kd.toInt) l5_1) (by omega) (by omega) (tx_y14 (by rw [← h_54]; omega)) (TXQ.cv h_70 (by omega) (by omega) (by omega) (by omega) (by omega)) (fun _ => (by unfold tx_mul; rw [← h_54, if_neg (by omega), if_pos (by omega)])) r q b z)) (by omega) ls _ _ (lv_sub hl [0, 3] rfl) (hP.sub [0, 1] rfl) (hD.sub [0, 1] (by decide +kernel) rfl) hS
                  · exfalso; omega
              · exfalso; omega
          · have h_17 : r_12 = tG c0 cc.toInt.toNat ce f5_kd.toInt := h_17
            have h_17 : r_12 = tG c0 cc.toInt.toNat ce f5_kd.toInt := h_17
            have h_18 : f5_kd.toInt = ce.toInt := h_18
            obtain rfl : r_12 = (-1) := hr_12.trans (by decide +kernel)
            refine lv_bipush (v := 42) hx hb dX11_product_16 (by decide +kernel) ?_
            refine b_icmp_eq hx hb zl_m1 zl_42 (tgt := 30) dX11_product_18 (by decide +kernel) (fun c_74 => by exfalso; omega) (fun c_74 => ?_)
            refine lv_aload_n hx hb dX11_product_21 rfl (lv_at hl 1 rfl) ?_
            refine kJi (wr := []) (va_runV (As := []) (rest := []) ⟨hx, hb, hml, hown, hT⟩ (c_X11_nowG l D cI aK aV k k0 k1 k2 k4 k5 k6 k7 k8 ka kb kl ko H.size c3 c9 cc f5_kd ce f5_kf f5_kg ch ci cj ck cm cn c0 (by first | omega | decide | assumption | rfl) (by first | omega | decide | assumption | rfl) (by first | omega | decide | assumption | rfl) (by first | omega | decide | assumption | rfl) (by first | omega | decide | assumption | rfl)) (cwV 0 hT (gV_in mw_1339 mw_1336 mw_1338 mw_p4_9 mw_12) rfl rfl rfl (by decide +kernel) ⟨(by dsimp only; omega), (by dsimp only; omega)⟩) (kRecvX (q0 := 0) (ci := 11) hK hP hD hN hXS hS hA rfl rfl [0, 1] rfl (by decide +kernel)) rfl rfl hl.1 rfl (lv_room (Nat.le_of_ble_eq_true rfl)) dX11_product_22 ⟨Nat.le_of_ble_eq_true rfl, Nat.le_of_ble_eq_true rfl⟩) hP hD hS hA [0, 1] [] rfl rfl (by decide +kernel) (by decide +kernel) ?_
            clear hP hD hS
            intro r_75 u_77 H locs w_76 hP hD hS
            replace hP : va_P D vwCl [(k, .inr (11, [.ref k0, .ref k1, .ref k2, .int c3, .ref k4, .ref k5, .ref k6, .ref k7, .ref k8, .int c9, .ref ka, .ref kb, .int cc, .int f5_kd, .int ce, .int f5_kf, .int f5_kg, .int ch, .int ci, .int cj, .int ck, .ref kl, .int cm, .int cn, .ref ko])), (k0, .inl (cI, 1201, .inl c0))] H := hP
            replace hD : va_D A [(k, .inr (11, [.ref k0, .ref k1, .ref k2, .int c3, .ref k4, .ref k5, .ref k6, .ref k7, .ref k8, .int c9, .ref ka, .ref kb, .int cc, .int f5_kd, .int ce, .int f5_kf, .int f5_kg, .int ch, .int ci, .int cj, .int ck, .ref kl, .int cm, .int cn, .ref ko])), (k0, .inl (cI, 1201, .inl c0))] := hD
            rcases w_76 with ⟨h_78, h_79⟩ | ⟨hr_75, h_80, h_81⟩
            · exfalso; omega
            · have h_80 : r_75 = tG c0 cc.toInt.toNat ce f5_kd.toInt := h_80
              have h_80 : r_75 = tG c0 cc.toInt.toNat ce f5_kd.toInt := h_80
              have h_81 : f5_kd.toInt = ce.toInt := h_81
              obtain rfl : r_75 = (-1) := hr_75.trans (by decide +kernel)
              refine lv_bipush (v := 37) hx hb dX11_product_25 (by decide +kernel) ?_
              refine b_icmp_ne hx hb zl_m1 zl_37 (tgt := 85) dX11_product_27 (by decide +kernel) (fun c_82 => ?_) (fun c_82 => by exfalso; omega)
              refine lv_iload_n hx hb dX11_product_85 rfl (lv_at hl 0 rfl) ?_
              exact hRet (f5_kd, f5_kf, f5_kg) [0, 1] ⟨(by first | omega | decide | assumption | rfl | (dsimp only; first | omega)), (by first | omega | decide | assumption | rfl | (dsimp only; first | omega)), (by first | omega | decide | assumption | rfl | (dsimp only; first | omega)), (by (try dsimp only); exact (i5_6 _ _ _ (TXQ.stopE (tx_n14 (by rw [← h_80]; omega) (by rw [← h_80]; omega)) (by omega) (by omega))))⟩ hP hD (by decide +kernel) rfl hS rfl dX11_product_86
  exact hloop_5 _ r_1 scd_3 scf_4 scg_5 (by first | omega | decide | assumption | rfl) (by first | omega | decide | assumption | rfl) (by first | omega | decide | assumption | rfl) (by first | omega | decide | assumption | rfl) (by first | omega | decide | assumption | rfl) (by first | omega | decide | assumption | rfl) (TXQ.seq (fun f v => tx_e4 f v _) h_10 0) (Nat.lt_succ_self _) ls _ _ (lv_sub hl [0, 1] rfl) hP hD hS
set_option maxHeartbeats 4000000 in
set_option maxRecDepth 100000 in
theorem c_X11_sum_of (dd : Nat) (ih : RTP dd) (l : Launch) (D : va_G) (cI : ClassId) (aK aV : Nat → Nat) (k k0 k1 k2 k4 k5 k6 k7 k8 ka kb kl ko : Nat) (sz : Nat) (c3 : Int32) (c9 : Int32) (cc : Int32) (cd : Int32) (ce : Int32) (cf : Int32) (cg : Int32) (ch : Int32) (ci : Int32) (cj : Int32) (ck : Int32) (cm : Int32) (cn : Int32) (c0 : Nat → Int32) (pre0 : 0 ≤ cc.toInt) (pre1 : cc.toInt ≤ 1151) (pre2 : 0 ≤ cd.toInt) (pre3 : cd.toInt ≤ ce.toInt) (pre4 : ce.toInt ≤ 50) (pre5 : 0 ≤ cg.toInt) (pre6 : cg.toInt ≤ 4) (pre7 : (4 - cg.toInt).toNat < dd + 1)  : Met l yX11_sum (gW yX11_sum cX11_sum 4 (some .int)) ({ frames := 20 * (dd + 1) + 15, cells := 0, slots := 0, locals := 1400 * (dd + 1) + 1050 } : Room) (kPreX D cI aK aV [.ref k] [(k, .inr (11, [.ref k0, .ref k1, .ref k2, .int c3, .ref k4, .ref k5, .ref k6, .ref k7, .ref k8, .int c9, .ref ka, .ref kb, .int cc, .int cd, .int ce, .int cf, .int cg, .int ch, .int ci, .int cj, .int ck, .ref kl, .int cm, .int cn, .ref ko])), (k0, .inl (cI, 1201, .inl c0))] sz) (va_Qi (fun (r : Int32) (u : Int32 × Int32 × Int32) => cd.toInt ≤ u.1.toInt ∧ u.1.toInt ≤ ce.toInt ∧ u.2.2.toInt = cg.toInt ∧ TXQ (tG c0 cc.toInt.toNat ce) ch ci cj ck 3 cg.toInt cf 0 cd.toInt r u.1.toInt u.2.1) (fun u t => kWd D cI (va_A [(k, .inr (11, [.ref k0, .ref k1, .ref k2, .int c3, .ref k4, .ref k5, .ref k6, .ref k7, .ref k8, .int c9, .ref ka, .ref kb, .int cc, .int cd, .int ce, .int cf, .int cg, .int ch, .int ci, .int cj, .int ck, .ref kl, .int cm, .int cn, .ref ko])), (k0, .inl (cI, 1201, .inl c0))] sz) [(k, .inr (11, [.ref k0, .ref k1, .ref k2, .int c3, .ref k4, .ref k5, .ref k6, .ref k7, .ref k8, .int c9, .ref ka, .ref kb, .int cc, .int u.1, .int ce, .int u.2.1, .int u.2.2, .int ch, .int ci, .int cj, .int ck, .ref kl, .int cm, .int cn, .ref ko])), (k0, .inl (cI, 1201, .inl c0))] t) (va_A [(k, .inr (11, [.ref k0, .ref k1, .ref k2, .int c3, .ref k4, .ref k5, .ref k6, .ref k7, .ref k8, .int c9, .ref ka, .ref kb, .int cc, .int cd, .int ce, .int cf, .int cg, .int ch, .int ci, .int cj, .int ck, .ref kl, .int cm, .int cn, .ref ko])), (k0, .inl (cI, 1201, .inl c0))] sz)) 0 0 (va_A [(k, .inr (11, [.ref k0, .ref k1, .ref k2, .int c3, .ref k4, .ref k5, .ref k6, .ref k7, .ref k8, .int c9, .ref ka, .ref kb, .int cc, .int cd, .int ce, .int cf, .int cg, .int ch, .int ci, .int cj, .int ck, .ref kl, .int cm, .int cn, .ref ko])), (k0, .inl (cI, 1201, .inl c0))] sz) := by
  refine kMetIX (own := RX11) (by decide +kernel) rfl (Nat.le_of_ble_eq_true rfl) ?_
  intro p e s m args below meth c hx hb hT hown hname hml A Q hK hP hD hS hA hN hXS hRet ls hl
  have hl : lv_has ls 4 [(0, .ref k)] := hl
  have lo_cc := k_lo cc
  have hi_cc := k_hi cc
  have lo_cd := k_lo cd
  have hi_cd := k_hi cd
  have lo_ce := k_lo ce
  have hi_ce := k_hi ce
  have lo_cf := k_lo cf
  have hi_cf := k_hi cf
  have lo_cg := k_lo cg
  have hi_cg := k_hi cg
  have lo_ch := k_lo ch
  have hi_ch := k_hi ch
  have lo_ci := k_lo ci
  have hi_ci := k_hi ci
  have lo_cj := k_lo cj
  have hi_cj := k_hi cj
  have lo_ck := k_lo ck
  have hi_ck := k_hi ck
  have hm1 := zl_m1
  refine lv_aload_n hx hb dX11_sum_0 rfl (lv_at hl 0 rfl) ?_
  refine kJi (wr := []) (va_runV (As := []) (rest := []) ⟨hx, hb, hml, hown, hT⟩ (c_X11_product_of dd ih l D cI aK aV k k0 k1 k2 k4 k5 k6 k7 k8 ka kb kl ko s.heap.size c3 c9 cc cd ce cf cg ch ci cj ck cm cn c0 (by first | omega | decide | assumption | rfl) (by first | omega | decide | assumption | rfl) (by first | omega | decide | assumption | rfl) (by first | omega | decide | assumption | rfl) (by first | omega | decide | assumption | rfl) (by first | omega | decide | assumption | rfl) (by first | omega | decide | assumption | rfl) (by first | omega | decide | assumption | rfl)) (cwV 0 hT (gV_in mw_1331 mw_1328 mw_1330 mw_p4_7 mw_12) rfl rfl rfl (by decide +kernel) ⟨(by dsimp only; omega), (by dsimp only; omega)⟩) (kRecvX (q0 := 0) (ci := 11) hK hP hD hN hXS hS hA rfl rfl [0, 1] rfl (by decide +kernel)) rfl rfl hl.1 rfl (lv_room (Nat.le_of_ble_eq_true rfl)) dX11_sum_1 ⟨Nat.le_of_ble_eq_true rfl, Nat.le_of_ble_eq_true rfl⟩) hP hD hS hA [0, 1] [] rfl rfl (by decide +kernel) (by decide +kernel) ?_
  clear hP hD hS
  intro r_1 u_6 H locs w_2 hP hD hS
  obtain ⟨scd_3, scf_4, scg_5⟩ := u_6
  replace hP : va_P D vwCl [(k, .inr (11, [.ref k0, .ref k1, .ref k2, .int c3, .ref k4, .ref k5, .ref k6, .ref k7, .ref k8, .int c9, .ref ka, .ref kb, .int cc, .int scd_3, .int ce, .int scf_4, .int scg_5, .int ch, .int ci, .int cj, .int ck, .ref kl, .int cm, .int cn, .ref ko])), (k0, .inl (cI, 1201, .inl c0))] H := hP
  replace hD : va_D A [(k, .inr (11, [.ref k0, .ref k1, .ref k2, .int c3, .ref k4, .ref k5, .ref k6, .ref k7, .ref k8, .int c9, .ref ka, .ref kb, .int cc, .int scd_3, .int ce, .int scf_4, .int scg_5, .int ch, .int ci, .int cj, .int ck, .ref kl, .int cm, .int cn, .ref ko])), (k0, .inl (cI, 1201, .inl c0))] := hD
  have lo_scd_3 := k_lo scd_3
  have hi_scd_3 := k_hi scd_3
  have lo_scf_4 := k_lo scf_4
  have hi_scf_4 := k_hi scf_4
  have lo_scg_5 := k_lo scg_5
  have hi_scg_5 := k_hi scg_5
  obtain ⟨h_7, h_8, h_9, h_10⟩ := w_2
  have h_7 : cd.toInt ≤ scd_3.toInt := h_7
  have h_8 : scd_3.toInt ≤ ce.toInt := h_8
  have h_9 : scg_5.toInt = cg.toInt := h_9
  have h_10 : TXQ (tG c0 cc.toInt.toNat ce) ch ci cj ck 4 cg.toInt cf 0 cd.toInt r_1 scd_3.toInt scf_4 := h_10
  have h_10 : TXQ (tG c0 cc.toInt.toNat ce) ch ci cj ck 4 cg.toInt cf 0 cd.toInt r_1 scd_3.toInt scf_4 := h_10
  have lo_r_1 := k_lo r_1
  have hi_r_1 := k_hi r_1
  refine lv_istore_n (lv' := [(1, .int r_1), (0, .ref k)]) hx hb dX11_sum_4 rfl hl (by decide +kernel) rfl ?_
  clear hl
  intro ls hl
  have hloop_5 : ∀ (fu_ : Nat) (l5_1 : Int32) (f5_kd : Int32) (f5_kf : Int32) (f5_kg : Int32), scd_3.toInt ≤ f5_kd.toInt → scg_5.toInt ≤ f5_kg.toInt → f5_kg.toInt ≤ scg_5.toInt → f5_kd.toInt ≤ ce.toInt → cd.toInt ≤ f5_kd.toInt → f5_kg.toInt = cg.toInt → (∀ (r : Int32) (q : Int) (b : Int32), TXQ (tG c0 cc.toInt.toNat ce) ch ci cj ck 13 cg.toInt f5_kf l5_1 f5_kd.toInt r q b → TXQ (tG c0 cc.toInt.toNat ce) ch ci cj ck 3 cg.toInt cf 0 cd.toInt r q b) → (ce.toInt - f5_kd.toInt).toNat < fu_ → ∀ (ls : Array Slot) (H : Heap) (locs : List Loc), lv_has ls 4 [(1, .int l5_1), (0, .ref k)] → va_P D vwCl [(k, .inr (11, [.ref k0, .ref k1, .ref k2, .int c3, .ref k4, .ref k5, .ref k6, .ref k7, .ref k8, .int c9, .ref ka, .ref kb, .int cc, .int f5_kd, .int ce, .int f5_kf, .int f5_kg, .int ch, .int ci, .int cj, .int ck, .ref kl, .int cm, .int cn, .ref ko])), (k0, .inl (cI, 1201, .inl c0))] H → va_D A [(k, .inr (11, [.ref k0, .ref k1, .ref k2, .int c3, .ref k4, .ref k5, .ref k6, .ref k7, .ref k8, .int c9, .ref ka, .ref kb, .int cc, .int f5_kd, .int ce, .int f5_kf, .int f5_kg, .int ch, .int ci, .int cj, .int ck, .ref kl, .int cm, .int cn, .ref ko])), (k0, .inl (cI, 1201, .inl c0))] → va_S A s.heap H locs → W p l e ({ frames := 20 * (dd + 1) + 15, cells := 0, slots := 0, locals := 1400 * (dd + 1) + 1050 } : Room) s m args below meth c H locs 0 0 Q (F0 m 5 ls []) := by
    intro fu_; induction fu_ with
    | zero => intro l5_1 f5_kd f5_kf f5_kg i5_0 i5_1 i5_2 i5_3 i5_4 i5_5 i5_6 hm; exact absurd hm (by omega)
    | succ fu_ ih5 =>
        intro l5_1 f5_kd f5_kf f5_kg i5_0 i5_1 i5_2 i5_3 i5_4 i5_5 i5_6 hm ls H locs hl hP hD hS
        have lo_l5_1 := k_lo l5_1
        have hi_l5_1 := k_hi l5_1
        have lo_f5_kd := k_lo f5_kd
        have hi_f5_kd := k_hi f5_kd
        have lo_f5_kf := k_lo f5_kf
        have hi_f5_kf := k_hi f5_kf
        have lo_f5_kg := k_lo f5_kg
        have hi_f5_kg := k_hi f5_kg
        refine lv_aload_n hx hb dX11_sum_5 rfl (lv_at hl 1 rfl) ?_
        refine va_get (D := D) (ci := 11) (v := .int f5_kf) (C := RX11) (T := TX11) (N := 25) hx hb hT giX11 hown hK hP 0 rfl rfl 15 (by decide +kernel) (hT (Cond.fieldLink RX11 148 "DesertWireModel" "isWrong" "Z") mw_1171) (fun _ h9 => h9) rfl dX11_sum_6 ?_
        refine b_if_ne hx hb rfl (tgt := 77) dX11_sum_9 (by decide +kernel) (fun c_11 => ?_) (fun c_11 => ?_)
        · refine lv_iload_n hx hb dX11_sum_77 rfl (lv_at hl 0 rfl) ?_
          exact hRet (f5_kd, f5_kf, f5_kg) [0, 1] ⟨(by first | omega | decide | assumption | rfl | (dsimp only; first | omega)), (by first | omega | decide | assumption | rfl | (dsimp only; first | omega)), (by first | omega | decide | assumption | rfl | (dsimp only; first | omega)), (by (try dsimp only); exact (i5_6 _ _ _ (TXQ.badE (by omega) (by omega) (by omega))))⟩ hP hD (by decide +kernel) rfl hS rfl dX11_sum_78
        · refine lv_aload_n hx hb dX11_sum_12 rfl (lv_at hl 1 rfl) ?_
          refine kJi (wr := []) (va_runV (As := []) (rest := []) ⟨hx, hb, hml, hown, hT⟩ (c_X11_nowG l D cI aK aV k k0 k1 k2 k4 k5 k6 k7 k8 ka kb kl ko H.size c3 c9 cc f5_kd ce f5_kf f5_kg ch ci cj ck cm cn c0 (by first | omega | decide | assumption | rfl) (by first | omega | decide | assumption | rfl) (by first | omega | decide | assumption | rfl) (by first | omega | decide | assumption | rfl) (by first | omega | decide | assumption | rfl)) (cwV 0 hT (gV_in mw_1339 mw_1336 mw_1338 mw_p4_9 mw_12) rfl rfl rfl (by decide +kernel) ⟨(by dsimp only; omega), (by dsimp only; omega)⟩) (kRecvX (q0 := 0) (ci := 11) hK hP hD hN hXS hS hA rfl rfl [0, 1] rfl (by decide +kernel)) rfl rfl hl.1 rfl (lv_room (Nat.le_of_ble_eq_true rfl)) dX11_sum_13 ⟨Nat.le_of_ble_eq_true rfl, Nat.le_of_ble_eq_true rfl⟩) hP hD hS hA [0, 1] [] rfl rfl (by decide +kernel) (by decide +kernel) ?_
          clear hP hD hS
          intro r_12 u_14 H locs w_13 hP hD hS
          replace hP : va_P D vwCl [(k, .inr (11, [.ref k0, .ref k1, .ref k2, .int c3, .ref k4, .ref k5, .ref k6, .ref k7, .ref k8, .int c9, .ref ka, .ref kb, .int cc, .int f5_kd, .int ce, .int f5_kf, .int f5_kg, .int ch, .int ci, .int cj, .int ck, .ref kl, .int cm, .int cn, .ref ko])), (k0, .inl (cI, 1201, .inl c0))] H := hP
          replace hD : va_D A [(k, .inr (11, [.ref k0, .ref k1, .ref k2, .int c3, .ref k4, .ref k5, .ref k6, .ref k7, .ref k8, .int c9, .ref ka, .ref kb, .int cc, .int f5_kd, .int ce, .int f5_kf, .int f5_kg, .int ch, .int ci, .int cj, .int ck, .ref kl, .int cm, .int cn, .ref ko])), (k0, .inl (cI, 1201, .inl c0))] := hD
          rcases w_13 with ⟨h_15, h_16⟩ | ⟨hr_12, h_17, h_18⟩
          · have h_15 : r_12 = tG c0 cc.toInt.toNat ce f5_kd.toInt := h_15
            have h_15 : r_12 = tG c0 cc.toInt.toNat ce f5_kd.toInt := h_15
            have h_16 : f5_kd.toInt < ce.toInt := h_16
            have lo_r_12 := k_lo r_12
            have hi_r_12 := k_hi r_12
            refine lv_bipush (v := 43) hx hb dX11_sum_16 (by decide +kernel) ?_
            refine b_icmp_eq hx hb rfl zl_43 (tgt := 30) dX11_sum_18 (by decide +kernel) (fun c_19 => ?_) (fun c_19 => ?_)
            · refine lv_aload_n hx hb dX11_sum_30 rfl (lv_at hl 1 rfl) ?_
              refine kJi (wr := []) (va_runV (As := []) (rest := []) ⟨hx, hb, hml, hown, hT⟩ (c_X11_nowG l D cI aK aV k k0 k1 k2 k4 k5 k6 k7 k8 ka kb kl ko H.size c3 c9 cc f5_kd ce f5_kf f5_kg ch ci cj ck cm cn c0 (by first | omega | decide | assumption | rfl) (by first | omega | decide | assumption | rfl) (by first | omega | decide | assumption | rfl) (by first | omega | decide | assumption | rfl) (by first | omega | decide | assumption | rfl)) (cwV 0 hT (gV_in mw_1339 mw_1336 mw_1338 mw_p4_9 mw_12) rfl rfl rfl (by decide +kernel) ⟨(by dsimp only; omega), (by dsimp only; omega)⟩) (kRecvX (q0 := 0) (ci := 11) hK hP hD hN hXS hS hA rfl rfl [0, 1] rfl (by decide +kernel)) rfl rfl hl.1 rfl (lv_room (Nat.le_of_ble_eq_true rfl)) dX11_sum_31 ⟨Nat.le_of_ble_eq_true rfl, Nat.le_of_ble_eq_true rfl⟩) hP hD hS hA [0, 1] [] rfl rfl (by decide +kernel) (by decide +kernel) ?_
              clear hP hD hS
              intro r_20 u_22 H locs w_21 hP hD hS
              replace hP : va_P D vwCl [(k, .inr (11, [.ref k0, .ref k1, .ref k2, .int c3, .ref k4, .ref k5, .ref k6, .ref k7, .ref k8, .int c9, .ref ka, .ref kb, .int cc, .int f5_kd, .int ce, .int f5_kf, .int f5_kg, .int ch, .int ci, .int cj, .int ck, .ref kl, .int cm, .int cn, .ref ko])), (k0, .inl (cI, 1201, .inl c0))] H := hP
              replace hD : va_D A [(k, .inr (11, [.ref k0, .ref k1, .ref k2, .int c3, .ref k4, .ref k5, .ref k6, .ref k7, .ref k8, .int c9, .ref ka, .ref kb, .int cc, .int f5_kd, .int ce, .int f5_kf, .int f5_kg, .int ch, .int ci, .int cj, .int ck, .ref kl, .int cm, .int cn, .ref ko])), (k0, .inl (cI, 1201, .inl c0))] := hD
              rcases w_21 with ⟨h_23, h_24⟩ | ⟨hr_20, h_25, h_26⟩
              · have h_23 : r_20 = tG c0 cc.toInt.toNat ce f5_kd.toInt := h_23
                have h_23 : r_20 = tG c0 cc.toInt.toNat ce f5_kd.toInt := h_23
                have q_27 : r_20.toInt = r_12.toInt := by rw [h_23, h_15]
                have h_24 : f5_kd.toInt < ce.toInt := h_24
                have lo_r_20 := k_lo r_20
                have hi_r_20 := k_hi r_20
                refine lv_bipush (v := 43) hx hb dX11_sum_34 (by decide +kernel) ?_
                refine b_icmp_ne hx hb rfl zl_43 (tgt := 43) dX11_sum_36 (by decide +kernel) (fun c_28 => by exfalso; omega) (fun c_28 => ?_)
                refine lv_iconst (v := 1) hx hb dX11_sum_39 (by decide +kernel) ?_
                refine lv_goto (tgt := 44) hx hb dX11_sum_40 (by decide +kernel) ?_
                refine lv_istore_n (lv' := [(2, .int 1), (1, .int l5_1), (0, .ref k)]) hx hb dX11_sum_44 rfl hl (by decide +kernel) rfl ?_
                clear hl
                intro ls hl
                refine lv_aload_n hx hb dX11_sum_45 rfl (lv_at hl 2 rfl) ?_
                refine lv_dup hx hb dX11_sum_46 rfl ?_
                refine va_get (D := D) (ci := 11) (v := .int f5_kd) (C := RX11) (T := TX11) (N := 25) hx hb hT giX11 hown hK hP 0 rfl rfl 13 (by decide +kernel) (hT (Cond.fieldLink RX11 138 "DesertWireModel" "here" "I") mw_1169) (fun _ h9 => h9) rfl dX11_sum_47 ?_
                refine lv_iconst (v := 1) hx hb dX11_sum_50 (by decide +kernel) ?_
                refine lv_iadd hx hb dX11_sum_51 ?_
                refine lv_topi (fun v_29 ev_29 => ?_)
                have tv_29 : v_29.toInt = f5_kd.toInt + 1 := by rw [ev_29]; exact k_addv rfl zl_1 (by omega) (by omega)
                refine va_put (D := D) (ci := 11) (v := .int v_29) (ty := .int) (C := RX11) (T := TX11) (N := 25) hx hb hT giX11 tyX11 tyX11_ok nmX11 hown hK hP hD hS 0 rfl rfl 13 (by decide +kernel) (hT (Cond.fieldLink RX11 138 "DesertWireModel" "here" "I") mw_1169) (fun _ h9 => h9) rfl (by decide +kernel) rfl rfl (Nat.le_of_ble_eq_true rfl) dX11_sum_52 ?_
                clear hP hD hS
                intro H locs hP hD hS
                replace hP : va_P D vwCl [(k, .inr (11, [.ref k0, .ref k1, .ref k2, .int c3, .ref k4, .ref k5, .ref k6, .ref k7, .ref k8, .int c9, .ref ka, .ref kb, .int cc, .int v_29, .int ce, .int f5_kf, .int f5_kg, .int ch, .int ci, .int cj, .int ck, .ref kl, .int cm, .int cn, .ref ko])), (k0, .inl (cI, 1201, .inl c0))] H := hP
                replace hD : va_D A [(k, .inr (11, [.ref k0, .ref k1, .ref k2, .int c3, .ref k4, .ref k5, .ref k6, .ref k7, .ref k8, .int c9, .ref ka, .ref kb, .int cc, .int v_29, .int ce, .int f5_kf, .int f5_kg, .int ch, .int ci, .int cj, .int ck, .ref kl, .int cm, .int cn, .ref ko])), (k0, .inl (cI, 1201, .inl c0))] := hD
                refine lv_aload_n hx hb dX11_sum_55 rfl (lv_at hl 2 rfl) ?_
                refine kJi (wr := []) (va_runV (As := []) (rest := []) ⟨hx, hb, hml, hown, hT⟩ (c_X11_product_of dd ih l D cI aK aV k k0 k1 k2 k4 k5 k6 k7 k8 ka kb kl ko H.size c3 c9 cc v_29 ce f5_kf f5_kg ch ci cj ck cm cn c0 (by first | omega | decide | assumption | rfl) (by first | omega | decide | assumption | rfl) (by first | omega | decide | assumption | rfl) (by first | omega | decide | assumption | rfl) (by first | omega | decide | assumption | rfl) (by first | omega | decide | assumption | rfl) (by first | omega | decide | assumption | rfl) (by first | omega | decide | assumption | rfl)) (cwV 0 hT (gV_in mw_1331 mw_1328 mw_1330 mw_p4_7 mw_12) rfl rfl rfl (by decide +kernel) ⟨(by dsimp only; omega), (by dsimp only; omega)⟩) (kRecvX (q0 := 0) (ci := 11) hK hP hD hN hXS hS hA rfl rfl [0, 1] rfl (by decide +kernel)) rfl rfl hl.1 rfl (lv_room (Nat.le_of_ble_eq_true rfl)) dX11_sum_56 ⟨Nat.le_of_ble_eq_true rfl, Nat.le_of_ble_eq_true rfl⟩) hP hD hS hA [0, 1] [] rfl rfl (by decide +kernel) (by decide +kernel) ?_
                clear hP hD hS
                intro r_30 u_35 H locs w_31 hP hD hS
                obtain ⟨scd_32, scf_33, scg_34⟩ := u_35
                replace hP : va_P D vwCl [(k, .inr (11, [.ref k0, .ref k1, .ref k2, .int c3, .ref k4, .ref k5, .ref k6, .ref k7, .ref k8, .int c9, .ref ka, .ref kb, .int cc, .int scd_32, .int ce, .int scf_33, .int scg_34, .int ch, .int ci, .int cj, .int ck, .ref kl, .int cm, .int cn, .ref ko])), (k0, .inl (cI, 1201, .inl c0))] H := hP
                replace hD : va_D A [(k, .inr (11, [.ref k0, .ref k1, .ref k2, .int c3, .ref k4, .ref k5, .ref k6, .ref k7, .ref k8, .int c9, .ref ka, .ref kb, .int cc, .int scd_32, .int ce, .int scf_33, .int scg_34, .int ch, .int ci, .int cj, .int ck, .ref kl, .int cm, .int cn, .ref ko])), (k0, .inl (cI, 1201, .inl c0))] := hD
                have lo_scd_32 := k_lo scd_32
                have hi_scd_32 := k_hi scd_32
                have lo_scf_33 := k_lo scf_33
                have hi_scf_33 := k_hi scf_33
                have lo_scg_34 := k_lo scg_34
                have hi_scg_34 := k_hi scg_34
                obtain ⟨h_36, h_37, h_38, h_39⟩ := w_31
                have h_36 : v_29.toInt ≤ scd_32.toInt := h_36
                have h_37 : scd_32.toInt ≤ ce.toInt := h_37
                have h_38 : scg_34.toInt = f5_kg.toInt := h_38
                have h_39 : TXQ (tG c0 cc.toInt.toNat ce) ch ci cj ck 4 f5_kg.toInt f5_kf 0 v_29.toInt r_30 scd_32.toInt scf_33 := h_39
                have h_39 : TXQ (tG c0 cc.toInt.toNat ce) ch ci cj ck 4 f5_kg.toInt f5_kf 0 v_29.toInt r_30 scd_32.toInt scf_33 := h_39
                have lo_r_30 := k_lo r_30
                have hi_r_30 := k_hi r_30
                refine lv_istore_n (lv' := [(3, .int r_30), (2, .int 1), (1, .int l5_1), (0, .ref k)]) hx hb dX11_sum_59 rfl hl (by decide +kernel) rfl ?_
                clear hl
                intro ls hl
                refine lv_iload_n hx hb dX11_sum_60 rfl (lv_at hl 1 rfl) ?_
                refine b_if_eq hx hb zl_1 (tgt := 70) dX11_sum_61 (by decide +kernel) (fun c_40 => by exfalso; omega) (fun c_40 => ?_)
                refine lv_iload_n hx hb dX11_sum_64 rfl (lv_at hl 2 rfl) ?_
                refine lv_iload_n hx hb dX11_sum_65 rfl (lv_at hl 0 rfl) ?_
                refine lv_iadd hx hb dX11_sum_66 ?_
                refine lv_topi (fun v_41 ev_41 => ?_)
                have lo_v_41 := k_lo v_41
                have hi_v_41 := k_hi v_41
                refine lv_goto (tgt := 73) hx hb dX11_sum_67 (by decide +kernel) ?_
                refine lv_istore_n (lv' := [(1, .int v_41), (3, .int r_30), (2, .int 1), (0, .ref k)]) hx hb dX11_sum_73 rfl hl (by decide +kernel) rfl ?_
                clear hl
                intro ls hl
                refine lv_goto (tgt := 5) hx hb dX11_sum_74 (by decide +kernel) ?_
                exact ih5 v_41 scd_32 scf_33 scg_34 (by first | omega | decide | assumption | rfl) (by first | omega | decide | assumption | rfl) (by first | omega | decide | assumption | rfl) (by first | omega | decide | assumption | rfl) (by first | omega | decide | assumption | rfl) (by first | omega | decide | assumption | rfl) (fun r q b z => i5_6 r q b (TXQ.more (bz := f5_kf) (w := r_30) (tx_add (tG c0 cc.toInt.toNat ce f5_kd.toInt) l5_1) (by omega) (by omega) (tx_y13 (by rw [← h_23]; omega)) (TXQ.cv h_39 (by omega) (by omega) (by omega) (by omega) (by omega)) (fun _ => (by unfold tx_add; rw [← h_23, if_pos (by omega)]; exact ev_41)) r q b z)) (by omega) ls _ _ (lv_sub hl [0, 3] rfl) (hP.sub [0, 1] rfl) (hD.sub [0, 1] (by decide +kernel) rfl) hS
              · exfalso; omega
            · refine lv_aload_n hx hb dX11_sum_21 rfl (lv_at hl 1 rfl) ?_
              refine kJi (wr := []) (va_runV (As := []) (rest := []) ⟨hx, hb, hml, hown, hT⟩ (c_X11_nowG l D cI aK aV k k0 k1 k2 k4 k5 k6 k7 k8 ka kb kl ko H.size c3 c9 cc f5_kd ce f5_kf f5_kg ch ci cj ck cm cn c0 (by first | omega | decide | assumption | rfl) (by first | omega | decide | assumption | rfl) (by first | omega | decide | assumption | rfl) (by first | omega | decide | assumption | rfl) (by first | omega | decide | assumption | rfl)) (cwV 0 hT (gV_in mw_1339 mw_1336 mw_1338 mw_p4_9 mw_12) rfl rfl rfl (by decide +kernel) ⟨(by dsimp only; omega), (by dsimp only; omega)⟩) (kRecvX (q0 := 0) (ci := 11) hK hP hD hN hXS hS hA rfl rfl [0, 1] rfl (by decide +kernel)) rfl rfl hl.1 rfl (lv_room (Nat.le_of_ble_eq_true rfl)) dX11_sum_22 ⟨Nat.le_of_ble_eq_true rfl, Nat.le_of_ble_eq_true rfl⟩) hP hD hS hA [0, 1] [] rfl rfl (by decide +kernel) (by decide +kernel) ?_
              clear hP hD hS
              intro r_42 u_44 H locs w_43 hP hD hS
              replace hP : va_P D vwCl [(k, .inr (11, [.ref k0, .ref k1, .ref k2, .int c3, .ref k4, .ref k5, .ref k6, .ref k7, .ref k8, .int c9, .ref ka, .ref kb, .int cc, .int f5_kd, .int ce, .int f5_kf, .int f5_kg, .int ch, .int ci, .int cj, .int ck, .ref kl, .int cm, .int cn, .ref ko])), (k0, .inl (cI, 1201, .inl c0))] H := hP
              replace hD : va_D A [(k, .inr (11, [.ref k0, .ref k1, .ref k2, .int c3, .ref k4, .ref k5, .ref k6, .ref k7, .ref k8, .int c9, .ref ka, .ref kb, .int cc, .int f5_kd, .int ce, .int f5_kf, .int f5_kg, .int ch, .int ci, .int cj, .int ck, .ref kl, .int cm, .int cn, .ref ko])), (k0, .inl (cI, 1201, .inl c0))] := hD
              rcases w_43 with ⟨h_45, h_46⟩ | ⟨hr_42, h_47, h_48⟩
              · have h_45 : r_42 = tG c0 cc.toInt.toNat ce f5_kd.toInt := h_45
                have h_45 : r_42 = tG c0 cc.toInt.toNat ce f5_kd.toInt := h_45
                have q_49 : r_42.toInt = r_12.toInt := by rw [h_45, h_15]
                have h_46 : f5_kd.toInt < ce.toInt := h_46
                have lo_r_42 := k_lo r_42
                have hi_r_42 := k_hi r_42
                refine lv_bipush (v := 45) hx hb dX11_sum_25 (by decide +kernel) ?_
                refine b_icmp_ne hx hb rfl zl_45 (tgt := 77) dX11_sum_27 (by decide +kernel) (fun c_50 => ?_) (fun c_50 => ?_)
                · refine lv_iload_n hx hb dX11_sum_77 rfl (lv_at hl 0 rfl) ?_
                  exact hRet (f5_kd, f5_kf, f5_kg) [0, 1] ⟨(by first | omega | decide | assumption | rfl | (dsimp only; first | omega)), (by first | omega | decide | assumption | rfl | (dsimp only; first | omega)), (by first | omega | decide | assumption | rfl | (dsimp only; first | omega)), (by (try dsimp only); exact (i5_6 _ _ _ (TXQ.stopE (tx_n13 (by rw [← h_45]; omega) (by rw [← h_45]; omega)) (by omega) (by omega))))⟩ hP hD (by decide +kernel) rfl hS rfl dX11_sum_78
                · refine lv_aload_n hx hb dX11_sum_30 rfl (lv_at hl 1 rfl) ?_
                  refine kJi (wr := []) (va_runV (As := []) (rest := []) ⟨hx, hb, hml, hown, hT⟩ (c_X11_nowG l D cI aK aV k k0 k1 k2 k4 k5 k6 k7 k8 ka kb kl ko H.size c3 c9 cc f5_kd ce f5_kf f5_kg ch ci cj ck cm cn c0 (by first | omega | decide | assumption | rfl) (by first | omega | decide | assumption | rfl) (by first | omega | decide | assumption | rfl) (by first | omega | decide | assumption | rfl) (by first | omega | decide | assumption | rfl)) (cwV 0 hT (gV_in mw_1339 mw_1336 mw_1338 mw_p4_9 mw_12) rfl rfl rfl (by decide +kernel) ⟨(by dsimp only; omega), (by dsimp only; omega)⟩) (kRecvX (q0 := 0) (ci := 11) hK hP hD hN hXS hS hA rfl rfl [0, 1] rfl (by decide +kernel)) rfl rfl hl.1 rfl (lv_room (Nat.le_of_ble_eq_true rfl)) dX11_sum_31 ⟨Nat.le_of_ble_eq_true rfl, Nat.le_of_ble_eq_true rfl⟩) hP hD hS hA [0, 1] [] rfl rfl (by decide +kernel) (by decide +kernel) ?_
                  clear hP hD hS
                  intro r_51 u_53 H locs w_52 hP hD hS
                  replace hP : va_P D vwCl [(k, .inr (11, [.ref k0, .ref k1, .ref k2, .int c3, .ref k4, .ref k5, .ref k6, .ref k7, .ref k8, .int c9, .ref ka, .ref kb, .int cc, .int f5_kd, .int ce, .int f5_kf, .int f5_kg, .int ch, .int ci, .int cj, .int ck, .ref kl, .int cm, .int cn, .ref ko])), (k0, .inl (cI, 1201, .inl c0))] H := hP
                  replace hD : va_D A [(k, .inr (11, [.ref k0, .ref k1, .ref k2, .int c3, .ref k4, .ref k5, .ref k6, .ref k7, .ref k8, .int c9, .ref ka, .ref kb, .int cc, .int f5_kd, .int ce, .int f5_kf, .int f5_kg, .int ch, .int ci, .int cj, .int ck, .ref kl, .int cm, .int cn, .ref ko])), (k0, .inl (cI, 1201, .inl c0))] := hD
                  rcases w_52 with ⟨h_54, h_55⟩ | ⟨hr_51, h_56, h_57⟩
                  · have h_54 : r_51 = tG c0 cc.toInt.toNat ce f5_kd.toInt := h_54
                    have h_54 : r_51 = tG c0 cc.toInt.toNat ce f5_kd.toInt := h_54
                    have q_58 : r_51.toInt = r_42.toInt := by rw [h_54, h_45]
                    have h_55 : f5_kd.toInt < ce.toInt := h_55
                    have lo_r_51 := k_lo r_51
                    have hi_r_51 := k_hi r_51
                    refine lv_bipush (v := 43) hx hb dX11_sum_34 (by decide +kernel) ?_
                    refine b_icmp_ne hx hb rfl zl_43 (tgt := 43) dX11_sum_36 (by decide +kernel) (fun c_59 => ?_) (fun c_59 => by exfalso; omega)
                    refine lv_iconst (v := 0) hx hb dX11_sum_43 (by decide +kernel) ?_
                    refine lv_istore_n (lv' := [(2, .int 0), (1, .int l5_1), (0, .ref k)]) hx hb dX11_sum_44 rfl hl (by decide +kernel) rfl ?_
                    clear hl
                    intro ls hl
                    refine lv_aload_n hx hb dX11_sum_45 rfl (lv_at hl 2 rfl) ?_
                    refine lv_dup hx hb dX11_sum_46 rfl ?_
                    refine va_get (D := D) (ci := 11) (v := .int f5_kd) (C := RX11) (T := TX11) (N := 25) hx hb hT giX11 hown hK hP 0 rfl rfl 13 (by decide +kernel) (hT (Cond.fieldLink RX11 138 "DesertWireModel" "here" "I") mw_1169) (fun _ h9 => h9) rfl dX11_sum_47 ?_
                    refine lv_iconst (v := 1) hx hb dX11_sum_50 (by decide +kernel) ?_
                    refine lv_iadd hx hb dX11_sum_51 ?_
                    refine lv_topi (fun v_60 ev_60 => ?_)
                    have tv_60 : v_60.toInt = f5_kd.toInt + 1 := by rw [ev_60]; exact k_addv rfl zl_1 (by omega) (by omega)
                    refine va_put (D := D) (ci := 11) (v := .int v_60) (ty := .int) (C := RX11) (T := TX11) (N := 25) hx hb hT giX11 tyX11 tyX11_ok nmX11 hown hK hP hD hS 0 rfl rfl 13 (by decide +kernel) (hT (Cond.fieldLink RX11 138 "DesertWireModel" "here" "I") mw_1169) (fun _ h9 => h9) rfl (by decide +kernel) rfl rfl (Nat.le_of_ble_eq_true rfl) dX11_sum_52 ?_
                    clear hP hD hS
                    intro H locs hP hD hS
                    replace hP : va_P D vwCl [(k, .inr (11, [.ref k0, .ref k1, .ref k2, .int c3, .ref k4, .ref k5, .ref k6, .ref k7, .ref k8, .int c9, .ref ka, .ref kb, .int cc, .int v_60, .int ce, .int f5_kf, .int f5_kg, .int ch, .int ci, .int cj, .int ck, .ref kl, .int cm, .int cn, .ref ko])), (k0, .inl (cI, 1201, .inl c0))] H := hP
                    replace hD : va_D A [(k, .inr (11, [.ref k0, .ref k1, .ref k2, .int c3, .ref k4, .ref k5, .ref k6, .ref k7, .ref k8, .int c9, .ref ka, .ref kb, .int cc, .int v_60, .int ce, .int f5_kf, .int f5_kg, .int ch, .int ci, .int cj, .int ck, .ref kl, .int cm, .int cn, .ref ko])), (k0, .inl (cI, 1201, .inl c0))] := hD
                    refine lv_aload_n hx hb dX11_sum_55 rfl (lv_at hl 2 rfl) ?_
                    refine kJi (wr := []) (va_runV (As := []) (rest := []) ⟨hx, hb, hml, hown, hT⟩ (c_X11_product_of dd ih l D cI aK aV k k0 k1 k2 k4 k5 k6 k7 k8 ka kb kl ko H.size c3 c9 cc v_60 ce f5_kf f5_kg ch ci cj ck cm cn c0 (by first | omega | decide | assumption | rfl) (by first | omega | decide | assumption | rfl) (by first | omega | decide | assumption | rfl) (by first | omega | decide | assumption | rfl) (by first | omega | decide | assumption | rfl) (by first | omega | decide | assumption | rfl) (by first | omega | decide | assumption | rfl) (by first | omega | decide | assumption | rfl)) (cwV 0 hT (gV_in mw_1331 mw_1328 mw_1330 mw_p4_7 mw_12) rfl rfl rfl (by decide +kernel) ⟨(by dsimp only; omega), (by dsimp only; omega)⟩) (kRecvX (q0 := 0) (ci := 11) hK hP hD hN hXS hS hA rfl rfl [0, 1] rfl (by decide +kernel)) rfl rfl hl.1 rfl (lv_room (Nat.le_of_ble_eq_true rfl)) dX11_sum_56 ⟨Nat.le_of_ble_eq_true rfl, Nat.le_of_ble_eq_true rfl⟩) hP hD hS hA [0, 1] [] rfl rfl (by decide +kernel) (by decide +kernel) ?_
                    clear hP hD hS
                    intro r_61 u_66 H locs w_62 hP hD hS
                    obtain ⟨scd_63, scf_64, scg_65⟩ := u_66
                    replace hP : va_P D vwCl [(k, .inr (11, [.ref k0, .ref k1, .ref k2, .int c3, .ref k4, .ref k5, .ref k6, .ref k7, .ref k8, .int c9, .ref ka, .ref kb, .int cc, .int scd_63, .int ce, .int scf_64, .int scg_65, .int ch, .int ci, .int cj, .int ck, .ref kl, .int cm, .int cn, .ref ko])), (k0, .inl (cI, 1201, .inl c0))] H := hP
                    replace hD : va_D A [(k, .inr (11, [.ref k0, .ref k1, .ref k2, .int c3, .ref k4, .ref k5, .ref k6, .ref k7, .ref k8, .int c9, .ref ka, .ref kb, .int cc, .int scd_63, .int ce, .int scf_64, .int scg_65, .int ch, .int ci, .int cj, .int ck, .ref kl, .int cm, .int cn, .ref ko])), (k0, .inl (cI, 1201, .inl c0))] := hD
                    have lo_scd_63 := k_lo scd_63
                    have hi_scd_63 := k_hi scd_63
                    have lo_scf_64 := k_lo scf_64
                    have hi_scf_64 := k_hi scf_64
                    have lo_scg_65 := k_lo scg_65
                    have hi_scg_65 := k_hi scg_65
                    obtain ⟨h_67, h_68, h_69, h_70⟩ := w_62
                    have h_67 : v_60.toInt ≤ scd_63.toInt := h_67
                    have h_68 : scd_63.toInt ≤ ce.toInt := h_68
                    have h_69 : scg_65.toInt = f5_kg.toInt := h_69
                    have h_70 : TXQ (tG c0 cc.toInt.toNat ce) ch ci cj ck 4 f5_kg.toInt f5_kf 0 v_60.toInt r_61 scd_63.toInt scf_64 := h_70
                    have h_70 : TXQ (tG c0 cc.toInt.toNat ce) ch ci cj ck 4 f5_kg.toInt f5_kf 0 v_60.toInt r_61 scd_63.toInt scf_64 := h_70
                    have lo_r_61 := k_lo r_61
                    have hi_r_61 := k_hi r_61
                    refine lv_istore_n (lv' := [(3, .int r_61), (2, .int 0), (1, .int l5_1), (0, .ref k)]) hx hb dX11_sum_59 rfl hl (by decide +kernel) rfl ?_
                    clear hl
                    intro ls hl
                    refine lv_iload_n hx hb dX11_sum_60 rfl (lv_at hl 1 rfl) ?_
                    refine b_if_eq hx hb zl_0 (tgt := 70) dX11_sum_61 (by decide +kernel) (fun c_71 => ?_) (fun c_71 => by exfalso; omega)
                    refine lv_iload_n hx hb dX11_sum_70 rfl (lv_at hl 2 rfl) ?_
                    refine lv_iload_n hx hb dX11_sum_71 rfl (lv_at hl 0 rfl) ?_
                    refine lv_isub hx hb dX11_sum_72 ?_
                    refine lv_topi (fun v_72 ev_72 => ?_)
                    have lo_v_72 := k_lo v_72
                    have hi_v_72 := k_hi v_72
                    refine lv_istore_n (lv' := [(1, .int v_72), (3, .int r_61), (2, .int 0), (0, .ref k)]) hx hb dX11_sum_73 rfl hl (by decide +kernel) rfl ?_
                    clear hl
                    intro ls hl
                    refine lv_goto (tgt := 5) hx hb dX11_sum_74 (by decide +kernel) ?_
                    exact ih5 v_72 scd_63 scf_64 scg_65 (by first | omega | decide | assumption | rfl) (by first | omega | decide | assumption | rfl) (by first | omega | decide | assumption | rfl) (by first | omega | decide | assumption | rfl) (by first | omega | decide | assumption | rfl) (by first | omega | decide | assumption | rfl) (fun r q b z => i5_6 r q b (TXQ.more (bz := f5_kf) (w := r_61) (tx_add (tG c0 cc.toInt.toNat ce f5_kd.toInt) l5_1) (by omega) (by omega) (tx_y13 (by rw [← h_54]; omega)) (TXQ.cv h_70 (by omega) (by omega) (by omega) (by omega) (by omega)) (fun _ => (by unfold tx_add; rw [← h_54, if_neg (by omega)]; exact ev_72)) r q b z)) (by omega) ls _ _ (lv_sub hl [0, 3] rfl) (hP.sub [0, 1] rfl) (hD.sub [0, 1] (by decide +kernel) rfl) hS
                  · exfalso; omega
              · exfalso; omega
          · have h_17 : r_12 = tG c0 cc.toInt.toNat ce f5_kd.toInt := h_17
            have h_17 : r_12 = tG c0 cc.toInt.toNat ce f5_kd.toInt := h_17
            have h_18 : f5_kd.toInt = ce.toInt := h_18
            obtain rfl : r_12 = (-1) := hr_12.trans (by decide +kernel)
            refine lv_bipush (v := 43) hx hb dX11_sum_16 (by decide +kernel) ?_
            refine b_icmp_eq hx hb zl_m1 zl_43 (tgt := 30) dX11_sum_18 (by decide +kernel) (fun c_73 => by exfalso; omega) (fun c_73 => ?_)
            refine lv_aload_n hx hb dX11_sum_21 rfl (lv_at hl 1 rfl) ?_
            refine kJi (wr := []) (va_runV (As := []) (rest := []) ⟨hx, hb, hml, hown, hT⟩ (c_X11_nowG l D cI aK aV k k0 k1 k2 k4 k5 k6 k7 k8 ka kb kl ko H.size c3 c9 cc f5_kd ce f5_kf f5_kg ch ci cj ck cm cn c0 (by first | omega | decide | assumption | rfl) (by first | omega | decide | assumption | rfl) (by first | omega | decide | assumption | rfl) (by first | omega | decide | assumption | rfl) (by first | omega | decide | assumption | rfl)) (cwV 0 hT (gV_in mw_1339 mw_1336 mw_1338 mw_p4_9 mw_12) rfl rfl rfl (by decide +kernel) ⟨(by dsimp only; omega), (by dsimp only; omega)⟩) (kRecvX (q0 := 0) (ci := 11) hK hP hD hN hXS hS hA rfl rfl [0, 1] rfl (by decide +kernel)) rfl rfl hl.1 rfl (lv_room (Nat.le_of_ble_eq_true rfl)) dX11_sum_22 ⟨Nat.le_of_ble_eq_true rfl, Nat.le_of_ble_eq_true rfl⟩) hP hD hS hA [0, 1] [] rfl rfl (by decide +kernel) (by decide +kernel) ?_
            clear hP hD hS
            intro r_74 u_76 H locs w_75 hP hD hS
            replace hP : va_P D vwCl [(k, .inr (11, [.ref k0, .ref k1, .ref k2, .int c3, .ref k4, .ref k5, .ref k6, .ref k7, .ref k8, .int c9, .ref ka, .ref kb, .int cc, .int f5_kd, .int ce, .int f5_kf, .int f5_kg, .int ch, .int ci, .int cj, .int ck, .ref kl, .int cm, .int cn, .ref ko])), (k0, .inl (cI, 1201, .inl c0))] H := hP
            replace hD : va_D A [(k, .inr (11, [.ref k0, .ref k1, .ref k2, .int c3, .ref k4, .ref k5, .ref k6, .ref k7, .ref k8, .int c9, .ref ka, .ref kb, .int cc, .int f5_kd, .int ce, .int f5_kf, .int f5_kg, .int ch, .int ci, .int cj, .int ck, .ref kl, .int cm, .int cn, .ref ko])), (k0, .inl (cI, 1201, .inl c0))] := hD
            rcases w_75 with ⟨h_77, h_78⟩ | ⟨hr_74, h_79, h_80⟩
            · exfalso; omega
            · have h_79 : r_74 = tG c0 cc.toInt.toNat ce f5_kd.toInt := h_79
              have h_79 : r_74 = tG c0 cc.toInt.toNat ce f5_kd.toInt := h_79
              have h_80 : f5_kd.toInt = ce.toInt := h_80
              obtain rfl : r_74 = (-1) := hr_74.trans (by decide +kernel)
              refine lv_bipush (v := 45) hx hb dX11_sum_25 (by decide +kernel) ?_
              refine b_icmp_ne hx hb zl_m1 zl_45 (tgt := 77) dX11_sum_27 (by decide +kernel) (fun c_81 => ?_) (fun c_81 => by exfalso; omega)
              refine lv_iload_n hx hb dX11_sum_77 rfl (lv_at hl 0 rfl) ?_
              exact hRet (f5_kd, f5_kf, f5_kg) [0, 1] ⟨(by first | omega | decide | assumption | rfl | (dsimp only; first | omega)), (by first | omega | decide | assumption | rfl | (dsimp only; first | omega)), (by first | omega | decide | assumption | rfl | (dsimp only; first | omega)), (by (try dsimp only); exact (i5_6 _ _ _ (TXQ.stopE (tx_n13 (by rw [← h_79]; omega) (by rw [← h_79]; omega)) (by omega) (by omega))))⟩ hP hD (by decide +kernel) rfl hS rfl dX11_sum_78
  exact hloop_5 _ r_1 scd_3 scf_4 scg_5 (by first | omega | decide | assumption | rfl) (by first | omega | decide | assumption | rfl) (by first | omega | decide | assumption | rfl) (by first | omega | decide | assumption | rfl) (by first | omega | decide | assumption | rfl) (by first | omega | decide | assumption | rfl) (TXQ.seq (fun f v => tx_e3 f v _) h_10 0) (Nat.lt_succ_self _) ls _ _ (lv_sub hl [0, 1] rfl) hP hD hS
set_option maxHeartbeats 4000000 in
set_option maxRecDepth 100000 in
theorem c_X11_test_of (dd : Nat) (ih : RTP dd) (l : Launch) (D : va_G) (cI : ClassId) (aK aV : Nat → Nat) (k k0 k1 k2 k4 k5 k6 k7 k8 ka kb kl ko : Nat) (sz : Nat) (c3 : Int32) (c9 : Int32) (cc : Int32) (cd : Int32) (ce : Int32) (cf : Int32) (cg : Int32) (ch : Int32) (ci : Int32) (cj : Int32) (ck : Int32) (cm : Int32) (cn : Int32) (c0 : Nat → Int32) (pre0 : 0 ≤ cc.toInt) (pre1 : cc.toInt ≤ 1151) (pre2 : 0 ≤ cd.toInt) (pre3 : cd.toInt ≤ ce.toInt) (pre4 : ce.toInt ≤ 50) (pre5 : 0 ≤ cg.toInt) (pre6 : cg.toInt ≤ 4) (pre7 : (4 - cg.toInt).toNat < dd + 1)  : Met l yX11_test (gW yX11_test cX11_test 4 (some .int)) ({ frames := 20 * (dd + 1) + 16, cells := 0, slots := 0, locals := 1400 * (dd + 1) + 1120 } : Room) (kPreX D cI aK aV [.ref k] [(k, .inr (11, [.ref k0, .ref k1, .ref k2, .int c3, .ref k4, .ref k5, .ref k6, .ref k7, .ref k8, .int c9, .ref ka, .ref kb, .int cc, .int cd, .int ce, .int cf, .int cg, .int ch, .int ci, .int cj, .int ck, .ref kl, .int cm, .int cn, .ref ko])), (k0, .inl (cI, 1201, .inl c0))] sz) (va_Qi (fun (r : Int32) (u : Int32 × Int32 × Int32) => cd.toInt ≤ u.1.toInt ∧ u.1.toInt ≤ ce.toInt ∧ u.2.2.toInt = cg.toInt ∧ TXQ (tG c0 cc.toInt.toNat ce) ch ci cj ck 2 cg.toInt cf 0 cd.toInt r u.1.toInt u.2.1) (fun u t => kWd D cI (va_A [(k, .inr (11, [.ref k0, .ref k1, .ref k2, .int c3, .ref k4, .ref k5, .ref k6, .ref k7, .ref k8, .int c9, .ref ka, .ref kb, .int cc, .int cd, .int ce, .int cf, .int cg, .int ch, .int ci, .int cj, .int ck, .ref kl, .int cm, .int cn, .ref ko])), (k0, .inl (cI, 1201, .inl c0))] sz) [(k, .inr (11, [.ref k0, .ref k1, .ref k2, .int c3, .ref k4, .ref k5, .ref k6, .ref k7, .ref k8, .int c9, .ref ka, .ref kb, .int cc, .int u.1, .int ce, .int u.2.1, .int u.2.2, .int ch, .int ci, .int cj, .int ck, .ref kl, .int cm, .int cn, .ref ko])), (k0, .inl (cI, 1201, .inl c0))] t) (va_A [(k, .inr (11, [.ref k0, .ref k1, .ref k2, .int c3, .ref k4, .ref k5, .ref k6, .ref k7, .ref k8, .int c9, .ref ka, .ref kb, .int cc, .int cd, .int ce, .int cf, .int cg, .int ch, .int ci, .int cj, .int ck, .ref kl, .int cm, .int cn, .ref ko])), (k0, .inl (cI, 1201, .inl c0))] sz)) 0 0 (va_A [(k, .inr (11, [.ref k0, .ref k1, .ref k2, .int c3, .ref k4, .ref k5, .ref k6, .ref k7, .ref k8, .int c9, .ref ka, .ref kb, .int cc, .int cd, .int ce, .int cf, .int cg, .int ch, .int ci, .int cj, .int ck, .ref kl, .int cm, .int cn, .ref ko])), (k0, .inl (cI, 1201, .inl c0))] sz) := by
  refine kMetIX (own := RX11) (by decide +kernel) rfl (Nat.le_of_ble_eq_true rfl) ?_
  intro p e s m args below meth c hx hb hT hown hname hml A Q hK hP hD hS hA hN hXS hRet ls hl
  have hl : lv_has ls 4 [(0, .ref k)] := hl
  have lo_cc := k_lo cc
  have hi_cc := k_hi cc
  have lo_cd := k_lo cd
  have hi_cd := k_hi cd
  have lo_ce := k_lo ce
  have hi_ce := k_hi ce
  have lo_cf := k_lo cf
  have hi_cf := k_hi cf
  have lo_cg := k_lo cg
  have hi_cg := k_hi cg
  have lo_ch := k_lo ch
  have hi_ch := k_hi ch
  have lo_ci := k_lo ci
  have hi_ci := k_hi ci
  have lo_cj := k_lo cj
  have hi_cj := k_hi cj
  have lo_ck := k_lo ck
  have hi_ck := k_hi ck
  have hm1 := zl_m1
  refine lv_aload_n hx hb dX11_test_0 rfl (lv_at hl 0 rfl) ?_
  refine kJi (wr := []) (va_runV (As := []) (rest := []) ⟨hx, hb, hml, hown, hT⟩ (c_X11_sum_of dd ih l D cI aK aV k k0 k1 k2 k4 k5 k6 k7 k8 ka kb kl ko s.heap.size c3 c9 cc cd ce cf cg ch ci cj ck cm cn c0 (by first | omega | decide | assumption | rfl) (by first | omega | decide | assumption | rfl) (by first | omega | decide | assumption | rfl) (by first | omega | decide | assumption | rfl) (by first | omega | decide | assumption | rfl) (by first | omega | decide | assumption | rfl) (by first | omega | decide | assumption | rfl) (by first | omega | decide | assumption | rfl)) (cwV 0 hT (gV_in mw_1327 mw_1324 mw_1326 mw_p4_6 mw_12) rfl rfl rfl (by decide +kernel) ⟨(by dsimp only; omega), (by dsimp only; omega)⟩) (kRecvX (q0 := 0) (ci := 11) hK hP hD hN hXS hS hA rfl rfl [0, 1] rfl (by decide +kernel)) rfl rfl hl.1 rfl (lv_room (Nat.le_of_ble_eq_true rfl)) dX11_test_1 ⟨Nat.le_of_ble_eq_true rfl, Nat.le_of_ble_eq_true rfl⟩) hP hD hS hA [0, 1] [] rfl rfl (by decide +kernel) (by decide +kernel) ?_
  clear hP hD hS
  intro r_1 u_6 H locs w_2 hP hD hS
  obtain ⟨scd_3, scf_4, scg_5⟩ := u_6
  replace hP : va_P D vwCl [(k, .inr (11, [.ref k0, .ref k1, .ref k2, .int c3, .ref k4, .ref k5, .ref k6, .ref k7, .ref k8, .int c9, .ref ka, .ref kb, .int cc, .int scd_3, .int ce, .int scf_4, .int scg_5, .int ch, .int ci, .int cj, .int ck, .ref kl, .int cm, .int cn, .ref ko])), (k0, .inl (cI, 1201, .inl c0))] H := hP
  replace hD : va_D A [(k, .inr (11, [.ref k0, .ref k1, .ref k2, .int c3, .ref k4, .ref k5, .ref k6, .ref k7, .ref k8, .int c9, .ref ka, .ref kb, .int cc, .int scd_3, .int ce, .int scf_4, .int scg_5, .int ch, .int ci, .int cj, .int ck, .ref kl, .int cm, .int cn, .ref ko])), (k0, .inl (cI, 1201, .inl c0))] := hD
  have lo_scd_3 := k_lo scd_3
  have hi_scd_3 := k_hi scd_3
  have lo_scf_4 := k_lo scf_4
  have hi_scf_4 := k_hi scf_4
  have lo_scg_5 := k_lo scg_5
  have hi_scg_5 := k_hi scg_5
  obtain ⟨h_7, h_8, h_9, h_10⟩ := w_2
  have h_7 : cd.toInt ≤ scd_3.toInt := h_7
  have h_8 : scd_3.toInt ≤ ce.toInt := h_8
  have h_9 : scg_5.toInt = cg.toInt := h_9
  have h_10 : TXQ (tG c0 cc.toInt.toNat ce) ch ci cj ck 3 cg.toInt cf 0 cd.toInt r_1 scd_3.toInt scf_4 := h_10
  have h_10 : TXQ (tG c0 cc.toInt.toNat ce) ch ci cj ck 3 cg.toInt cf 0 cd.toInt r_1 scd_3.toInt scf_4 := h_10
  have lo_r_1 := k_lo r_1
  have hi_r_1 := k_hi r_1
  refine lv_istore_n (lv' := [(1, .int r_1), (0, .ref k)]) hx hb dX11_test_4 rfl hl (by decide +kernel) rfl ?_
  clear hl
  intro ls hl
  refine lv_aload_n hx hb dX11_test_5 rfl (lv_at hl 1 rfl) ?_
  refine kJi (wr := []) (va_runV (As := []) (rest := []) ⟨hx, hb, hml, hown, hT⟩ (c_X11_nowG l D cI aK aV k k0 k1 k2 k4 k5 k6 k7 k8 ka kb kl ko H.size c3 c9 cc scd_3 ce scf_4 scg_5 ch ci cj ck cm cn c0 (by first | omega | decide | assumption | rfl) (by first | omega | decide | assumption | rfl) (by first | omega | decide | assumption | rfl) (by first | omega | decide | assumption | rfl) (by first | omega | decide | assumption | rfl)) (cwV 0 hT (gV_in mw_1339 mw_1336 mw_1338 mw_p4_9 mw_12) rfl rfl rfl (by decide +kernel) ⟨(by dsimp only; omega), (by dsimp only; omega)⟩) (kRecvX (q0 := 0) (ci := 11) hK hP hD hN hXS hS hA rfl rfl [0, 1] rfl (by decide +kernel)) rfl rfl hl.1 rfl (lv_room (Nat.le_of_ble_eq_true rfl)) dX11_test_6 ⟨Nat.le_of_ble_eq_true rfl, Nat.le_of_ble_eq_true rfl⟩) hP hD hS hA [0, 1] [] rfl rfl (by decide +kernel) (by decide +kernel) ?_
  clear hP hD hS
  intro r_11 u_13 H locs w_12 hP hD hS
  replace hP : va_P D vwCl [(k, .inr (11, [.ref k0, .ref k1, .ref k2, .int c3, .ref k4, .ref k5, .ref k6, .ref k7, .ref k8, .int c9, .ref ka, .ref kb, .int cc, .int scd_3, .int ce, .int scf_4, .int scg_5, .int ch, .int ci, .int cj, .int ck, .ref kl, .int cm, .int cn, .ref ko])), (k0, .inl (cI, 1201, .inl c0))] H := hP
  replace hD : va_D A [(k, .inr (11, [.ref k0, .ref k1, .ref k2, .int c3, .ref k4, .ref k5, .ref k6, .ref k7, .ref k8, .int c9, .ref ka, .ref kb, .int cc, .int scd_3, .int ce, .int scf_4, .int scg_5, .int ch, .int ci, .int cj, .int ck, .ref kl, .int cm, .int cn, .ref ko])), (k0, .inl (cI, 1201, .inl c0))] := hD
  rcases w_12 with ⟨h_14, h_15⟩ | ⟨hr_11, h_16, h_17⟩
  · have h_14 : r_11 = tG c0 cc.toInt.toNat ce scd_3.toInt := h_14
    have h_14 : r_11 = tG c0 cc.toInt.toNat ce scd_3.toInt := h_14
    have h_15 : scd_3.toInt < ce.toInt := h_15
    have lo_r_11 := k_lo r_11
    have hi_r_11 := k_hi r_11
    refine lv_istore_n (lv' := [(2, .int r_11), (1, .int r_1), (0, .ref k)]) hx hb dX11_test_9 rfl hl (by decide +kernel) rfl ?_
    clear hl
    intro ls hl
    refine lv_aload_n hx hb dX11_test_10 rfl (lv_at hl 2 rfl) ?_
    refine va_get (D := D) (ci := 11) (v := .int scf_4) (C := RX11) (T := TX11) (N := 25) hx hb hT giX11 hown hK hP 0 rfl rfl 15 (by decide +kernel) (hT (Cond.fieldLink RX11 148 "DesertWireModel" "isWrong" "Z") mw_1171) (fun _ h9 => h9) rfl dX11_test_11 ?_
    refine b_if_ne hx hb rfl (tgt := 35) dX11_test_14 (by decide +kernel) (fun c_18 => ?_) (fun c_18 => ?_)
    · refine lv_iload_n hx hb dX11_test_35 rfl (lv_at hl 1 rfl) ?_
      exact hRet (scd_3, scf_4, scg_5) [0, 1] ⟨(by first | omega | decide | assumption | rfl | (dsimp only; first | omega)), (by first | omega | decide | assumption | rfl | (dsimp only; first | omega)), (by first | omega | decide | assumption | rfl | (dsimp only; first | omega)), (by (try dsimp only); exact (TXQ.cmp_no h_10 (Or.inl (by omega)) (fun _ => rfl)))⟩ hP hD (by decide +kernel) rfl hS rfl dX11_test_36
    · refine lv_iload_n hx hb dX11_test_17 rfl (lv_at hl 0 rfl) ?_
      refine lv_bipush (v := 60) hx hb dX11_test_18 (by decide +kernel) ?_
      refine b_icmp_eq hx hb rfl zl_60 (tgt := 37) dX11_test_20 (by decide +kernel) (fun c_19 => ?_) (fun c_19 => ?_)
      · refine lv_aload_n hx hb dX11_test_37 rfl (lv_at hl 2 rfl) ?_
        refine lv_dup hx hb dX11_test_38 rfl ?_
        refine va_get (D := D) (ci := 11) (v := .int scd_3) (C := RX11) (T := TX11) (N := 25) hx hb hT giX11 hown hK hP 0 rfl rfl 13 (by decide +kernel) (hT (Cond.fieldLink RX11 138 "DesertWireModel" "here" "I") mw_1169) (fun _ h9 => h9) rfl dX11_test_39 ?_
        refine lv_iconst (v := 1) hx hb dX11_test_42 (by decide +kernel) ?_
        refine lv_iadd hx hb dX11_test_43 ?_
        refine lv_topi (fun v_20 ev_20 => ?_)
        have tv_20 : v_20.toInt = scd_3.toInt + 1 := by rw [ev_20]; exact k_addv rfl zl_1 (by omega) (by omega)
        refine va_put (D := D) (ci := 11) (v := .int v_20) (ty := .int) (C := RX11) (T := TX11) (N := 25) hx hb hT giX11 tyX11 tyX11_ok nmX11 hown hK hP hD hS 0 rfl rfl 13 (by decide +kernel) (hT (Cond.fieldLink RX11 138 "DesertWireModel" "here" "I") mw_1169) (fun _ h9 => h9) rfl (by decide +kernel) rfl rfl (Nat.le_of_ble_eq_true rfl) dX11_test_44 ?_
        clear hP hD hS
        intro H locs hP hD hS
        replace hP : va_P D vwCl [(k, .inr (11, [.ref k0, .ref k1, .ref k2, .int c3, .ref k4, .ref k5, .ref k6, .ref k7, .ref k8, .int c9, .ref ka, .ref kb, .int cc, .int v_20, .int ce, .int scf_4, .int scg_5, .int ch, .int ci, .int cj, .int ck, .ref kl, .int cm, .int cn, .ref ko])), (k0, .inl (cI, 1201, .inl c0))] H := hP
        replace hD : va_D A [(k, .inr (11, [.ref k0, .ref k1, .ref k2, .int c3, .ref k4, .ref k5, .ref k6, .ref k7, .ref k8, .int c9, .ref ka, .ref kb, .int cc, .int v_20, .int ce, .int scf_4, .int scg_5, .int ch, .int ci, .int cj, .int ck, .ref kl, .int cm, .int cn, .ref ko])), (k0, .inl (cI, 1201, .inl c0))] := hD
        refine lv_aload_n hx hb dX11_test_47 rfl (lv_at hl 2 rfl) ?_
        refine kJi (wr := []) (va_runV (As := []) (rest := []) ⟨hx, hb, hml, hown, hT⟩ (c_X11_sum_of dd ih l D cI aK aV k k0 k1 k2 k4 k5 k6 k7 k8 ka kb kl ko H.size c3 c9 cc v_20 ce scf_4 scg_5 ch ci cj ck cm cn c0 (by first | omega | decide | assumption | rfl) (by first | omega | decide | assumption | rfl) (by first | omega | decide | assumption | rfl) (by first | omega | decide | assumption | rfl) (by first | omega | decide | assumption | rfl) (by first | omega | decide | assumption | rfl) (by first | omega | decide | assumption | rfl) (by first | omega | decide | assumption | rfl)) (cwV 0 hT (gV_in mw_1327 mw_1324 mw_1326 mw_p4_6 mw_12) rfl rfl rfl (by decide +kernel) ⟨(by dsimp only; omega), (by dsimp only; omega)⟩) (kRecvX (q0 := 0) (ci := 11) hK hP hD hN hXS hS hA rfl rfl [0, 1] rfl (by decide +kernel)) rfl rfl hl.1 rfl (lv_room (Nat.le_of_ble_eq_true rfl)) dX11_test_48 ⟨Nat.le_of_ble_eq_true rfl, Nat.le_of_ble_eq_true rfl⟩) hP hD hS hA [0, 1] [] rfl rfl (by decide +kernel) (by decide +kernel) ?_
        clear hP hD hS
        intro r_21 u_26 H locs w_22 hP hD hS
        obtain ⟨scd_23, scf_24, scg_25⟩ := u_26
        replace hP : va_P D vwCl [(k, .inr (11, [.ref k0, .ref k1, .ref k2, .int c3, .ref k4, .ref k5, .ref k6, .ref k7, .ref k8, .int c9, .ref ka, .ref kb, .int cc, .int scd_23, .int ce, .int scf_24, .int scg_25, .int ch, .int ci, .int cj, .int ck, .ref kl, .int cm, .int cn, .ref ko])), (k0, .inl (cI, 1201, .inl c0))] H := hP
        replace hD : va_D A [(k, .inr (11, [.ref k0, .ref k1, .ref k2, .int c3, .ref k4, .ref k5, .ref k6, .ref k7, .ref k8, .int c9, .ref ka, .ref kb, .int cc, .int scd_23, .int ce, .int scf_24, .int scg_25, .int ch, .int ci, .int cj, .int ck, .ref kl, .int cm, .int cn, .ref ko])), (k0, .inl (cI, 1201, .inl c0))] := hD
        have lo_scd_23 := k_lo scd_23
        have hi_scd_23 := k_hi scd_23
        have lo_scf_24 := k_lo scf_24
        have hi_scf_24 := k_hi scf_24
        have lo_scg_25 := k_lo scg_25
        have hi_scg_25 := k_hi scg_25
        obtain ⟨h_27, h_28, h_29, h_30⟩ := w_22
        have h_27 : v_20.toInt ≤ scd_23.toInt := h_27
        have h_28 : scd_23.toInt ≤ ce.toInt := h_28
        have h_29 : scg_25.toInt = scg_5.toInt := h_29
        have h_30 : TXQ (tG c0 cc.toInt.toNat ce) ch ci cj ck 3 scg_5.toInt scf_4 0 v_20.toInt r_21 scd_23.toInt scf_24 := h_30
        have h_30 : TXQ (tG c0 cc.toInt.toNat ce) ch ci cj ck 3 scg_5.toInt scf_4 0 v_20.toInt r_21 scd_23.toInt scf_24 := h_30
        have lo_r_21 := k_lo r_21
        have hi_r_21 := k_hi r_21
        refine lv_istore_n (lv' := [(3, .int r_21), (2, .int r_11), (1, .int r_1), (0, .ref k)]) hx hb dX11_test_51 rfl hl (by decide +kernel) rfl ?_
        clear hl
        intro ls hl
        refine lv_iload_n hx hb dX11_test_52 rfl (lv_at hl 1 rfl) ?_
        refine lv_bipush (v := 60) hx hb dX11_test_53 (by decide +kernel) ?_
        refine b_icmp_ne hx hb rfl zl_60 (tgt := 66) dX11_test_55 (by decide +kernel) (fun c_31 => by exfalso; omega) (fun c_31 => ?_)
        refine lv_iload_n hx hb dX11_test_58 rfl (lv_at hl 2 rfl) ?_
        refine lv_iload_n hx hb dX11_test_59 rfl (lv_at hl 0 rfl) ?_
        refine b_icmp_ge hx hb rfl rfl (tgt := 89) dX11_test_60 (by decide +kernel) (fun c_32 => ?_) (fun c_32 => ?_)
        · refine lv_iconst (v := 0) hx hb dX11_test_89 (by decide +kernel) ?_
          exact hRet (scd_23, scf_24, scg_25) [0, 1] ⟨(by first | omega | (simp only [zl_0]; first | done | omega) | decide | assumption | rfl | (dsimp only; first | omega | (simp only [zl_0]; first | done | omega))), (by first | omega | (simp only [zl_0]; first | done | omega) | decide | assumption | rfl | (dsimp only; first | omega | (simp only [zl_0]; first | done | omega))), (by first | omega | (simp only [zl_0]; first | done | omega) | decide | assumption | rfl | (dsimp only; first | omega | (simp only [zl_0]; first | done | omega))), (by (try dsimp only); exact (TXQ.cmp_yes (bz := scf_4) (z := r_21) h_10 (by omega) (TXQ.z h_10 (by omega)) (by rw [← h_14]; omega) (by omega) (TXQ.cv h_30 (by omega) (by omega) (by omega) (by omega) (by omega)) (fun _ => by rw [← h_14]; unfold tx_cmp; (repeat (first | rw [if_pos (by omega)] | rw [if_neg (by omega)])))))⟩ hP hD (by decide +kernel) rfl hS rfl dX11_test_90
        · refine lv_goto (tgt := 85) hx hb dX11_test_63 (by decide +kernel) ?_
          refine lv_iconst (v := 1) hx hb dX11_test_85 (by decide +kernel) ?_
          refine lv_goto (tgt := 90) hx hb dX11_test_86 (by decide +kernel) ?_
          exact hRet (scd_23, scf_24, scg_25) [0, 1] ⟨(by first | omega | (simp only [zl_1]; first | done | omega) | decide | assumption | rfl | (dsimp only; first | omega | (simp only [zl_1]; first | done | omega))), (by first | omega | (simp only [zl_1]; first | done | omega) | decide | assumption | rfl | (dsimp only; first | omega | (simp only [zl_1]; first | done | omega))), (by first | omega | (simp only [zl_1]; first | done | omega) | decide | assumption | rfl | (dsimp only; first | omega | (simp only [zl_1]; first | done | omega))), (by (try dsimp only); exact (TXQ.cmp_yes (bz := scf_4) (z := r_21) h_10 (by omega) (TXQ.z h_10 (by omega)) (by rw [← h_14]; omega) (by omega) (TXQ.cv h_30 (by omega) (by omega) (by omega) (by omega) (by omega)) (fun _ => by rw [← h_14]; unfold tx_cmp; (repeat (first | rw [if_pos (by omega)] | rw [if_neg (by omega)])))))⟩ hP hD (by decide +kernel) rfl hS rfl dX11_test_90
      · refine lv_iload_n hx hb dX11_test_23 rfl (lv_at hl 0 rfl) ?_
        refine lv_bipush (v := 61) hx hb dX11_test_24 (by decide +kernel) ?_
        refine b_icmp_eq hx hb rfl zl_61 (tgt := 37) dX11_test_26 (by decide +kernel) (fun c_33 => ?_) (fun c_33 => ?_)
        · refine lv_aload_n hx hb dX11_test_37 rfl (lv_at hl 2 rfl) ?_
          refine lv_dup hx hb dX11_test_38 rfl ?_
          refine va_get (D := D) (ci := 11) (v := .int scd_3) (C := RX11) (T := TX11) (N := 25) hx hb hT giX11 hown hK hP 0 rfl rfl 13 (by decide +kernel) (hT (Cond.fieldLink RX11 138 "DesertWireModel" "here" "I") mw_1169) (fun _ h9 => h9) rfl dX11_test_39 ?_
          refine lv_iconst (v := 1) hx hb dX11_test_42 (by decide +kernel) ?_
          refine lv_iadd hx hb dX11_test_43 ?_
          refine lv_topi (fun v_34 ev_34 => ?_)
          have tv_34 : v_34.toInt = scd_3.toInt + 1 := by rw [ev_34]; exact k_addv rfl zl_1 (by omega) (by omega)
          refine va_put (D := D) (ci := 11) (v := .int v_34) (ty := .int) (C := RX11) (T := TX11) (N := 25) hx hb hT giX11 tyX11 tyX11_ok nmX11 hown hK hP hD hS 0 rfl rfl 13 (by decide +kernel) (hT (Cond.fieldLink RX11 138 "DesertWireModel" "here" "I") mw_1169) (fun _ h9 => h9) rfl (by decide +kernel) rfl rfl (Nat.le_of_ble_eq_true rfl) dX11_test_44 ?_
          clear hP hD hS
          intro H locs hP hD hS
          replace hP : va_P D vwCl [(k, .inr (11, [.ref k0, .ref k1, .ref k2, .int c3, .ref k4, .ref k5, .ref k6, .ref k7, .ref k8, .int c9, .ref ka, .ref kb, .int cc, .int v_34, .int ce, .int scf_4, .int scg_5, .int ch, .int ci, .int cj, .int ck, .ref kl, .int cm, .int cn, .ref ko])), (k0, .inl (cI, 1201, .inl c0))] H := hP
          replace hD : va_D A [(k, .inr (11, [.ref k0, .ref k1, .ref k2, .int c3, .ref k4, .ref k5, .ref k6, .ref k7, .ref k8, .int c9, .ref ka, .ref kb, .int cc, .int v_34, .int ce, .int scf_4, .int scg_5, .int ch, .int ci, .int cj, .int ck, .ref kl, .int cm, .int cn, .ref ko])), (k0, .inl (cI, 1201, .inl c0))] := hD
          refine lv_aload_n hx hb dX11_test_47 rfl (lv_at hl 2 rfl) ?_
          refine kJi (wr := []) (va_runV (As := []) (rest := []) ⟨hx, hb, hml, hown, hT⟩ (c_X11_sum_of dd ih l D cI aK aV k k0 k1 k2 k4 k5 k6 k7 k8 ka kb kl ko H.size c3 c9 cc v_34 ce scf_4 scg_5 ch ci cj ck cm cn c0 (by first | omega | decide | assumption | rfl) (by first | omega | decide | assumption | rfl) (by first | omega | decide | assumption | rfl) (by first | omega | decide | assumption | rfl) (by first | omega | decide | assumption | rfl) (by first | omega | decide | assumption | rfl) (by first | omega | decide | assumption | rfl) (by first | omega | decide | assumption | rfl)) (cwV 0 hT (gV_in mw_1327 mw_1324 mw_1326 mw_p4_6 mw_12) rfl rfl rfl (by decide +kernel) ⟨(by dsimp only; omega), (by dsimp only; omega)⟩) (kRecvX (q0 := 0) (ci := 11) hK hP hD hN hXS hS hA rfl rfl [0, 1] rfl (by decide +kernel)) rfl rfl hl.1 rfl (lv_room (Nat.le_of_ble_eq_true rfl)) dX11_test_48 ⟨Nat.le_of_ble_eq_true rfl, Nat.le_of_ble_eq_true rfl⟩) hP hD hS hA [0, 1] [] rfl rfl (by decide +kernel) (by decide +kernel) ?_
          clear hP hD hS
          intro r_35 u_40 H locs w_36 hP hD hS
          obtain ⟨scd_37, scf_38, scg_39⟩ := u_40
          replace hP : va_P D vwCl [(k, .inr (11, [.ref k0, .ref k1, .ref k2, .int c3, .ref k4, .ref k5, .ref k6, .ref k7, .ref k8, .int c9, .ref ka, .ref kb, .int cc, .int scd_37, .int ce, .int scf_38, .int scg_39, .int ch, .int ci, .int cj, .int ck, .ref kl, .int cm, .int cn, .ref ko])), (k0, .inl (cI, 1201, .inl c0))] H := hP
          replace hD : va_D A [(k, .inr (11, [.ref k0, .ref k1, .ref k2, .int c3, .ref k4, .ref k5, .ref k6, .ref k7, .ref k8, .int c9, .ref ka, .ref kb, .int cc, .int scd_37, .int ce, .int scf_38, .int scg_39, .int ch, .int ci, .int cj, .int ck, .ref kl, .int cm, .int cn, .ref ko])), (k0, .inl (cI, 1201, .inl c0))] := hD
          have lo_scd_37 := k_lo scd_37
          have hi_scd_37 := k_hi scd_37
          have lo_scf_38 := k_lo scf_38
          have hi_scf_38 := k_hi scf_38
          have lo_scg_39 := k_lo scg_39
          have hi_scg_39 := k_hi scg_39
          obtain ⟨h_41, h_42, h_43, h_44⟩ := w_36
          have h_41 : v_34.toInt ≤ scd_37.toInt := h_41
          have h_42 : scd_37.toInt ≤ ce.toInt := h_42
          have h_43 : scg_39.toInt = scg_5.toInt := h_43
          have h_44 : TXQ (tG c0 cc.toInt.toNat ce) ch ci cj ck 3 scg_5.toInt scf_4 0 v_34.toInt r_35 scd_37.toInt scf_38 := h_44
          have h_44 : TXQ (tG c0 cc.toInt.toNat ce) ch ci cj ck 3 scg_5.toInt scf_4 0 v_34.toInt r_35 scd_37.toInt scf_38 := h_44
          have lo_r_35 := k_lo r_35
          have hi_r_35 := k_hi r_35
          refine lv_istore_n (lv' := [(3, .int r_35), (2, .int r_11), (1, .int r_1), (0, .ref k)]) hx hb dX11_test_51 rfl hl (by decide +kernel) rfl ?_
          clear hl
          intro ls hl
          refine lv_iload_n hx hb dX11_test_52 rfl (lv_at hl 1 rfl) ?_
          refine lv_bipush (v := 60) hx hb dX11_test_53 (by decide +kernel) ?_
          refine b_icmp_ne hx hb rfl zl_60 (tgt := 66) dX11_test_55 (by decide +kernel) (fun c_45 => ?_) (fun c_45 => by exfalso; omega)
          refine lv_iload_n hx hb dX11_test_66 rfl (lv_at hl 1 rfl) ?_
          refine lv_bipush (v := 62) hx hb dX11_test_67 (by decide +kernel) ?_
          refine b_icmp_ne hx hb rfl zl_62 (tgt := 80) dX11_test_69 (by decide +kernel) (fun c_46 => ?_) (fun c_46 => by exfalso; omega)
          refine lv_iload_n hx hb dX11_test_80 rfl (lv_at hl 2 rfl) ?_
          refine lv_iload_n hx hb dX11_test_81 rfl (lv_at hl 0 rfl) ?_
          refine b_icmp_ne hx hb rfl rfl (tgt := 89) dX11_test_82 (by decide +kernel) (fun c_47 => ?_) (fun c_47 => ?_)
          · refine lv_iconst (v := 0) hx hb dX11_test_89 (by decide +kernel) ?_
            exact hRet (scd_37, scf_38, scg_39) [0, 1] ⟨(by first | omega | (simp only [zl_0]; first | done | omega) | decide | assumption | rfl | (dsimp only; first | omega | (simp only [zl_0]; first | done | omega))), (by first | omega | (simp only [zl_0]; first | done | omega) | decide | assumption | rfl | (dsimp only; first | omega | (simp only [zl_0]; first | done | omega))), (by first | omega | (simp only [zl_0]; first | done | omega) | decide | assumption | rfl | (dsimp only; first | omega | (simp only [zl_0]; first | done | omega))), (by (try dsimp only); exact (TXQ.cmp_yes (bz := scf_4) (z := r_35) h_10 (by omega) (TXQ.z h_10 (by omega)) (by rw [← h_14]; omega) (by omega) (TXQ.cv h_44 (by omega) (by omega) (by omega) (by omega) (by omega)) (fun _ => by rw [← h_14]; unfold tx_cmp; (repeat (first | rw [if_pos (by omega)] | rw [if_neg (by omega)])))))⟩ hP hD (by decide +kernel) rfl hS rfl dX11_test_90
          · refine lv_iconst (v := 1) hx hb dX11_test_85 (by decide +kernel) ?_
            refine lv_goto (tgt := 90) hx hb dX11_test_86 (by decide +kernel) ?_
            exact hRet (scd_37, scf_38, scg_39) [0, 1] ⟨(by first | omega | (simp only [zl_1]; first | done | omega) | decide | assumption | rfl | (dsimp only; first | omega | (simp only [zl_1]; first | done | omega))), (by first | omega | (simp only [zl_1]; first | done | omega) | decide | assumption | rfl | (dsimp only; first | omega | (simp only [zl_1]; first | done | omega))), (by first | omega | (simp only [zl_1]; first | done | omega) | decide | assumption | rfl | (dsimp only; first | omega | (simp only [zl_1]; first | done | omega))), (by (try dsimp only); exact (TXQ.cmp_yes (bz := scf_4) (z := r_35) h_10 (by omega) (TXQ.z h_10 (by omega)) (by rw [← h_14]; omega) (by omega) (TXQ.cv h_44 (by omega) (by omega) (by omega) (by omega) (by omega)) (fun _ => by rw [← h_14]; unfold tx_cmp; (repeat (first | rw [if_pos (by omega)] | rw [if_neg (by omega)])))))⟩ hP hD (by decide +kernel) rfl hS rfl dX11_test_90
        · refine lv_iload_n hx hb dX11_test_29 rfl (lv_at hl 0 rfl) ?_
          refine lv_bipush (v := 62) hx hb dX11_test_30 (by decide +kernel) ?_
          refine b_icmp_eq hx hb rfl zl_62 (tgt := 37) dX11_test_32 (by decide +kernel) (fun c_48 => ?_) (fun c_48 => ?_)
          · refine lv_aload_n hx hb dX11_test_37 rfl (lv_at hl 2 rfl) ?_
            refine lv_dup hx hb dX11_test_38 rfl ?_
            refine va_get (D := D) (ci := 11) (v := .int scd_3) (C := RX11) (T := TX11) (N := 25) hx hb hT giX11 hown hK hP 0 rfl rfl 13 (by decide +kernel) (hT (Cond.fieldLink RX11 138 "DesertWireModel" "here" "I") mw_1169) (fun _ h9 => h9) rfl dX11_test_39 ?_
            refine lv_iconst (v := 1) hx hb dX11_test_42 (by decide +kernel) ?_
            refine lv_iadd hx hb dX11_test_43 ?_
            refine lv_topi (fun v_49 ev_49 => ?_)
            have tv_49 : v_49.toInt = scd_3.toInt + 1 := by rw [ev_49]; exact k_addv rfl zl_1 (by omega) (by omega)
            refine va_put (D := D) (ci := 11) (v := .int v_49) (ty := .int) (C := RX11) (T := TX11) (N := 25) hx hb hT giX11 tyX11 tyX11_ok nmX11 hown hK hP hD hS 0 rfl rfl 13 (by decide +kernel) (hT (Cond.fieldLink RX11 138 "DesertWireModel" "here" "I") mw_1169) (fun _ h9 => h9) rfl (by decide +kernel) rfl rfl (Nat.le_of_ble_eq_true rfl) dX11_test_44 ?_
            clear hP hD hS
            intro H locs hP hD hS
            replace hP : va_P D vwCl [(k, .inr (11, [.ref k0, .ref k1, .ref k2, .int c3, .ref k4, .ref k5, .ref k6, .ref k7, .ref k8, .int c9, .ref ka, .ref kb, .int cc, .int v_49, .int ce, .int scf_4, .int scg_5, .int ch, .int ci, .int cj, .int ck, .ref kl, .int cm, .int cn, .ref ko])), (k0, .inl (cI, 1201, .inl c0))] H := hP
            replace hD : va_D A [(k, .inr (11, [.ref k0, .ref k1, .ref k2, .int c3, .ref k4, .ref k5, .ref k6, .ref k7, .ref k8, .int c9, .ref ka, .ref kb, .int cc, .int v_49, .int ce, .int scf_4, .int scg_5, .int ch, .int ci, .int cj, .int ck, .ref kl, .int cm, .int cn, .ref ko])), (k0, .inl (cI, 1201, .inl c0))] := hD
            refine lv_aload_n hx hb dX11_test_47 rfl (lv_at hl 2 rfl) ?_
            refine kJi (wr := []) (va_runV (As := []) (rest := []) ⟨hx, hb, hml, hown, hT⟩ (c_X11_sum_of dd ih l D cI aK aV k k0 k1 k2 k4 k5 k6 k7 k8 ka kb kl ko H.size c3 c9 cc v_49 ce scf_4 scg_5 ch ci cj ck cm cn c0 (by first | omega | decide | assumption | rfl) (by first | omega | decide | assumption | rfl) (by first | omega | decide | assumption | rfl) (by first | omega | decide | assumption | rfl) (by first | omega | decide | assumption | rfl) (by first | omega | decide | assumption | rfl) (by first | omega | decide | assumption | rfl) (by first | omega | decide | assumption | rfl)) (cwV 0 hT (gV_in mw_1327 mw_1324 mw_1326 mw_p4_6 mw_12) rfl rfl rfl (by decide +kernel) ⟨(by dsimp only; omega), (by dsimp only; omega)⟩) (kRecvX (q0 := 0) (ci := 11) hK hP hD hN hXS hS hA rfl rfl [0, 1] rfl (by decide +kernel)) rfl rfl hl.1 rfl (lv_room (Nat.le_of_ble_eq_true rfl)) dX11_test_48 ⟨Nat.le_of_ble_eq_true rfl, Nat.le_of_ble_eq_true rfl⟩) hP hD hS hA [0, 1] [] rfl rfl (by decide +kernel) (by decide +kernel) ?_
            clear hP hD hS
            intro r_50 u_55 H locs w_51 hP hD hS
            obtain ⟨scd_52, scf_53, scg_54⟩ := u_55
            replace hP : va_P D vwCl [(k, .inr (11, [.ref k0, .ref k1, .ref k2, .int c3, .ref k4, .ref k5, .ref k6, .ref k7, .ref k8, .int c9, .ref ka, .ref kb, .int cc, .int scd_52, .int ce, .int scf_53, .int scg_54, .int ch, .int ci, .int cj, .int ck, .ref kl, .int cm, .int cn, .ref ko])), (k0, .inl (cI, 1201, .inl c0))] H := hP
            replace hD : va_D A [(k, .inr (11, [.ref k0, .ref k1, .ref k2, .int c3, .ref k4, .ref k5, .ref k6, .ref k7, .ref k8, .int c9, .ref ka, .ref kb, .int cc, .int scd_52, .int ce, .int scf_53, .int scg_54, .int ch, .int ci, .int cj, .int ck, .ref kl, .int cm, .int cn, .ref ko])), (k0, .inl (cI, 1201, .inl c0))] := hD
            have lo_scd_52 := k_lo scd_52
            have hi_scd_52 := k_hi scd_52
            have lo_scf_53 := k_lo scf_53
            have hi_scf_53 := k_hi scf_53
            have lo_scg_54 := k_lo scg_54
            have hi_scg_54 := k_hi scg_54
            obtain ⟨h_56, h_57, h_58, h_59⟩ := w_51
            have h_56 : v_49.toInt ≤ scd_52.toInt := h_56
            have h_57 : scd_52.toInt ≤ ce.toInt := h_57
            have h_58 : scg_54.toInt = scg_5.toInt := h_58
            have h_59 : TXQ (tG c0 cc.toInt.toNat ce) ch ci cj ck 3 scg_5.toInt scf_4 0 v_49.toInt r_50 scd_52.toInt scf_53 := h_59
            have h_59 : TXQ (tG c0 cc.toInt.toNat ce) ch ci cj ck 3 scg_5.toInt scf_4 0 v_49.toInt r_50 scd_52.toInt scf_53 := h_59
            have lo_r_50 := k_lo r_50
            have hi_r_50 := k_hi r_50
            refine lv_istore_n (lv' := [(3, .int r_50), (2, .int r_11), (1, .int r_1), (0, .ref k)]) hx hb dX11_test_51 rfl hl (by decide +kernel) rfl ?_
            clear hl
            intro ls hl
            refine lv_iload_n hx hb dX11_test_52 rfl (lv_at hl 1 rfl) ?_
            refine lv_bipush (v := 60) hx hb dX11_test_53 (by decide +kernel) ?_
            refine b_icmp_ne hx hb rfl zl_60 (tgt := 66) dX11_test_55 (by decide +kernel) (fun c_60 => ?_) (fun c_60 => by exfalso; omega)
            refine lv_iload_n hx hb dX11_test_66 rfl (lv_at hl 1 rfl) ?_
            refine lv_bipush (v := 62) hx hb dX11_test_67 (by decide +kernel) ?_
            refine b_icmp_ne hx hb rfl zl_62 (tgt := 80) dX11_test_69 (by decide +kernel) (fun c_61 => by exfalso; omega) (fun c_61 => ?_)
            refine lv_iload_n hx hb dX11_test_72 rfl (lv_at hl 2 rfl) ?_
            refine lv_iload_n hx hb dX11_test_73 rfl (lv_at hl 0 rfl) ?_
            refine b_icmp_le hx hb rfl rfl (tgt := 89) dX11_test_74 (by decide +kernel) (fun c_62 => ?_) (fun c_62 => ?_)
            · refine lv_iconst (v := 0) hx hb dX11_test_89 (by decide +kernel) ?_
              exact hRet (scd_52, scf_53, scg_54) [0, 1] ⟨(by first | omega | (simp only [zl_0]; first | done | omega) | decide | assumption | rfl | (dsimp only; first | omega | (simp only [zl_0]; first | done | omega))), (by first | omega | (simp only [zl_0]; first | done | omega) | decide | assumption | rfl | (dsimp only; first | omega | (simp only [zl_0]; first | done | omega))), (by first | omega | (simp only [zl_0]; first | done | omega) | decide | assumption | rfl | (dsimp only; first | omega | (simp only [zl_0]; first | done | omega))), (by (try dsimp only); exact (TXQ.cmp_yes (bz := scf_4) (z := r_50) h_10 (by omega) (TXQ.z h_10 (by omega)) (by rw [← h_14]; omega) (by omega) (TXQ.cv h_59 (by omega) (by omega) (by omega) (by omega) (by omega)) (fun _ => by rw [← h_14]; unfold tx_cmp; (repeat (first | rw [if_pos (by omega)] | rw [if_neg (by omega)])))))⟩ hP hD (by decide +kernel) rfl hS rfl dX11_test_90
            · refine lv_goto (tgt := 85) hx hb dX11_test_77 (by decide +kernel) ?_
              refine lv_iconst (v := 1) hx hb dX11_test_85 (by decide +kernel) ?_
              refine lv_goto (tgt := 90) hx hb dX11_test_86 (by decide +kernel) ?_
              exact hRet (scd_52, scf_53, scg_54) [0, 1] ⟨(by first | omega | (simp only [zl_1]; first | done | omega) | decide | assumption | rfl | (dsimp only; first | omega | (simp only [zl_1]; first | done | omega))), (by first | omega | (simp only [zl_1]; first | done | omega) | decide | assumption | rfl | (dsimp only; first | omega | (simp only [zl_1]; first | done | omega))), (by first | omega | (simp only [zl_1]; first | done | omega) | decide | assumption | rfl | (dsimp only; first | omega | (simp only [zl_1]; first | done | omega))), (by (try dsimp only); exact (TXQ.cmp_yes (bz := scf_4) (z := r_50) h_10 (by omega) (TXQ.z h_10 (by omega)) (by rw [← h_14]; omega) (by omega) (TXQ.cv h_59 (by omega) (by omega) (by omega) (by omega) (by omega)) (fun _ => by rw [← h_14]; unfold tx_cmp; (repeat (first | rw [if_pos (by omega)] | rw [if_neg (by omega)])))))⟩ hP hD (by decide +kernel) rfl hS rfl dX11_test_90
          · refine lv_iload_n hx hb dX11_test_35 rfl (lv_at hl 1 rfl) ?_
            exact hRet (scd_3, scf_4, scg_5) [0, 1] ⟨(by first | omega | decide | assumption | rfl | (dsimp only; first | omega)), (by first | omega | decide | assumption | rfl | (dsimp only; first | omega)), (by first | omega | decide | assumption | rfl | (dsimp only; first | omega)), (by (try dsimp only); exact (TXQ.cmp_no h_10 (Or.inr (by rw [← h_14]; exact ⟨by omega, by omega, by omega⟩)) (fun _ => rfl)))⟩ hP hD (by decide +kernel) rfl hS rfl dX11_test_36
  · have h_16 : r_11 = tG c0 cc.toInt.toNat ce scd_3.toInt := h_16
    have h_16 : r_11 = tG c0 cc.toInt.toNat ce scd_3.toInt := h_16
    have h_17 : scd_3.toInt = ce.toInt := h_17
    obtain rfl : r_11 = (-1) := hr_11.trans (by decide +kernel)
    refine lv_istore_n (lv' := [(2, .int (-1)), (1, .int r_1), (0, .ref k)]) hx hb dX11_test_9 rfl hl (by decide +kernel) rfl ?_
    clear hl
    intro ls hl
    refine lv_aload_n hx hb dX11_test_10 rfl (lv_at hl 2 rfl) ?_
    refine va_get (D := D) (ci := 11) (v := .int scf_4) (C := RX11) (T := TX11) (N := 25) hx hb hT giX11 hown hK hP 0 rfl rfl 15 (by decide +kernel) (hT (Cond.fieldLink RX11 148 "DesertWireModel" "isWrong" "Z") mw_1171) (fun _ h9 => h9) rfl dX11_test_11 ?_
    refine b_if_ne hx hb rfl (tgt := 35) dX11_test_14 (by decide +kernel) (fun c_63 => ?_) (fun c_63 => ?_)
    · refine lv_iload_n hx hb dX11_test_35 rfl (lv_at hl 1 rfl) ?_
      exact hRet (scd_3, scf_4, scg_5) [0, 1] ⟨(by first | omega | decide | assumption | rfl | (dsimp only; first | omega)), (by first | omega | decide | assumption | rfl | (dsimp only; first | omega)), (by first | omega | decide | assumption | rfl | (dsimp only; first | omega)), (by (try dsimp only); exact (TXQ.cmp_no h_10 (Or.inl (by omega)) (fun _ => rfl)))⟩ hP hD (by decide +kernel) rfl hS rfl dX11_test_36
    · refine lv_iload_n hx hb dX11_test_17 rfl (lv_at hl 0 rfl) ?_
      refine lv_bipush (v := 60) hx hb dX11_test_18 (by decide +kernel) ?_
      refine b_icmp_eq hx hb zl_m1 zl_60 (tgt := 37) dX11_test_20 (by decide +kernel) (fun c_64 => by exfalso; omega) (fun c_64 => ?_)
      refine lv_iload_n hx hb dX11_test_23 rfl (lv_at hl 0 rfl) ?_
      refine lv_bipush (v := 61) hx hb dX11_test_24 (by decide +kernel) ?_
      refine b_icmp_eq hx hb zl_m1 zl_61 (tgt := 37) dX11_test_26 (by decide +kernel) (fun c_65 => by exfalso; omega) (fun c_65 => ?_)
      refine lv_iload_n hx hb dX11_test_29 rfl (lv_at hl 0 rfl) ?_
      refine lv_bipush (v := 62) hx hb dX11_test_30 (by decide +kernel) ?_
      refine b_icmp_eq hx hb zl_m1 zl_62 (tgt := 37) dX11_test_32 (by decide +kernel) (fun c_66 => by exfalso; omega) (fun c_66 => ?_)
      refine lv_iload_n hx hb dX11_test_35 rfl (lv_at hl 1 rfl) ?_
      exact hRet (scd_3, scf_4, scg_5) [0, 1] ⟨(by first | omega | decide | assumption | rfl | (dsimp only; first | omega)), (by first | omega | decide | assumption | rfl | (dsimp only; first | omega)), (by first | omega | decide | assumption | rfl | (dsimp only; first | omega)), (by (try dsimp only); exact (TXQ.cmp_no h_10 (Or.inr (by rw [← h_16]; exact ⟨by omega, by omega, by omega⟩)) (fun _ => rfl)))⟩ hP hD (by decide +kernel) rfl hS rfl dX11_test_36
set_option maxHeartbeats 4000000 in
set_option maxRecDepth 100000 in
theorem c_X11_both_of (dd : Nat) (ih : RTP dd) (l : Launch) (D : va_G) (cI : ClassId) (aK aV : Nat → Nat) (k k0 k1 k2 k4 k5 k6 k7 k8 ka kb kl ko : Nat) (sz : Nat) (c3 : Int32) (c9 : Int32) (cc : Int32) (cd : Int32) (ce : Int32) (cf : Int32) (cg : Int32) (ch : Int32) (ci : Int32) (cj : Int32) (ck : Int32) (cm : Int32) (cn : Int32) (c0 : Nat → Int32) (pre0 : 0 ≤ cc.toInt) (pre1 : cc.toInt ≤ 1151) (pre2 : 0 ≤ cd.toInt) (pre3 : cd.toInt ≤ ce.toInt) (pre4 : ce.toInt ≤ 50) (pre5 : 0 ≤ cg.toInt) (pre6 : cg.toInt ≤ 4) (pre7 : (4 - cg.toInt).toNat < dd + 1)  : Met l yX11_both (gW yX11_both cX11_both 3 (some .int)) ({ frames := 20 * (dd + 1) + 17, cells := 0, slots := 0, locals := 1400 * (dd + 1) + 1190 } : Room) (kPreX D cI aK aV [.ref k] [(k, .inr (11, [.ref k0, .ref k1, .ref k2, .int c3, .ref k4, .ref k5, .ref k6, .ref k7, .ref k8, .int c9, .ref ka, .ref kb, .int cc, .int cd, .int ce, .int cf, .int cg, .int ch, .int ci, .int cj, .int ck, .ref kl, .int cm, .int cn, .ref ko])), (k0, .inl (cI, 1201, .inl c0))] sz) (va_Qi (fun (r : Int32) (u : Int32 × Int32 × Int32) => cd.toInt ≤ u.1.toInt ∧ u.1.toInt ≤ ce.toInt ∧ u.2.2.toInt = cg.toInt ∧ TXQ (tG c0 cc.toInt.toNat ce) ch ci cj ck 1 cg.toInt cf 0 cd.toInt r u.1.toInt u.2.1) (fun u t => kWd D cI (va_A [(k, .inr (11, [.ref k0, .ref k1, .ref k2, .int c3, .ref k4, .ref k5, .ref k6, .ref k7, .ref k8, .int c9, .ref ka, .ref kb, .int cc, .int cd, .int ce, .int cf, .int cg, .int ch, .int ci, .int cj, .int ck, .ref kl, .int cm, .int cn, .ref ko])), (k0, .inl (cI, 1201, .inl c0))] sz) [(k, .inr (11, [.ref k0, .ref k1, .ref k2, .int c3, .ref k4, .ref k5, .ref k6, .ref k7, .ref k8, .int c9, .ref ka, .ref kb, .int cc, .int u.1, .int ce, .int u.2.1, .int u.2.2, .int ch, .int ci, .int cj, .int ck, .ref kl, .int cm, .int cn, .ref ko])), (k0, .inl (cI, 1201, .inl c0))] t) (va_A [(k, .inr (11, [.ref k0, .ref k1, .ref k2, .int c3, .ref k4, .ref k5, .ref k6, .ref k7, .ref k8, .int c9, .ref ka, .ref kb, .int cc, .int cd, .int ce, .int cf, .int cg, .int ch, .int ci, .int cj, .int ck, .ref kl, .int cm, .int cn, .ref ko])), (k0, .inl (cI, 1201, .inl c0))] sz)) 0 0 (va_A [(k, .inr (11, [.ref k0, .ref k1, .ref k2, .int c3, .ref k4, .ref k5, .ref k6, .ref k7, .ref k8, .int c9, .ref ka, .ref kb, .int cc, .int cd, .int ce, .int cf, .int cg, .int ch, .int ci, .int cj, .int ck, .ref kl, .int cm, .int cn, .ref ko])), (k0, .inl (cI, 1201, .inl c0))] sz) := by
  refine kMetIX (own := RX11) (by decide +kernel) rfl (Nat.le_of_ble_eq_true rfl) ?_
  intro p e s m args below meth c hx hb hT hown hname hml A Q hK hP hD hS hA hN hXS hRet ls hl
  have hl : lv_has ls 3 [(0, .ref k)] := hl
  have lo_cc := k_lo cc
  have hi_cc := k_hi cc
  have lo_cd := k_lo cd
  have hi_cd := k_hi cd
  have lo_ce := k_lo ce
  have hi_ce := k_hi ce
  have lo_cf := k_lo cf
  have hi_cf := k_hi cf
  have lo_cg := k_lo cg
  have hi_cg := k_hi cg
  have lo_ch := k_lo ch
  have hi_ch := k_hi ch
  have lo_ci := k_lo ci
  have hi_ci := k_hi ci
  have lo_cj := k_lo cj
  have hi_cj := k_hi cj
  have lo_ck := k_lo ck
  have hi_ck := k_hi ck
  have hm1 := zl_m1
  refine lv_aload_n hx hb dX11_both_0 rfl (lv_at hl 0 rfl) ?_
  refine kJi (wr := []) (va_runV (As := []) (rest := []) ⟨hx, hb, hml, hown, hT⟩ (c_X11_test_of dd ih l D cI aK aV k k0 k1 k2 k4 k5 k6 k7 k8 ka kb kl ko s.heap.size c3 c9 cc cd ce cf cg ch ci cj ck cm cn c0 (by first | omega | decide | assumption | rfl) (by first | omega | decide | assumption | rfl) (by first | omega | decide | assumption | rfl) (by first | omega | decide | assumption | rfl) (by first | omega | decide | assumption | rfl) (by first | omega | decide | assumption | rfl) (by first | omega | decide | assumption | rfl) (by first | omega | decide | assumption | rfl)) (cwV 0 hT (gV_in mw_1323 mw_1320 mw_1322 mw_p4_5 mw_12) rfl rfl rfl (by decide +kernel) ⟨(by dsimp only; omega), (by dsimp only; omega)⟩) (kRecvX (q0 := 0) (ci := 11) hK hP hD hN hXS hS hA rfl rfl [0, 1] rfl (by decide +kernel)) rfl rfl hl.1 rfl (lv_room (Nat.le_of_ble_eq_true rfl)) dX11_both_1 ⟨Nat.le_of_ble_eq_true rfl, Nat.le_of_ble_eq_true rfl⟩) hP hD hS hA [0, 1] [] rfl rfl (by decide +kernel) (by decide +kernel) ?_
  clear hP hD hS
  intro r_1 u_6 H locs w_2 hP hD hS
  obtain ⟨scd_3, scf_4, scg_5⟩ := u_6
  replace hP : va_P D vwCl [(k, .inr (11, [.ref k0, .ref k1, .ref k2, .int c3, .ref k4, .ref k5, .ref k6, .ref k7, .ref k8, .int c9, .ref ka, .ref kb, .int cc, .int scd_3, .int ce, .int scf_4, .int scg_5, .int ch, .int ci, .int cj, .int ck, .ref kl, .int cm, .int cn, .ref ko])), (k0, .inl (cI, 1201, .inl c0))] H := hP
  replace hD : va_D A [(k, .inr (11, [.ref k0, .ref k1, .ref k2, .int c3, .ref k4, .ref k5, .ref k6, .ref k7, .ref k8, .int c9, .ref ka, .ref kb, .int cc, .int scd_3, .int ce, .int scf_4, .int scg_5, .int ch, .int ci, .int cj, .int ck, .ref kl, .int cm, .int cn, .ref ko])), (k0, .inl (cI, 1201, .inl c0))] := hD
  have lo_scd_3 := k_lo scd_3
  have hi_scd_3 := k_hi scd_3
  have lo_scf_4 := k_lo scf_4
  have hi_scf_4 := k_hi scf_4
  have lo_scg_5 := k_lo scg_5
  have hi_scg_5 := k_hi scg_5
  obtain ⟨h_7, h_8, h_9, h_10⟩ := w_2
  have h_7 : cd.toInt ≤ scd_3.toInt := h_7
  have h_8 : scd_3.toInt ≤ ce.toInt := h_8
  have h_9 : scg_5.toInt = cg.toInt := h_9
  have h_10 : TXQ (tG c0 cc.toInt.toNat ce) ch ci cj ck 2 cg.toInt cf 0 cd.toInt r_1 scd_3.toInt scf_4 := h_10
  have h_10 : TXQ (tG c0 cc.toInt.toNat ce) ch ci cj ck 2 cg.toInt cf 0 cd.toInt r_1 scd_3.toInt scf_4 := h_10
  have lo_r_1 := k_lo r_1
  have hi_r_1 := k_hi r_1
  refine lv_istore_n (lv' := [(1, .int r_1), (0, .ref k)]) hx hb dX11_both_4 rfl hl (by decide +kernel) rfl ?_
  clear hl
  intro ls hl
  have hloop_5 : ∀ (fu_ : Nat) (l5_1 : Int32) (f5_kd : Int32) (f5_kf : Int32) (f5_kg : Int32), scd_3.toInt ≤ f5_kd.toInt → scg_5.toInt ≤ f5_kg.toInt → f5_kg.toInt ≤ scg_5.toInt → f5_kd.toInt ≤ ce.toInt → cd.toInt ≤ f5_kd.toInt → f5_kg.toInt = cg.toInt → (∀ (r : Int32) (q : Int) (b : Int32), TXQ (tG c0 cc.toInt.toNat ce) ch ci cj ck 11 cg.toInt f5_kf l5_1 f5_kd.toInt r q b → TXQ (tG c0 cc.toInt.toNat ce) ch ci cj ck 1 cg.toInt cf 0 cd.toInt r q b) → (ce.toInt - f5_kd.toInt).toNat < fu_ → ∀ (ls : Array Slot) (H : Heap) (locs : List Loc), lv_has ls 3 [(1, .int l5_1), (0, .ref k)] → va_P D vwCl [(k, .inr (11, [.ref k0, .ref k1, .ref k2, .int c3, .ref k4, .ref k5, .ref k6, .ref k7, .ref k8, .int c9, .ref ka, .ref kb, .int cc, .int f5_kd, .int ce, .int f5_kf, .int f5_kg, .int ch, .int ci, .int cj, .int ck, .ref kl, .int cm, .int cn, .ref ko])), (k0, .inl (cI, 1201, .inl c0))] H → va_D A [(k, .inr (11, [.ref k0, .ref k1, .ref k2, .int c3, .ref k4, .ref k5, .ref k6, .ref k7, .ref k8, .int c9, .ref ka, .ref kb, .int cc, .int f5_kd, .int ce, .int f5_kf, .int f5_kg, .int ch, .int ci, .int cj, .int ck, .ref kl, .int cm, .int cn, .ref ko])), (k0, .inl (cI, 1201, .inl c0))] → va_S A s.heap H locs → W p l e ({ frames := 20 * (dd + 1) + 17, cells := 0, slots := 0, locals := 1400 * (dd + 1) + 1190 } : Room) s m args below meth c H locs 0 0 Q (F0 m 5 ls []) := by
    intro fu_; induction fu_ with
    | zero => intro l5_1 f5_kd f5_kf f5_kg i5_0 i5_1 i5_2 i5_3 i5_4 i5_5 i5_6 hm; exact absurd hm (by omega)
    | succ fu_ ih5 =>
        intro l5_1 f5_kd f5_kf f5_kg i5_0 i5_1 i5_2 i5_3 i5_4 i5_5 i5_6 hm ls H locs hl hP hD hS
        have lo_l5_1 := k_lo l5_1
        have hi_l5_1 := k_hi l5_1
        have lo_f5_kd := k_lo f5_kd
        have hi_f5_kd := k_hi f5_kd
        have lo_f5_kf := k_lo f5_kf
        have hi_f5_kf := k_hi f5_kf
        have lo_f5_kg := k_lo f5_kg
        have hi_f5_kg := k_hi f5_kg
        refine lv_aload_n hx hb dX11_both_5 rfl (lv_at hl 1 rfl) ?_
        refine lv_bipush (v := 38) hx hb dX11_both_6 (by decide +kernel) ?_
        refine kJi (wr := []) (va_runV (As := [.int 38]) (rest := []) ⟨hx, hb, hml, hown, hT⟩ (c_X11_takesG l D cI aK aV k k0 k1 k2 k4 k5 k6 k7 k8 ka kb kl ko H.size c3 c9 cc f5_kd ce f5_kf f5_kg ch ci cj ck cm cn c0 38 (by first | omega | (simp only [zl_38]; first | done | omega) | decide | assumption | rfl) (by first | omega | (simp only [zl_38]; first | done | omega) | decide | assumption | rfl) (by first | omega | (simp only [zl_38]; first | done | omega) | decide | assumption | rfl) (by first | omega | (simp only [zl_38]; first | done | omega) | decide | assumption | rfl) (by first | omega | (simp only [zl_38]; first | done | omega) | decide | assumption | rfl) (by first | omega | (simp only [zl_38]; first | done | omega) | decide | assumption | rfl)) (cwV 1 hT (gV_in mw_1351 mw_1348 mw_1350 mw_p4_12 mw_12) rfl rfl rfl (by decide +kernel) ⟨(by dsimp only; omega), (by dsimp only; omega)⟩) (kRecvX (q0 := 0) (ci := 11) hK hP hD hN hXS hS hA rfl rfl [0, 1] rfl (by decide +kernel)) rfl rfl hl.1 rfl (lv_room (Nat.le_of_ble_eq_true rfl)) dX11_both_8 ⟨Nat.le_of_ble_eq_true rfl, Nat.le_of_ble_eq_true rfl⟩) hP hD hS hA [0, 1] [] rfl rfl (by decide +kernel) (by decide +kernel) ?_
        clear hP hD hS
        intro r_11 scd_13 H locs w_12 hP hD hS
        replace hP : va_P D vwCl [(k, .inr (11, [.ref k0, .ref k1, .ref k2, .int c3, .ref k4, .ref k5, .ref k6, .ref k7, .ref k8, .int c9, .ref ka, .ref kb, .int cc, .int scd_13, .int ce, .int f5_kf, .int f5_kg, .int ch, .int ci, .int cj, .int ck, .ref kl, .int cm, .int cn, .ref ko])), (k0, .inl (cI, 1201, .inl c0))] H := hP
        replace hD : va_D A [(k, .inr (11, [.ref k0, .ref k1, .ref k2, .int c3, .ref k4, .ref k5, .ref k6, .ref k7, .ref k8, .int c9, .ref ka, .ref kb, .int cc, .int scd_13, .int ce, .int f5_kf, .int f5_kg, .int ch, .int ci, .int cj, .int ck, .ref kl, .int cm, .int cn, .ref ko])), (k0, .inl (cI, 1201, .inl c0))] := hD
        have lo_scd_13 := k_lo scd_13
        have hi_scd_13 := k_hi scd_13
        rcases w_12 with ⟨hr_11, h_14, h_15, h_16, h_17, h_18⟩ | ⟨hr_11, h_19, h_20⟩ | ⟨hr_11, h_21, h_22, h_23⟩
        · try simp only [zl_38] at h_14
          have h_14 : f5_kf.toInt = 0 := h_14
          try simp only [zl_38] at h_15
          have h_15 : (tG c0 cc.toInt.toNat ce f5_kd.toInt).toInt = 38 := h_15
          try simp only [zl_38] at h_16
          have h_16 : scd_13.toInt = f5_kd.toInt + 1 := h_16
          try simp only [zl_38] at h_17
          have h_17 : f5_kd.toInt < ce.toInt := h_17
          try simp only [zl_38] at h_18
          have h_18 : scd_13.toInt ≤ ce.toInt := h_18
          obtain rfl : r_11 = 1 := hr_11.trans (by decide +kernel)
          refine b_if_eq hx hb zl_1 (tgt := 36) dX11_both_11 (by decide +kernel) (fun c_24 => by exfalso; omega) (fun c_24 => ?_)
          refine lv_aload_n hx hb dX11_both_14 rfl (lv_at hl 1 rfl) ?_
          refine kJi (wr := []) (va_runV (As := []) (rest := []) ⟨hx, hb, hml, hown, hT⟩ (c_X11_test_of dd ih l D cI aK aV k k0 k1 k2 k4 k5 k6 k7 k8 ka kb kl ko H.size c3 c9 cc scd_13 ce f5_kf f5_kg ch ci cj ck cm cn c0 (by first | omega | decide | assumption | rfl) (by first | omega | decide | assumption | rfl) (by first | omega | decide | assumption | rfl) (by first | omega | decide | assumption | rfl) (by first | omega | decide | assumption | rfl) (by first | omega | decide | assumption | rfl) (by first | omega | decide | assumption | rfl) (by first | omega | decide | assumption | rfl)) (cwV 0 hT (gV_in mw_1323 mw_1320 mw_1322 mw_p4_5 mw_12) rfl rfl rfl (by decide +kernel) ⟨(by dsimp only; omega), (by dsimp only; omega)⟩) (kRecvX (q0 := 0) (ci := 11) hK hP hD hN hXS hS hA rfl rfl [0, 1] rfl (by decide +kernel)) rfl rfl hl.1 rfl (lv_room (Nat.le_of_ble_eq_true rfl)) dX11_both_15 ⟨Nat.le_of_ble_eq_true rfl, Nat.le_of_ble_eq_true rfl⟩) hP hD hS hA [0, 1] [] rfl rfl (by decide +kernel) (by decide +kernel) ?_
          clear hP hD hS
          intro r_25 u_30 H locs w_26 hP hD hS
          obtain ⟨scd_27, scf_28, scg_29⟩ := u_30
          replace hP : va_P D vwCl [(k, .inr (11, [.ref k0, .ref k1, .ref k2, .int c3, .ref k4, .ref k5, .ref k6, .ref k7, .ref k8, .int c9, .ref ka, .ref kb, .int cc, .int scd_27, .int ce, .int scf_28, .int scg_29, .int ch, .int ci, .int cj, .int ck, .ref kl, .int cm, .int cn, .ref ko])), (k0, .inl (cI, 1201, .inl c0))] H := hP
          replace hD : va_D A [(k, .inr (11, [.ref k0, .ref k1, .ref k2, .int c3, .ref k4, .ref k5, .ref k6, .ref k7, .ref k8, .int c9, .ref ka, .ref kb, .int cc, .int scd_27, .int ce, .int scf_28, .int scg_29, .int ch, .int ci, .int cj, .int ck, .ref kl, .int cm, .int cn, .ref ko])), (k0, .inl (cI, 1201, .inl c0))] := hD
          have lo_scd_27 := k_lo scd_27
          have hi_scd_27 := k_hi scd_27
          have lo_scf_28 := k_lo scf_28
          have hi_scf_28 := k_hi scf_28
          have lo_scg_29 := k_lo scg_29
          have hi_scg_29 := k_hi scg_29
          obtain ⟨h_31, h_32, h_33, h_34⟩ := w_26
          have h_31 : scd_13.toInt ≤ scd_27.toInt := h_31
          have h_32 : scd_27.toInt ≤ ce.toInt := h_32
          have h_33 : scg_29.toInt = f5_kg.toInt := h_33
          have h_34 : TXQ (tG c0 cc.toInt.toNat ce) ch ci cj ck 2 f5_kg.toInt f5_kf 0 scd_13.toInt r_25 scd_27.toInt scf_28 := h_34
          have h_34 : TXQ (tG c0 cc.toInt.toNat ce) ch ci cj ck 2 f5_kg.toInt f5_kf 0 scd_13.toInt r_25 scd_27.toInt scf_28 := h_34
          have lo_r_25 := k_lo r_25
          have hi_r_25 := k_hi r_25
          refine lv_istore_n (lv' := [(2, .int r_25), (1, .int l5_1), (0, .ref k)]) hx hb dX11_both_18 rfl hl (by decide +kernel) rfl ?_
          clear hl
          intro ls hl
          refine lv_iload_n hx hb dX11_both_19 rfl (lv_at hl 1 rfl) ?_
          refine b_if_eq hx hb rfl (tgt := 31) dX11_both_20 (by decide +kernel) (fun c_35 => ?_) (fun c_35 => ?_)
          · refine lv_iconst (v := 0) hx hb dX11_both_31 (by decide +kernel) ?_
            refine lv_istore_n (lv' := [(1, .int 0), (2, .int r_25), (0, .ref k)]) hx hb dX11_both_32 rfl hl (by decide +kernel) rfl ?_
            clear hl
            intro ls hl
            refine lv_goto (tgt := 5) hx hb dX11_both_33 (by decide +kernel) ?_
            exact ih5 0 scd_27 scf_28 scg_29 (by first | omega | (simp only [zl_0]; first | done | omega) | decide | assumption | rfl) (by first | omega | (simp only [zl_0]; first | done | omega) | decide | assumption | rfl) (by first | omega | (simp only [zl_0]; first | done | omega) | decide | assumption | rfl) (by first | omega | (simp only [zl_0]; first | done | omega) | decide | assumption | rfl) (by first | omega | (simp only [zl_0]; first | done | omega) | decide | assumption | rfl) (by first | omega | (simp only [zl_0]; first | done | omega) | decide | assumption | rfl) (fun r q b z => i5_6 r q b (TXQ.more (bz := f5_kf) (w := r_25) (tx_and l5_1) (by omega) (by omega) (tx_y11 h_15) (TXQ.cv h_34 (by omega) (by omega) (by omega) (by omega) (by omega)) (fun _ => (by unfold tx_and; (repeat (first | rw [if_pos (by omega)] | rw [if_neg (by omega)])))) r q b z)) (by omega) ls _ _ (lv_sub hl [0, 2] rfl) (hP.sub [0, 1] rfl) (hD.sub [0, 1] (by decide +kernel) rfl) hS
          · refine lv_iload_n hx hb dX11_both_23 rfl (lv_at hl 0 rfl) ?_
            refine b_if_eq hx hb rfl (tgt := 31) dX11_both_24 (by decide +kernel) (fun c_36 => ?_) (fun c_36 => ?_)
            · refine lv_iconst (v := 0) hx hb dX11_both_31 (by decide +kernel) ?_
              refine lv_istore_n (lv' := [(1, .int 0), (2, .int r_25), (0, .ref k)]) hx hb dX11_both_32 rfl hl (by decide +kernel) rfl ?_
              clear hl
              intro ls hl
              refine lv_goto (tgt := 5) hx hb dX11_both_33 (by decide +kernel) ?_
              exact ih5 0 scd_27 scf_28 scg_29 (by first | omega | (simp only [zl_0]; first | done | omega) | decide | assumption | rfl) (by first | omega | (simp only [zl_0]; first | done | omega) | decide | assumption | rfl) (by first | omega | (simp only [zl_0]; first | done | omega) | decide | assumption | rfl) (by first | omega | (simp only [zl_0]; first | done | omega) | decide | assumption | rfl) (by first | omega | (simp only [zl_0]; first | done | omega) | decide | assumption | rfl) (by first | omega | (simp only [zl_0]; first | done | omega) | decide | assumption | rfl) (fun r q b z => i5_6 r q b (TXQ.more (bz := f5_kf) (w := r_25) (tx_and l5_1) (by omega) (by omega) (tx_y11 h_15) (TXQ.cv h_34 (by omega) (by omega) (by omega) (by omega) (by omega)) (fun _ => (by unfold tx_and; (repeat (first | rw [if_pos (by omega)] | rw [if_neg (by omega)])))) r q b z)) (by omega) ls _ _ (lv_sub hl [0, 2] rfl) (hP.sub [0, 1] rfl) (hD.sub [0, 1] (by decide +kernel) rfl) hS
            · refine lv_iconst (v := 1) hx hb dX11_both_27 (by decide +kernel) ?_
              refine lv_goto (tgt := 32) hx hb dX11_both_28 (by decide +kernel) ?_
              refine lv_istore_n (lv' := [(1, .int 1), (2, .int r_25), (0, .ref k)]) hx hb dX11_both_32 rfl hl (by decide +kernel) rfl ?_
              clear hl
              intro ls hl
              refine lv_goto (tgt := 5) hx hb dX11_both_33 (by decide +kernel) ?_
              exact ih5 1 scd_27 scf_28 scg_29 (by first | omega | (simp only [zl_1]; first | done | omega) | decide | assumption | rfl) (by first | omega | (simp only [zl_1]; first | done | omega) | decide | assumption | rfl) (by first | omega | (simp only [zl_1]; first | done | omega) | decide | assumption | rfl) (by first | omega | (simp only [zl_1]; first | done | omega) | decide | assumption | rfl) (by first | omega | (simp only [zl_1]; first | done | omega) | decide | assumption | rfl) (by first | omega | (simp only [zl_1]; first | done | omega) | decide | assumption | rfl) (fun r q b z => i5_6 r q b (TXQ.more (bz := f5_kf) (w := r_25) (tx_and l5_1) (by omega) (by omega) (tx_y11 h_15) (TXQ.cv h_34 (by omega) (by omega) (by omega) (by omega) (by omega)) (fun _ => (by unfold tx_and; (repeat (first | rw [if_pos (by omega)] | rw [if_neg (by omega)])))) r q b z)) (by omega) ls _ _ (lv_sub hl [0, 2] rfl) (hP.sub [0, 1] rfl) (hD.sub [0, 1] (by decide +kernel) rfl) hS
        · try simp only [zl_38] at h_19
          have h_19 : f5_kf.toInt ≠ 0 := h_19
          try simp only [zl_38] at h_20
          have h_20 : scd_13.toInt = f5_kd.toInt := h_20
          obtain rfl : r_11 = 0 := hr_11.trans (by decide +kernel)
          refine b_if_eq hx hb zl_0 (tgt := 36) dX11_both_11 (by decide +kernel) (fun c_37 => ?_) (fun c_37 => by exfalso; omega)
          refine lv_iload_n hx hb dX11_both_36 rfl (lv_at hl 0 rfl) ?_
          exact hRet (scd_13, f5_kf, f5_kg) [0, 1] ⟨(by first | omega | decide | assumption | rfl | (dsimp only; first | omega)), (by first | omega | decide | assumption | rfl | (dsimp only; first | omega)), (by first | omega | decide | assumption | rfl | (dsimp only; first | omega)), (by (try dsimp only); exact (i5_6 _ _ _ (TXQ.badE (by omega) (by omega) (by omega))))⟩ hP hD (by decide +kernel) rfl hS rfl dX11_both_37
        · try simp only [zl_38] at h_21
          have h_21 : f5_kf.toInt = 0 := h_21
          try simp only [zl_38] at h_22
          have h_22 : (tG c0 cc.toInt.toNat ce f5_kd.toInt).toInt ≠ 38 := h_22
          try simp only [zl_38] at h_23
          have h_23 : scd_13.toInt = f5_kd.toInt := h_23
          obtain rfl : r_11 = 0 := hr_11.trans (by decide +kernel)
          refine b_if_eq hx hb zl_0 (tgt := 36) dX11_both_11 (by decide +kernel) (fun c_38 => ?_) (fun c_38 => by exfalso; omega)
          refine lv_iload_n hx hb dX11_both_36 rfl (lv_at hl 0 rfl) ?_
          exact hRet (scd_13, f5_kf, f5_kg) [0, 1] ⟨(by first | omega | decide | assumption | rfl | (dsimp only; first | omega)), (by first | omega | decide | assumption | rfl | (dsimp only; first | omega)), (by first | omega | decide | assumption | rfl | (dsimp only; first | omega)), (by (try dsimp only); exact (i5_6 _ _ _ (TXQ.stopE (tx_n11 h_22) (by omega) (by omega))))⟩ hP hD (by decide +kernel) rfl hS rfl dX11_both_37
  exact hloop_5 _ r_1 scd_3 scf_4 scg_5 (by first | omega | decide | assumption | rfl) (by first | omega | decide | assumption | rfl) (by first | omega | decide | assumption | rfl) (by first | omega | decide | assumption | rfl) (by first | omega | decide | assumption | rfl) (by first | omega | decide | assumption | rfl) (TXQ.seq (fun f v => tx_e1 f v _) h_10 0) (Nat.lt_succ_self _) ls _ _ (lv_sub hl [0, 1] rfl) hP hD hS
set_option maxHeartbeats 4000000 in
set_option maxRecDepth 100000 in
theorem c_X11_whole_of (dd : Nat) (ih : RTP dd) (l : Launch) (D : va_G) (cI : ClassId) (aK aV : Nat → Nat) (k k0 k1 k2 k4 k5 k6 k7 k8 ka kb kl ko : Nat) (sz : Nat) (c3 : Int32) (c9 : Int32) (cc : Int32) (cd : Int32) (ce : Int32) (cf : Int32) (cg : Int32) (ch : Int32) (ci : Int32) (cj : Int32) (ck : Int32) (cm : Int32) (cn : Int32) (c0 : Nat → Int32) (pre0 : 0 ≤ cc.toInt) (pre1 : cc.toInt ≤ 1151) (pre2 : 0 ≤ cd.toInt) (pre3 : cd.toInt ≤ ce.toInt) (pre4 : ce.toInt ≤ 50) (pre5 : 0 ≤ cg.toInt) (pre6 : cg.toInt ≤ 4) (pre7 : (4 - cg.toInt).toNat < dd + 1)  : Met l yX11_whole (gW yX11_whole cX11_whole 3 (some .int)) ({ frames := 20 * (dd + 1) + 18, cells := 0, slots := 0, locals := 1400 * (dd + 1) + 1260 } : Room) (kPreX D cI aK aV [.ref k] [(k, .inr (11, [.ref k0, .ref k1, .ref k2, .int c3, .ref k4, .ref k5, .ref k6, .ref k7, .ref k8, .int c9, .ref ka, .ref kb, .int cc, .int cd, .int ce, .int cf, .int cg, .int ch, .int ci, .int cj, .int ck, .ref kl, .int cm, .int cn, .ref ko])), (k0, .inl (cI, 1201, .inl c0))] sz) (va_Qi (fun (r : Int32) (u : Int32 × Int32 × Int32) => cd.toInt ≤ u.1.toInt ∧ u.1.toInt ≤ ce.toInt ∧ u.2.2.toInt = cg.toInt ∧ TXQ (tG c0 cc.toInt.toNat ce) ch ci cj ck 0 cg.toInt cf 0 cd.toInt r u.1.toInt u.2.1) (fun u t => kWd D cI (va_A [(k, .inr (11, [.ref k0, .ref k1, .ref k2, .int c3, .ref k4, .ref k5, .ref k6, .ref k7, .ref k8, .int c9, .ref ka, .ref kb, .int cc, .int cd, .int ce, .int cf, .int cg, .int ch, .int ci, .int cj, .int ck, .ref kl, .int cm, .int cn, .ref ko])), (k0, .inl (cI, 1201, .inl c0))] sz) [(k, .inr (11, [.ref k0, .ref k1, .ref k2, .int c3, .ref k4, .ref k5, .ref k6, .ref k7, .ref k8, .int c9, .ref ka, .ref kb, .int cc, .int u.1, .int ce, .int u.2.1, .int u.2.2, .int ch, .int ci, .int cj, .int ck, .ref kl, .int cm, .int cn, .ref ko])), (k0, .inl (cI, 1201, .inl c0))] t) (va_A [(k, .inr (11, [.ref k0, .ref k1, .ref k2, .int c3, .ref k4, .ref k5, .ref k6, .ref k7, .ref k8, .int c9, .ref ka, .ref kb, .int cc, .int cd, .int ce, .int cf, .int cg, .int ch, .int ci, .int cj, .int ck, .ref kl, .int cm, .int cn, .ref ko])), (k0, .inl (cI, 1201, .inl c0))] sz)) 0 0 (va_A [(k, .inr (11, [.ref k0, .ref k1, .ref k2, .int c3, .ref k4, .ref k5, .ref k6, .ref k7, .ref k8, .int c9, .ref ka, .ref kb, .int cc, .int cd, .int ce, .int cf, .int cg, .int ch, .int ci, .int cj, .int ck, .ref kl, .int cm, .int cn, .ref ko])), (k0, .inl (cI, 1201, .inl c0))] sz) := by
  refine kMetIX (own := RX11) (by decide +kernel) rfl (Nat.le_of_ble_eq_true rfl) ?_
  intro p e s m args below meth c hx hb hT hown hname hml A Q hK hP hD hS hA hN hXS hRet ls hl
  have hl : lv_has ls 3 [(0, .ref k)] := hl
  have lo_cc := k_lo cc
  have hi_cc := k_hi cc
  have lo_cd := k_lo cd
  have hi_cd := k_hi cd
  have lo_ce := k_lo ce
  have hi_ce := k_hi ce
  have lo_cf := k_lo cf
  have hi_cf := k_hi cf
  have lo_cg := k_lo cg
  have hi_cg := k_hi cg
  have lo_ch := k_lo ch
  have hi_ch := k_hi ch
  have lo_ci := k_lo ci
  have hi_ci := k_hi ci
  have lo_cj := k_lo cj
  have hi_cj := k_hi cj
  have lo_ck := k_lo ck
  have hi_ck := k_hi ck
  have hm1 := zl_m1
  refine lv_aload_n hx hb dX11_whole_0 rfl (lv_at hl 0 rfl) ?_
  refine kJi (wr := []) (va_runV (As := []) (rest := []) ⟨hx, hb, hml, hown, hT⟩ (c_X11_both_of dd ih l D cI aK aV k k0 k1 k2 k4 k5 k6 k7 k8 ka kb kl ko s.heap.size c3 c9 cc cd ce cf cg ch ci cj ck cm cn c0 (by first | omega | decide | assumption | rfl) (by first | omega | decide | assumption | rfl) (by first | omega | decide | assumption | rfl) (by first | omega | decide | assumption | rfl) (by first | omega | decide | assumption | rfl) (by first | omega | decide | assumption | rfl) (by first | omega | decide | assumption | rfl) (by first | omega | decide | assumption | rfl)) (cwV 0 hT (gV_in mw_1319 mw_1316 mw_1318 mw_p4_4 mw_12) rfl rfl rfl (by decide +kernel) ⟨(by dsimp only; omega), (by dsimp only; omega)⟩) (kRecvX (q0 := 0) (ci := 11) hK hP hD hN hXS hS hA rfl rfl [0, 1] rfl (by decide +kernel)) rfl rfl hl.1 rfl (lv_room (Nat.le_of_ble_eq_true rfl)) dX11_whole_1 ⟨Nat.le_of_ble_eq_true rfl, Nat.le_of_ble_eq_true rfl⟩) hP hD hS hA [0, 1] [] rfl rfl (by decide +kernel) (by decide +kernel) ?_
  clear hP hD hS
  intro r_1 u_6 H locs w_2 hP hD hS
  obtain ⟨scd_3, scf_4, scg_5⟩ := u_6
  replace hP : va_P D vwCl [(k, .inr (11, [.ref k0, .ref k1, .ref k2, .int c3, .ref k4, .ref k5, .ref k6, .ref k7, .ref k8, .int c9, .ref ka, .ref kb, .int cc, .int scd_3, .int ce, .int scf_4, .int scg_5, .int ch, .int ci, .int cj, .int ck, .ref kl, .int cm, .int cn, .ref ko])), (k0, .inl (cI, 1201, .inl c0))] H := hP
  replace hD : va_D A [(k, .inr (11, [.ref k0, .ref k1, .ref k2, .int c3, .ref k4, .ref k5, .ref k6, .ref k7, .ref k8, .int c9, .ref ka, .ref kb, .int cc, .int scd_3, .int ce, .int scf_4, .int scg_5, .int ch, .int ci, .int cj, .int ck, .ref kl, .int cm, .int cn, .ref ko])), (k0, .inl (cI, 1201, .inl c0))] := hD
  have lo_scd_3 := k_lo scd_3
  have hi_scd_3 := k_hi scd_3
  have lo_scf_4 := k_lo scf_4
  have hi_scf_4 := k_hi scf_4
  have lo_scg_5 := k_lo scg_5
  have hi_scg_5 := k_hi scg_5
  obtain ⟨h_7, h_8, h_9, h_10⟩ := w_2
  have h_7 : cd.toInt ≤ scd_3.toInt := h_7
  have h_8 : scd_3.toInt ≤ ce.toInt := h_8
  have h_9 : scg_5.toInt = cg.toInt := h_9
  have h_10 : TXQ (tG c0 cc.toInt.toNat ce) ch ci cj ck 1 cg.toInt cf 0 cd.toInt r_1 scd_3.toInt scf_4 := h_10
  have h_10 : TXQ (tG c0 cc.toInt.toNat ce) ch ci cj ck 1 cg.toInt cf 0 cd.toInt r_1 scd_3.toInt scf_4 := h_10
  have lo_r_1 := k_lo r_1
  have hi_r_1 := k_hi r_1
  refine lv_istore_n (lv' := [(1, .int r_1), (0, .ref k)]) hx hb dX11_whole_4 rfl hl (by decide +kernel) rfl ?_
  clear hl
  intro ls hl
  have hloop_5 : ∀ (fu_ : Nat) (l5_1 : Int32) (f5_kd : Int32) (f5_kf : Int32) (f5_kg : Int32), scd_3.toInt ≤ f5_kd.toInt → scg_5.toInt ≤ f5_kg.toInt → f5_kg.toInt ≤ scg_5.toInt → f5_kd.toInt ≤ ce.toInt → cd.toInt ≤ f5_kd.toInt → f5_kg.toInt = cg.toInt → (∀ (r : Int32) (q : Int) (b : Int32), TXQ (tG c0 cc.toInt.toNat ce) ch ci cj ck 10 cg.toInt f5_kf l5_1 f5_kd.toInt r q b → TXQ (tG c0 cc.toInt.toNat ce) ch ci cj ck 0 cg.toInt cf 0 cd.toInt r q b) → (ce.toInt - f5_kd.toInt).toNat < fu_ → ∀ (ls : Array Slot) (H : Heap) (locs : List Loc), lv_has ls 3 [(1, .int l5_1), (0, .ref k)] → va_P D vwCl [(k, .inr (11, [.ref k0, .ref k1, .ref k2, .int c3, .ref k4, .ref k5, .ref k6, .ref k7, .ref k8, .int c9, .ref ka, .ref kb, .int cc, .int f5_kd, .int ce, .int f5_kf, .int f5_kg, .int ch, .int ci, .int cj, .int ck, .ref kl, .int cm, .int cn, .ref ko])), (k0, .inl (cI, 1201, .inl c0))] H → va_D A [(k, .inr (11, [.ref k0, .ref k1, .ref k2, .int c3, .ref k4, .ref k5, .ref k6, .ref k7, .ref k8, .int c9, .ref ka, .ref kb, .int cc, .int f5_kd, .int ce, .int f5_kf, .int f5_kg, .int ch, .int ci, .int cj, .int ck, .ref kl, .int cm, .int cn, .ref ko])), (k0, .inl (cI, 1201, .inl c0))] → va_S A s.heap H locs → W p l e ({ frames := 20 * (dd + 1) + 18, cells := 0, slots := 0, locals := 1400 * (dd + 1) + 1260 } : Room) s m args below meth c H locs 0 0 Q (F0 m 5 ls []) := by
    intro fu_; induction fu_ with
    | zero => intro l5_1 f5_kd f5_kf f5_kg i5_0 i5_1 i5_2 i5_3 i5_4 i5_5 i5_6 hm; exact absurd hm (by omega)
    | succ fu_ ih5 =>
        intro l5_1 f5_kd f5_kf f5_kg i5_0 i5_1 i5_2 i5_3 i5_4 i5_5 i5_6 hm ls H locs hl hP hD hS
        have lo_l5_1 := k_lo l5_1
        have hi_l5_1 := k_hi l5_1
        have lo_f5_kd := k_lo f5_kd
        have hi_f5_kd := k_hi f5_kd
        have lo_f5_kf := k_lo f5_kf
        have hi_f5_kf := k_hi f5_kf
        have lo_f5_kg := k_lo f5_kg
        have hi_f5_kg := k_hi f5_kg
        refine lv_aload_n hx hb dX11_whole_5 rfl (lv_at hl 1 rfl) ?_
        refine lv_bipush (v := 124) hx hb dX11_whole_6 (by decide +kernel) ?_
        refine kJi (wr := []) (va_runV (As := [.int 124]) (rest := []) ⟨hx, hb, hml, hown, hT⟩ (c_X11_takesG l D cI aK aV k k0 k1 k2 k4 k5 k6 k7 k8 ka kb kl ko H.size c3 c9 cc f5_kd ce f5_kf f5_kg ch ci cj ck cm cn c0 124 (by first | omega | (simp only [zl_124]; first | done | omega) | decide | assumption | rfl) (by first | omega | (simp only [zl_124]; first | done | omega) | decide | assumption | rfl) (by first | omega | (simp only [zl_124]; first | done | omega) | decide | assumption | rfl) (by first | omega | (simp only [zl_124]; first | done | omega) | decide | assumption | rfl) (by first | omega | (simp only [zl_124]; first | done | omega) | decide | assumption | rfl) (by first | omega | (simp only [zl_124]; first | done | omega) | decide | assumption | rfl)) (cwV 1 hT (gV_in mw_1351 mw_1348 mw_1350 mw_p4_12 mw_12) rfl rfl rfl (by decide +kernel) ⟨(by dsimp only; omega), (by dsimp only; omega)⟩) (kRecvX (q0 := 0) (ci := 11) hK hP hD hN hXS hS hA rfl rfl [0, 1] rfl (by decide +kernel)) rfl rfl hl.1 rfl (lv_room (Nat.le_of_ble_eq_true rfl)) dX11_whole_8 ⟨Nat.le_of_ble_eq_true rfl, Nat.le_of_ble_eq_true rfl⟩) hP hD hS hA [0, 1] [] rfl rfl (by decide +kernel) (by decide +kernel) ?_
        clear hP hD hS
        intro r_11 scd_13 H locs w_12 hP hD hS
        replace hP : va_P D vwCl [(k, .inr (11, [.ref k0, .ref k1, .ref k2, .int c3, .ref k4, .ref k5, .ref k6, .ref k7, .ref k8, .int c9, .ref ka, .ref kb, .int cc, .int scd_13, .int ce, .int f5_kf, .int f5_kg, .int ch, .int ci, .int cj, .int ck, .ref kl, .int cm, .int cn, .ref ko])), (k0, .inl (cI, 1201, .inl c0))] H := hP
        replace hD : va_D A [(k, .inr (11, [.ref k0, .ref k1, .ref k2, .int c3, .ref k4, .ref k5, .ref k6, .ref k7, .ref k8, .int c9, .ref ka, .ref kb, .int cc, .int scd_13, .int ce, .int f5_kf, .int f5_kg, .int ch, .int ci, .int cj, .int ck, .ref kl, .int cm, .int cn, .ref ko])), (k0, .inl (cI, 1201, .inl c0))] := hD
        have lo_scd_13 := k_lo scd_13
        have hi_scd_13 := k_hi scd_13
        rcases w_12 with ⟨hr_11, h_14, h_15, h_16, h_17, h_18⟩ | ⟨hr_11, h_19, h_20⟩ | ⟨hr_11, h_21, h_22, h_23⟩
        · try simp only [zl_124] at h_14
          have h_14 : f5_kf.toInt = 0 := h_14
          try simp only [zl_124] at h_15
          have h_15 : (tG c0 cc.toInt.toNat ce f5_kd.toInt).toInt = 124 := h_15
          try simp only [zl_124] at h_16
          have h_16 : scd_13.toInt = f5_kd.toInt + 1 := h_16
          try simp only [zl_124] at h_17
          have h_17 : f5_kd.toInt < ce.toInt := h_17
          try simp only [zl_124] at h_18
          have h_18 : scd_13.toInt ≤ ce.toInt := h_18
          obtain rfl : r_11 = 1 := hr_11.trans (by decide +kernel)
          refine b_if_eq hx hb zl_1 (tgt := 36) dX11_whole_11 (by decide +kernel) (fun c_24 => by exfalso; omega) (fun c_24 => ?_)
          refine lv_aload_n hx hb dX11_whole_14 rfl (lv_at hl 1 rfl) ?_
          refine kJi (wr := []) (va_runV (As := []) (rest := []) ⟨hx, hb, hml, hown, hT⟩ (c_X11_both_of dd ih l D cI aK aV k k0 k1 k2 k4 k5 k6 k7 k8 ka kb kl ko H.size c3 c9 cc scd_13 ce f5_kf f5_kg ch ci cj ck cm cn c0 (by first | omega | decide | assumption | rfl) (by first | omega | decide | assumption | rfl) (by first | omega | decide | assumption | rfl) (by first | omega | decide | assumption | rfl) (by first | omega | decide | assumption | rfl) (by first | omega | decide | assumption | rfl) (by first | omega | decide | assumption | rfl) (by first | omega | decide | assumption | rfl)) (cwV 0 hT (gV_in mw_1319 mw_1316 mw_1318 mw_p4_4 mw_12) rfl rfl rfl (by decide +kernel) ⟨(by dsimp only; omega), (by dsimp only; omega)⟩) (kRecvX (q0 := 0) (ci := 11) hK hP hD hN hXS hS hA rfl rfl [0, 1] rfl (by decide +kernel)) rfl rfl hl.1 rfl (lv_room (Nat.le_of_ble_eq_true rfl)) dX11_whole_15 ⟨Nat.le_of_ble_eq_true rfl, Nat.le_of_ble_eq_true rfl⟩) hP hD hS hA [0, 1] [] rfl rfl (by decide +kernel) (by decide +kernel) ?_
          clear hP hD hS
          intro r_25 u_30 H locs w_26 hP hD hS
          obtain ⟨scd_27, scf_28, scg_29⟩ := u_30
          replace hP : va_P D vwCl [(k, .inr (11, [.ref k0, .ref k1, .ref k2, .int c3, .ref k4, .ref k5, .ref k6, .ref k7, .ref k8, .int c9, .ref ka, .ref kb, .int cc, .int scd_27, .int ce, .int scf_28, .int scg_29, .int ch, .int ci, .int cj, .int ck, .ref kl, .int cm, .int cn, .ref ko])), (k0, .inl (cI, 1201, .inl c0))] H := hP
          replace hD : va_D A [(k, .inr (11, [.ref k0, .ref k1, .ref k2, .int c3, .ref k4, .ref k5, .ref k6, .ref k7, .ref k8, .int c9, .ref ka, .ref kb, .int cc, .int scd_27, .int ce, .int scf_28, .int scg_29, .int ch, .int ci, .int cj, .int ck, .ref kl, .int cm, .int cn, .ref ko])), (k0, .inl (cI, 1201, .inl c0))] := hD
          have lo_scd_27 := k_lo scd_27
          have hi_scd_27 := k_hi scd_27
          have lo_scf_28 := k_lo scf_28
          have hi_scf_28 := k_hi scf_28
          have lo_scg_29 := k_lo scg_29
          have hi_scg_29 := k_hi scg_29
          obtain ⟨h_31, h_32, h_33, h_34⟩ := w_26
          have h_31 : scd_13.toInt ≤ scd_27.toInt := h_31
          have h_32 : scd_27.toInt ≤ ce.toInt := h_32
          have h_33 : scg_29.toInt = f5_kg.toInt := h_33
          have h_34 : TXQ (tG c0 cc.toInt.toNat ce) ch ci cj ck 1 f5_kg.toInt f5_kf 0 scd_13.toInt r_25 scd_27.toInt scf_28 := h_34
          have h_34 : TXQ (tG c0 cc.toInt.toNat ce) ch ci cj ck 1 f5_kg.toInt f5_kf 0 scd_13.toInt r_25 scd_27.toInt scf_28 := h_34
          have lo_r_25 := k_lo r_25
          have hi_r_25 := k_hi r_25
          refine lv_istore_n (lv' := [(2, .int r_25), (1, .int l5_1), (0, .ref k)]) hx hb dX11_whole_18 rfl hl (by decide +kernel) rfl ?_
          clear hl
          intro ls hl
          refine lv_iload_n hx hb dX11_whole_19 rfl (lv_at hl 1 rfl) ?_
          refine b_if_ne hx hb rfl (tgt := 27) dX11_whole_20 (by decide +kernel) (fun c_35 => ?_) (fun c_35 => ?_)
          · refine lv_iconst (v := 1) hx hb dX11_whole_27 (by decide +kernel) ?_
            refine lv_goto (tgt := 32) hx hb dX11_whole_28 (by decide +kernel) ?_
            refine lv_istore_n (lv' := [(1, .int 1), (2, .int r_25), (0, .ref k)]) hx hb dX11_whole_32 rfl hl (by decide +kernel) rfl ?_
            clear hl
            intro ls hl
            refine lv_goto (tgt := 5) hx hb dX11_whole_33 (by decide +kernel) ?_
            exact ih5 1 scd_27 scf_28 scg_29 (by first | omega | (simp only [zl_1]; first | done | omega) | decide | assumption | rfl) (by first | omega | (simp only [zl_1]; first | done | omega) | decide | assumption | rfl) (by first | omega | (simp only [zl_1]; first | done | omega) | decide | assumption | rfl) (by first | omega | (simp only [zl_1]; first | done | omega) | decide | assumption | rfl) (by first | omega | (simp only [zl_1]; first | done | omega) | decide | assumption | rfl) (by first | omega | (simp only [zl_1]; first | done | omega) | decide | assumption | rfl) (fun r q b z => i5_6 r q b (TXQ.more (bz := f5_kf) (w := r_25) (tx_or l5_1) (by omega) (by omega) (tx_y10 h_15) (TXQ.cv h_34 (by omega) (by omega) (by omega) (by omega) (by omega)) (fun _ => (by unfold tx_or; (repeat (first | rw [if_pos (by omega)] | rw [if_neg (by omega)])))) r q b z)) (by omega) ls _ _ (lv_sub hl [0, 2] rfl) (hP.sub [0, 1] rfl) (hD.sub [0, 1] (by decide +kernel) rfl) hS
          · refine lv_iload_n hx hb dX11_whole_23 rfl (lv_at hl 0 rfl) ?_
            refine b_if_eq hx hb rfl (tgt := 31) dX11_whole_24 (by decide +kernel) (fun c_36 => ?_) (fun c_36 => ?_)
            · refine lv_iconst (v := 0) hx hb dX11_whole_31 (by decide +kernel) ?_
              refine lv_istore_n (lv' := [(1, .int 0), (2, .int r_25), (0, .ref k)]) hx hb dX11_whole_32 rfl hl (by decide +kernel) rfl ?_
              clear hl
              intro ls hl
              refine lv_goto (tgt := 5) hx hb dX11_whole_33 (by decide +kernel) ?_
              exact ih5 0 scd_27 scf_28 scg_29 (by first | omega | (simp only [zl_0]; first | done | omega) | decide | assumption | rfl) (by first | omega | (simp only [zl_0]; first | done | omega) | decide | assumption | rfl) (by first | omega | (simp only [zl_0]; first | done | omega) | decide | assumption | rfl) (by first | omega | (simp only [zl_0]; first | done | omega) | decide | assumption | rfl) (by first | omega | (simp only [zl_0]; first | done | omega) | decide | assumption | rfl) (by first | omega | (simp only [zl_0]; first | done | omega) | decide | assumption | rfl) (fun r q b z => i5_6 r q b (TXQ.more (bz := f5_kf) (w := r_25) (tx_or l5_1) (by omega) (by omega) (tx_y10 h_15) (TXQ.cv h_34 (by omega) (by omega) (by omega) (by omega) (by omega)) (fun _ => (by unfold tx_or; (repeat (first | rw [if_pos (by omega)] | rw [if_neg (by omega)])))) r q b z)) (by omega) ls _ _ (lv_sub hl [0, 2] rfl) (hP.sub [0, 1] rfl) (hD.sub [0, 1] (by decide +kernel) rfl) hS
            · refine lv_iconst (v := 1) hx hb dX11_whole_27 (by decide +kernel) ?_
              refine lv_goto (tgt := 32) hx hb dX11_whole_28 (by decide +kernel) ?_
              refine lv_istore_n (lv' := [(1, .int 1), (2, .int r_25), (0, .ref k)]) hx hb dX11_whole_32 rfl hl (by decide +kernel) rfl ?_
              clear hl
              intro ls hl
              refine lv_goto (tgt := 5) hx hb dX11_whole_33 (by decide +kernel) ?_
              exact ih5 1 scd_27 scf_28 scg_29 (by first | omega | (simp only [zl_1]; first | done | omega) | decide | assumption | rfl) (by first | omega | (simp only [zl_1]; first | done | omega) | decide | assumption | rfl) (by first | omega | (simp only [zl_1]; first | done | omega) | decide | assumption | rfl) (by first | omega | (simp only [zl_1]; first | done | omega) | decide | assumption | rfl) (by first | omega | (simp only [zl_1]; first | done | omega) | decide | assumption | rfl) (by first | omega | (simp only [zl_1]; first | done | omega) | decide | assumption | rfl) (fun r q b z => i5_6 r q b (TXQ.more (bz := f5_kf) (w := r_25) (tx_or l5_1) (by omega) (by omega) (tx_y10 h_15) (TXQ.cv h_34 (by omega) (by omega) (by omega) (by omega) (by omega)) (fun _ => (by unfold tx_or; (repeat (first | rw [if_pos (by omega)] | rw [if_neg (by omega)])))) r q b z)) (by omega) ls _ _ (lv_sub hl [0, 2] rfl) (hP.sub [0, 1] rfl) (hD.sub [0, 1] (by decide +kernel) rfl) hS
        · try simp only [zl_124] at h_19
          have h_19 : f5_kf.toInt ≠ 0 := h_19
          try simp only [zl_124] at h_20
          have h_20 : scd_13.toInt = f5_kd.toInt := h_20
          obtain rfl : r_11 = 0 := hr_11.trans (by decide +kernel)
          refine b_if_eq hx hb zl_0 (tgt := 36) dX11_whole_11 (by decide +kernel) (fun c_37 => ?_) (fun c_37 => by exfalso; omega)
          refine lv_iload_n hx hb dX11_whole_36 rfl (lv_at hl 0 rfl) ?_
          exact hRet (scd_13, f5_kf, f5_kg) [0, 1] ⟨(by first | omega | decide | assumption | rfl | (dsimp only; first | omega)), (by first | omega | decide | assumption | rfl | (dsimp only; first | omega)), (by first | omega | decide | assumption | rfl | (dsimp only; first | omega)), (by (try dsimp only); exact (i5_6 _ _ _ (TXQ.badE (by omega) (by omega) (by omega))))⟩ hP hD (by decide +kernel) rfl hS rfl dX11_whole_37
        · try simp only [zl_124] at h_21
          have h_21 : f5_kf.toInt = 0 := h_21
          try simp only [zl_124] at h_22
          have h_22 : (tG c0 cc.toInt.toNat ce f5_kd.toInt).toInt ≠ 124 := h_22
          try simp only [zl_124] at h_23
          have h_23 : scd_13.toInt = f5_kd.toInt := h_23
          obtain rfl : r_11 = 0 := hr_11.trans (by decide +kernel)
          refine b_if_eq hx hb zl_0 (tgt := 36) dX11_whole_11 (by decide +kernel) (fun c_38 => ?_) (fun c_38 => by exfalso; omega)
          refine lv_iload_n hx hb dX11_whole_36 rfl (lv_at hl 0 rfl) ?_
          exact hRet (scd_13, f5_kf, f5_kg) [0, 1] ⟨(by first | omega | decide | assumption | rfl | (dsimp only; first | omega)), (by first | omega | decide | assumption | rfl | (dsimp only; first | omega)), (by first | omega | decide | assumption | rfl | (dsimp only; first | omega)), (by (try dsimp only); exact (i5_6 _ _ _ (TXQ.stopE (tx_n10 h_22) (by omega) (by omega))))⟩ hP hD (by decide +kernel) rfl hS rfl dX11_whole_37
  exact hloop_5 _ r_1 scd_3 scf_4 scg_5 (by first | omega | decide | assumption | rfl) (by first | omega | decide | assumption | rfl) (by first | omega | decide | assumption | rfl) (by first | omega | decide | assumption | rfl) (by first | omega | decide | assumption | rfl) (by first | omega | decide | assumption | rfl) (TXQ.seq (fun f v => tx_e0 f v _) h_10 0) (Nat.lt_succ_self _) ls _ _ (lv_sub hl [0, 1] rfl) hP hD hS
set_option maxHeartbeats 4000000 in
set_option maxRecDepth 100000 in
theorem c_X11_RTP : ∀ dd : Nat, RTP dd := by
  intro dd
  induction dd with
  | zero =>
    refine ⟨?_, ?_⟩
    · intro l D cI aK aV k k0 k1 k2 k4 k5 k6 k7 k8 ka kb kl ko sz c3 c9 cc cd ce cf cg ch ci cj ck cm cn c0 pre0 pre1 pre2 pre3 pre4 pre5 pre6 pre7; exact absurd pre7 (by omega)
    · intro l D cI aK aV k k0 k1 k2 k4 k5 k6 k7 k8 ka kb kl ko sz c3 c9 cc cd ce cf cg ch ci cj ck cm cn c0 pre0 pre1 pre2 pre3 pre4 pre5 pre6 pre7; exact absurd pre7 (by omega)
  | succ dd ih =>
    refine ⟨?_, ?_⟩
    · intro l D cI aK aV k k0 k1 k2 k4 k5 k6 k7 k8 ka kb kl ko sz c3 c9 cc cd ce cf cg ch ci cj ck cm cn c0 pre0 pre1 pre2 pre3 pre4 pre5 pre6 pre7; exact c_X11_one_of dd ih l D cI aK aV k k0 k1 k2 k4 k5 k6 k7 k8 ka kb kl ko sz c3 c9 cc cd ce cf cg ch ci cj ck cm cn c0 pre0 pre1 pre2 pre3 pre4 pre5 pre6 pre7
    · intro l D cI aK aV k k0 k1 k2 k4 k5 k6 k7 k8 ka kb kl ko sz c3 c9 cc cd ce cf cg ch ci cj ck cm cn c0 pre0 pre1 pre2 pre3 pre4 pre5 pre6 pre7; exact c_X11_whole_of dd ih l D cI aK aV k k0 k1 k2 k4 k5 k6 k7 k8 ka kb kl ko sz c3 c9 cc cd ce cf cg ch ci cj ck cm cn c0 pre0 pre1 pre2 pre3 pre4 pre5 pre6 pre7
theorem bn_cX11_goesOver_0 : BN cX11_goesOver 0 0xad590056e2b540056c070b0ad4a015b0182c2b510056c050b0ad56015b010569500ad8082b458056c0415a3c02b60f0ad24015b074569c00ad8382b := by
  unfold BN; decide +kernel
theorem dX11_goesOver_0 : decode cX11_goesOver 0 = .ok (.aload_n 0, 1) := dR0 (k := 0) (i := 0) bn_cX11_goesOver_0 dop_42 (by decide +kernel)
theorem dX11_goesOver_1 : decode cX11_goesOver 1 = .ok (.iload_n 1, 1) := dR0 (k := 0) (i := 1) bn_cX11_goesOver_0 dop_27 (by decide +kernel)
theorem dX11_goesOver_2 : decode cX11_goesOver 2 = .ok (.putfield 155, 3) := dR2 (f := Instr.putfield) (k := 0) (i := 2) bn_cX11_goesOver_0 dop_181 155 (by decide +kernel)
theorem dX11_goesOver_5 : decode cX11_goesOver 5 = .ok (.aload_n 0, 1) := dR0 (k := 0) (i := 5) bn_cX11_goesOver_0 dop_42 (by decide +kernel)
theorem dX11_goesOver_6 : decode cX11_goesOver 6 = .ok (.iload_n 2, 1) := dR0 (k := 0) (i := 6) bn_cX11_goesOver_0 dop_28 (by decide +kernel)
theorem dX11_goesOver_7 : decode cX11_goesOver 7 = .ok (.putfield 145, 3) := dR2 (f := Instr.putfield) (k := 0) (i := 7) bn_cX11_goesOver_0 dop_181 145 (by decide +kernel)
theorem dX11_goesOver_10 : decode cX11_goesOver 10 = .ok (.aload_n 0, 1) := dR0 (k := 0) (i := 10) bn_cX11_goesOver_0 dop_42 (by decide +kernel)
theorem dX11_goesOver_11 : decode cX11_goesOver 11 = .ok (.iload_n 3, 1) := dR0 (k := 0) (i := 11) bn_cX11_goesOver_0 dop_29 (by decide +kernel)
theorem dX11_goesOver_12 : decode cX11_goesOver 12 = .ok (.putfield 142, 3) := dR2 (f := Instr.putfield) (k := 0) (i := 12) bn_cX11_goesOver_0 dop_181 142 (by decide +kernel)
theorem dX11_goesOver_15 : decode cX11_goesOver 15 = .ok (.aload_n 0, 1) := dR0 (k := 0) (i := 15) bn_cX11_goesOver_0 dop_42 (by decide +kernel)
theorem dX11_goesOver_16 : decode cX11_goesOver 16 = .ok (.iconst 0, 1) := dR0 (k := 0) (i := 16) bn_cX11_goesOver_0 dop_3 (by decide +kernel)
theorem dX11_goesOver_17 : decode cX11_goesOver 17 = .ok (.putfield 138, 3) := dR2 (f := Instr.putfield) (k := 0) (i := 17) bn_cX11_goesOver_0 dop_181 138 (by decide +kernel)
theorem dX11_goesOver_20 : decode cX11_goesOver 20 = .ok (.aload_n 0, 1) := dR0 (k := 0) (i := 20) bn_cX11_goesOver_0 dop_42 (by decide +kernel)
theorem dX11_goesOver_21 : decode cX11_goesOver 21 = .ok (.iconst 0, 1) := dR0 (k := 0) (i := 21) bn_cX11_goesOver_0 dop_3 (by decide +kernel)
theorem dX11_goesOver_22 : decode cX11_goesOver 22 = .ok (.putfield 148, 3) := dR2 (f := Instr.putfield) (k := 0) (i := 22) bn_cX11_goesOver_0 dop_181 148 (by decide +kernel)
theorem dX11_goesOver_25 : decode cX11_goesOver 25 = .ok (.aload_n 0, 1) := dR0 (k := 0) (i := 25) bn_cX11_goesOver_0 dop_42 (by decide +kernel)
theorem dX11_goesOver_26 : decode cX11_goesOver 26 = .ok (.iconst 0, 1) := dR0 (k := 0) (i := 26) bn_cX11_goesOver_0 dop_3 (by decide +kernel)
theorem dX11_goesOver_27 : decode cX11_goesOver 27 = .ok (.putfield 170, 3) := dR2 (f := Instr.putfield) (k := 0) (i := 27) bn_cX11_goesOver_0 dop_181 170 (by decide +kernel)
theorem dX11_goesOver_30 : decode cX11_goesOver 30 = .ok (.aload_n 0, 1) := dR0 (k := 0) (i := 30) bn_cX11_goesOver_0 dop_42 (by decide +kernel)
theorem dX11_goesOver_31 : decode cX11_goesOver 31 = .ok (.iload 4, 2) := dR1 (f := Instr.iload) (k := 0) (i := 31) bn_cX11_goesOver_0 dop_21 4 (by decide +kernel)
theorem dX11_goesOver_33 : decode cX11_goesOver 33 = .ok (.putfield 161, 3) := dR2 (f := Instr.putfield) (k := 0) (i := 33) bn_cX11_goesOver_0 dop_181 161 (by decide +kernel)
theorem dX11_goesOver_36 : decode cX11_goesOver 36 = .ok (.aload_n 0, 1) := dR0 (k := 0) (i := 36) bn_cX11_goesOver_0 dop_42 (by decide +kernel)
theorem dX11_goesOver_37 : decode cX11_goesOver 37 = .ok (.iload 5, 2) := dR1 (f := Instr.iload) (k := 0) (i := 37) bn_cX11_goesOver_0 dop_21 5 (by decide +kernel)
theorem dX11_goesOver_39 : decode cX11_goesOver 39 = .ok (.putfield 164, 3) := dR2 (f := Instr.putfield) (k := 0) (i := 39) bn_cX11_goesOver_0 dop_181 164 (by decide +kernel)
theorem dX11_goesOver_42 : decode cX11_goesOver 42 = .ok (.aload_n 0, 1) := dR0 (k := 0) (i := 42) bn_cX11_goesOver_0 dop_42 (by decide +kernel)
theorem dX11_goesOver_43 : decode cX11_goesOver 43 = .ok (.iload 6, 2) := dR1 (f := Instr.iload) (k := 0) (i := 43) bn_cX11_goesOver_0 dop_21 6 (by decide +kernel)
theorem dX11_goesOver_45 : decode cX11_goesOver 45 = .ok (.putfield 167, 3) := dR2 (f := Instr.putfield) (k := 0) (i := 45) bn_cX11_goesOver_0 dop_181 167 (by decide +kernel)
theorem dX11_goesOver_48 : decode cX11_goesOver 48 = .ok (.aload_n 0, 1) := dR0 (k := 0) (i := 48) bn_cX11_goesOver_0 dop_42 (by decide +kernel)
theorem dX11_goesOver_49 : decode cX11_goesOver 49 = .ok (.invokevirtual 177, 3) := dR2 (f := Instr.invokevirtual) (k := 0) (i := 49) bn_cX11_goesOver_0 dop_182 177 (by decide +kernel)
theorem dX11_goesOver_52 : decode cX11_goesOver 52 = .ok (.ireturn, 1) := dR0 (k := 0) (i := 52) bn_cX11_goesOver_0 dop_172 (by decide +kernel)
set_option maxHeartbeats 4000000 in
set_option maxRecDepth 100000 in
theorem c_X11_goesOverG (l : Launch) (D : va_G) (cI : ClassId) (aK aV : Nat → Nat) (k k0 k1 k2 k4 k5 k6 k7 k8 ka kb kl ko : Nat) (sz : Nat) (c3 : Int32) (c9 : Int32) (cc : Int32) (cd : Int32) (ce : Int32) (cf : Int32) (cg : Int32) (ch : Int32) (ci : Int32) (cj : Int32) (ck : Int32) (cm : Int32) (cn : Int32) (c0 : Nat → Int32) (a0 : Int32) (a1 : Int32) (a2 : Int32) (a3 : Int32) (a4 : Int32) (a5 : Int32) (pre0 : 0 ≤ a1.toInt) (pre1 : a1.toInt ≤ 1151) (pre2 : 0 ≤ a2.toInt) (pre3 : a2.toInt ≤ 50) : Met l yX11_goesOver (gW yX11_goesOver cX11_goesOver 7 (some .int)) ({ frames := 119, cells := 0, slots := 0, locals := 8282 } : Room) (kPreX D cI aK aV [.ref k, .int a0, .int a1, .int a2, .int a3, .int a4, .int a5] [(k, .inr (11, [.ref k0, .ref k1, .ref k2, .int c3, .ref k4, .ref k5, .ref k6, .ref k7, .ref k8, .int c9, .ref ka, .ref kb, .int cc, .int cd, .int ce, .int cf, .int cg, .int ch, .int ci, .int cj, .int ck, .ref kl, .int cm, .int cn, .ref ko])), (k0, .inl (cI, 1201, .inl c0))] sz) (va_Qi (fun (r : Int32) (u : Int32 × Int32 × Int32 × Int32 × Int32 × Int32 × Int32 × Int32 × Int32) => 0 ≤ u.2.1.toInt ∧ u.2.1.toInt ≤ a2.toInt ∧ u.2.2.1.toInt = a2.toInt ∧ TXQ (tG c0 a1.toInt.toNat a2) a0 a3 a4 a5 0 0 0 0 0 r u.2.1.toInt u.2.2.2.1) (fun u t => kWd D cI (va_A [(k, .inr (11, [.ref k0, .ref k1, .ref k2, .int c3, .ref k4, .ref k5, .ref k6, .ref k7, .ref k8, .int c9, .ref ka, .ref kb, .int cc, .int cd, .int ce, .int cf, .int cg, .int ch, .int ci, .int cj, .int ck, .ref kl, .int cm, .int cn, .ref ko])), (k0, .inl (cI, 1201, .inl c0))] sz) [(k, .inr (11, [.ref k0, .ref k1, .ref k2, .int c3, .ref k4, .ref k5, .ref k6, .ref k7, .ref k8, .int c9, .ref ka, .ref kb, .int u.1, .int u.2.1, .int u.2.2.1, .int u.2.2.2.1, .int u.2.2.2.2.1, .int u.2.2.2.2.2.1, .int u.2.2.2.2.2.2.1, .int u.2.2.2.2.2.2.2.1, .int u.2.2.2.2.2.2.2.2, .ref kl, .int cm, .int cn, .ref ko])), (k0, .inl (cI, 1201, .inl c0))] t) (va_A [(k, .inr (11, [.ref k0, .ref k1, .ref k2, .int c3, .ref k4, .ref k5, .ref k6, .ref k7, .ref k8, .int c9, .ref ka, .ref kb, .int cc, .int cd, .int ce, .int cf, .int cg, .int ch, .int ci, .int cj, .int ck, .ref kl, .int cm, .int cn, .ref ko])), (k0, .inl (cI, 1201, .inl c0))] sz)) 0 0 (va_A [(k, .inr (11, [.ref k0, .ref k1, .ref k2, .int c3, .ref k4, .ref k5, .ref k6, .ref k7, .ref k8, .int c9, .ref ka, .ref kb, .int cc, .int cd, .int ce, .int cf, .int cg, .int ch, .int ci, .int cj, .int ck, .ref kl, .int cm, .int cn, .ref ko])), (k0, .inl (cI, 1201, .inl c0))] sz) := by
  refine kMetIX (own := RX11) (by decide +kernel) rfl (Nat.le_of_ble_eq_true rfl) ?_
  intro p e s m args below meth c hx hb hT hown hname hml A Q hK hP hD hS hA hN hXS hRet ls hl
  have hl : lv_has ls 7 [(0, .ref k), (1, .int a0), (2, .int a1), (3, .int a2), (4, .int a3), (5, .int a4), (6, .int a5)] := hl
  have lo_a0 := k_lo a0
  have hi_a0 := k_hi a0
  have lo_a1 := k_lo a1
  have hi_a1 := k_hi a1
  have lo_a2 := k_lo a2
  have hi_a2 := k_hi a2
  have lo_a3 := k_lo a3
  have hi_a3 := k_hi a3
  have lo_a4 := k_lo a4
  have hi_a4 := k_hi a4
  have lo_a5 := k_lo a5
  have hi_a5 := k_hi a5
  have lo_c3 := k_lo c3
  have hi_c3 := k_hi c3
  have lo_c9 := k_lo c9
  have hi_c9 := k_hi c9
  have lo_ci := k_lo ci
  have hi_ci := k_hi ci
  have lo_cm := k_lo cm
  have hi_cm := k_hi cm
  have lo_cn := k_lo cn
  have hi_cn := k_hi cn
  refine lv_aload_n hx hb dX11_goesOver_0 rfl (lv_at hl 0 rfl) ?_
  refine lv_iload_n hx hb dX11_goesOver_1 rfl (lv_at hl 1 rfl) ?_
  refine va_put (D := D) (ci := 11) (v := .int a0) (ty := .int) (C := RX11) (T := TX11) (N := 25) hx hb hT giX11 tyX11 tyX11_ok nmX11 hown hK hP hD hS 0 rfl rfl 17 (by decide +kernel) (hT (Cond.fieldLink RX11 155 "DesertWireModel" "use" "I") mw_1173) (fun _ h9 => h9) rfl (by decide +kernel) rfl rfl (Nat.le_of_ble_eq_true rfl) dX11_goesOver_2 ?_
  clear hP hD hS
  intro H locs hP hD hS
  replace hP : va_P D vwCl [(k, .inr (11, [.ref k0, .ref k1, .ref k2, .int c3, .ref k4, .ref k5, .ref k6, .ref k7, .ref k8, .int c9, .ref ka, .ref kb, .int cc, .int cd, .int ce, .int cf, .int cg, .int a0, .int ci, .int cj, .int ck, .ref kl, .int cm, .int cn, .ref ko])), (k0, .inl (cI, 1201, .inl c0))] H := hP
  replace hD : va_D A [(k, .inr (11, [.ref k0, .ref k1, .ref k2, .int c3, .ref k4, .ref k5, .ref k6, .ref k7, .ref k8, .int c9, .ref ka, .ref kb, .int cc, .int cd, .int ce, .int cf, .int cg, .int a0, .int ci, .int cj, .int ck, .ref kl, .int cm, .int cn, .ref ko])), (k0, .inl (cI, 1201, .inl c0))] := hD
  refine lv_aload_n hx hb dX11_goesOver_5 rfl (lv_at hl 0 rfl) ?_
  refine lv_iload_n hx hb dX11_goesOver_6 rfl (lv_at hl 2 rfl) ?_
  refine va_put (D := D) (ci := 11) (v := .int a1) (ty := .int) (C := RX11) (T := TX11) (N := 25) hx hb hT giX11 tyX11 tyX11_ok nmX11 hown hK hP hD hS 0 rfl rfl 12 (by decide +kernel) (hT (Cond.fieldLink RX11 145 "DesertWireModel" "from" "I") mw_1168) (fun _ h9 => h9) rfl (by decide +kernel) rfl rfl (Nat.le_of_ble_eq_true rfl) dX11_goesOver_7 ?_
  clear hP hD hS
  intro H locs hP hD hS
  replace hP : va_P D vwCl [(k, .inr (11, [.ref k0, .ref k1, .ref k2, .int c3, .ref k4, .ref k5, .ref k6, .ref k7, .ref k8, .int c9, .ref ka, .ref kb, .int a1, .int cd, .int ce, .int cf, .int cg, .int a0, .int ci, .int cj, .int ck, .ref kl, .int cm, .int cn, .ref ko])), (k0, .inl (cI, 1201, .inl c0))] H := hP
  replace hD : va_D A [(k, .inr (11, [.ref k0, .ref k1, .ref k2, .int c3, .ref k4, .ref k5, .ref k6, .ref k7, .ref k8, .int c9, .ref ka, .ref kb, .int a1, .int cd, .int ce, .int cf, .int cg, .int a0, .int ci, .int cj, .int ck, .ref kl, .int cm, .int cn, .ref ko])), (k0, .inl (cI, 1201, .inl c0))] := hD
  refine lv_aload_n hx hb dX11_goesOver_10 rfl (lv_at hl 0 rfl) ?_
  refine lv_iload_n hx hb dX11_goesOver_11 rfl (lv_at hl 3 rfl) ?_
  refine va_put (D := D) (ci := 11) (v := .int a2) (ty := .int) (C := RX11) (T := TX11) (N := 25) hx hb hT giX11 tyX11 tyX11_ok nmX11 hown hK hP hD hS 0 rfl rfl 14 (by decide +kernel) (hT (Cond.fieldLink RX11 142 "DesertWireModel" "end" "I") mw_1170) (fun _ h9 => h9) rfl (by decide +kernel) rfl rfl (Nat.le_of_ble_eq_true rfl) dX11_goesOver_12 ?_
  clear hP hD hS
  intro H locs hP hD hS
  replace hP : va_P D vwCl [(k, .inr (11, [.ref k0, .ref k1, .ref k2, .int c3, .ref k4, .ref k5, .ref k6, .ref k7, .ref k8, .int c9, .ref ka, .ref kb, .int a1, .int cd, .int a2, .int cf, .int cg, .int a0, .int ci, .int cj, .int ck, .ref kl, .int cm, .int cn, .ref ko])), (k0, .inl (cI, 1201, .inl c0))] H := hP
  replace hD : va_D A [(k, .inr (11, [.ref k0, .ref k1, .ref k2, .int c3, .ref k4, .ref k5, .ref k6, .ref k7, .ref k8, .int c9, .ref ka, .ref kb, .int a1, .int cd, .int a2, .int cf, .int cg, .int a0, .int ci, .int cj, .int ck, .ref kl, .int cm, .int cn, .ref ko])), (k0, .inl (cI, 1201, .inl c0))] := hD
  refine lv_aload_n hx hb dX11_goesOver_15 rfl (lv_at hl 0 rfl) ?_
  refine lv_iconst (v := 0) hx hb dX11_goesOver_16 (by decide +kernel) ?_
  refine va_put (D := D) (ci := 11) (v := .int 0) (ty := .int) (C := RX11) (T := TX11) (N := 25) hx hb hT giX11 tyX11 tyX11_ok nmX11 hown hK hP hD hS 0 rfl rfl 13 (by decide +kernel) (hT (Cond.fieldLink RX11 138 "DesertWireModel" "here" "I") mw_1169) (fun _ h9 => h9) rfl (by decide +kernel) rfl rfl (Nat.le_of_ble_eq_true rfl) dX11_goesOver_17 ?_
  clear hP hD hS
  intro H locs hP hD hS
  replace hP : va_P D vwCl [(k, .inr (11, [.ref k0, .ref k1, .ref k2, .int c3, .ref k4, .ref k5, .ref k6, .ref k7, .ref k8, .int c9, .ref ka, .ref kb, .int a1, .int 0, .int a2, .int cf, .int cg, .int a0, .int ci, .int cj, .int ck, .ref kl, .int cm, .int cn, .ref ko])), (k0, .inl (cI, 1201, .inl c0))] H := hP
  replace hD : va_D A [(k, .inr (11, [.ref k0, .ref k1, .ref k2, .int c3, .ref k4, .ref k5, .ref k6, .ref k7, .ref k8, .int c9, .ref ka, .ref kb, .int a1, .int 0, .int a2, .int cf, .int cg, .int a0, .int ci, .int cj, .int ck, .ref kl, .int cm, .int cn, .ref ko])), (k0, .inl (cI, 1201, .inl c0))] := hD
  refine lv_aload_n hx hb dX11_goesOver_20 rfl (lv_at hl 0 rfl) ?_
  refine lv_iconst (v := 0) hx hb dX11_goesOver_21 (by decide +kernel) ?_
  refine va_put (D := D) (ci := 11) (v := .int 0) (ty := .boolean) (C := RX11) (T := TX11) (N := 25) hx hb hT giX11 tyX11 tyX11_ok nmX11 hown hK hP hD hS 0 rfl rfl 15 (by decide +kernel) (hT (Cond.fieldLink RX11 148 "DesertWireModel" "isWrong" "Z") mw_1171) (fun _ h9 => h9) rfl (by decide +kernel) rfl rfl (Nat.le_of_ble_eq_true rfl) dX11_goesOver_22 ?_
  clear hP hD hS
  intro H locs hP hD hS
  replace hP : va_P D vwCl [(k, .inr (11, [.ref k0, .ref k1, .ref k2, .int c3, .ref k4, .ref k5, .ref k6, .ref k7, .ref k8, .int c9, .ref ka, .ref kb, .int a1, .int 0, .int a2, .int 0, .int cg, .int a0, .int ci, .int cj, .int ck, .ref kl, .int cm, .int cn, .ref ko])), (k0, .inl (cI, 1201, .inl c0))] H := hP
  replace hD : va_D A [(k, .inr (11, [.ref k0, .ref k1, .ref k2, .int c3, .ref k4, .ref k5, .ref k6, .ref k7, .ref k8, .int c9, .ref ka, .ref kb, .int a1, .int 0, .int a2, .int 0, .int cg, .int a0, .int ci, .int cj, .int ck, .ref kl, .int cm, .int cn, .ref ko])), (k0, .inl (cI, 1201, .inl c0))] := hD
  refine lv_aload_n hx hb dX11_goesOver_25 rfl (lv_at hl 0 rfl) ?_
  refine lv_iconst (v := 0) hx hb dX11_goesOver_26 (by decide +kernel) ?_
  refine va_put (D := D) (ci := 11) (v := .int 0) (ty := .int) (C := RX11) (T := TX11) (N := 25) hx hb hT giX11 tyX11 tyX11_ok nmX11 hown hK hP hD hS 0 rfl rfl 16 (by decide +kernel) (hT (Cond.fieldLink RX11 170 "DesertWireModel" "open" "I") mw_1172) (fun _ h9 => h9) rfl (by decide +kernel) rfl rfl (Nat.le_of_ble_eq_true rfl) dX11_goesOver_27 ?_
  clear hP hD hS
  intro H locs hP hD hS
  replace hP : va_P D vwCl [(k, .inr (11, [.ref k0, .ref k1, .ref k2, .int c3, .ref k4, .ref k5, .ref k6, .ref k7, .ref k8, .int c9, .ref ka, .ref kb, .int a1, .int 0, .int a2, .int 0, .int 0, .int a0, .int ci, .int cj, .int ck, .ref kl, .int cm, .int cn, .ref ko])), (k0, .inl (cI, 1201, .inl c0))] H := hP
  replace hD : va_D A [(k, .inr (11, [.ref k0, .ref k1, .ref k2, .int c3, .ref k4, .ref k5, .ref k6, .ref k7, .ref k8, .int c9, .ref ka, .ref kb, .int a1, .int 0, .int a2, .int 0, .int 0, .int a0, .int ci, .int cj, .int ck, .ref kl, .int cm, .int cn, .ref ko])), (k0, .inl (cI, 1201, .inl c0))] := hD
  refine lv_aload_n hx hb dX11_goesOver_30 rfl (lv_at hl 0 rfl) ?_
  refine lv_iload hx hb dX11_goesOver_31 (lv_at hl 4 rfl) ?_
  refine va_put (D := D) (ci := 11) (v := .int a3) (ty := .int) (C := RX11) (T := TX11) (N := 25) hx hb hT giX11 tyX11 tyX11_ok nmX11 hown hK hP hD hS 0 rfl rfl 18 (by decide +kernel) (hT (Cond.fieldLink RX11 161 "DesertWireModel" "nameA" "I") mw_1174) (fun _ h9 => h9) rfl (by decide +kernel) rfl rfl (Nat.le_of_ble_eq_true rfl) dX11_goesOver_33 ?_
  clear hP hD hS
  intro H locs hP hD hS
  replace hP : va_P D vwCl [(k, .inr (11, [.ref k0, .ref k1, .ref k2, .int c3, .ref k4, .ref k5, .ref k6, .ref k7, .ref k8, .int c9, .ref ka, .ref kb, .int a1, .int 0, .int a2, .int 0, .int 0, .int a0, .int a3, .int cj, .int ck, .ref kl, .int cm, .int cn, .ref ko])), (k0, .inl (cI, 1201, .inl c0))] H := hP
  replace hD : va_D A [(k, .inr (11, [.ref k0, .ref k1, .ref k2, .int c3, .ref k4, .ref k5, .ref k6, .ref k7, .ref k8, .int c9, .ref ka, .ref kb, .int a1, .int 0, .int a2, .int 0, .int 0, .int a0, .int a3, .int cj, .int ck, .ref kl, .int cm, .int cn, .ref ko])), (k0, .inl (cI, 1201, .inl c0))] := hD
  refine lv_aload_n hx hb dX11_goesOver_36 rfl (lv_at hl 0 rfl) ?_
  refine lv_iload hx hb dX11_goesOver_37 (lv_at hl 5 rfl) ?_
  refine va_put (D := D) (ci := 11) (v := .int a4) (ty := .int) (C := RX11) (T := TX11) (N := 25) hx hb hT giX11 tyX11 tyX11_ok nmX11 hown hK hP hD hS 0 rfl rfl 19 (by decide +kernel) (hT (Cond.fieldLink RX11 164 "DesertWireModel" "nameB" "I") mw_1175) (fun _ h9 => h9) rfl (by decide +kernel) rfl rfl (Nat.le_of_ble_eq_true rfl) dX11_goesOver_39 ?_
  clear hP hD hS
  intro H locs hP hD hS
  replace hP : va_P D vwCl [(k, .inr (11, [.ref k0, .ref k1, .ref k2, .int c3, .ref k4, .ref k5, .ref k6, .ref k7, .ref k8, .int c9, .ref ka, .ref kb, .int a1, .int 0, .int a2, .int 0, .int 0, .int a0, .int a3, .int a4, .int ck, .ref kl, .int cm, .int cn, .ref ko])), (k0, .inl (cI, 1201, .inl c0))] H := hP
  replace hD : va_D A [(k, .inr (11, [.ref k0, .ref k1, .ref k2, .int c3, .ref k4, .ref k5, .ref k6, .ref k7, .ref k8, .int c9, .ref ka, .ref kb, .int a1, .int 0, .int a2, .int 0, .int 0, .int a0, .int a3, .int a4, .int ck, .ref kl, .int cm, .int cn, .ref ko])), (k0, .inl (cI, 1201, .inl c0))] := hD
  refine lv_aload_n hx hb dX11_goesOver_42 rfl (lv_at hl 0 rfl) ?_
  refine lv_iload hx hb dX11_goesOver_43 (lv_at hl 6 rfl) ?_
  refine va_put (D := D) (ci := 11) (v := .int a5) (ty := .int) (C := RX11) (T := TX11) (N := 25) hx hb hT giX11 tyX11 tyX11_ok nmX11 hown hK hP hD hS 0 rfl rfl 20 (by decide +kernel) (hT (Cond.fieldLink RX11 167 "DesertWireModel" "nameC" "I") mw_1176) (fun _ h9 => h9) rfl (by decide +kernel) rfl rfl (Nat.le_of_ble_eq_true rfl) dX11_goesOver_45 ?_
  clear hP hD hS
  intro H locs hP hD hS
  replace hP : va_P D vwCl [(k, .inr (11, [.ref k0, .ref k1, .ref k2, .int c3, .ref k4, .ref k5, .ref k6, .ref k7, .ref k8, .int c9, .ref ka, .ref kb, .int a1, .int 0, .int a2, .int 0, .int 0, .int a0, .int a3, .int a4, .int a5, .ref kl, .int cm, .int cn, .ref ko])), (k0, .inl (cI, 1201, .inl c0))] H := hP
  replace hD : va_D A [(k, .inr (11, [.ref k0, .ref k1, .ref k2, .int c3, .ref k4, .ref k5, .ref k6, .ref k7, .ref k8, .int c9, .ref ka, .ref kb, .int a1, .int 0, .int a2, .int 0, .int 0, .int a0, .int a3, .int a4, .int a5, .ref kl, .int cm, .int cn, .ref ko])), (k0, .inl (cI, 1201, .inl c0))] := hD
  refine lv_aload_n hx hb dX11_goesOver_48 rfl (lv_at hl 0 rfl) ?_
  refine kJi (wr := []) (va_runV (As := []) (rest := []) ⟨hx, hb, hml, hown, hT⟩ ((c_X11_RTP 5).2 l D cI aK aV k k0 k1 k2 k4 k5 k6 k7 k8 ka kb kl ko H.size c3 c9 a1 0 a2 0 0 a0 a3 a4 a5 cm cn c0 (by first | omega | (simp only [zl_0]; first | done | omega) | decide | assumption | rfl) (by first | omega | (simp only [zl_0]; first | done | omega) | decide | assumption | rfl) (by first | omega | (simp only [zl_0]; first | done | omega) | decide | assumption | rfl) (by first | omega | (simp only [zl_0]; first | done | omega) | decide | assumption | rfl) (by first | omega | (simp only [zl_0]; first | done | omega) | decide | assumption | rfl) (by first | omega | (simp only [zl_0]; first | done | omega) | decide | assumption | rfl) (by first | omega | (simp only [zl_0]; first | done | omega) | decide | assumption | rfl) (by first | omega | (simp only [zl_0]; first | done | omega) | decide | assumption | rfl)) (cwV 0 hT (gV_in mw_1315 mw_1312 mw_1314 mw_p4_3 mw_12) rfl rfl rfl (by decide +kernel) ⟨Nat.le_of_ble_eq_true rfl, Nat.le_of_ble_eq_true rfl⟩) (kRecvX (q0 := 0) (ci := 11) hK hP hD hN hXS hS hA rfl rfl [0, 1] rfl (by decide +kernel)) rfl rfl hl.1 rfl (lv_room (Nat.le_of_ble_eq_true rfl)) dX11_goesOver_49 ⟨Nat.le_of_ble_eq_true rfl, Nat.le_of_ble_eq_true rfl⟩) hP hD hS hA [0, 1] [] rfl rfl (by decide +kernel) (by decide +kernel) ?_
  clear hP hD hS
  intro r_1 u_6 H locs w_2 hP hD hS
  obtain ⟨scd_3, scf_4, scg_5⟩ := u_6
  replace hP : va_P D vwCl [(k, .inr (11, [.ref k0, .ref k1, .ref k2, .int c3, .ref k4, .ref k5, .ref k6, .ref k7, .ref k8, .int c9, .ref ka, .ref kb, .int a1, .int scd_3, .int a2, .int scf_4, .int scg_5, .int a0, .int a3, .int a4, .int a5, .ref kl, .int cm, .int cn, .ref ko])), (k0, .inl (cI, 1201, .inl c0))] H := hP
  replace hD : va_D A [(k, .inr (11, [.ref k0, .ref k1, .ref k2, .int c3, .ref k4, .ref k5, .ref k6, .ref k7, .ref k8, .int c9, .ref ka, .ref kb, .int a1, .int scd_3, .int a2, .int scf_4, .int scg_5, .int a0, .int a3, .int a4, .int a5, .ref kl, .int cm, .int cn, .ref ko])), (k0, .inl (cI, 1201, .inl c0))] := hD
  have lo_scd_3 := k_lo scd_3
  have hi_scd_3 := k_hi scd_3
  have lo_scf_4 := k_lo scf_4
  have hi_scf_4 := k_hi scf_4
  have lo_scg_5 := k_lo scg_5
  have hi_scg_5 := k_hi scg_5
  obtain ⟨h_7, h_8, h_9, h_10⟩ := w_2
  try simp only [zl_0] at h_7
  have h_7 : 0 ≤ scd_3.toInt := h_7
  try simp only [zl_0] at h_8
  have h_8 : scd_3.toInt ≤ a2.toInt := h_8
  try simp only [zl_0] at h_9
  have h_9 : scg_5.toInt = 0 := h_9
  try simp only [zl_0] at h_10
  have h_10 : TXQ (tG c0 a1.toInt.toNat a2) a0 a3 a4 a5 0 0 0 0 0 r_1 scd_3.toInt scf_4 := h_10
  have h_10 : TXQ (tG c0 a1.toInt.toNat a2) a0 a3 a4 a5 0 0 0 0 0 r_1 scd_3.toInt scf_4 := h_10
  have lo_r_1 := k_lo r_1
  have hi_r_1 := k_hi r_1
  exact hRet (a1, scd_3, a2, scf_4, scg_5, a0, a3, a4, a5) [0, 1] ⟨(by first | omega | decide | assumption | rfl | (dsimp only; first | omega)), (by first | omega | decide | assumption | rfl | (dsimp only; first | omega)), rfl, (by (try dsimp only); exact h_10)⟩ hP hD (by decide +kernel) rfl hS rfl dX11_goesOver_52
theorem bn_cX11_rateIs_0 : BN cX11_rateIs 0 0x568bcc21d309a4383608bc00412050056a2b := by
  unfold BN; decide +kernel
theorem dX11_rateIs_0 : decode cX11_rateIs 0 = .ok (.aload_n 0, 1) := dR0 (k := 0) (i := 0) bn_cX11_rateIs_0 dop_42 (by decide +kernel)
theorem dX11_rateIs_1 : decode cX11_rateIs 1 = .ok (.getfield 9, 3) := dR2 (f := Instr.getfield) (k := 0) (i := 1) bn_cX11_rateIs_0 dop_180 9 (by decide +kernel)
theorem dX11_rateIs_4 : decode cX11_rateIs 4 = .ok (.sipush 495, 3) := dR2s (f := Instr.sipush) (k := 0) (i := 4) bn_cX11_rateIs_0 dop_17 495 495 (by decide +kernel)
theorem dX11_rateIs_7 : decode cX11_rateIs 7 = .ok (.bipush 53, 2) := dR1s (f := Instr.bipush) (k := 0) (i := 7) bn_cX11_rateIs_0 dop_16 53 53 (by decide +kernel)
theorem dX11_rateIs_9 : decode cX11_rateIs 9 = .ok (.iload_n 1, 1) := dR0 (k := 0) (i := 9) bn_cX11_rateIs_0 dop_27 (by decide +kernel)
theorem dX11_rateIs_10 : decode cX11_rateIs 10 = .ok (.imul, 1) := dR0 (k := 0) (i := 10) bn_cX11_rateIs_0 dop_104 (by decide +kernel)
theorem dX11_rateIs_11 : decode cX11_rateIs 11 = .ok (.iadd, 1) := dR0 (k := 0) (i := 11) bn_cX11_rateIs_0 dop_96 (by decide +kernel)
theorem dX11_rateIs_12 : decode cX11_rateIs 12 = .ok (.iload_n 2, 1) := dR0 (k := 0) (i := 12) bn_cX11_rateIs_0 dop_28 (by decide +kernel)
theorem dX11_rateIs_13 : decode cX11_rateIs 13 = .ok (.iadd, 1) := dR0 (k := 0) (i := 13) bn_cX11_rateIs_0 dop_96 (by decide +kernel)
theorem dX11_rateIs_14 : decode cX11_rateIs 14 = .ok (.iaload, 1) := dR0 (k := 0) (i := 14) bn_cX11_rateIs_0 dop_46 (by decide +kernel)
theorem dX11_rateIs_15 : decode cX11_rateIs 15 = .ok (.ireturn, 1) := dR0 (k := 0) (i := 15) bn_cX11_rateIs_0 dop_172 (by decide +kernel)
set_option maxHeartbeats 4000000 in
set_option maxRecDepth 100000 in
theorem c_X11_rateIsG2 (l : Launch) (D : va_G) (cI : ClassId) (aK aV : Nat → Nat) (k k0 k1 k2 k4 k5 k6 k7 k8 ka kb kl ko : Nat) (sz : Nat) (c3 : Int32) (c9 : Int32) (cc : Int32) (cd : Int32) (ce : Int32) (cf : Int32) (cg : Int32) (ch : Int32) (ci : Int32) (cj : Int32) (ck : Int32) (cm : Int32) (cn : Int32) (c0 : Nat → Int32) (a0 : Int32) (a1 : Int32) (pre0 : SB c0) (pre1 : 0 ≤ a0.toInt) (pre2 : a0.toInt ≤ 11) (pre3 : a1 = 2) : Met l yX11_rateIs (gW yX11_rateIs cX11_rateIs 3 (some .int)) ({ frames := 0, cells := 0, slots := 0, locals := 0 } : Room) (kPreX D cI aK aV [.ref k, .int a0, .int 2] [(k, .inr (11, [.ref k0, .ref k1, .ref k2, .int c3, .ref k4, .ref k5, .ref k6, .ref k7, .ref k8, .int c9, .ref ka, .ref kb, .int cc, .int cd, .int ce, .int cf, .int cg, .int ch, .int ci, .int cj, .int ck, .ref kl, .int cm, .int cn, .ref ko])), (k0, .inl (cI, 1201, .inl c0))] sz) (va_Qi (fun (r : Int32) (u : Unit) => 0 ≤ r.toInt ∧ r.toInt ≤ 50 ∧ r = c0 (497 + 53 * a0.toInt.toNat)) (fun u t => kWd D cI (va_A [(k, .inr (11, [.ref k0, .ref k1, .ref k2, .int c3, .ref k4, .ref k5, .ref k6, .ref k7, .ref k8, .int c9, .ref ka, .ref kb, .int cc, .int cd, .int ce, .int cf, .int cg, .int ch, .int ci, .int cj, .int ck, .ref kl, .int cm, .int cn, .ref ko])), (k0, .inl (cI, 1201, .inl c0))] sz) [(k, .inr (11, [.ref k0, .ref k1, .ref k2, .int c3, .ref k4, .ref k5, .ref k6, .ref k7, .ref k8, .int c9, .ref ka, .ref kb, .int cc, .int cd, .int ce, .int cf, .int cg, .int ch, .int ci, .int cj, .int ck, .ref kl, .int cm, .int cn, .ref ko])), (k0, .inl (cI, 1201, .inl c0))] t) (va_A [(k, .inr (11, [.ref k0, .ref k1, .ref k2, .int c3, .ref k4, .ref k5, .ref k6, .ref k7, .ref k8, .int c9, .ref ka, .ref kb, .int cc, .int cd, .int ce, .int cf, .int cg, .int ch, .int ci, .int cj, .int ck, .ref kl, .int cm, .int cn, .ref ko])), (k0, .inl (cI, 1201, .inl c0))] sz)) 0 0 (va_A [(k, .inr (11, [.ref k0, .ref k1, .ref k2, .int c3, .ref k4, .ref k5, .ref k6, .ref k7, .ref k8, .int c9, .ref ka, .ref kb, .int cc, .int cd, .int ce, .int cf, .int cg, .int ch, .int ci, .int cj, .int ck, .ref kl, .int cm, .int cn, .ref ko])), (k0, .inl (cI, 1201, .inl c0))] sz) := by
  refine kMetIX (own := RX11) (by decide +kernel) rfl (Nat.le_of_ble_eq_true rfl) ?_
  intro p e s m args below meth c hx hb hT hown hname hml A Q hK hP hD hS hA hN hXS hRet ls hl
  subst pre3
  have hl : lv_has ls 3 [(0, .ref k), (1, .int a0), (2, .int 2)] := hl
  have lo_a0 := k_lo a0
  have hi_a0 := k_hi a0
  have lo_ci := k_lo ci
  have hi_ci := k_hi ci
  have pre0 : SB c0 := pre0
  have nb_1 : 0 ≤ (c0 0).toInt ∧ (c0 0).toInt ≤ 2000 := SB.n0 pre0
  have nb_2 : 0 ≤ (c0 1).toInt ∧ (c0 1).toInt ≤ 60 := SB.n1 pre0
  have nb_3 : 0 ≤ (c0 2).toInt ∧ (c0 2).toInt ≤ 4 := SB.n2 pre0
  refine lv_aload_n hx hb dX11_rateIs_0 rfl (lv_at hl 0 rfl) ?_
  refine va_get (D := D) (ci := 11) (v := .ref k0) (C := RX11) (T := TX11) (N := 25) hx hb hT giX11 hown hK hP 0 rfl rfl 0 (by decide +kernel) (hT (Cond.fieldLink RX11 9 "DesertWireModel" "s" "[I") mw_1156) (fun _ h9 => h9) rfl dX11_rateIs_1 ?_
  refine lv_sipush (v := 495) hx hb dX11_rateIs_4 (by decide +kernel) ?_
  refine lv_bipush (v := 53) hx hb dX11_rateIs_7 (by decide +kernel) ?_
  refine lv_iload_n hx hb dX11_rateIs_9 rfl (lv_at hl 1 rfl) ?_
  refine lv_imul hx hb dX11_rateIs_10 ?_
  refine lv_topi (fun v_4 ev_4 => ?_)
  have tv_4 : v_4.toInt = 53 * a0.toInt := by rw [ev_4]; exact k_mulv zl_53 rfl (by omega) (by omega)
  refine lv_iadd hx hb dX11_rateIs_11 ?_
  refine lv_topi (fun v_5 ev_5 => ?_)
  have tv_5 : v_5.toInt = 495 + v_4.toInt := by rw [ev_5]; exact k_addv zl_495 rfl (by omega) (by omega)
  refine lv_iload_n hx hb dX11_rateIs_12 rfl (lv_at hl 2 rfl) ?_
  refine lv_iadd hx hb dX11_rateIs_13 ?_
  refine lv_topi (fun v_6 ev_6 => ?_)
  have tv_6 : v_6.toInt = v_5.toInt + 2 := by rw [ev_6]; exact k_addv rfl zl_2 (by omega) (by omega)
  refine k_iald (v := (c0 v_6.toNatClampNeg)) hx hb hK hP 1 0 rfl rfl (k_in (by omega) (by omega)) rfl dX11_rateIs_14 ?_
  refine lv_topi (fun v_7 ev_7 => ?_)
  have lo_v_7 := k_lo v_7
  have hi_v_7 := k_hi v_7
  have tv_7 : v_7.toInt = (c0 v_6.toNatClampNeg).toInt := by rw [ev_7]
  exact hRet () [0, 1] ⟨(SB.rs pre0 (r := a0) (by omega) (by omega) ev_7 (by omega)).1, (SB.rs pre0 (r := a0) (by omega) (by omega) ev_7 (by omega)).2, (rd_in ev_7 (by omega))⟩ hP hD (by decide +kernel) rfl hS rfl dX11_rateIs_15

set_option maxHeartbeats 4000000 in
set_option maxRecDepth 100000 in
theorem c_X11_rateIsG0 (l : Launch) (D : va_G) (cI : ClassId) (aK aV : Nat → Nat) (k k0 k1 k2 k4 k5 k6 k7 k8 ka kb kl ko : Nat) (sz : Nat) (c3 : Int32) (c9 : Int32) (cc : Int32) (cd : Int32) (ce : Int32) (cf : Int32) (cg : Int32) (ch : Int32) (ci : Int32) (cj : Int32) (ck : Int32) (cm : Int32) (cn : Int32) (c0 : Nat → Int32) (a0 : Int32) (a1 : Int32) (pre0 : 0 ≤ a0.toInt) (pre1 : a0.toInt ≤ 11) (pre2 : a1 = 0) : Met l yX11_rateIs (gW yX11_rateIs cX11_rateIs 3 (some .int)) ({ frames := 0, cells := 0, slots := 0, locals := 0 } : Room) (kPreX D cI aK aV [.ref k, .int a0, .int 0] [(k, .inr (11, [.ref k0, .ref k1, .ref k2, .int c3, .ref k4, .ref k5, .ref k6, .ref k7, .ref k8, .int c9, .ref ka, .ref kb, .int cc, .int cd, .int ce, .int cf, .int cg, .int ch, .int ci, .int cj, .int ck, .ref kl, .int cm, .int cn, .ref ko])), (k0, .inl (cI, 1201, .inl c0))] sz) (va_Qi (fun (r : Int32) (u : Unit) => r = c0 (495 + 53 * a0.toInt.toNat)) (fun u t => kWd D cI (va_A [(k, .inr (11, [.ref k0, .ref k1, .ref k2, .int c3, .ref k4, .ref k5, .ref k6, .ref k7, .ref k8, .int c9, .ref ka, .ref kb, .int cc, .int cd, .int ce, .int cf, .int cg, .int ch, .int ci, .int cj, .int ck, .ref kl, .int cm, .int cn, .ref ko])), (k0, .inl (cI, 1201, .inl c0))] sz) [(k, .inr (11, [.ref k0, .ref k1, .ref k2, .int c3, .ref k4, .ref k5, .ref k6, .ref k7, .ref k8, .int c9, .ref ka, .ref kb, .int cc, .int cd, .int ce, .int cf, .int cg, .int ch, .int ci, .int cj, .int ck, .ref kl, .int cm, .int cn, .ref ko])), (k0, .inl (cI, 1201, .inl c0))] t) (va_A [(k, .inr (11, [.ref k0, .ref k1, .ref k2, .int c3, .ref k4, .ref k5, .ref k6, .ref k7, .ref k8, .int c9, .ref ka, .ref kb, .int cc, .int cd, .int ce, .int cf, .int cg, .int ch, .int ci, .int cj, .int ck, .ref kl, .int cm, .int cn, .ref ko])), (k0, .inl (cI, 1201, .inl c0))] sz)) 0 0 (va_A [(k, .inr (11, [.ref k0, .ref k1, .ref k2, .int c3, .ref k4, .ref k5, .ref k6, .ref k7, .ref k8, .int c9, .ref ka, .ref kb, .int cc, .int cd, .int ce, .int cf, .int cg, .int ch, .int ci, .int cj, .int ck, .ref kl, .int cm, .int cn, .ref ko])), (k0, .inl (cI, 1201, .inl c0))] sz) := by
  refine kMetIX (own := RX11) (by decide +kernel) rfl (Nat.le_of_ble_eq_true rfl) ?_
  intro p e s m args below meth c hx hb hT hown hname hml A Q hK hP hD hS hA hN hXS hRet ls hl
  subst pre2
  have hl : lv_has ls 3 [(0, .ref k), (1, .int a0), (2, .int 0)] := hl
  have lo_a0 := k_lo a0
  have hi_a0 := k_hi a0
  have lo_ci := k_lo ci
  have hi_ci := k_hi ci
  refine lv_aload_n hx hb dX11_rateIs_0 rfl (lv_at hl 0 rfl) ?_
  refine va_get (D := D) (ci := 11) (v := .ref k0) (C := RX11) (T := TX11) (N := 25) hx hb hT giX11 hown hK hP 0 rfl rfl 0 (by decide +kernel) (hT (Cond.fieldLink RX11 9 "DesertWireModel" "s" "[I") mw_1156) (fun _ h9 => h9) rfl dX11_rateIs_1 ?_
  refine lv_sipush (v := 495) hx hb dX11_rateIs_4 (by decide +kernel) ?_
  refine lv_bipush (v := 53) hx hb dX11_rateIs_7 (by decide +kernel) ?_
  refine lv_iload_n hx hb dX11_rateIs_9 rfl (lv_at hl 1 rfl) ?_
  refine lv_imul hx hb dX11_rateIs_10 ?_
  refine lv_topi (fun v_1 ev_1 => ?_)
  have tv_1 : v_1.toInt = 53 * a0.toInt := by rw [ev_1]; exact k_mulv zl_53 rfl (by omega) (by omega)
  refine lv_iadd hx hb dX11_rateIs_11 ?_
  refine lv_topi (fun v_2 ev_2 => ?_)
  have tv_2 : v_2.toInt = 495 + v_1.toInt := by rw [ev_2]; exact k_addv zl_495 rfl (by omega) (by omega)
  refine lv_iload_n hx hb dX11_rateIs_12 rfl (lv_at hl 2 rfl) ?_
  refine lv_iadd hx hb dX11_rateIs_13 ?_
  refine lv_topi (fun v_3 ev_3 => ?_)
  have tv_3 : v_3.toInt = v_2.toInt + 0 := by rw [ev_3]; exact k_addv rfl zl_0 (by omega) (by omega)
  refine k_iald (v := (c0 v_3.toNatClampNeg)) hx hb hK hP 1 0 rfl rfl (k_in (by omega) (by omega)) rfl dX11_rateIs_14 ?_
  refine lv_topi (fun v_4 ev_4 => ?_)
  have lo_v_4 := k_lo v_4
  have hi_v_4 := k_hi v_4
  have tv_4 : v_4.toInt = (c0 v_3.toNatClampNeg).toInt := by rw [ev_4]
  exact hRet () [0, 1] (rd_in ev_4 (by omega)) hP hD (by decide +kernel) rfl hS rfl dX11_rateIs_15

set_option maxHeartbeats 4000000 in
set_option maxRecDepth 100000 in
theorem c_X11_rateIsG1 (l : Launch) (D : va_G) (cI : ClassId) (aK aV : Nat → Nat) (k k0 k1 k2 k4 k5 k6 k7 k8 ka kb kl ko : Nat) (sz : Nat) (c3 : Int32) (c9 : Int32) (cc : Int32) (cd : Int32) (ce : Int32) (cf : Int32) (cg : Int32) (ch : Int32) (ci : Int32) (cj : Int32) (ck : Int32) (cm : Int32) (cn : Int32) (c0 : Nat → Int32) (a0 : Int32) (a1 : Int32) (pre0 : 0 ≤ a0.toInt) (pre1 : a0.toInt ≤ 11) (pre2 : a1 = 1) : Met l yX11_rateIs (gW yX11_rateIs cX11_rateIs 3 (some .int)) ({ frames := 0, cells := 0, slots := 0, locals := 0 } : Room) (kPreX D cI aK aV [.ref k, .int a0, .int 1] [(k, .inr (11, [.ref k0, .ref k1, .ref k2, .int c3, .ref k4, .ref k5, .ref k6, .ref k7, .ref k8, .int c9, .ref ka, .ref kb, .int cc, .int cd, .int ce, .int cf, .int cg, .int ch, .int ci, .int cj, .int ck, .ref kl, .int cm, .int cn, .ref ko])), (k0, .inl (cI, 1201, .inl c0))] sz) (va_Qi (fun (r : Int32) (u : Unit) => r = c0 (496 + 53 * a0.toInt.toNat)) (fun u t => kWd D cI (va_A [(k, .inr (11, [.ref k0, .ref k1, .ref k2, .int c3, .ref k4, .ref k5, .ref k6, .ref k7, .ref k8, .int c9, .ref ka, .ref kb, .int cc, .int cd, .int ce, .int cf, .int cg, .int ch, .int ci, .int cj, .int ck, .ref kl, .int cm, .int cn, .ref ko])), (k0, .inl (cI, 1201, .inl c0))] sz) [(k, .inr (11, [.ref k0, .ref k1, .ref k2, .int c3, .ref k4, .ref k5, .ref k6, .ref k7, .ref k8, .int c9, .ref ka, .ref kb, .int cc, .int cd, .int ce, .int cf, .int cg, .int ch, .int ci, .int cj, .int ck, .ref kl, .int cm, .int cn, .ref ko])), (k0, .inl (cI, 1201, .inl c0))] t) (va_A [(k, .inr (11, [.ref k0, .ref k1, .ref k2, .int c3, .ref k4, .ref k5, .ref k6, .ref k7, .ref k8, .int c9, .ref ka, .ref kb, .int cc, .int cd, .int ce, .int cf, .int cg, .int ch, .int ci, .int cj, .int ck, .ref kl, .int cm, .int cn, .ref ko])), (k0, .inl (cI, 1201, .inl c0))] sz)) 0 0 (va_A [(k, .inr (11, [.ref k0, .ref k1, .ref k2, .int c3, .ref k4, .ref k5, .ref k6, .ref k7, .ref k8, .int c9, .ref ka, .ref kb, .int cc, .int cd, .int ce, .int cf, .int cg, .int ch, .int ci, .int cj, .int ck, .ref kl, .int cm, .int cn, .ref ko])), (k0, .inl (cI, 1201, .inl c0))] sz) := by
  refine kMetIX (own := RX11) (by decide +kernel) rfl (Nat.le_of_ble_eq_true rfl) ?_
  intro p e s m args below meth c hx hb hT hown hname hml A Q hK hP hD hS hA hN hXS hRet ls hl
  subst pre2
  have hl : lv_has ls 3 [(0, .ref k), (1, .int a0), (2, .int 1)] := hl
  have lo_a0 := k_lo a0
  have hi_a0 := k_hi a0
  have lo_ci := k_lo ci
  have hi_ci := k_hi ci
  refine lv_aload_n hx hb dX11_rateIs_0 rfl (lv_at hl 0 rfl) ?_
  refine va_get (D := D) (ci := 11) (v := .ref k0) (C := RX11) (T := TX11) (N := 25) hx hb hT giX11 hown hK hP 0 rfl rfl 0 (by decide +kernel) (hT (Cond.fieldLink RX11 9 "DesertWireModel" "s" "[I") mw_1156) (fun _ h9 => h9) rfl dX11_rateIs_1 ?_
  refine lv_sipush (v := 495) hx hb dX11_rateIs_4 (by decide +kernel) ?_
  refine lv_bipush (v := 53) hx hb dX11_rateIs_7 (by decide +kernel) ?_
  refine lv_iload_n hx hb dX11_rateIs_9 rfl (lv_at hl 1 rfl) ?_
  refine lv_imul hx hb dX11_rateIs_10 ?_
  refine lv_topi (fun v_1 ev_1 => ?_)
  have tv_1 : v_1.toInt = 53 * a0.toInt := by rw [ev_1]; exact k_mulv zl_53 rfl (by omega) (by omega)
  refine lv_iadd hx hb dX11_rateIs_11 ?_
  refine lv_topi (fun v_2 ev_2 => ?_)
  have tv_2 : v_2.toInt = 495 + v_1.toInt := by rw [ev_2]; exact k_addv zl_495 rfl (by omega) (by omega)
  refine lv_iload_n hx hb dX11_rateIs_12 rfl (lv_at hl 2 rfl) ?_
  refine lv_iadd hx hb dX11_rateIs_13 ?_
  refine lv_topi (fun v_3 ev_3 => ?_)
  have tv_3 : v_3.toInt = v_2.toInt + 1 := by rw [ev_3]; exact k_addv rfl zl_1 (by omega) (by omega)
  refine k_iald (v := (c0 v_3.toNatClampNeg)) hx hb hK hP 1 0 rfl rfl (k_in (by omega) (by omega)) rfl dX11_rateIs_14 ?_
  refine lv_topi (fun v_4 ev_4 => ?_)
  have lo_v_4 := k_lo v_4
  have hi_v_4 := k_hi v_4
  have tv_4 : v_4.toInt = (c0 v_3.toNatClampNeg).toInt := by rw [ev_4]
  exact hRet () [0, 1] (rd_in ev_4 (by omega)) hP hD (by decide +kernel) rfl hS rfl dX11_rateIs_15
theorem bn_cX11_inForce_0 : BN cX11_inForce 0 0xad0f35a00a8010150a3f0f01402a802858120152075a2015b8140a161585002a10e34402b7020142c2b13805462f0382802b5158142c051b8107e03 := by
  unfold BN; decide +kernel
theorem dX11_inForce_0 : decode cX11_inForce 0 = .ok (.iconst (-1), 1) := dR0 (k := 0) (i := 0) bn_cX11_inForce_0 dop_2 (by decide +kernel)
theorem dX11_inForce_1 : decode cX11_inForce 1 = .ok (.istore_n 3, 1) := dR0 (k := 0) (i := 1) bn_cX11_inForce_0 dop_62 (by decide +kernel)
theorem dX11_inForce_2 : decode cX11_inForce 2 = .ok (.iconst 0, 1) := dR0 (k := 0) (i := 2) bn_cX11_inForce_0 dop_3 (by decide +kernel)
theorem dX11_inForce_3 : decode cX11_inForce 3 = .ok (.istore 4, 2) := dR1 (f := Instr.istore) (k := 0) (i := 3) bn_cX11_inForce_0 dop_54 4 (by decide +kernel)
theorem dX11_inForce_5 : decode cX11_inForce 5 = .ok (.iload 4, 2) := dR1 (f := Instr.iload) (k := 0) (i := 5) bn_cX11_inForce_0 dop_21 4 (by decide +kernel)
theorem dX11_inForce_7 : decode cX11_inForce 7 = .ok (.aload_n 0, 1) := dR0 (k := 0) (i := 7) bn_cX11_inForce_0 dop_42 (by decide +kernel)
theorem dX11_inForce_8 : decode cX11_inForce 8 = .ok (.getfield 9, 3) := dR2 (f := Instr.getfield) (k := 0) (i := 8) bn_cX11_inForce_0 dop_180 9 (by decide +kernel)
theorem dX11_inForce_11 : decode cX11_inForce 11 = .ok (.iconst 3, 1) := dR0 (k := 0) (i := 11) bn_cX11_inForce_0 dop_6 (by decide +kernel)
theorem dX11_inForce_12 : decode cX11_inForce 12 = .ok (.iaload, 1) := dR0 (k := 0) (i := 12) bn_cX11_inForce_0 dop_46 (by decide +kernel)
theorem dX11_inForce_13 : decode cX11_inForce 13 = .ok (.if_icmp .ge 38, 3) := dR2s (f := Instr.if_icmp .ge) (k := 0) (i := 13) bn_cX11_inForce_0 dop_162 38 38 (by decide +kernel)
theorem dX11_inForce_16 : decode cX11_inForce 16 = .ok (.aload_n 0, 1) := dR0 (k := 0) (i := 16) bn_cX11_inForce_0 dop_42 (by decide +kernel)
theorem dX11_inForce_17 : decode cX11_inForce 17 = .ok (.iload 4, 2) := dR1 (f := Instr.iload) (k := 0) (i := 17) bn_cX11_inForce_0 dop_21 4 (by decide +kernel)
theorem dX11_inForce_19 : decode cX11_inForce 19 = .ok (.iconst 0, 1) := dR0 (k := 0) (i := 19) bn_cX11_inForce_0 dop_3 (by decide +kernel)
theorem dX11_inForce_20 : decode cX11_inForce 20 = .ok (.invokevirtual 208, 3) := dR2 (f := Instr.invokevirtual) (k := 0) (i := 20) bn_cX11_inForce_0 dop_182 208 (by decide +kernel)
theorem dX11_inForce_23 : decode cX11_inForce 23 = .ok (.iload_n 1, 1) := dR0 (k := 0) (i := 23) bn_cX11_inForce_0 dop_27 (by decide +kernel)
theorem dX11_inForce_24 : decode cX11_inForce 24 = .ok (.if_icmp .ne 19, 3) := dR2s (f := Instr.if_icmp .ne) (k := 0) (i := 24) bn_cX11_inForce_0 dop_160 19 19 (by decide +kernel)
theorem dX11_inForce_27 : decode cX11_inForce 27 = .ok (.aload_n 0, 1) := dR0 (k := 0) (i := 27) bn_cX11_inForce_0 dop_42 (by decide +kernel)
theorem dX11_inForce_28 : decode cX11_inForce 28 = .ok (.iload 4, 2) := dR1 (f := Instr.iload) (k := 0) (i := 28) bn_cX11_inForce_0 dop_21 4 (by decide +kernel)
theorem dX11_inForce_30 : decode cX11_inForce 30 = .ok (.iconst 1, 1) := dR0 (k := 0) (i := 30) bn_cX11_inForce_0 dop_4 (by decide +kernel)
theorem dX11_inForce_31 : decode cX11_inForce 31 = .ok (.invokevirtual 208, 3) := dR2 (f := Instr.invokevirtual) (k := 0) (i := 31) bn_cX11_inForce_0 dop_182 208 (by decide +kernel)
theorem dX11_inForce_34 : decode cX11_inForce 34 = .ok (.iload_n 2, 1) := dR0 (k := 0) (i := 34) bn_cX11_inForce_0 dop_28 (by decide +kernel)
theorem dX11_inForce_35 : decode cX11_inForce 35 = .ok (.if_icmp .gt 8, 3) := dR2s (f := Instr.if_icmp .gt) (k := 0) (i := 35) bn_cX11_inForce_0 dop_163 8 8 (by decide +kernel)
theorem dX11_inForce_38 : decode cX11_inForce 38 = .ok (.iload 4, 2) := dR1 (f := Instr.iload) (k := 0) (i := 38) bn_cX11_inForce_0 dop_21 4 (by decide +kernel)
theorem dX11_inForce_40 : decode cX11_inForce 40 = .ok (.goto 4, 3) := dR2s (f := Instr.goto) (k := 0) (i := 40) bn_cX11_inForce_0 dop_167 4 4 (by decide +kernel)
theorem dX11_inForce_43 : decode cX11_inForce 43 = .ok (.iload_n 3, 1) := dR0 (k := 0) (i := 43) bn_cX11_inForce_0 dop_29 (by decide +kernel)
theorem dX11_inForce_44 : decode cX11_inForce 44 = .ok (.istore_n 3, 1) := dR0 (k := 0) (i := 44) bn_cX11_inForce_0 dop_62 (by decide +kernel)
theorem dX11_inForce_45 : decode cX11_inForce 45 = .ok (.iinc 4 1, 3) := dRii (f := Instr.iinc) (k := 0) (i := 45) bn_cX11_inForce_0 dop_132 4 1 1 (by decide +kernel)
theorem dX11_inForce_48 : decode cX11_inForce 48 = .ok (.goto (-43), 3) := dR2s (f := Instr.goto) (k := 0) (i := 48) bn_cX11_inForce_0 dop_167 65493 (-43) (by decide +kernel)
theorem dX11_inForce_51 : decode cX11_inForce 51 = .ok (.iload_n 3, 1) := dR0 (k := 0) (i := 51) bn_cX11_inForce_0 dop_29 (by decide +kernel)
theorem dX11_inForce_52 : decode cX11_inForce 52 = .ok (.ireturn, 1) := dR0 (k := 0) (i := 52) bn_cX11_inForce_0 dop_172 (by decide +kernel)
set_option maxHeartbeats 4000000 in
set_option maxRecDepth 100000 in
theorem c_X11_inForceG (l : Launch) (D : va_G) (cI : ClassId) (aK aV : Nat → Nat) (k k0 k1 k2 k4 k5 k6 k7 k8 ka kb kl ko : Nat) (sz : Nat) (c3 : Int32) (c9 : Int32) (cc : Int32) (cd : Int32) (ce : Int32) (cf : Int32) (cg : Int32) (ch : Int32) (ci : Int32) (cj : Int32) (ck : Int32) (cm : Int32) (cn : Int32) (c0 : Nat → Int32) (a0 : Int32) (a1 : Int32) (pre0 : SB c0) : Met l yX11_inForce (gW yX11_inForce cX11_inForce 5 (some .int)) ({ frames := 1, cells := 0, slots := 0, locals := 22 } : Room) (kPreX D cI aK aV [.ref k, .int a0, .int a1] [(k, .inr (11, [.ref k0, .ref k1, .ref k2, .int c3, .ref k4, .ref k5, .ref k6, .ref k7, .ref k8, .int c9, .ref ka, .ref kb, .int cc, .int cd, .int ce, .int cf, .int cg, .int ch, .int ci, .int cj, .int ck, .ref kl, .int cm, .int cn, .ref ko])), (k0, .inl (cI, 1201, .inl c0))] sz) (va_Qi (fun (r : Int32) (u : Unit) => -1 ≤ r.toInt ∧ r.toInt ≤ 11 ∧ r.toInt + 1 ≤ (c0 3).toInt ∧ r.toInt = inF (fun j => c0 (495 + 53 * j)) (fun j => c0 (496 + 53 * j)) a0 a1 (c0 3).toInt.toNat) (fun u t => kWd D cI (va_A [(k, .inr (11, [.ref k0, .ref k1, .ref k2, .int c3, .ref k4, .ref k5, .ref k6, .ref k7, .ref k8, .int c9, .ref ka, .ref kb, .int cc, .int cd, .int ce, .int cf, .int cg, .int ch, .int ci, .int cj, .int ck, .ref kl, .int cm, .int cn, .ref ko])), (k0, .inl (cI, 1201, .inl c0))] sz) [(k, .inr (11, [.ref k0, .ref k1, .ref k2, .int c3, .ref k4, .ref k5, .ref k6, .ref k7, .ref k8, .int c9, .ref ka, .ref kb, .int cc, .int cd, .int ce, .int cf, .int cg, .int ch, .int ci, .int cj, .int ck, .ref kl, .int cm, .int cn, .ref ko])), (k0, .inl (cI, 1201, .inl c0))] t) (va_A [(k, .inr (11, [.ref k0, .ref k1, .ref k2, .int c3, .ref k4, .ref k5, .ref k6, .ref k7, .ref k8, .int c9, .ref ka, .ref kb, .int cc, .int cd, .int ce, .int cf, .int cg, .int ch, .int ci, .int cj, .int ck, .ref kl, .int cm, .int cn, .ref ko])), (k0, .inl (cI, 1201, .inl c0))] sz)) 0 0 (va_A [(k, .inr (11, [.ref k0, .ref k1, .ref k2, .int c3, .ref k4, .ref k5, .ref k6, .ref k7, .ref k8, .int c9, .ref ka, .ref kb, .int cc, .int cd, .int ce, .int cf, .int cg, .int ch, .int ci, .int cj, .int ck, .ref kl, .int cm, .int cn, .ref ko])), (k0, .inl (cI, 1201, .inl c0))] sz) := by
  refine kMetIX (own := RX11) (by decide +kernel) rfl (Nat.le_of_ble_eq_true rfl) ?_
  intro p e s m args below meth c hx hb hT hown hname hml A Q hK hP hD hS hA hN hXS hRet ls hl
  have hl : lv_has ls 5 [(0, .ref k), (1, .int a0), (2, .int a1)] := hl
  have lo_a0 := k_lo a0
  have hi_a0 := k_hi a0
  have lo_a1 := k_lo a1
  have hi_a1 := k_hi a1
  have lo_ci := k_lo ci
  have hi_ci := k_hi ci
  have hn3 := SB.n3 pre0
  have pre0 : SB c0 := pre0
  have nb_1 : 0 ≤ (c0 0).toInt ∧ (c0 0).toInt ≤ 2000 := SB.n0 pre0
  have nb_2 : 0 ≤ (c0 1).toInt ∧ (c0 1).toInt ≤ 60 := SB.n1 pre0
  have nb_3 : 0 ≤ (c0 2).toInt ∧ (c0 2).toInt ≤ 4 := SB.n2 pre0
  refine lv_iconst (v := (-1)) hx hb dX11_inForce_0 (by decide +kernel) ?_
  refine lv_istore_n (lv' := [(3, .int (-1)), (0, .ref k), (1, .int a0), (2, .int a1)]) hx hb dX11_inForce_1 rfl hl (by decide +kernel) rfl ?_
  clear hl
  intro ls hl
  refine lv_iconst (v := 0) hx hb dX11_inForce_2 (by decide +kernel) ?_
  refine lv_istore (lv' := [(4, .int 0), (3, .int (-1)), (0, .ref k), (1, .int a0), (2, .int a1)]) hx hb dX11_inForce_3 hl (by decide +kernel) rfl ?_
  clear hl
  intro ls hl
  have hloop_5 : ∀ (fu_ : Nat) (l5_3 : Int32) (l5_4 : Int32), (-1) ≤ l5_3.toInt → 0 ≤ l5_4.toInt → l5_3.toInt ≤ 11 → -1 ≤ l5_3.toInt → l5_3.toInt + 1 ≤ l5_4.toInt → l5_4.toInt ≤ (c0 3).toInt → l5_3.toInt = inF (fun j => c0 (495 + 53 * j)) (fun j => c0 (496 + 53 * j)) a0 a1 l5_4.toInt.toNat → ((c0 3).toInt - l5_4.toInt).toNat < fu_ → ∀ (ls : Array Slot) (H : Heap) (locs : List Loc), lv_has ls 5 [(4, .int l5_4), (3, .int l5_3), (0, .ref k), (1, .int a0), (2, .int a1)] → va_P D vwCl [(k, .inr (11, [.ref k0, .ref k1, .ref k2, .int c3, .ref k4, .ref k5, .ref k6, .ref k7, .ref k8, .int c9, .ref ka, .ref kb, .int cc, .int cd, .int ce, .int cf, .int cg, .int ch, .int ci, .int cj, .int ck, .ref kl, .int cm, .int cn, .ref ko])), (k0, .inl (cI, 1201, .inl c0))] H → va_D A [(k, .inr (11, [.ref k0, .ref k1, .ref k2, .int c3, .ref k4, .ref k5, .ref k6, .ref k7, .ref k8, .int c9, .ref ka, .ref kb, .int cc, .int cd, .int ce, .int cf, .int cg, .int ch, .int ci, .int cj, .int ck, .ref kl, .int cm, .int cn, .ref ko])), (k0, .inl (cI, 1201, .inl c0))] → va_S A s.heap H locs → W p l e ({ frames := 1, cells := 0, slots := 0, locals := 22 } : Room) s m args below meth c H locs 0 0 Q (F0 m 5 ls []) := by
    intro fu_; induction fu_ with
    | zero => intro l5_3 l5_4 i5_0 i5_1 i5_2 i5_3 i5_4 i5_5 i5_6 hm; exact absurd hm (by omega)
    | succ fu_ ih5 =>
        intro l5_3 l5_4 i5_0 i5_1 i5_2 i5_3 i5_4 i5_5 i5_6 hm ls H locs hl hP hD hS
        have lo_l5_3 := k_lo l5_3
        have hi_l5_3 := k_hi l5_3
        have lo_l5_4 := k_lo l5_4
        have hi_l5_4 := k_hi l5_4
        have i5_6 : l5_3.toInt = inF (fun j => c0 (495 + 53 * j)) (fun j => c0 (496 + 53 * j)) a0 a1 l5_4.toInt.toNat := i5_6
        refine lv_iload hx hb dX11_inForce_5 (lv_at hl 0 rfl) ?_
        refine lv_aload_n hx hb dX11_inForce_7 rfl (lv_at hl 2 rfl) ?_
        refine va_get (D := D) (ci := 11) (v := .ref k0) (C := RX11) (T := TX11) (N := 25) hx hb hT giX11 hown hK hP 0 rfl rfl 0 (by decide +kernel) (hT (Cond.fieldLink RX11 9 "DesertWireModel" "s" "[I") mw_1156) (fun _ h9 => h9) rfl dX11_inForce_8 ?_
        refine lv_iconst (v := 3) hx hb dX11_inForce_11 (by decide +kernel) ?_
        refine k_iald (v := (c0 3)) hx hb hK hP 1 0 rfl rfl (k_inl (by decide +kernel)) rfl dX11_inForce_12 ?_
        refine lv_topi (fun v_4 ev_4 => ?_)
        have lo_v_4 := k_lo v_4
        have hi_v_4 := k_hi v_4
        have tv_4 : v_4.toInt = (c0 3).toInt := by rw [ev_4]
        have b_5 : 0 ≤ v_4.toInt ∧ v_4.toInt ≤ 12 := by first | (rw [tv_4]; exact SB.n3 pre0) | exact SB.n3 pre0 | omega
        refine b_icmp_ge hx hb rfl rfl (tgt := 51) dX11_inForce_13 (by decide +kernel) (fun c_6 => ?_) (fun c_6 => ?_)
        · refine lv_iload_n hx hb dX11_inForce_51 rfl (lv_at hl 1 rfl) ?_
          exact hRet () [0, 1] ⟨(by first | omega | decide | assumption | rfl), (by first | omega | decide | assumption | rfl), (by first | omega | decide | assumption | rfl), (by rw [show (c0 3).toInt.toNat = l5_4.toInt.toNat from by omega]; exact i5_6)⟩ hP hD (by decide +kernel) rfl hS rfl dX11_inForce_52
        · refine lv_aload_n hx hb dX11_inForce_16 rfl (lv_at hl 2 rfl) ?_
          refine lv_iload hx hb dX11_inForce_17 (lv_at hl 0 rfl) ?_
          refine lv_iconst (v := 0) hx hb dX11_inForce_19 (by decide +kernel) ?_
          refine kJi (wr := []) (va_runV (As := [.int l5_4, .int 0]) (rest := []) ⟨hx, hb, hml, hown, hT⟩ (c_X11_rateIsG0 l D cI aK aV k k0 k1 k2 k4 k5 k6 k7 k8 ka kb kl ko H.size c3 c9 cc cd ce cf cg ch ci cj ck cm cn c0 l5_4 0 (by first | omega | (simp only [zl_0]; first | done | omega) | decide | assumption | rfl) (by first | omega | (simp only [zl_0]; first | done | omega) | decide | assumption | rfl) (by first | omega | (simp only [zl_0]; first | done | omega) | decide | assumption | rfl)) (cwV 2 hT (gV_in mw_1307 mw_1304 mw_1306 mw_p4_1 mw_12) rfl rfl rfl (by decide +kernel) ⟨Nat.le_of_ble_eq_true rfl, Nat.le_of_ble_eq_true rfl⟩) (kRecvX (q0 := 0) (ci := 11) hK hP hD hN hXS hS hA rfl rfl [0, 1] rfl (by decide +kernel)) rfl rfl hl.1 rfl (lv_room (Nat.le_of_ble_eq_true rfl)) dX11_inForce_20 ⟨Nat.le_of_ble_eq_true rfl, Nat.le_of_ble_eq_true rfl⟩) hP hD hS hA [0, 1] [] rfl rfl (by decide +kernel) (by decide +kernel) ?_
          clear hP hD hS
          intro r_7 u_9 H locs w_8 hP hD hS
          replace hP : va_P D vwCl [(k, .inr (11, [.ref k0, .ref k1, .ref k2, .int c3, .ref k4, .ref k5, .ref k6, .ref k7, .ref k8, .int c9, .ref ka, .ref kb, .int cc, .int cd, .int ce, .int cf, .int cg, .int ch, .int ci, .int cj, .int ck, .ref kl, .int cm, .int cn, .ref ko])), (k0, .inl (cI, 1201, .inl c0))] H := hP
          replace hD : va_D A [(k, .inr (11, [.ref k0, .ref k1, .ref k2, .int c3, .ref k4, .ref k5, .ref k6, .ref k7, .ref k8, .int c9, .ref ka, .ref kb, .int cc, .int cd, .int ce, .int cf, .int cg, .int ch, .int ci, .int cj, .int ck, .ref kl, .int cm, .int cn, .ref ko])), (k0, .inl (cI, 1201, .inl c0))] := hD
          have h_10 := w_8
          try simp only [zl_0] at h_10
          have h_10 : r_7 = c0 (495 + 53 * l5_4.toInt.toNat) := h_10
          have h_10 : r_7 = c0 (495 + 53 * l5_4.toInt.toNat) := h_10
          have t_11 : r_7.toInt = (c0 (495 + 53 * l5_4.toInt.toNat)).toInt := by rw [h_10]
          have lo_r_7 := k_lo r_7
          have hi_r_7 := k_hi r_7
          refine lv_iload_n hx hb dX11_inForce_23 rfl (lv_at hl 3 rfl) ?_
          refine b_icmp_ne hx hb rfl rfl (tgt := 43) dX11_inForce_24 (by decide +kernel) (fun c_12 => ?_) (fun c_12 => ?_)
          · refine lv_iload_n hx hb dX11_inForce_43 rfl (lv_at hl 1 rfl) ?_
            refine lv_istore_n (lv' := [(3, .int l5_3), (4, .int l5_4), (0, .ref k), (1, .int a0), (2, .int a1)]) hx hb dX11_inForce_44 rfl hl (by decide +kernel) rfl ?_
            clear hl
            intro ls hl
            obtain ⟨v_13, ev_13⟩ : ∃ y : Int32, y = l5_4 + 1 := ⟨_, rfl⟩
            have tv_13 : v_13.toInt = l5_4.toInt + 1 := by rw [ev_13]; exact k_addv rfl zl_1 (by omega) (by omega)
            refine lv_iinc (v := v_13) (lv' := [(4, .int v_13), (3, .int l5_3), (0, .ref k), (1, .int a0), (2, .int a1)]) hx hb dX11_inForce_45 hl (k := 1) rfl (by rw [ev_13]; rfl) (by decide +kernel) rfl ?_
            clear hl
            intro ls hl
            refine lv_goto (tgt := 5) hx hb dX11_inForce_48 (by decide +kernel) ?_
            exact ih5 l5_3 v_13 (by first | omega | decide | assumption | rfl) (by first | omega | decide | assumption | rfl) (by first | omega | decide | assumption | rfl) (by first | omega | decide | assumption | rfl) (by first | omega | decide | assumption | rfl) (by first | omega | decide | assumption | rfl) (by rw [inF_no (n := l5_4.toInt.toNat) (by omega) (by first | exact Or.inl (show (c0 (495 + 53 * l5_4.toInt.toNat)).toInt ≠ _ from by omega) | exact Or.inr (show a1.toInt < (c0 (496 + 53 * l5_4.toInt.toNat)).toInt from by omega))]; exact i5_6) (by omega) ls _ _ (lv_sub hl [0, 1, 2, 3, 4] rfl) (hP.sub [0, 1] rfl) (hD.sub [0, 1] (by decide +kernel) rfl) hS
          · refine lv_aload_n hx hb dX11_inForce_27 rfl (lv_at hl 2 rfl) ?_
            refine lv_iload hx hb dX11_inForce_28 (lv_at hl 0 rfl) ?_
            refine lv_iconst (v := 1) hx hb dX11_inForce_30 (by decide +kernel) ?_
            refine kJi (wr := []) (va_runV (As := [.int l5_4, .int 1]) (rest := []) ⟨hx, hb, hml, hown, hT⟩ (c_X11_rateIsG1 l D cI aK aV k k0 k1 k2 k4 k5 k6 k7 k8 ka kb kl ko H.size c3 c9 cc cd ce cf cg ch ci cj ck cm cn c0 l5_4 1 (by first | omega | (simp only [zl_1]; first | done | omega) | decide | assumption | rfl) (by first | omega | (simp only [zl_1]; first | done | omega) | decide | assumption | rfl) (by first | omega | (simp only [zl_1]; first | done | omega) | decide | assumption | rfl)) (cwV 2 hT (gV_in mw_1307 mw_1304 mw_1306 mw_p4_1 mw_12) rfl rfl rfl (by decide +kernel) ⟨Nat.le_of_ble_eq_true rfl, Nat.le_of_ble_eq_true rfl⟩) (kRecvX (q0 := 0) (ci := 11) hK hP hD hN hXS hS hA rfl rfl [0, 1] rfl (by decide +kernel)) rfl rfl hl.1 rfl (lv_room (Nat.le_of_ble_eq_true rfl)) dX11_inForce_31 ⟨Nat.le_of_ble_eq_true rfl, Nat.le_of_ble_eq_true rfl⟩) hP hD hS hA [0, 1] [] rfl rfl (by decide +kernel) (by decide +kernel) ?_
            clear hP hD hS
            intro r_14 u_16 H locs w_15 hP hD hS
            replace hP : va_P D vwCl [(k, .inr (11, [.ref k0, .ref k1, .ref k2, .int c3, .ref k4, .ref k5, .ref k6, .ref k7, .ref k8, .int c9, .ref ka, .ref kb, .int cc, .int cd, .int ce, .int cf, .int cg, .int ch, .int ci, .int cj, .int ck, .ref kl, .int cm, .int cn, .ref ko])), (k0, .inl (cI, 1201, .inl c0))] H := hP
            replace hD : va_D A [(k, .inr (11, [.ref k0, .ref k1, .ref k2, .int c3, .ref k4, .ref k5, .ref k6, .ref k7, .ref k8, .int c9, .ref ka, .ref kb, .int cc, .int cd, .int ce, .int cf, .int cg, .int ch, .int ci, .int cj, .int ck, .ref kl, .int cm, .int cn, .ref ko])), (k0, .inl (cI, 1201, .inl c0))] := hD
            have h_17 := w_15
            try simp only [zl_1] at h_17
            have h_17 : r_14 = c0 (496 + 53 * l5_4.toInt.toNat) := h_17
            have h_17 : r_14 = c0 (496 + 53 * l5_4.toInt.toNat) := h_17
            have t_18 : r_14.toInt = (c0 (496 + 53 * l5_4.toInt.toNat)).toInt := by rw [h_17]
            have lo_r_14 := k_lo r_14
            have hi_r_14 := k_hi r_14
            refine lv_iload_n hx hb dX11_inForce_34 rfl (lv_at hl 4 rfl) ?_
            refine b_icmp_gt hx hb rfl rfl (tgt := 43) dX11_inForce_35 (by decide +kernel) (fun c_19 => ?_) (fun c_19 => ?_)
            · refine lv_iload_n hx hb dX11_inForce_43 rfl (lv_at hl 1 rfl) ?_
              refine lv_istore_n (lv' := [(3, .int l5_3), (4, .int l5_4), (0, .ref k), (1, .int a0), (2, .int a1)]) hx hb dX11_inForce_44 rfl hl (by decide +kernel) rfl ?_
              clear hl
              intro ls hl
              obtain ⟨v_20, ev_20⟩ : ∃ y : Int32, y = l5_4 + 1 := ⟨_, rfl⟩
              have tv_20 : v_20.toInt = l5_4.toInt + 1 := by rw [ev_20]; exact k_addv rfl zl_1 (by omega) (by omega)
              refine lv_iinc (v := v_20) (lv' := [(4, .int v_20), (3, .int l5_3), (0, .ref k), (1, .int a0), (2, .int a1)]) hx hb dX11_inForce_45 hl (k := 1) rfl (by rw [ev_20]; rfl) (by decide +kernel) rfl ?_
              clear hl
              intro ls hl
              refine lv_goto (tgt := 5) hx hb dX11_inForce_48 (by decide +kernel) ?_
              exact ih5 l5_3 v_20 (by first | omega | decide | assumption | rfl) (by first | omega | decide | assumption | rfl) (by first | omega | decide | assumption | rfl) (by first | omega | decide | assumption | rfl) (by first | omega | decide | assumption | rfl) (by first | omega | decide | assumption | rfl) (by rw [inF_no (n := l5_4.toInt.toNat) (by omega) (by first | exact Or.inl (show (c0 (495 + 53 * l5_4.toInt.toNat)).toInt ≠ _ from by omega) | exact Or.inr (show a1.toInt < (c0 (496 + 53 * l5_4.toInt.toNat)).toInt from by omega))]; exact i5_6) (by omega) ls _ _ (lv_sub hl [0, 1, 2, 3, 4] rfl) (hP.sub [0, 1] rfl) (hD.sub [0, 1] (by decide +kernel) rfl) hS
            · refine lv_iload hx hb dX11_inForce_38 (lv_at hl 0 rfl) ?_
              refine lv_goto (tgt := 44) hx hb dX11_inForce_40 (by decide +kernel) ?_
              refine lv_istore_n (lv' := [(3, .int l5_4), (4, .int l5_4), (0, .ref k), (1, .int a0), (2, .int a1)]) hx hb dX11_inForce_44 rfl hl (by decide +kernel) rfl ?_
              clear hl
              intro ls hl
              obtain ⟨v_21, ev_21⟩ : ∃ y : Int32, y = l5_4 + 1 := ⟨_, rfl⟩
              have tv_21 : v_21.toInt = l5_4.toInt + 1 := by rw [ev_21]; exact k_addv rfl zl_1 (by omega) (by omega)
              refine lv_iinc (v := v_21) (lv' := [(4, .int v_21), (3, .int l5_4), (0, .ref k), (1, .int a0), (2, .int a1)]) hx hb dX11_inForce_45 hl (k := 1) rfl (by rw [ev_21]; rfl) (by decide +kernel) rfl ?_
              clear hl
              intro ls hl
              refine lv_goto (tgt := 5) hx hb dX11_inForce_48 (by decide +kernel) ?_
              exact ih5 l5_4 v_21 (by first | omega | decide | assumption | rfl) (by first | omega | decide | assumption | rfl) (by first | omega | decide | assumption | rfl) (by first | omega | decide | assumption | rfl) (by first | omega | decide | assumption | rfl) (by first | omega | decide | assumption | rfl) (by rw [inF_yes (n := l5_4.toInt.toNat) (by omega) (show (c0 (495 + 53 * l5_4.toInt.toNat)).toInt = _ from by omega) (show (c0 (496 + 53 * l5_4.toInt.toNat)).toInt ≤ _ from by omega)]; omega) (by omega) ls _ _ (lv_sub hl [0, 1, 2, 3, 4] rfl) (hP.sub [0, 1] rfl) (hD.sub [0, 1] (by decide +kernel) rfl) hS
  exact hloop_5 _ (-1) 0 (by first | omega | (simp only [zl_m1, zl_0]; first | done | omega) | decide | assumption | rfl) (by first | omega | (simp only [zl_m1, zl_0]; first | done | omega) | decide | assumption | rfl) (by first | omega | (simp only [zl_m1, zl_0]; first | done | omega) | decide | assumption | rfl) (by first | omega | (simp only [zl_m1, zl_0]; first | done | omega) | decide | assumption | rfl) (by first | omega | (simp only [zl_m1, zl_0]; first | done | omega) | decide | assumption | rfl) (by first | omega | (simp only [zl_m1, zl_0]; first | done | omega) | decide | assumption | rfl) (by rw [zl_m1, zl_0]; rfl) (Nat.lt_succ_self _) ls _ _ (lv_sub hl [0, 1, 2, 3, 4] rfl) hP hD hS
theorem bn_cX11_force_0 : BN cX11_force 0 0x2b43c0500aa082015b9cc262b068053a1e1fb5002b70e87056ad208056e40098ac16014db2802b90e82c029a63805721c := by
  unfold BN; decide +kernel
theorem dX11_force_0 : decode cX11_force 0 = .ok (.iload_n 1, 1) := dR0 (k := 0) (i := 0) bn_cX11_force_0 dop_27 (by decide +kernel)
theorem dX11_force_1 : decode cX11_force 1 = .ok (.invokestatic 198, 3) := dR2 (f := Instr.invokestatic) (k := 0) (i := 1) bn_cX11_force_0 dop_184 198 (by decide +kernel)
theorem dX11_force_4 : decode cX11_force 4 = .ok (.ifCond .eq 10, 3) := dR2s (f := Instr.ifCond .eq) (k := 0) (i := 4) bn_cX11_force_0 dop_153 10 10 (by decide +kernel)
theorem dX11_force_7 : decode cX11_force 7 = .ok (.iload_n 2, 1) := dR0 (k := 0) (i := 7) bn_cX11_force_0 dop_28 (by decide +kernel)
theorem dX11_force_8 : decode cX11_force 8 = .ok (.invokestatic 201, 3) := dR2 (f := Instr.invokestatic) (k := 0) (i := 8) bn_cX11_force_0 dop_184 201 (by decide +kernel)
theorem dX11_force_11 : decode cX11_force 11 = .ok (.ifCond .ne 10, 3) := dR2s (f := Instr.ifCond .ne) (k := 0) (i := 11) bn_cX11_force_0 dop_154 10 10 (by decide +kernel)
theorem dX11_force_14 : decode cX11_force 14 = .ok (.aload_n 0, 1) := dR0 (k := 0) (i := 14) bn_cX11_force_0 dop_42 (by decide +kernel)
theorem dX11_force_15 : decode cX11_force 15 = .ok (.ldc 63, 2) := dR1 (f := Instr.ldc) (k := 0) (i := 15) bn_cX11_force_0 dop_18 63 (by decide +kernel)
theorem dX11_force_17 : decode cX11_force 17 = .ok (.invokevirtual 64, 3) := dR2 (f := Instr.invokevirtual) (k := 0) (i := 17) bn_cX11_force_0 dop_182 64 (by decide +kernel)
theorem dX11_force_20 : decode cX11_force 20 = .ok (.ireturn, 1) := dR0 (k := 0) (i := 20) bn_cX11_force_0 dop_172 (by decide +kernel)
theorem dX11_force_21 : decode cX11_force 21 = .ok (.aload_n 0, 1) := dR0 (k := 0) (i := 21) bn_cX11_force_0 dop_42 (by decide +kernel)
theorem dX11_force_22 : decode cX11_force 22 = .ok (.iload_n 1, 1) := dR0 (k := 0) (i := 22) bn_cX11_force_0 dop_27 (by decide +kernel)
theorem dX11_force_23 : decode cX11_force 23 = .ok (.iload_n 2, 1) := dR0 (k := 0) (i := 23) bn_cX11_force_0 dop_28 (by decide +kernel)
theorem dX11_force_24 : decode cX11_force 24 = .ok (.invokevirtual 211, 3) := dR2 (f := Instr.invokevirtual) (k := 0) (i := 24) bn_cX11_force_0 dop_182 211 (by decide +kernel)
theorem dX11_force_27 : decode cX11_force 27 = .ok (.istore_n 3, 1) := dR0 (k := 0) (i := 27) bn_cX11_force_0 dop_62 (by decide +kernel)
theorem dX11_force_28 : decode cX11_force 28 = .ok (.iload_n 3, 1) := dR0 (k := 0) (i := 28) bn_cX11_force_0 dop_29 (by decide +kernel)
theorem dX11_force_29 : decode cX11_force 29 = .ok (.ifCond .ge 12, 3) := dR2s (f := Instr.ifCond .ge) (k := 0) (i := 29) bn_cX11_force_0 dop_156 12 12 (by decide +kernel)
theorem dX11_force_32 : decode cX11_force 32 = .ok (.aload_n 0, 1) := dR0 (k := 0) (i := 32) bn_cX11_force_0 dop_42 (by decide +kernel)
theorem dX11_force_33 : decode cX11_force 33 = .ok (.ldc 114, 2) := dR1 (f := Instr.ldc) (k := 0) (i := 33) bn_cX11_force_0 dop_18 114 (by decide +kernel)
theorem dX11_force_35 : decode cX11_force 35 = .ok (.invokevirtual 64, 3) := dR2 (f := Instr.invokevirtual) (k := 0) (i := 35) bn_cX11_force_0 dop_182 64 (by decide +kernel)
theorem dX11_force_38 : decode cX11_force 38 = .ok (.goto 4, 3) := dR2s (f := Instr.goto) (k := 0) (i := 38) bn_cX11_force_0 dop_167 4 4 (by decide +kernel)
theorem dX11_force_41 : decode cX11_force 41 = .ok (.iload_n 3, 1) := dR0 (k := 0) (i := 41) bn_cX11_force_0 dop_29 (by decide +kernel)
theorem dX11_force_42 : decode cX11_force 42 = .ok (.ireturn, 1) := dR0 (k := 0) (i := 42) bn_cX11_force_0 dop_172 (by decide +kernel)
set_option maxHeartbeats 4000000 in
set_option maxRecDepth 100000 in
theorem c_X11_forceG (l : Launch) (D : va_G) (cI : ClassId) (aK aV : Nat → Nat) (k k0 k1 k2 k4 k5 k6 k7 k8 ka kb kl ko : Nat) (sz : Nat) (c3 : Int32) (c9 : Int32) (cc : Int32) (cd : Int32) (ce : Int32) (cf : Int32) (cg : Int32) (ch : Int32) (ci : Int32) (cj : Int32) (ck : Int32) (cm : Int32) (cn : Int32) (c0 : Nat → Int32) (c4 : Nat → Int32) (a0 : Int32) (a1 : Int32) (pre0 : SB c0) : Met l yX11_force (gW yX11_force cX11_force 4 (some .int)) ({ frames := 2, cells := 0, slots := 0, locals := 46 } : Room) (kPreX D cI aK aV [.ref k, .int a0, .int a1] [(k, .inr (11, [.ref k0, .ref k1, .ref k2, .int c3, .ref k4, .ref k5, .ref k6, .ref k7, .ref k8, .int c9, .ref ka, .ref kb, .int cc, .int cd, .int ce, .int cf, .int cg, .int ch, .int ci, .int cj, .int ck, .ref kl, .int cm, .int cn, .ref ko])), (k0, .inl (cI, 1201, .inl c0)), (k4, .inl (cI, 6, .inl c4))] sz) (va_Qi (fun (r : Int32) (u : (Nat → Int32)) => r.toInt = fcR (inF (fun j => c0 (495 + 53 * j)) (fun j => c0 (496 + 53 * j)) a0 a1 (c0 3).toInt.toNat) a0 a1) (fun u t => kWd D cI (va_A [(k, .inr (11, [.ref k0, .ref k1, .ref k2, .int c3, .ref k4, .ref k5, .ref k6, .ref k7, .ref k8, .int c9, .ref ka, .ref kb, .int cc, .int cd, .int ce, .int cf, .int cg, .int ch, .int ci, .int cj, .int ck, .ref kl, .int cm, .int cn, .ref ko])), (k0, .inl (cI, 1201, .inl c0)), (k4, .inl (cI, 6, .inl c4))] sz) [(k, .inr (11, [.ref k0, .ref k1, .ref k2, .int c3, .ref k4, .ref k5, .ref k6, .ref k7, .ref k8, .int c9, .ref ka, .ref kb, .int cc, .int cd, .int ce, .int cf, .int cg, .int ch, .int ci, .int cj, .int ck, .ref kl, .int cm, .int cn, .ref ko])), (k0, .inl (cI, 1201, .inl c0)), (k4, .inl (cI, 6, .inl u))] t) (va_A [(k, .inr (11, [.ref k0, .ref k1, .ref k2, .int c3, .ref k4, .ref k5, .ref k6, .ref k7, .ref k8, .int c9, .ref ka, .ref kb, .int cc, .int cd, .int ce, .int cf, .int cg, .int ch, .int ci, .int cj, .int ck, .ref kl, .int cm, .int cn, .ref ko])), (k0, .inl (cI, 1201, .inl c0)), (k4, .inl (cI, 6, .inl c4))] sz)) 0 0 (va_A [(k, .inr (11, [.ref k0, .ref k1, .ref k2, .int c3, .ref k4, .ref k5, .ref k6, .ref k7, .ref k8, .int c9, .ref ka, .ref kb, .int cc, .int cd, .int ce, .int cf, .int cg, .int ch, .int ci, .int cj, .int ck, .ref kl, .int cm, .int cn, .ref ko])), (k0, .inl (cI, 1201, .inl c0)), (k4, .inl (cI, 6, .inl c4))] sz) := by
  refine kMetIX (own := RX11) (by decide +kernel) rfl (Nat.le_of_ble_eq_true rfl) ?_
  intro p e s m args below meth c hx hb hT hown hname hml A Q hK hP hD hS hA hN hXS hRet ls hl
  have hl : lv_has ls 4 [(0, .ref k), (1, .int a0), (2, .int a1)] := hl
  have lo_a0 := k_lo a0
  have hi_a0 := k_hi a0
  have lo_a1 := k_lo a1
  have hi_a1 := k_hi a1
  have lo_ci := k_lo ci
  have hi_ci := k_hi ci
  have pre0 : SB c0 := pre0
  have nb_1 : 0 ≤ (c0 0).toInt ∧ (c0 0).toInt ≤ 2000 := SB.n0 pre0
  have nb_2 : 0 ≤ (c0 1).toInt ∧ (c0 1).toInt ≤ 60 := SB.n1 pre0
  have nb_3 : 0 ≤ (c0 2).toInt ∧ (c0 2).toInt ≤ 4 := SB.n2 pre0
  refine lv_iload_n hx hb dX11_force_0 rfl (lv_at hl 1 rfl) ?_
  refine kJi (wr := [(k, .inr (11, [.ref k0, .ref k1, .ref k2, .int c3, .ref k4, .ref k5, .ref k6, .ref k7, .ref k8, .int c9, .ref ka, .ref kb, .int cc, .int cd, .int ce, .int cf, .int cg, .int ch, .int ci, .int cj, .int ck, .ref kl, .int cm, .int cn, .ref ko])), (k0, .inl (cI, 1201, .inl c0)), (k4, .inl (cI, 6, .inl c4))]) (va_runS (As := [.int a0]) (rest := []) ⟨hx, hb, hml, hown, hT⟩ (c_X11_isUseG l D cI aK aV s.heap.size a0) (cwS 1 hT (gS_in mw_1476 mw_1474 mw_1475 mw_12) rfl rfl rfl (by decide +kernel) ⟨Nat.le_of_ble_eq_true rfl, Nat.le_of_ble_eq_true rfl⟩) (kStatX hK hP hD hN hXS hS hA [] rfl (by decide +kernel)) rfl rfl hl.1 rfl (lv_room (Nat.le_of_ble_eq_true rfl)) dX11_force_1 ⟨Nat.le_of_ble_eq_true rfl, Nat.le_of_ble_eq_true rfl⟩) hP hD hS hA [] [0, 1, 2] rfl rfl (by decide +kernel) (by decide +kernel) ?_
  clear hP hD hS
  intro r_4 u_6 H locs w_5 hP hD hS
  replace hP : va_P D vwCl [(k, .inr (11, [.ref k0, .ref k1, .ref k2, .int c3, .ref k4, .ref k5, .ref k6, .ref k7, .ref k8, .int c9, .ref ka, .ref kb, .int cc, .int cd, .int ce, .int cf, .int cg, .int ch, .int ci, .int cj, .int ck, .ref kl, .int cm, .int cn, .ref ko])), (k0, .inl (cI, 1201, .inl c0)), (k4, .inl (cI, 6, .inl c4))] H := hP
  replace hD : va_D A [(k, .inr (11, [.ref k0, .ref k1, .ref k2, .int c3, .ref k4, .ref k5, .ref k6, .ref k7, .ref k8, .int c9, .ref ka, .ref kb, .int cc, .int cd, .int ce, .int cf, .int cg, .int ch, .int ci, .int cj, .int ck, .ref kl, .int cm, .int cn, .ref ko])), (k0, .inl (cI, 1201, .inl c0)), (k4, .inl (cI, 6, .inl c4))] := hD
  rcases w_5 with ⟨hr_4, h_7, h_8⟩ | ⟨hr_4, h_9⟩
  · have h_7 : 0 ≤ a0.toInt := h_7
    have h_8 : a0.toInt ≤ 2 := h_8
    obtain rfl : r_4 = 1 := hr_4.trans (by decide +kernel)
    refine b_if_eq hx hb zl_1 (tgt := 14) dX11_force_4 (by decide +kernel) (fun c_10 => by exfalso; omega) (fun c_10 => ?_)
    refine lv_iload_n hx hb dX11_force_7 rfl (lv_at hl 2 rfl) ?_
    refine kJi (wr := [(k, .inr (11, [.ref k0, .ref k1, .ref k2, .int c3, .ref k4, .ref k5, .ref k6, .ref k7, .ref k8, .int c9, .ref ka, .ref kb, .int cc, .int cd, .int ce, .int cf, .int cg, .int ch, .int ci, .int cj, .int ck, .ref kl, .int cm, .int cn, .ref ko])), (k0, .inl (cI, 1201, .inl c0)), (k4, .inl (cI, 6, .inl c4))]) (va_runS (As := [.int a1]) (rest := []) ⟨hx, hb, hml, hown, hT⟩ (c_X11_isDayG l D cI aK aV H.size a1) (cwS 1 hT (gS_in mw_1479 mw_1477 mw_1478 mw_12) rfl rfl rfl (by decide +kernel) ⟨Nat.le_of_ble_eq_true rfl, Nat.le_of_ble_eq_true rfl⟩) (kStatX hK hP hD hN hXS hS hA [] rfl (by decide +kernel)) rfl rfl hl.1 rfl (lv_room (Nat.le_of_ble_eq_true rfl)) dX11_force_8 ⟨Nat.le_of_ble_eq_true rfl, Nat.le_of_ble_eq_true rfl⟩) hP hD hS hA [] [0, 1, 2] rfl rfl (by decide +kernel) (by decide +kernel) ?_
    clear hP hD hS
    intro r_11 u_13 H locs w_12 hP hD hS
    replace hP : va_P D vwCl [(k, .inr (11, [.ref k0, .ref k1, .ref k2, .int c3, .ref k4, .ref k5, .ref k6, .ref k7, .ref k8, .int c9, .ref ka, .ref kb, .int cc, .int cd, .int ce, .int cf, .int cg, .int ch, .int ci, .int cj, .int ck, .ref kl, .int cm, .int cn, .ref ko])), (k0, .inl (cI, 1201, .inl c0)), (k4, .inl (cI, 6, .inl c4))] H := hP
    replace hD : va_D A [(k, .inr (11, [.ref k0, .ref k1, .ref k2, .int c3, .ref k4, .ref k5, .ref k6, .ref k7, .ref k8, .int c9, .ref ka, .ref kb, .int cc, .int cd, .int ce, .int cf, .int cg, .int ch, .int ci, .int cj, .int ck, .ref kl, .int cm, .int cn, .ref ko])), (k0, .inl (cI, 1201, .inl c0)), (k4, .inl (cI, 6, .inl c4))] := hD
    rcases w_12 with ⟨hr_11, h_14, h_15⟩ | ⟨hr_11, h_16⟩
    · have h_14 : 0 ≤ a1.toInt := h_14
      have h_15 : a1.toInt ≤ 2000 := h_15
      obtain rfl : r_11 = 1 := hr_11.trans (by decide +kernel)
      refine b_if_ne hx hb zl_1 (tgt := 21) dX11_force_11 (by decide +kernel) (fun c_17 => ?_) (fun c_17 => by exfalso; omega)
      refine lv_aload_n hx hb dX11_force_21 rfl (lv_at hl 0 rfl) ?_
      refine lv_iload_n hx hb dX11_force_22 rfl (lv_at hl 1 rfl) ?_
      refine lv_iload_n hx hb dX11_force_23 rfl (lv_at hl 2 rfl) ?_
      refine kJi (wr := [(k4, .inl (cI, 6, .inl c4))]) (va_runV (As := [.int a0, .int a1]) (rest := []) ⟨hx, hb, hml, hown, hT⟩ (c_X11_inForceG l D cI aK aV k k0 k1 k2 k4 k5 k6 k7 k8 ka kb kl ko H.size c3 c9 cc cd ce cf cg ch ci cj ck cm cn c0 a0 a1 pre0) (cwV 2 hT (gV_in mw_1303 mw_1300 mw_1302 mw_p4_0 mw_12) rfl rfl rfl (by decide +kernel) ⟨Nat.le_of_ble_eq_true rfl, Nat.le_of_ble_eq_true rfl⟩) (kRecvX (q0 := 0) (ci := 11) hK hP hD hN hXS hS hA rfl rfl [0, 1] rfl (by decide +kernel)) rfl rfl hl.1 rfl (lv_room (Nat.le_of_ble_eq_true rfl)) dX11_force_24 ⟨Nat.le_of_ble_eq_true rfl, Nat.le_of_ble_eq_true rfl⟩) hP hD hS hA [0, 1] [2] rfl rfl (by decide +kernel) (by decide +kernel) ?_
      clear hP hD hS
      intro r_18 u_20 H locs w_19 hP hD hS
      replace hP : va_P D vwCl [(k4, .inl (cI, 6, .inl c4)), (k, .inr (11, [.ref k0, .ref k1, .ref k2, .int c3, .ref k4, .ref k5, .ref k6, .ref k7, .ref k8, .int c9, .ref ka, .ref kb, .int cc, .int cd, .int ce, .int cf, .int cg, .int ch, .int ci, .int cj, .int ck, .ref kl, .int cm, .int cn, .ref ko])), (k0, .inl (cI, 1201, .inl c0))] H := hP
      replace hD : va_D A [(k4, .inl (cI, 6, .inl c4)), (k, .inr (11, [.ref k0, .ref k1, .ref k2, .int c3, .ref k4, .ref k5, .ref k6, .ref k7, .ref k8, .int c9, .ref ka, .ref kb, .int cc, .int cd, .int ce, .int cf, .int cg, .int ch, .int ci, .int cj, .int ck, .ref kl, .int cm, .int cn, .ref ko])), (k0, .inl (cI, 1201, .inl c0))] := hD
      obtain ⟨h_21, h_22, h_23, h_24⟩ := w_19
      have h_21 : -1 ≤ r_18.toInt := h_21
      have h_22 : r_18.toInt ≤ 11 := h_22
      have h_23 : r_18.toInt + 1 ≤ (c0 3).toInt := h_23
      have h_24 : r_18.toInt = inF (fun j => c0 (495 + 53 * j)) (fun j => c0 (496 + 53 * j)) a0 a1 (c0 3).toInt.toNat := h_24
      have h_24 : r_18.toInt = inF (fun j => c0 (495 + 53 * j)) (fun j => c0 (496 + 53 * j)) a0 a1 (c0 3).toInt.toNat := h_24
      have lo_r_18 := k_lo r_18
      have hi_r_18 := k_hi r_18
      refine lv_istore_n (lv' := [(3, .int r_18), (0, .ref k), (1, .int a0), (2, .int a1)]) hx hb dX11_force_27 rfl hl (by decide +kernel) rfl ?_
      clear hl
      intro ls hl
      refine lv_iload_n hx hb dX11_force_28 rfl (lv_at hl 0 rfl) ?_
      refine b_if_ge hx hb rfl (tgt := 41) dX11_force_29 (by decide +kernel) (fun c_25 => ?_) (fun c_25 => ?_)
      · refine lv_iload_n hx hb dX11_force_41 rfl (lv_at hl 0 rfl) ?_
        exact hRet c4 [1, 2, 0] (by (try dsimp only); unfold fcR; (repeat (first | rw [if_pos (by omega)] | rw [if_neg (by omega)])); first | done | exact (by omega)) hP hD (by decide +kernel) rfl hS rfl dX11_force_42
      · refine lv_aload_n hx hb dX11_force_32 rfl (lv_at hl 1 rfl) ?_
        refine lv_ldc (v := (-1000002)) hx hb hown (hT _ mw_1392) dX11_force_33 ?_
        refine kJi (wr := [(k0, .inl (cI, 1201, .inl c0))]) (va_runV (As := [.int (-1000002)]) (rest := []) ⟨hx, hb, hml, hown, hT⟩ (c_X11_findingG l D cI aK aV k k0 k1 k2 k4 k5 k6 k7 k8 ka kb kl ko H.size c3 c9 cc cd ce cf cg ch ci cj ck cm cn c4 (-1000002) (by first | omega | (simp only [zl_m1000002]; first | done | omega) | decide | assumption | rfl) (by first | omega | (simp only [zl_m1000002]; first | done | omega) | decide | assumption | rfl)) (cwV 1 hT (gV_in mw_1243 mw_1240 mw_1242 mw_p3_8 mw_12) rfl rfl rfl (by decide +kernel) ⟨Nat.le_of_ble_eq_true rfl, Nat.le_of_ble_eq_true rfl⟩) (kRecvX (q0 := 1) (ci := 11) hK hP hD hN hXS hS hA rfl rfl [1, 0] rfl (by decide +kernel)) rfl rfl hl.1 rfl (lv_room (Nat.le_of_ble_eq_true rfl)) dX11_force_35 ⟨Nat.le_of_ble_eq_true rfl, Nat.le_of_ble_eq_true rfl⟩) hP hD hS hA [1, 0] [2] rfl rfl (by decide +kernel) (by decide +kernel) ?_
        clear hP hD hS
        intro r_26 sc4_28 H locs w_27 hP hD hS
        replace hP : va_P D vwCl [(k0, .inl (cI, 1201, .inl c0)), (k, .inr (11, [.ref k0, .ref k1, .ref k2, .int c3, .ref k4, .ref k5, .ref k6, .ref k7, .ref k8, .int c9, .ref ka, .ref kb, .int cc, .int cd, .int ce, .int cf, .int cg, .int ch, .int ci, .int cj, .int ck, .ref kl, .int cm, .int cn, .ref ko])), (k4, .inl (cI, 6, .inl sc4_28))] H := hP
        replace hD : va_D A [(k0, .inl (cI, 1201, .inl c0)), (k, .inr (11, [.ref k0, .ref k1, .ref k2, .int c3, .ref k4, .ref k5, .ref k6, .ref k7, .ref k8, .int c9, .ref ka, .ref kb, .int cc, .int cd, .int ce, .int cf, .int cg, .int ch, .int ci, .int cj, .int ck, .ref kl, .int cm, .int cn, .ref ko])), (k4, .inl (cI, 6, .inl sc4_28))] := hD
        have hr_26 := w_27
        obtain rfl : r_26 = (-1000002) := hr_26.trans (by decide +kernel)
        refine lv_goto (tgt := 42) hx hb dX11_force_38 (by decide +kernel) ?_
        exact hRet sc4_28 [1, 0, 2] (by (try dsimp only); rw [zl_m1000002]; unfold fcR; (repeat (first | rw [if_pos (by omega)] | rw [if_neg (by omega)])); first | done | exact (by omega)) hP hD (by decide +kernel) rfl hS rfl dX11_force_42
    · have h_16 : a1.toInt < 0 ∨ 2000 < a1.toInt := h_16
      obtain rfl : r_11 = 0 := hr_11.trans (by decide +kernel)
      refine b_if_ne hx hb zl_0 (tgt := 21) dX11_force_11 (by decide +kernel) (fun c_29 => by exfalso; omega) (fun c_29 => ?_)
      refine lv_aload_n hx hb dX11_force_14 rfl (lv_at hl 0 rfl) ?_
      refine lv_ldc (v := (-1000001)) hx hb hown (hT _ mw_1239) dX11_force_15 ?_
      refine kJi (wr := [(k0, .inl (cI, 1201, .inl c0))]) (va_runV (As := [.int (-1000001)]) (rest := []) ⟨hx, hb, hml, hown, hT⟩ (c_X11_findingG l D cI aK aV k k0 k1 k2 k4 k5 k6 k7 k8 ka kb kl ko H.size c3 c9 cc cd ce cf cg ch ci cj ck cm cn c4 (-1000001) (by first | omega | (simp only [zl_m1000001]; first | done | omega) | decide | assumption | rfl) (by first | omega | (simp only [zl_m1000001]; first | done | omega) | decide | assumption | rfl)) (cwV 1 hT (gV_in mw_1243 mw_1240 mw_1242 mw_p3_8 mw_12) rfl rfl rfl (by decide +kernel) ⟨Nat.le_of_ble_eq_true rfl, Nat.le_of_ble_eq_true rfl⟩) (kRecvX (q0 := 0) (ci := 11) hK hP hD hN hXS hS hA rfl rfl [0, 2] rfl (by decide +kernel)) rfl rfl hl.1 rfl (lv_room (Nat.le_of_ble_eq_true rfl)) dX11_force_17 ⟨Nat.le_of_ble_eq_true rfl, Nat.le_of_ble_eq_true rfl⟩) hP hD hS hA [0, 2] [1] rfl rfl (by decide +kernel) (by decide +kernel) ?_
      clear hP hD hS
      intro r_30 sc4_32 H locs w_31 hP hD hS
      replace hP : va_P D vwCl [(k0, .inl (cI, 1201, .inl c0)), (k, .inr (11, [.ref k0, .ref k1, .ref k2, .int c3, .ref k4, .ref k5, .ref k6, .ref k7, .ref k8, .int c9, .ref ka, .ref kb, .int cc, .int cd, .int ce, .int cf, .int cg, .int ch, .int ci, .int cj, .int ck, .ref kl, .int cm, .int cn, .ref ko])), (k4, .inl (cI, 6, .inl sc4_32))] H := hP
      replace hD : va_D A [(k0, .inl (cI, 1201, .inl c0)), (k, .inr (11, [.ref k0, .ref k1, .ref k2, .int c3, .ref k4, .ref k5, .ref k6, .ref k7, .ref k8, .int c9, .ref ka, .ref kb, .int cc, .int cd, .int ce, .int cf, .int cg, .int ch, .int ci, .int cj, .int ck, .ref kl, .int cm, .int cn, .ref ko])), (k4, .inl (cI, 6, .inl sc4_32))] := hD
      have hr_30 := w_31
      obtain rfl : r_30 = (-1000001) := hr_30.trans (by decide +kernel)
      exact hRet sc4_32 [1, 0, 2] (by (try dsimp only); rw [zl_m1000001]; unfold fcR; (repeat (first | rw [if_pos (by omega)] | rw [if_neg (by omega)])); first | done | exact (by omega)) hP hD (by decide +kernel) rfl hS rfl dX11_force_20
  · have h_9 : a0.toInt < 0 ∨ 2 < a0.toInt := h_9
    obtain rfl : r_4 = 0 := hr_4.trans (by decide +kernel)
    refine b_if_eq hx hb zl_0 (tgt := 14) dX11_force_4 (by decide +kernel) (fun c_33 => ?_) (fun c_33 => by exfalso; omega)
    refine lv_aload_n hx hb dX11_force_14 rfl (lv_at hl 0 rfl) ?_
    refine lv_ldc (v := (-1000001)) hx hb hown (hT _ mw_1239) dX11_force_15 ?_
    refine kJi (wr := [(k0, .inl (cI, 1201, .inl c0))]) (va_runV (As := [.int (-1000001)]) (rest := []) ⟨hx, hb, hml, hown, hT⟩ (c_X11_findingG l D cI aK aV k k0 k1 k2 k4 k5 k6 k7 k8 ka kb kl ko H.size c3 c9 cc cd ce cf cg ch ci cj ck cm cn c4 (-1000001) (by first | omega | (simp only [zl_m1000001]; first | done | omega) | decide | assumption | rfl) (by first | omega | (simp only [zl_m1000001]; first | done | omega) | decide | assumption | rfl)) (cwV 1 hT (gV_in mw_1243 mw_1240 mw_1242 mw_p3_8 mw_12) rfl rfl rfl (by decide +kernel) ⟨Nat.le_of_ble_eq_true rfl, Nat.le_of_ble_eq_true rfl⟩) (kRecvX (q0 := 0) (ci := 11) hK hP hD hN hXS hS hA rfl rfl [0, 2] rfl (by decide +kernel)) rfl rfl hl.1 rfl (lv_room (Nat.le_of_ble_eq_true rfl)) dX11_force_17 ⟨Nat.le_of_ble_eq_true rfl, Nat.le_of_ble_eq_true rfl⟩) hP hD hS hA [0, 2] [1] rfl rfl (by decide +kernel) (by decide +kernel) ?_
    clear hP hD hS
    intro r_34 sc4_36 H locs w_35 hP hD hS
    replace hP : va_P D vwCl [(k0, .inl (cI, 1201, .inl c0)), (k, .inr (11, [.ref k0, .ref k1, .ref k2, .int c3, .ref k4, .ref k5, .ref k6, .ref k7, .ref k8, .int c9, .ref ka, .ref kb, .int cc, .int cd, .int ce, .int cf, .int cg, .int ch, .int ci, .int cj, .int ck, .ref kl, .int cm, .int cn, .ref ko])), (k4, .inl (cI, 6, .inl sc4_36))] H := hP
    replace hD : va_D A [(k0, .inl (cI, 1201, .inl c0)), (k, .inr (11, [.ref k0, .ref k1, .ref k2, .int c3, .ref k4, .ref k5, .ref k6, .ref k7, .ref k8, .int c9, .ref ka, .ref kb, .int cc, .int cd, .int ce, .int cf, .int cg, .int ch, .int ci, .int cj, .int ck, .ref kl, .int cm, .int cn, .ref ko])), (k4, .inl (cI, 6, .inl sc4_36))] := hD
    have hr_34 := w_35
    obtain rfl : r_34 = (-1000001) := hr_34.trans (by decide +kernel)
    exact hRet sc4_36 [1, 0, 2] (by (try dsimp only); rw [zl_m1000001]; unfold fcR; (repeat (first | rw [if_pos (by omega)] | rw [if_neg (by omega)])); first | done | exact (by omega)) hP hD (by decide +kernel) rfl hS rfl dX11_force_20
theorem bn_cX11_priceOf_0 : BN cX11_priceOf 0 0x2b41016030055004040053a080b03402a1030701037328182c050b02402a8348788e110580542050e05402a8348182c1e05805361c1000550cd00adc0c16028583cd100adc0c070b0acc207309a40e161b045e00209070562300a700e16038dda8015b874382b := by
  unfold BN; decide +kernel
theorem dX11_priceOf_0 : decode cX11_priceOf 0 = .ok (.aload_n 0, 1) := dR0 (k := 0) (i := 0) bn_cX11_priceOf_0 dop_42 (by decide +kernel)
theorem dX11_priceOf_1 : decode cX11_priceOf 1 = .ok (.iload_n 1, 1) := dR0 (k := 0) (i := 1) bn_cX11_priceOf_0 dop_27 (by decide +kernel)
theorem dX11_priceOf_2 : decode cX11_priceOf 2 = .ok (.iload_n 2, 1) := dR0 (k := 0) (i := 2) bn_cX11_priceOf_0 dop_28 (by decide +kernel)
theorem dX11_priceOf_3 : decode cX11_priceOf 3 = .ok (.invokevirtual 211, 3) := dR2 (f := Instr.invokevirtual) (k := 0) (i := 3) bn_cX11_priceOf_0 dop_182 211 (by decide +kernel)
theorem dX11_priceOf_6 : decode cX11_priceOf 6 = .ok (.istore 6, 2) := dR1 (f := Instr.istore) (k := 0) (i := 6) bn_cX11_priceOf_0 dop_54 6 (by decide +kernel)
theorem dX11_priceOf_8 : decode cX11_priceOf 8 = .ok (.iload 6, 2) := dR1 (f := Instr.iload) (k := 0) (i := 8) bn_cX11_priceOf_0 dop_21 6 (by decide +kernel)
theorem dX11_priceOf_10 : decode cX11_priceOf 10 = .ok (.ifCond .lt 34, 3) := dR2s (f := Instr.ifCond .lt) (k := 0) (i := 10) bn_cX11_priceOf_0 dop_155 34 34 (by decide +kernel)
theorem dX11_priceOf_13 : decode cX11_priceOf 13 = .ok (.aload_n 0, 1) := dR0 (k := 0) (i := 13) bn_cX11_priceOf_0 dop_42 (by decide +kernel)
theorem dX11_priceOf_14 : decode cX11_priceOf 14 = .ok (.iload_n 1, 1) := dR0 (k := 0) (i := 14) bn_cX11_priceOf_0 dop_27 (by decide +kernel)
theorem dX11_priceOf_15 : decode cX11_priceOf 15 = .ok (.sipush 495, 3) := dR2s (f := Instr.sipush) (k := 0) (i := 15) bn_cX11_priceOf_0 dop_17 495 495 (by decide +kernel)
theorem dX11_priceOf_18 : decode cX11_priceOf 18 = .ok (.bipush 53, 2) := dR1s (f := Instr.bipush) (k := 0) (i := 18) bn_cX11_priceOf_0 dop_16 53 53 (by decide +kernel)
theorem dX11_priceOf_20 : decode cX11_priceOf 20 = .ok (.iload 6, 2) := dR1 (f := Instr.iload) (k := 0) (i := 20) bn_cX11_priceOf_0 dop_21 6 (by decide +kernel)
theorem dX11_priceOf_22 : decode cX11_priceOf 22 = .ok (.imul, 1) := dR0 (k := 0) (i := 22) bn_cX11_priceOf_0 dop_104 (by decide +kernel)
theorem dX11_priceOf_23 : decode cX11_priceOf 23 = .ok (.iadd, 1) := dR0 (k := 0) (i := 23) bn_cX11_priceOf_0 dop_96 (by decide +kernel)
theorem dX11_priceOf_24 : decode cX11_priceOf 24 = .ok (.iconst 3, 1) := dR0 (k := 0) (i := 24) bn_cX11_priceOf_0 dop_6 (by decide +kernel)
theorem dX11_priceOf_25 : decode cX11_priceOf 25 = .ok (.iadd, 1) := dR0 (k := 0) (i := 25) bn_cX11_priceOf_0 dop_96 (by decide +kernel)
theorem dX11_priceOf_26 : decode cX11_priceOf 26 = .ok (.aload_n 0, 1) := dR0 (k := 0) (i := 26) bn_cX11_priceOf_0 dop_42 (by decide +kernel)
theorem dX11_priceOf_27 : decode cX11_priceOf 27 = .ok (.iload 6, 2) := dR1 (f := Instr.iload) (k := 0) (i := 27) bn_cX11_priceOf_0 dop_21 6 (by decide +kernel)
theorem dX11_priceOf_29 : decode cX11_priceOf 29 = .ok (.iconst 2, 1) := dR0 (k := 0) (i := 29) bn_cX11_priceOf_0 dop_5 (by decide +kernel)
theorem dX11_priceOf_30 : decode cX11_priceOf 30 = .ok (.invokevirtual 208, 3) := dR2 (f := Instr.invokevirtual) (k := 0) (i := 30) bn_cX11_priceOf_0 dop_182 208 (by decide +kernel)
theorem dX11_priceOf_33 : decode cX11_priceOf 33 = .ok (.iload_n 3, 1) := dR0 (k := 0) (i := 33) bn_cX11_priceOf_0 dop_29 (by decide +kernel)
theorem dX11_priceOf_34 : decode cX11_priceOf 34 = .ok (.iload 4, 2) := dR1 (f := Instr.iload) (k := 0) (i := 34) bn_cX11_priceOf_0 dop_21 4 (by decide +kernel)
theorem dX11_priceOf_36 : decode cX11_priceOf 36 = .ok (.iload 5, 2) := dR1 (f := Instr.iload) (k := 0) (i := 36) bn_cX11_priceOf_0 dop_21 5 (by decide +kernel)
theorem dX11_priceOf_38 : decode cX11_priceOf 38 = .ok (.invokevirtual 204, 3) := dR2 (f := Instr.invokevirtual) (k := 0) (i := 38) bn_cX11_priceOf_0 dop_182 204 (by decide +kernel)
theorem dX11_priceOf_41 : decode cX11_priceOf 41 = .ok (.goto 31, 3) := dR2s (f := Instr.goto) (k := 0) (i := 41) bn_cX11_priceOf_0 dop_167 31 31 (by decide +kernel)
theorem dX11_priceOf_44 : decode cX11_priceOf 44 = .ok (.iload_n 1, 1) := dR0 (k := 0) (i := 44) bn_cX11_priceOf_0 dop_27 (by decide +kernel)
theorem dX11_priceOf_45 : decode cX11_priceOf 45 = .ok (.ifCond .ne 10, 3) := dR2s (f := Instr.ifCond .ne) (k := 0) (i := 45) bn_cX11_priceOf_0 dop_154 10 10 (by decide +kernel)
theorem dX11_priceOf_48 : decode cX11_priceOf 48 = .ok (.iload_n 3, 1) := dR0 (k := 0) (i := 48) bn_cX11_priceOf_0 dop_29 (by decide +kernel)
theorem dX11_priceOf_49 : decode cX11_priceOf 49 = .ok (.iload 5, 2) := dR1 (f := Instr.iload) (k := 0) (i := 49) bn_cX11_priceOf_0 dop_21 5 (by decide +kernel)
theorem dX11_priceOf_51 : decode cX11_priceOf 51 = .ok (.imul, 1) := dR0 (k := 0) (i := 51) bn_cX11_priceOf_0 dop_104 (by decide +kernel)
theorem dX11_priceOf_52 : decode cX11_priceOf 52 = .ok (.goto 20, 3) := dR2s (f := Instr.goto) (k := 0) (i := 52) bn_cX11_priceOf_0 dop_167 20 20 (by decide +kernel)
theorem dX11_priceOf_55 : decode cX11_priceOf 55 = .ok (.iload_n 1, 1) := dR0 (k := 0) (i := 55) bn_cX11_priceOf_0 dop_27 (by decide +kernel)
theorem dX11_priceOf_56 : decode cX11_priceOf 56 = .ok (.iconst 1, 1) := dR0 (k := 0) (i := 56) bn_cX11_priceOf_0 dop_4 (by decide +kernel)
theorem dX11_priceOf_57 : decode cX11_priceOf 57 = .ok (.if_icmp .ne 10, 3) := dR2s (f := Instr.if_icmp .ne) (k := 0) (i := 57) bn_cX11_priceOf_0 dop_160 10 10 (by decide +kernel)
theorem dX11_priceOf_60 : decode cX11_priceOf 60 = .ok (.bipush 70, 2) := dR1s (f := Instr.bipush) (k := 0) (i := 60) bn_cX11_priceOf_0 dop_16 70 70 (by decide +kernel)
theorem dX11_priceOf_62 : decode cX11_priceOf 62 = .ok (.iload_n 3, 1) := dR0 (k := 0) (i := 62) bn_cX11_priceOf_0 dop_29 (by decide +kernel)
theorem dX11_priceOf_63 : decode cX11_priceOf 63 = .ok (.imul, 1) := dR0 (k := 0) (i := 63) bn_cX11_priceOf_0 dop_104 (by decide +kernel)
theorem dX11_priceOf_64 : decode cX11_priceOf 64 = .ok (.goto 8, 3) := dR2s (f := Instr.goto) (k := 0) (i := 64) bn_cX11_priceOf_0 dop_167 8 8 (by decide +kernel)
theorem dX11_priceOf_67 : decode cX11_priceOf 67 = .ok (.iload 4, 2) := dR1 (f := Instr.iload) (k := 0) (i := 67) bn_cX11_priceOf_0 dop_21 4 (by decide +kernel)
theorem dX11_priceOf_69 : decode cX11_priceOf 69 = .ok (.iload 5, 2) := dR1 (f := Instr.iload) (k := 0) (i := 69) bn_cX11_priceOf_0 dop_21 5 (by decide +kernel)
theorem dX11_priceOf_71 : decode cX11_priceOf 71 = .ok (.isub, 1) := dR0 (k := 0) (i := 71) bn_cX11_priceOf_0 dop_100 (by decide +kernel)
theorem dX11_priceOf_72 : decode cX11_priceOf 72 = .ok (.istore 7, 2) := dR1 (f := Instr.istore) (k := 0) (i := 72) bn_cX11_priceOf_0 dop_54 7 (by decide +kernel)
theorem dX11_priceOf_74 : decode cX11_priceOf 74 = .ok (.iload_n 1, 1) := dR0 (k := 0) (i := 74) bn_cX11_priceOf_0 dop_27 (by decide +kernel)
theorem dX11_priceOf_75 : decode cX11_priceOf 75 = .ok (.iconst 2, 1) := dR0 (k := 0) (i := 75) bn_cX11_priceOf_0 dop_5 (by decide +kernel)
theorem dX11_priceOf_76 : decode cX11_priceOf 76 = .ok (.if_icmp .ne 12, 3) := dR2s (f := Instr.if_icmp .ne) (k := 0) (i := 76) bn_cX11_priceOf_0 dop_160 12 12 (by decide +kernel)
theorem dX11_priceOf_79 : decode cX11_priceOf 79 = .ok (.iload 7, 2) := dR1 (f := Instr.iload) (k := 0) (i := 79) bn_cX11_priceOf_0 dop_21 7 (by decide +kernel)
theorem dX11_priceOf_81 : decode cX11_priceOf 81 = .ok (.ifCond .ge 7, 3) := dR2s (f := Instr.ifCond .ge) (k := 0) (i := 81) bn_cX11_priceOf_0 dop_156 7 7 (by decide +kernel)
theorem dX11_priceOf_84 : decode cX11_priceOf 84 = .ok (.iconst 0, 1) := dR0 (k := 0) (i := 84) bn_cX11_priceOf_0 dop_3 (by decide +kernel)
theorem dX11_priceOf_85 : decode cX11_priceOf 85 = .ok (.goto 5, 3) := dR2s (f := Instr.goto) (k := 0) (i := 85) bn_cX11_priceOf_0 dop_167 5 5 (by decide +kernel)
theorem dX11_priceOf_88 : decode cX11_priceOf 88 = .ok (.iload 7, 2) := dR1 (f := Instr.iload) (k := 0) (i := 88) bn_cX11_priceOf_0 dop_21 7 (by decide +kernel)
theorem dX11_priceOf_90 : decode cX11_priceOf 90 = .ok (.ireturn, 1) := dR0 (k := 0) (i := 90) bn_cX11_priceOf_0 dop_172 (by decide +kernel)
set_option maxHeartbeats 4000000 in
set_option maxRecDepth 100000 in
theorem c_X11_priceOfG (l : Launch) (D : va_G) (cI : ClassId) (aK aV : Nat → Nat) (k k0 k1 k2 k4 k5 k6 k7 k8 ka kb kl ko : Nat) (sz : Nat) (c3 : Int32) (c9 : Int32) (cc : Int32) (cd : Int32) (ce : Int32) (cf : Int32) (cg : Int32) (ch : Int32) (ci : Int32) (cj : Int32) (ck : Int32) (cm : Int32) (cn : Int32) (c0 : Nat → Int32) (a0 : Int32) (a1 : Int32) (a2 : Int32) (a3 : Int32) (a4 : Int32) (pre0 : SB c0) (pre1 : 0 ≤ a0.toInt) (pre2 : a0.toInt ≤ 2) : Met l yX11_priceOf (gW yX11_priceOf cX11_priceOf 8 (some .int)) ({ frames := 120, cells := 0, slots := 0, locals := 8308 } : Room) (kPreX D cI aK aV [.ref k, .int a0, .int a1, .int a2, .int a3, .int a4] [(k, .inr (11, [.ref k0, .ref k1, .ref k2, .int c3, .ref k4, .ref k5, .ref k6, .ref k7, .ref k8, .int c9, .ref ka, .ref kb, .int cc, .int cd, .int ce, .int cf, .int cg, .int ch, .int ci, .int cj, .int ck, .ref kl, .int cm, .int cn, .ref ko])), (k0, .inl (cI, 1201, .inl c0))] sz) (va_Qi (fun (r : Int32) (u : Int32 × Int32 × Int32 × Int32 × Int32 × Int32 × Int32 × Int32 × Int32) => PRV (fun j => c0 (495 + 53 * j)) (fun j => c0 (496 + 53 * j)) (fun j => tG c0 (498 + 53 * j) (c0 (497 + 53 * j))) (fun j => c0 (497 + 53 * j)) (c0 3).toInt.toNat a1 a0 a2 a3 a4 r) (fun u t => kWd D cI (va_A [(k, .inr (11, [.ref k0, .ref k1, .ref k2, .int c3, .ref k4, .ref k5, .ref k6, .ref k7, .ref k8, .int c9, .ref ka, .ref kb, .int cc, .int cd, .int ce, .int cf, .int cg, .int ch, .int ci, .int cj, .int ck, .ref kl, .int cm, .int cn, .ref ko])), (k0, .inl (cI, 1201, .inl c0))] sz) [(k, .inr (11, [.ref k0, .ref k1, .ref k2, .int c3, .ref k4, .ref k5, .ref k6, .ref k7, .ref k8, .int c9, .ref ka, .ref kb, .int u.1, .int u.2.1, .int u.2.2.1, .int u.2.2.2.1, .int u.2.2.2.2.1, .int u.2.2.2.2.2.1, .int u.2.2.2.2.2.2.1, .int u.2.2.2.2.2.2.2.1, .int u.2.2.2.2.2.2.2.2, .ref kl, .int cm, .int cn, .ref ko])), (k0, .inl (cI, 1201, .inl c0))] t) (va_A [(k, .inr (11, [.ref k0, .ref k1, .ref k2, .int c3, .ref k4, .ref k5, .ref k6, .ref k7, .ref k8, .int c9, .ref ka, .ref kb, .int cc, .int cd, .int ce, .int cf, .int cg, .int ch, .int ci, .int cj, .int ck, .ref kl, .int cm, .int cn, .ref ko])), (k0, .inl (cI, 1201, .inl c0))] sz)) 0 0 (va_A [(k, .inr (11, [.ref k0, .ref k1, .ref k2, .int c3, .ref k4, .ref k5, .ref k6, .ref k7, .ref k8, .int c9, .ref ka, .ref kb, .int cc, .int cd, .int ce, .int cf, .int cg, .int ch, .int ci, .int cj, .int ck, .ref kl, .int cm, .int cn, .ref ko])), (k0, .inl (cI, 1201, .inl c0))] sz) := by
  refine kMetIX (own := RX11) (by decide +kernel) rfl (Nat.le_of_ble_eq_true rfl) ?_
  intro p e s m args below meth c hx hb hT hown hname hml A Q hK hP hD hS hA hN hXS hRet ls hl
  have hl : lv_has ls 8 [(0, .ref k), (1, .int a0), (2, .int a1), (3, .int a2), (4, .int a3), (5, .int a4)] := hl
  have lo_a0 := k_lo a0
  have hi_a0 := k_hi a0
  have lo_a1 := k_lo a1
  have hi_a1 := k_hi a1
  have lo_a2 := k_lo a2
  have hi_a2 := k_hi a2
  have lo_a3 := k_lo a3
  have hi_a3 := k_hi a3
  have lo_a4 := k_lo a4
  have hi_a4 := k_hi a4
  have lo_ci := k_lo ci
  have hi_ci := k_hi ci
  have pre0 : SB c0 := pre0
  have nb_1 : 0 ≤ (c0 0).toInt ∧ (c0 0).toInt ≤ 2000 := SB.n0 pre0
  have nb_2 : 0 ≤ (c0 1).toInt ∧ (c0 1).toInt ≤ 60 := SB.n1 pre0
  have nb_3 : 0 ≤ (c0 2).toInt ∧ (c0 2).toInt ≤ 4 := SB.n2 pre0
  refine lv_aload_n hx hb dX11_priceOf_0 rfl (lv_at hl 0 rfl) ?_
  refine lv_iload_n hx hb dX11_priceOf_1 rfl (lv_at hl 1 rfl) ?_
  refine lv_iload_n hx hb dX11_priceOf_2 rfl (lv_at hl 2 rfl) ?_
  refine kJi (wr := []) (va_runV (As := [.int a0, .int a1]) (rest := []) ⟨hx, hb, hml, hown, hT⟩ (c_X11_inForceG l D cI aK aV k k0 k1 k2 k4 k5 k6 k7 k8 ka kb kl ko s.heap.size c3 c9 cc cd ce cf cg ch ci cj ck cm cn c0 a0 a1 pre0) (cwV 2 hT (gV_in mw_1303 mw_1300 mw_1302 mw_p4_0 mw_12) rfl rfl rfl (by decide +kernel) ⟨Nat.le_of_ble_eq_true rfl, Nat.le_of_ble_eq_true rfl⟩) (kRecvX (q0 := 0) (ci := 11) hK hP hD hN hXS hS hA rfl rfl [0, 1] rfl (by decide +kernel)) rfl rfl hl.1 rfl (lv_room (Nat.le_of_ble_eq_true rfl)) dX11_priceOf_3 ⟨Nat.le_of_ble_eq_true rfl, Nat.le_of_ble_eq_true rfl⟩) hP hD hS hA [0, 1] [] rfl rfl (by decide +kernel) (by decide +kernel) ?_
  clear hP hD hS
  intro r_4 u_6 H locs w_5 hP hD hS
  replace hP : va_P D vwCl [(k, .inr (11, [.ref k0, .ref k1, .ref k2, .int c3, .ref k4, .ref k5, .ref k6, .ref k7, .ref k8, .int c9, .ref ka, .ref kb, .int cc, .int cd, .int ce, .int cf, .int cg, .int ch, .int ci, .int cj, .int ck, .ref kl, .int cm, .int cn, .ref ko])), (k0, .inl (cI, 1201, .inl c0))] H := hP
  replace hD : va_D A [(k, .inr (11, [.ref k0, .ref k1, .ref k2, .int c3, .ref k4, .ref k5, .ref k6, .ref k7, .ref k8, .int c9, .ref ka, .ref kb, .int cc, .int cd, .int ce, .int cf, .int cg, .int ch, .int ci, .int cj, .int ck, .ref kl, .int cm, .int cn, .ref ko])), (k0, .inl (cI, 1201, .inl c0))] := hD
  obtain ⟨h_7, h_8, h_9, h_10⟩ := w_5
  have h_7 : -1 ≤ r_4.toInt := h_7
  have h_8 : r_4.toInt ≤ 11 := h_8
  have h_9 : r_4.toInt + 1 ≤ (c0 3).toInt := h_9
  have h_10 : r_4.toInt = inF (fun j => c0 (495 + 53 * j)) (fun j => c0 (496 + 53 * j)) a0 a1 (c0 3).toInt.toNat := h_10
  have h_10 : r_4.toInt = inF (fun j => c0 (495 + 53 * j)) (fun j => c0 (496 + 53 * j)) a0 a1 (c0 3).toInt.toNat := h_10
  have lo_r_4 := k_lo r_4
  have hi_r_4 := k_hi r_4
  refine lv_istore (lv' := [(6, .int r_4), (0, .ref k), (1, .int a0), (2, .int a1), (3, .int a2), (4, .int a3), (5, .int a4)]) hx hb dX11_priceOf_6 hl (by decide +kernel) rfl ?_
  clear hl
  intro ls hl
  refine lv_iload hx hb dX11_priceOf_8 (lv_at hl 0 rfl) ?_
  refine b_if_lt hx hb rfl (tgt := 44) dX11_priceOf_10 (by decide +kernel) (fun c_11 => ?_) (fun c_11 => ?_)
  · refine lv_iload_n hx hb dX11_priceOf_44 rfl (lv_at hl 2 rfl) ?_
    refine b_if_ne hx hb rfl (tgt := 55) dX11_priceOf_45 (by decide +kernel) (fun c_12 => ?_) (fun c_12 => ?_)
    · refine lv_iload_n hx hb dX11_priceOf_55 rfl (lv_at hl 2 rfl) ?_
      refine lv_iconst (v := 1) hx hb dX11_priceOf_56 (by decide +kernel) ?_
      refine b_icmp_ne hx hb rfl zl_1 (tgt := 67) dX11_priceOf_57 (by decide +kernel) (fun c_13 => ?_) (fun c_13 => ?_)
      · refine lv_iload hx hb dX11_priceOf_67 (lv_at hl 5 rfl) ?_
        refine lv_iload hx hb dX11_priceOf_69 (lv_at hl 6 rfl) ?_
        refine lv_isub hx hb dX11_priceOf_71 ?_
        refine lv_topi (fun v_14 ev_14 => ?_)
        have lo_v_14 := k_lo v_14
        have hi_v_14 := k_hi v_14
        refine lv_istore (lv' := [(7, .int v_14), (6, .int r_4), (0, .ref k), (1, .int a0), (2, .int a1), (3, .int a2), (4, .int a3), (5, .int a4)]) hx hb dX11_priceOf_72 hl (by decide +kernel) rfl ?_
        clear hl
        intro ls hl
        refine lv_iload_n hx hb dX11_priceOf_74 rfl (lv_at hl 3 rfl) ?_
        refine lv_iconst (v := 2) hx hb dX11_priceOf_75 (by decide +kernel) ?_
        refine b_icmp_ne hx hb rfl zl_2 (tgt := 88) dX11_priceOf_76 (by decide +kernel) (fun c_15 => by exfalso; omega) (fun c_15 => ?_)
        refine lv_iload hx hb dX11_priceOf_79 (lv_at hl 0 rfl) ?_
        refine b_if_ge hx hb rfl (tgt := 88) dX11_priceOf_81 (by decide +kernel) (fun c_16 => ?_) (fun c_16 => ?_)
        · refine lv_iload hx hb dX11_priceOf_88 (lv_at hl 0 rfl) ?_
          exact hRet (cc, cd, ce, cf, cg, ch, ci, cj, ck) [0, 1] (by (try dsimp only); exact (Or.inl ⟨by omega, (by unfold tx_def; rw [if_neg (by omega), if_neg (by omega), ← ev_14]; (repeat (first | rw [if_pos (by omega)] | rw [if_neg (by omega)])))⟩)) hP hD (by decide +kernel) rfl hS rfl dX11_priceOf_90
        · refine lv_iconst (v := 0) hx hb dX11_priceOf_84 (by decide +kernel) ?_
          refine lv_goto (tgt := 90) hx hb dX11_priceOf_85 (by decide +kernel) ?_
          exact hRet (cc, cd, ce, cf, cg, ch, ci, cj, ck) [0, 1] (by (try dsimp only); exact (Or.inl ⟨by omega, (by unfold tx_def; rw [if_neg (by omega), if_neg (by omega), ← ev_14]; (repeat (first | rw [if_pos (by omega)] | rw [if_neg (by omega)])))⟩)) hP hD (by decide +kernel) rfl hS rfl dX11_priceOf_90
      · refine lv_bipush (v := 70) hx hb dX11_priceOf_60 (by decide +kernel) ?_
        refine lv_iload_n hx hb dX11_priceOf_62 rfl (lv_at hl 4 rfl) ?_
        refine lv_imul hx hb dX11_priceOf_63 ?_
        refine lv_topi (fun v_17 ev_17 => ?_)
        have lo_v_17 := k_lo v_17
        have hi_v_17 := k_hi v_17
        refine lv_goto (tgt := 72) hx hb dX11_priceOf_64 (by decide +kernel) ?_
        refine lv_istore (lv' := [(7, .int v_17), (6, .int r_4), (0, .ref k), (1, .int a0), (2, .int a1), (3, .int a2), (4, .int a3), (5, .int a4)]) hx hb dX11_priceOf_72 hl (by decide +kernel) rfl ?_
        clear hl
        intro ls hl
        refine lv_iload_n hx hb dX11_priceOf_74 rfl (lv_at hl 3 rfl) ?_
        refine lv_iconst (v := 2) hx hb dX11_priceOf_75 (by decide +kernel) ?_
        refine b_icmp_ne hx hb rfl zl_2 (tgt := 88) dX11_priceOf_76 (by decide +kernel) (fun c_18 => ?_) (fun c_18 => by exfalso; omega)
        refine lv_iload hx hb dX11_priceOf_88 (lv_at hl 0 rfl) ?_
        exact hRet (cc, cd, ce, cf, cg, ch, ci, cj, ck) [0, 1] (by (try dsimp only); exact (Or.inl ⟨by omega, (by unfold tx_def; (repeat (first | rw [if_pos (by omega)] | rw [if_neg (by omega)])); first | done | exact ev_17)⟩)) hP hD (by decide +kernel) rfl hS rfl dX11_priceOf_90
    · refine lv_iload_n hx hb dX11_priceOf_48 rfl (lv_at hl 4 rfl) ?_
      refine lv_iload hx hb dX11_priceOf_49 (lv_at hl 6 rfl) ?_
      refine lv_imul hx hb dX11_priceOf_51 ?_
      refine lv_topi (fun v_19 ev_19 => ?_)
      have lo_v_19 := k_lo v_19
      have hi_v_19 := k_hi v_19
      refine lv_goto (tgt := 72) hx hb dX11_priceOf_52 (by decide +kernel) ?_
      refine lv_istore (lv' := [(7, .int v_19), (6, .int r_4), (0, .ref k), (1, .int a0), (2, .int a1), (3, .int a2), (4, .int a3), (5, .int a4)]) hx hb dX11_priceOf_72 hl (by decide +kernel) rfl ?_
      clear hl
      intro ls hl
      refine lv_iload_n hx hb dX11_priceOf_74 rfl (lv_at hl 3 rfl) ?_
      refine lv_iconst (v := 2) hx hb dX11_priceOf_75 (by decide +kernel) ?_
      refine b_icmp_ne hx hb rfl zl_2 (tgt := 88) dX11_priceOf_76 (by decide +kernel) (fun c_20 => ?_) (fun c_20 => by exfalso; omega)
      refine lv_iload hx hb dX11_priceOf_88 (lv_at hl 0 rfl) ?_
      exact hRet (cc, cd, ce, cf, cg, ch, ci, cj, ck) [0, 1] (by (try dsimp only); exact (Or.inl ⟨by omega, (by unfold tx_def; (repeat (first | rw [if_pos (by omega)] | rw [if_neg (by omega)])); first | done | exact ev_19)⟩)) hP hD (by decide +kernel) rfl hS rfl dX11_priceOf_90
  · refine lv_aload_n hx hb dX11_priceOf_13 rfl (lv_at hl 1 rfl) ?_
    refine lv_iload_n hx hb dX11_priceOf_14 rfl (lv_at hl 2 rfl) ?_
    refine lv_sipush (v := 495) hx hb dX11_priceOf_15 (by decide +kernel) ?_
    refine lv_bipush (v := 53) hx hb dX11_priceOf_18 (by decide +kernel) ?_
    refine lv_iload hx hb dX11_priceOf_20 (lv_at hl 0 rfl) ?_
    refine lv_imul hx hb dX11_priceOf_22 ?_
    refine lv_topi (fun v_21 ev_21 => ?_)
    have tv_21 : v_21.toInt = 53 * r_4.toInt := by rw [ev_21]; exact k_mulv zl_53 rfl (by omega) (by omega)
    refine lv_iadd hx hb dX11_priceOf_23 ?_
    refine lv_topi (fun v_22 ev_22 => ?_)
    have tv_22 : v_22.toInt = 495 + v_21.toInt := by rw [ev_22]; exact k_addv zl_495 rfl (by omega) (by omega)
    refine lv_iconst (v := 3) hx hb dX11_priceOf_24 (by decide +kernel) ?_
    refine lv_iadd hx hb dX11_priceOf_25 ?_
    refine lv_topi (fun v_23 ev_23 => ?_)
    have tv_23 : v_23.toInt = v_22.toInt + 3 := by rw [ev_23]; exact k_addv rfl zl_3 (by omega) (by omega)
    refine lv_aload_n hx hb dX11_priceOf_26 rfl (lv_at hl 1 rfl) ?_
    refine lv_iload hx hb dX11_priceOf_27 (lv_at hl 0 rfl) ?_
    refine lv_iconst (v := 2) hx hb dX11_priceOf_29 (by decide +kernel) ?_
    refine kJi (wr := []) (va_runV (As := [.int r_4, .int 2]) (rest := [.int v_23, .int a0, .ref k]) ⟨hx, hb, hml, hown, hT⟩ (c_X11_rateIsG2 l D cI aK aV k k0 k1 k2 k4 k5 k6 k7 k8 ka kb kl ko H.size c3 c9 cc cd ce cf cg ch ci cj ck cm cn c0 r_4 2 pre0 (by first | omega | (simp only [zl_2]; first | done | omega) | decide | assumption | rfl) (by first | omega | (simp only [zl_2]; first | done | omega) | decide | assumption | rfl) (by first | omega | (simp only [zl_2]; first | done | omega) | decide | assumption | rfl)) (cwV 2 hT (gV_in mw_1307 mw_1304 mw_1306 mw_p4_1 mw_12) rfl rfl rfl (by decide +kernel) ⟨Nat.le_of_ble_eq_true rfl, Nat.le_of_ble_eq_true rfl⟩) (kRecvX (q0 := 0) (ci := 11) hK hP hD hN hXS hS hA rfl rfl [0, 1] rfl (by decide +kernel)) rfl rfl hl.1 rfl (lv_room (Nat.le_of_ble_eq_true rfl)) dX11_priceOf_30 ⟨Nat.le_of_ble_eq_true rfl, Nat.le_of_ble_eq_true rfl⟩) hP hD hS hA [0, 1] [] rfl rfl (by decide +kernel) (by decide +kernel) ?_
    clear hP hD hS
    intro r_24 u_26 H locs w_25 hP hD hS
    replace hP : va_P D vwCl [(k, .inr (11, [.ref k0, .ref k1, .ref k2, .int c3, .ref k4, .ref k5, .ref k6, .ref k7, .ref k8, .int c9, .ref ka, .ref kb, .int cc, .int cd, .int ce, .int cf, .int cg, .int ch, .int ci, .int cj, .int ck, .ref kl, .int cm, .int cn, .ref ko])), (k0, .inl (cI, 1201, .inl c0))] H := hP
    replace hD : va_D A [(k, .inr (11, [.ref k0, .ref k1, .ref k2, .int c3, .ref k4, .ref k5, .ref k6, .ref k7, .ref k8, .int c9, .ref ka, .ref kb, .int cc, .int cd, .int ce, .int cf, .int cg, .int ch, .int ci, .int cj, .int ck, .ref kl, .int cm, .int cn, .ref ko])), (k0, .inl (cI, 1201, .inl c0))] := hD
    obtain ⟨h_27, h_28, h_29⟩ := w_25
    try simp only [zl_2] at h_27
    have h_27 : 0 ≤ r_24.toInt := h_27
    try simp only [zl_2] at h_28
    have h_28 : r_24.toInt ≤ 50 := h_28
    try simp only [zl_2] at h_29
    have h_29 : r_24 = c0 (497 + 53 * r_4.toInt.toNat) := h_29
    have h_29 : r_24 = c0 (497 + 53 * r_4.toInt.toNat) := h_29
    have t_30 : r_24.toInt = (c0 (497 + 53 * r_4.toInt.toNat)).toInt := by rw [h_29]
    have lo_r_24 := k_lo r_24
    have hi_r_24 := k_hi r_24
    refine lv_iload_n hx hb dX11_priceOf_33 rfl (lv_at hl 4 rfl) ?_
    refine lv_iload hx hb dX11_priceOf_34 (lv_at hl 5 rfl) ?_
    refine lv_iload hx hb dX11_priceOf_36 (lv_at hl 6 rfl) ?_
    refine kJi (wr := []) (va_runV (As := [.int a0, .int v_23, .int r_24, .int a2, .int a3, .int a4]) (rest := []) ⟨hx, hb, hml, hown, hT⟩ (c_X11_goesOverG l D cI aK aV k k0 k1 k2 k4 k5 k6 k7 k8 ka kb kl ko H.size c3 c9 cc cd ce cf cg ch ci cj ck cm cn c0 a0 v_23 r_24 a2 a3 a4 (by first | omega | decide | assumption | rfl) (by first | omega | decide | assumption | rfl) (by first | omega | decide | assumption | rfl) (by first | omega | decide | assumption | rfl)) (cwV 6 hT (gV_in mw_1311 mw_1308 mw_1310 mw_p4_2 mw_12) rfl rfl rfl (by decide +kernel) ⟨Nat.le_of_ble_eq_true rfl, Nat.le_of_ble_eq_true rfl⟩) (kRecvX (q0 := 0) (ci := 11) hK hP hD hN hXS hS hA rfl rfl [0, 1] rfl (by decide +kernel)) rfl rfl hl.1 rfl (lv_room (Nat.le_of_ble_eq_true rfl)) dX11_priceOf_38 ⟨Nat.le_of_ble_eq_true rfl, Nat.le_of_ble_eq_true rfl⟩) hP hD hS hA [0, 1] [] rfl rfl (by decide +kernel) (by decide +kernel) ?_
    clear hP hD hS
    intro r_31 u_42 H locs w_32 hP hD hS
    obtain ⟨scc_33, scd_34, sce_35, scf_36, scg_37, sch_38, sci_39, scj_40, sck_41⟩ := u_42
    replace hP : va_P D vwCl [(k, .inr (11, [.ref k0, .ref k1, .ref k2, .int c3, .ref k4, .ref k5, .ref k6, .ref k7, .ref k8, .int c9, .ref ka, .ref kb, .int scc_33, .int scd_34, .int sce_35, .int scf_36, .int scg_37, .int sch_38, .int sci_39, .int scj_40, .int sck_41, .ref kl, .int cm, .int cn, .ref ko])), (k0, .inl (cI, 1201, .inl c0))] H := hP
    replace hD : va_D A [(k, .inr (11, [.ref k0, .ref k1, .ref k2, .int c3, .ref k4, .ref k5, .ref k6, .ref k7, .ref k8, .int c9, .ref ka, .ref kb, .int scc_33, .int scd_34, .int sce_35, .int scf_36, .int scg_37, .int sch_38, .int sci_39, .int scj_40, .int sck_41, .ref kl, .int cm, .int cn, .ref ko])), (k0, .inl (cI, 1201, .inl c0))] := hD
    have lo_scd_34 := k_lo scd_34
    have hi_scd_34 := k_hi scd_34
    have lo_sce_35 := k_lo sce_35
    have hi_sce_35 := k_hi sce_35
    have lo_scf_36 := k_lo scf_36
    have hi_scf_36 := k_hi scf_36
    obtain ⟨h_43, h_44, h_45, h_46⟩ := w_32
    have h_43 : 0 ≤ scd_34.toInt := h_43
    have h_44 : scd_34.toInt ≤ r_24.toInt := h_44
    have h_45 : sce_35.toInt = r_24.toInt := h_45
    have h_46 : TXQ (tG c0 v_23.toInt.toNat r_24) a0 a2 a3 a4 0 0 0 0 0 r_31 scd_34.toInt scf_36 := h_46
    have h_46 : TXQ (tG c0 v_23.toInt.toNat r_24) a0 a2 a3 a4 0 0 0 0 0 r_31 scd_34.toInt scf_36 := h_46
    have lo_r_31 := k_lo r_31
    have hi_r_31 := k_hi r_31
    refine lv_goto (tgt := 72) hx hb dX11_priceOf_41 (by decide +kernel) ?_
    refine lv_istore (lv' := [(7, .int r_31), (6, .int r_4), (0, .ref k), (1, .int a0), (2, .int a1), (3, .int a2), (4, .int a3), (5, .int a4)]) hx hb dX11_priceOf_72 hl (by decide +kernel) rfl ?_
    clear hl
    intro ls hl
    refine lv_iload_n hx hb dX11_priceOf_74 rfl (lv_at hl 3 rfl) ?_
    refine lv_iconst (v := 2) hx hb dX11_priceOf_75 (by decide +kernel) ?_
    refine b_icmp_ne hx hb rfl zl_2 (tgt := 88) dX11_priceOf_76 (by decide +kernel) (fun c_47 => ?_) (fun c_47 => ?_)
    · refine lv_iload hx hb dX11_priceOf_88 (lv_at hl 0 rfl) ?_
      exact hRet (scc_33, scd_34, sce_35, scf_36, scg_37, sch_38, sci_39, scj_40, sck_41) [0, 1] (by (try dsimp only); exact (prv_ref (rr := r_4) (b0 := scf_36) h_10 (by omega) h_29 h_46 ⟨by omega, by omega⟩ (by unfold tx_post; (repeat (first | rw [if_pos (by omega)] | rw [if_neg (by omega)]))))) hP hD (by decide +kernel) rfl hS rfl dX11_priceOf_90
    · refine lv_iload hx hb dX11_priceOf_79 (lv_at hl 0 rfl) ?_
      refine b_if_ge hx hb rfl (tgt := 88) dX11_priceOf_81 (by decide +kernel) (fun c_48 => ?_) (fun c_48 => ?_)
      · refine lv_iload hx hb dX11_priceOf_88 (lv_at hl 0 rfl) ?_
        exact hRet (scc_33, scd_34, sce_35, scf_36, scg_37, sch_38, sci_39, scj_40, sck_41) [0, 1] (by (try dsimp only); exact (prv_ref (rr := r_4) (b0 := scf_36) h_10 (by omega) h_29 h_46 ⟨by omega, by omega⟩ (by unfold tx_post; (repeat (first | rw [if_pos (by omega)] | rw [if_neg (by omega)]))))) hP hD (by decide +kernel) rfl hS rfl dX11_priceOf_90
      · refine lv_iconst (v := 0) hx hb dX11_priceOf_84 (by decide +kernel) ?_
        refine lv_goto (tgt := 90) hx hb dX11_priceOf_85 (by decide +kernel) ?_
        exact hRet (scc_33, scd_34, sce_35, scf_36, scg_37, sch_38, sci_39, scj_40, sck_41) [0, 1] (by (try dsimp only); exact (prv_ref (rr := r_4) (b0 := scf_36) h_10 (by omega) h_29 h_46 ⟨by omega, by omega⟩ (by unfold tx_post; (repeat (first | rw [if_pos (by omega)] | rw [if_neg (by omega)]))))) hP hD (by decide +kernel) rfl hS rfl dX11_priceOf_90
theorem bn_cX11_price_0 : BN cX11_price 0 0x5690402b72004c560a00aa0b6015b8142c1e0e8bc080a00ad4561c15858029a63805721c := by
  unfold BN; decide +kernel
theorem dX11_price_0 : decode cX11_price 0 = .ok (.iload_n 1, 1) := dR0 (k := 0) (i := 0) bn_cX11_price_0 dop_27 (by decide +kernel)
theorem dX11_price_1 : decode cX11_price 1 = .ok (.invokestatic 198, 3) := dR2 (f := Instr.invokestatic) (k := 0) (i := 1) bn_cX11_price_0 dop_184 198 (by decide +kernel)
theorem dX11_price_4 : decode cX11_price 4 = .ok (.ifCond .eq 21, 3) := dR2s (f := Instr.ifCond .eq) (k := 0) (i := 4) bn_cX11_price_0 dop_153 21 21 (by decide +kernel)
theorem dX11_price_7 : decode cX11_price 7 = .ok (.aload_n 0, 1) := dR0 (k := 0) (i := 7) bn_cX11_price_0 dop_42 (by decide +kernel)
theorem dX11_price_8 : decode cX11_price 8 = .ok (.iload_n 1, 1) := dR0 (k := 0) (i := 8) bn_cX11_price_0 dop_27 (by decide +kernel)
theorem dX11_price_9 : decode cX11_price 9 = .ok (.aload_n 0, 1) := dR0 (k := 0) (i := 9) bn_cX11_price_0 dop_42 (by decide +kernel)
theorem dX11_price_10 : decode cX11_price 10 = .ok (.getfield 9, 3) := dR2 (f := Instr.getfield) (k := 0) (i := 10) bn_cX11_price_0 dop_180 9 (by decide +kernel)
theorem dX11_price_13 : decode cX11_price 13 = .ok (.iconst 0, 1) := dR0 (k := 0) (i := 13) bn_cX11_price_0 dop_3 (by decide +kernel)
theorem dX11_price_14 : decode cX11_price 14 = .ok (.iaload, 1) := dR0 (k := 0) (i := 14) bn_cX11_price_0 dop_46 (by decide +kernel)
theorem dX11_price_15 : decode cX11_price 15 = .ok (.iload_n 2, 1) := dR0 (k := 0) (i := 15) bn_cX11_price_0 dop_28 (by decide +kernel)
theorem dX11_price_16 : decode cX11_price 16 = .ok (.iload_n 3, 1) := dR0 (k := 0) (i := 16) bn_cX11_price_0 dop_29 (by decide +kernel)
theorem dX11_price_17 : decode cX11_price 17 = .ok (.iload 4, 2) := dR1 (f := Instr.iload) (k := 0) (i := 17) bn_cX11_price_0 dop_21 4 (by decide +kernel)
theorem dX11_price_19 : decode cX11_price 19 = .ok (.invokevirtual 90, 3) := dR2 (f := Instr.invokevirtual) (k := 0) (i := 19) bn_cX11_price_0 dop_182 90 (by decide +kernel)
theorem dX11_price_22 : decode cX11_price 22 = .ok (.goto 9, 3) := dR2s (f := Instr.goto) (k := 0) (i := 22) bn_cX11_price_0 dop_167 9 9 (by decide +kernel)
theorem dX11_price_25 : decode cX11_price 25 = .ok (.aload_n 0, 1) := dR0 (k := 0) (i := 25) bn_cX11_price_0 dop_42 (by decide +kernel)
theorem dX11_price_26 : decode cX11_price 26 = .ok (.ldc 63, 2) := dR1 (f := Instr.ldc) (k := 0) (i := 26) bn_cX11_price_0 dop_18 63 (by decide +kernel)
theorem dX11_price_28 : decode cX11_price 28 = .ok (.invokevirtual 64, 3) := dR2 (f := Instr.invokevirtual) (k := 0) (i := 28) bn_cX11_price_0 dop_182 64 (by decide +kernel)
theorem dX11_price_31 : decode cX11_price 31 = .ok (.ireturn, 1) := dR0 (k := 0) (i := 31) bn_cX11_price_0 dop_172 (by decide +kernel)
set_option maxHeartbeats 4000000 in
set_option maxRecDepth 100000 in
theorem c_X11_priceG (l : Launch) (D : va_G) (cI : ClassId) (aK aV : Nat → Nat) (k k0 k1 k2 k4 k5 k6 k7 k8 ka kb kl ko : Nat) (sz : Nat) (c3 : Int32) (c9 : Int32) (cc : Int32) (cd : Int32) (ce : Int32) (cf : Int32) (cg : Int32) (ch : Int32) (ci : Int32) (cj : Int32) (ck : Int32) (cm : Int32) (cn : Int32) (c0 : Nat → Int32) (c4 : Nat → Int32) (a0 : Int32) (a1 : Int32) (a2 : Int32) (a3 : Int32) (pre0 : SB c0) : Met l yX11_price (gW yX11_price cX11_price 5 (some .int)) ({ frames := 121, cells := 0, slots := 0, locals := 8335 } : Room) (kPreX D cI aK aV [.ref k, .int a0, .int a1, .int a2, .int a3] [(k, .inr (11, [.ref k0, .ref k1, .ref k2, .int c3, .ref k4, .ref k5, .ref k6, .ref k7, .ref k8, .int c9, .ref ka, .ref kb, .int cc, .int cd, .int ce, .int cf, .int cg, .int ch, .int ci, .int cj, .int ck, .ref kl, .int cm, .int cn, .ref ko])), (k0, .inl (cI, 1201, .inl c0)), (k4, .inl (cI, 6, .inl c4))] sz) (va_Qi (fun (r : Int32) (u : Int32 × Int32 × Int32 × Int32 × Int32 × Int32 × Int32 × Int32 × Int32 × (Nat → Int32)) => (((a0.toInt < 0 ∨ 2 < a0.toInt) ∧ r = (-1000001)) ∨ ((0 ≤ a0.toInt ∧ a0.toInt ≤ 2) ∧ PRV (fun j => c0 (495 + 53 * j)) (fun j => c0 (496 + 53 * j)) (fun j => tG c0 (498 + 53 * j) (c0 (497 + 53 * j))) (fun j => c0 (497 + 53 * j)) (c0 3).toInt.toNat (c0 0) a0 a1 a2 a3 r))) (fun u t => kWd D cI (va_A [(k, .inr (11, [.ref k0, .ref k1, .ref k2, .int c3, .ref k4, .ref k5, .ref k6, .ref k7, .ref k8, .int c9, .ref ka, .ref kb, .int cc, .int cd, .int ce, .int cf, .int cg, .int ch, .int ci, .int cj, .int ck, .ref kl, .int cm, .int cn, .ref ko])), (k0, .inl (cI, 1201, .inl c0)), (k4, .inl (cI, 6, .inl c4))] sz) [(k, .inr (11, [.ref k0, .ref k1, .ref k2, .int c3, .ref k4, .ref k5, .ref k6, .ref k7, .ref k8, .int c9, .ref ka, .ref kb, .int u.1, .int u.2.1, .int u.2.2.1, .int u.2.2.2.1, .int u.2.2.2.2.1, .int u.2.2.2.2.2.1, .int u.2.2.2.2.2.2.1, .int u.2.2.2.2.2.2.2.1, .int u.2.2.2.2.2.2.2.2.1, .ref kl, .int cm, .int cn, .ref ko])), (k0, .inl (cI, 1201, .inl c0)), (k4, .inl (cI, 6, .inl u.2.2.2.2.2.2.2.2.2))] t) (va_A [(k, .inr (11, [.ref k0, .ref k1, .ref k2, .int c3, .ref k4, .ref k5, .ref k6, .ref k7, .ref k8, .int c9, .ref ka, .ref kb, .int cc, .int cd, .int ce, .int cf, .int cg, .int ch, .int ci, .int cj, .int ck, .ref kl, .int cm, .int cn, .ref ko])), (k0, .inl (cI, 1201, .inl c0)), (k4, .inl (cI, 6, .inl c4))] sz)) 0 0 (va_A [(k, .inr (11, [.ref k0, .ref k1, .ref k2, .int c3, .ref k4, .ref k5, .ref k6, .ref k7, .ref k8, .int c9, .ref ka, .ref kb, .int cc, .int cd, .int ce, .int cf, .int cg, .int ch, .int ci, .int cj, .int ck, .ref kl, .int cm, .int cn, .ref ko])), (k0, .inl (cI, 1201, .inl c0)), (k4, .inl (cI, 6, .inl c4))] sz) := by
  refine kMetIX (own := RX11) (by decide +kernel) rfl (Nat.le_of_ble_eq_true rfl) ?_
  intro p e s m args below meth c hx hb hT hown hname hml A Q hK hP hD hS hA hN hXS hRet ls hl
  have hl : lv_has ls 5 [(0, .ref k), (1, .int a0), (2, .int a1), (3, .int a2), (4, .int a3)] := hl
  have lo_a0 := k_lo a0
  have hi_a0 := k_hi a0
  have lo_a1 := k_lo a1
  have hi_a1 := k_hi a1
  have lo_a2 := k_lo a2
  have hi_a2 := k_hi a2
  have lo_a3 := k_lo a3
  have hi_a3 := k_hi a3
  have lo_ci := k_lo ci
  have hi_ci := k_hi ci
  have pre0 : SB c0 := pre0
  have nb_1 : 0 ≤ (c0 0).toInt ∧ (c0 0).toInt ≤ 2000 := SB.n0 pre0
  have nb_2 : 0 ≤ (c0 1).toInt ∧ (c0 1).toInt ≤ 60 := SB.n1 pre0
  have nb_3 : 0 ≤ (c0 2).toInt ∧ (c0 2).toInt ≤ 4 := SB.n2 pre0
  refine lv_iload_n hx hb dX11_price_0 rfl (lv_at hl 1 rfl) ?_
  refine kJi (wr := [(k, .inr (11, [.ref k0, .ref k1, .ref k2, .int c3, .ref k4, .ref k5, .ref k6, .ref k7, .ref k8, .int c9, .ref ka, .ref kb, .int cc, .int cd, .int ce, .int cf, .int cg, .int ch, .int ci, .int cj, .int ck, .ref kl, .int cm, .int cn, .ref ko])), (k0, .inl (cI, 1201, .inl c0)), (k4, .inl (cI, 6, .inl c4))]) (va_runS (As := [.int a0]) (rest := []) ⟨hx, hb, hml, hown, hT⟩ (c_X11_isUseG l D cI aK aV s.heap.size a0) (cwS 1 hT (gS_in mw_1476 mw_1474 mw_1475 mw_12) rfl rfl rfl (by decide +kernel) ⟨Nat.le_of_ble_eq_true rfl, Nat.le_of_ble_eq_true rfl⟩) (kStatX hK hP hD hN hXS hS hA [] rfl (by decide +kernel)) rfl rfl hl.1 rfl (lv_room (Nat.le_of_ble_eq_true rfl)) dX11_price_1 ⟨Nat.le_of_ble_eq_true rfl, Nat.le_of_ble_eq_true rfl⟩) hP hD hS hA [] [0, 1, 2] rfl rfl (by decide +kernel) (by decide +kernel) ?_
  clear hP hD hS
  intro r_4 u_6 H locs w_5 hP hD hS
  replace hP : va_P D vwCl [(k, .inr (11, [.ref k0, .ref k1, .ref k2, .int c3, .ref k4, .ref k5, .ref k6, .ref k7, .ref k8, .int c9, .ref ka, .ref kb, .int cc, .int cd, .int ce, .int cf, .int cg, .int ch, .int ci, .int cj, .int ck, .ref kl, .int cm, .int cn, .ref ko])), (k0, .inl (cI, 1201, .inl c0)), (k4, .inl (cI, 6, .inl c4))] H := hP
  replace hD : va_D A [(k, .inr (11, [.ref k0, .ref k1, .ref k2, .int c3, .ref k4, .ref k5, .ref k6, .ref k7, .ref k8, .int c9, .ref ka, .ref kb, .int cc, .int cd, .int ce, .int cf, .int cg, .int ch, .int ci, .int cj, .int ck, .ref kl, .int cm, .int cn, .ref ko])), (k0, .inl (cI, 1201, .inl c0)), (k4, .inl (cI, 6, .inl c4))] := hD
  rcases w_5 with ⟨hr_4, h_7, h_8⟩ | ⟨hr_4, h_9⟩
  · have h_7 : 0 ≤ a0.toInt := h_7
    have h_8 : a0.toInt ≤ 2 := h_8
    obtain rfl : r_4 = 1 := hr_4.trans (by decide +kernel)
    refine b_if_eq hx hb zl_1 (tgt := 25) dX11_price_4 (by decide +kernel) (fun c_10 => by exfalso; omega) (fun c_10 => ?_)
    refine lv_aload_n hx hb dX11_price_7 rfl (lv_at hl 0 rfl) ?_
    refine lv_iload_n hx hb dX11_price_8 rfl (lv_at hl 1 rfl) ?_
    refine lv_aload_n hx hb dX11_price_9 rfl (lv_at hl 0 rfl) ?_
    refine va_get (D := D) (ci := 11) (v := .ref k0) (C := RX11) (T := TX11) (N := 25) hx hb hT giX11 hown hK hP 0 rfl rfl 0 (by decide +kernel) (hT (Cond.fieldLink RX11 9 "DesertWireModel" "s" "[I") mw_1156) (fun _ h9 => h9) rfl dX11_price_10 ?_
    refine lv_iconst (v := 0) hx hb dX11_price_13 (by decide +kernel) ?_
    refine k_iald (v := (c0 0)) hx hb hK hP 1 0 rfl rfl (k_inl (by decide +kernel)) rfl dX11_price_14 ?_
    refine lv_topi (fun v_11 ev_11 => ?_)
    have lo_v_11 := k_lo v_11
    have hi_v_11 := k_hi v_11
    have tv_11 : v_11.toInt = (c0 0).toInt := by rw [ev_11]
    have b_12 : 0 ≤ v_11.toInt ∧ v_11.toInt ≤ 2000 := by first | (rw [tv_11]; exact SB.n0 pre0) | exact SB.n0 pre0 | omega
    refine lv_iload_n hx hb dX11_price_15 rfl (lv_at hl 2 rfl) ?_
    refine lv_iload_n hx hb dX11_price_16 rfl (lv_at hl 3 rfl) ?_
    refine lv_iload hx hb dX11_price_17 (lv_at hl 4 rfl) ?_
    refine kJi (wr := [(k4, .inl (cI, 6, .inl c4))]) (va_runV (As := [.int a0, .int v_11, .int a1, .int a2, .int a3]) (rest := []) ⟨hx, hb, hml, hown, hT⟩ (c_X11_priceOfG l D cI aK aV k k0 k1 k2 k4 k5 k6 k7 k8 ka kb kl ko H.size c3 c9 cc cd ce cf cg ch ci cj ck cm cn c0 a0 v_11 a1 a2 a3 pre0 (by first | omega | decide | assumption | rfl) (by first | omega | decide | assumption | rfl)) (cwV 5 hT (gV_in mw_1299 mw_1296 mw_1298 mw_p3_15 mw_12) rfl rfl rfl (by decide +kernel) ⟨Nat.le_of_ble_eq_true rfl, Nat.le_of_ble_eq_true rfl⟩) (kRecvX (q0 := 0) (ci := 11) hK hP hD hN hXS hS hA rfl rfl [0, 1] rfl (by decide +kernel)) rfl rfl hl.1 rfl (lv_room (Nat.le_of_ble_eq_true rfl)) dX11_price_19 ⟨Nat.le_of_ble_eq_true rfl, Nat.le_of_ble_eq_true rfl⟩) hP hD hS hA [0, 1] [2] rfl rfl (by decide +kernel) (by decide +kernel) ?_
    clear hP hD hS
    intro r_13 u_24 H locs w_14 hP hD hS
    obtain ⟨scc_15, scd_16, sce_17, scf_18, scg_19, sch_20, sci_21, scj_22, sck_23⟩ := u_24
    replace hP : va_P D vwCl [(k4, .inl (cI, 6, .inl c4)), (k, .inr (11, [.ref k0, .ref k1, .ref k2, .int c3, .ref k4, .ref k5, .ref k6, .ref k7, .ref k8, .int c9, .ref ka, .ref kb, .int scc_15, .int scd_16, .int sce_17, .int scf_18, .int scg_19, .int sch_20, .int sci_21, .int scj_22, .int sck_23, .ref kl, .int cm, .int cn, .ref ko])), (k0, .inl (cI, 1201, .inl c0))] H := hP
    replace hD : va_D A [(k4, .inl (cI, 6, .inl c4)), (k, .inr (11, [.ref k0, .ref k1, .ref k2, .int c3, .ref k4, .ref k5, .ref k6, .ref k7, .ref k8, .int c9, .ref ka, .ref kb, .int scc_15, .int scd_16, .int sce_17, .int scf_18, .int scg_19, .int sch_20, .int sci_21, .int scj_22, .int sck_23, .ref kl, .int cm, .int cn, .ref ko])), (k0, .inl (cI, 1201, .inl c0))] := hD
    have h_25 := w_14
    have h_25 : PRV (fun j => c0 (495 + 53 * j)) (fun j => c0 (496 + 53 * j)) (fun j => tG c0 (498 + 53 * j) (c0 (497 + 53 * j))) (fun j => c0 (497 + 53 * j)) (c0 3).toInt.toNat v_11 a0 a1 a2 a3 r_13 := h_25
    have h_25 : PRV (fun j => c0 (495 + 53 * j)) (fun j => c0 (496 + 53 * j)) (fun j => tG c0 (498 + 53 * j) (c0 (497 + 53 * j))) (fun j => c0 (497 + 53 * j)) (c0 3).toInt.toNat v_11 a0 a1 a2 a3 r_13 := h_25
    have lo_r_13 := k_lo r_13
    have hi_r_13 := k_hi r_13
    refine lv_goto (tgt := 31) hx hb dX11_price_22 (by decide +kernel) ?_
    exact hRet (scc_15, scd_16, sce_17, scf_18, scg_19, sch_20, sci_21, scj_22, sck_23, c4) [1, 2, 0] (Or.inr ⟨⟨by omega, by omega⟩, (by rw [← ev_11]; exact h_25)⟩) hP hD (by decide +kernel) rfl hS rfl dX11_price_31
  · have h_9 : a0.toInt < 0 ∨ 2 < a0.toInt := h_9
    obtain rfl : r_4 = 0 := hr_4.trans (by decide +kernel)
    refine b_if_eq hx hb zl_0 (tgt := 25) dX11_price_4 (by decide +kernel) (fun c_26 => ?_) (fun c_26 => by exfalso; omega)
    refine lv_aload_n hx hb dX11_price_25 rfl (lv_at hl 0 rfl) ?_
    refine lv_ldc (v := (-1000001)) hx hb hown (hT _ mw_1239) dX11_price_26 ?_
    refine kJi (wr := [(k0, .inl (cI, 1201, .inl c0))]) (va_runV (As := [.int (-1000001)]) (rest := []) ⟨hx, hb, hml, hown, hT⟩ (c_X11_findingG l D cI aK aV k k0 k1 k2 k4 k5 k6 k7 k8 ka kb kl ko H.size c3 c9 cc cd ce cf cg ch ci cj ck cm cn c4 (-1000001) (by first | omega | (simp only [zl_m1000001]; first | done | omega) | decide | assumption | rfl) (by first | omega | (simp only [zl_m1000001]; first | done | omega) | decide | assumption | rfl)) (cwV 1 hT (gV_in mw_1243 mw_1240 mw_1242 mw_p3_8 mw_12) rfl rfl rfl (by decide +kernel) ⟨Nat.le_of_ble_eq_true rfl, Nat.le_of_ble_eq_true rfl⟩) (kRecvX (q0 := 0) (ci := 11) hK hP hD hN hXS hS hA rfl rfl [0, 2] rfl (by decide +kernel)) rfl rfl hl.1 rfl (lv_room (Nat.le_of_ble_eq_true rfl)) dX11_price_28 ⟨Nat.le_of_ble_eq_true rfl, Nat.le_of_ble_eq_true rfl⟩) hP hD hS hA [0, 2] [1] rfl rfl (by decide +kernel) (by decide +kernel) ?_
    clear hP hD hS
    intro r_27 sc4_29 H locs w_28 hP hD hS
    replace hP : va_P D vwCl [(k0, .inl (cI, 1201, .inl c0)), (k, .inr (11, [.ref k0, .ref k1, .ref k2, .int c3, .ref k4, .ref k5, .ref k6, .ref k7, .ref k8, .int c9, .ref ka, .ref kb, .int cc, .int cd, .int ce, .int cf, .int cg, .int ch, .int ci, .int cj, .int ck, .ref kl, .int cm, .int cn, .ref ko])), (k4, .inl (cI, 6, .inl sc4_29))] H := hP
    replace hD : va_D A [(k0, .inl (cI, 1201, .inl c0)), (k, .inr (11, [.ref k0, .ref k1, .ref k2, .int c3, .ref k4, .ref k5, .ref k6, .ref k7, .ref k8, .int c9, .ref ka, .ref kb, .int cc, .int cd, .int ce, .int cf, .int cg, .int ch, .int ci, .int cj, .int ck, .ref kl, .int cm, .int cn, .ref ko])), (k4, .inl (cI, 6, .inl sc4_29))] := hD
    have hr_27 := w_28
    obtain rfl : r_27 = (-1000001) := hr_27.trans (by decide +kernel)
    exact hRet (cc, cd, ce, cf, cg, ch, ci, cj, ck, sc4_29) [1, 0, 2] (Or.inl ⟨by omega, rfl⟩) hP hD (by decide +kernel) rfl hS rfl dX11_price_31
theorem bn_cX11_owed_0 : BN cX11_owed 0 0x2b4080500aa0b6015b8105e04050056a2b328705e04050056a2b1781014015a8ac0a2b108054a1c1781014015a8ad5a4100adc80131582c029b65005721c := by
  unfold BN; decide +kernel
theorem dX11_owed_0 : decode cX11_owed 0 = .ok (.iload_n 1, 1) := dR0 (k := 0) (i := 0) bn_cX11_owed_0 dop_27 (by decide +kernel)
theorem dX11_owed_1 : decode cX11_owed 1 = .ok (.invokestatic 201, 3) := dR2 (f := Instr.invokestatic) (k := 0) (i := 1) bn_cX11_owed_0 dop_184 201 (by decide +kernel)
theorem dX11_owed_4 : decode cX11_owed 4 = .ok (.ifCond .ne 10, 3) := dR2s (f := Instr.ifCond .ne) (k := 0) (i := 4) bn_cX11_owed_0 dop_154 10 10 (by decide +kernel)
theorem dX11_owed_7 : decode cX11_owed 7 = .ok (.aload_n 0, 1) := dR0 (k := 0) (i := 7) bn_cX11_owed_0 dop_42 (by decide +kernel)
theorem dX11_owed_8 : decode cX11_owed 8 = .ok (.ldc 63, 2) := dR1 (f := Instr.ldc) (k := 0) (i := 8) bn_cX11_owed_0 dop_18 63 (by decide +kernel)
theorem dX11_owed_10 : decode cX11_owed 10 = .ok (.invokevirtual 64, 3) := dR2 (f := Instr.invokevirtual) (k := 0) (i := 10) bn_cX11_owed_0 dop_182 64 (by decide +kernel)
theorem dX11_owed_13 : decode cX11_owed 13 = .ok (.ireturn, 1) := dR0 (k := 0) (i := 13) bn_cX11_owed_0 dop_172 (by decide +kernel)
theorem dX11_owed_14 : decode cX11_owed 14 = .ok (.aload_n 0, 1) := dR0 (k := 0) (i := 14) bn_cX11_owed_0 dop_42 (by decide +kernel)
theorem dX11_owed_15 : decode cX11_owed 15 = .ok (.getfield 9, 3) := dR2 (f := Instr.getfield) (k := 0) (i := 15) bn_cX11_owed_0 dop_180 9 (by decide +kernel)
theorem dX11_owed_18 : decode cX11_owed 18 = .ok (.iconst 0, 1) := dR0 (k := 0) (i := 18) bn_cX11_owed_0 dop_3 (by decide +kernel)
theorem dX11_owed_19 : decode cX11_owed 19 = .ok (.iaload, 1) := dR0 (k := 0) (i := 19) bn_cX11_owed_0 dop_46 (by decide +kernel)
theorem dX11_owed_20 : decode cX11_owed 20 = .ok (.iload_n 1, 1) := dR0 (k := 0) (i := 20) bn_cX11_owed_0 dop_27 (by decide +kernel)
theorem dX11_owed_21 : decode cX11_owed 21 = .ok (.if_icmp .le 32, 3) := dR2s (f := Instr.if_icmp .le) (k := 0) (i := 21) bn_cX11_owed_0 dop_164 32 32 (by decide +kernel)
theorem dX11_owed_24 : decode cX11_owed 24 = .ok (.aload_n 0, 1) := dR0 (k := 0) (i := 24) bn_cX11_owed_0 dop_42 (by decide +kernel)
theorem dX11_owed_25 : decode cX11_owed 25 = .ok (.iconst 1, 1) := dR0 (k := 0) (i := 25) bn_cX11_owed_0 dop_4 (by decide +kernel)
theorem dX11_owed_26 : decode cX11_owed 26 = .ok (.aload_n 0, 1) := dR0 (k := 0) (i := 26) bn_cX11_owed_0 dop_42 (by decide +kernel)
theorem dX11_owed_27 : decode cX11_owed 27 = .ok (.getfield 9, 3) := dR2 (f := Instr.getfield) (k := 0) (i := 27) bn_cX11_owed_0 dop_180 9 (by decide +kernel)
theorem dX11_owed_30 : decode cX11_owed 30 = .ok (.iconst 0, 1) := dR0 (k := 0) (i := 30) bn_cX11_owed_0 dop_3 (by decide +kernel)
theorem dX11_owed_31 : decode cX11_owed 31 = .ok (.iaload, 1) := dR0 (k := 0) (i := 31) bn_cX11_owed_0 dop_46 (by decide +kernel)
theorem dX11_owed_32 : decode cX11_owed 32 = .ok (.aload_n 0, 1) := dR0 (k := 0) (i := 32) bn_cX11_owed_0 dop_42 (by decide +kernel)
theorem dX11_owed_33 : decode cX11_owed 33 = .ok (.getfield 9, 3) := dR2 (f := Instr.getfield) (k := 0) (i := 33) bn_cX11_owed_0 dop_180 9 (by decide +kernel)
theorem dX11_owed_36 : decode cX11_owed 36 = .ok (.iconst 0, 1) := dR0 (k := 0) (i := 36) bn_cX11_owed_0 dop_3 (by decide +kernel)
theorem dX11_owed_37 : decode cX11_owed 37 = .ok (.iaload, 1) := dR0 (k := 0) (i := 37) bn_cX11_owed_0 dop_46 (by decide +kernel)
theorem dX11_owed_38 : decode cX11_owed 38 = .ok (.iload_n 1, 1) := dR0 (k := 0) (i := 38) bn_cX11_owed_0 dop_27 (by decide +kernel)
theorem dX11_owed_39 : decode cX11_owed 39 = .ok (.isub, 1) := dR0 (k := 0) (i := 39) bn_cX11_owed_0 dop_100 (by decide +kernel)
theorem dX11_owed_40 : decode cX11_owed 40 = .ok (.aload_n 0, 1) := dR0 (k := 0) (i := 40) bn_cX11_owed_0 dop_42 (by decide +kernel)
theorem dX11_owed_41 : decode cX11_owed 41 = .ok (.getfield 9, 3) := dR2 (f := Instr.getfield) (k := 0) (i := 41) bn_cX11_owed_0 dop_180 9 (by decide +kernel)
theorem dX11_owed_44 : decode cX11_owed 44 = .ok (.iconst 0, 1) := dR0 (k := 0) (i := 44) bn_cX11_owed_0 dop_3 (by decide +kernel)
theorem dX11_owed_45 : decode cX11_owed 45 = .ok (.iaload, 1) := dR0 (k := 0) (i := 45) bn_cX11_owed_0 dop_46 (by decide +kernel)
theorem dX11_owed_46 : decode cX11_owed 46 = .ok (.iconst 0, 1) := dR0 (k := 0) (i := 46) bn_cX11_owed_0 dop_3 (by decide +kernel)
theorem dX11_owed_47 : decode cX11_owed 47 = .ok (.invokevirtual 90, 3) := dR2 (f := Instr.invokevirtual) (k := 0) (i := 47) bn_cX11_owed_0 dop_182 90 (by decide +kernel)
theorem dX11_owed_50 : decode cX11_owed 50 = .ok (.goto 4, 3) := dR2s (f := Instr.goto) (k := 0) (i := 50) bn_cX11_owed_0 dop_167 4 4 (by decide +kernel)
theorem dX11_owed_53 : decode cX11_owed 53 = .ok (.iconst 0, 1) := dR0 (k := 0) (i := 53) bn_cX11_owed_0 dop_3 (by decide +kernel)
theorem dX11_owed_54 : decode cX11_owed 54 = .ok (.ireturn, 1) := dR0 (k := 0) (i := 54) bn_cX11_owed_0 dop_172 (by decide +kernel)
set_option maxHeartbeats 4000000 in
set_option maxRecDepth 100000 in
theorem c_X11_owedG (l : Launch) (D : va_G) (cI : ClassId) (aK aV : Nat → Nat) (k k0 k1 k2 k4 k5 k6 k7 k8 ka kb kl ko : Nat) (sz : Nat) (c3 : Int32) (c9 : Int32) (cc : Int32) (cd : Int32) (ce : Int32) (cf : Int32) (cg : Int32) (ch : Int32) (ci : Int32) (cj : Int32) (ck : Int32) (cm : Int32) (cn : Int32) (c0 : Nat → Int32) (c4 : Nat → Int32) (a0 : Int32) (pre0 : SB c0) : Met l yX11_owed (gW yX11_owed cX11_owed 2 (some .int)) ({ frames := 121, cells := 0, slots := 0, locals := 8335 } : Room) (kPreX D cI aK aV [.ref k, .int a0] [(k, .inr (11, [.ref k0, .ref k1, .ref k2, .int c3, .ref k4, .ref k5, .ref k6, .ref k7, .ref k8, .int c9, .ref ka, .ref kb, .int cc, .int cd, .int ce, .int cf, .int cg, .int ch, .int ci, .int cj, .int ck, .ref kl, .int cm, .int cn, .ref ko])), (k0, .inl (cI, 1201, .inl c0)), (k4, .inl (cI, 6, .inl c4))] sz) (va_Qi (fun (r : Int32) (u : Int32 × Int32 × Int32 × Int32 × Int32 × Int32 × Int32 × Int32 × Int32 × (Nat → Int32)) => (((a0.toInt < 0 ∨ 2000 < a0.toInt) ∧ r = (-1000001)) ∨ ((0 ≤ a0.toInt ∧ a0.toInt ≤ 2000) ∧ (c0 0).toInt ≤ a0.toInt ∧ r = 0) ∨ ((0 ≤ a0.toInt ∧ a0.toInt ≤ 2000) ∧ a0.toInt < (c0 0).toInt ∧ PRV (fun j => c0 (495 + 53 * j)) (fun j => c0 (496 + 53 * j)) (fun j => tG c0 (498 + 53 * j) (c0 (497 + 53 * j))) (fun j => c0 (497 + 53 * j)) (c0 3).toInt.toNat (c0 0) 1 (c0 0 - a0) (c0 0) 0 r))) (fun u t => kWd D cI (va_A [(k, .inr (11, [.ref k0, .ref k1, .ref k2, .int c3, .ref k4, .ref k5, .ref k6, .ref k7, .ref k8, .int c9, .ref ka, .ref kb, .int cc, .int cd, .int ce, .int cf, .int cg, .int ch, .int ci, .int cj, .int ck, .ref kl, .int cm, .int cn, .ref ko])), (k0, .inl (cI, 1201, .inl c0)), (k4, .inl (cI, 6, .inl c4))] sz) [(k, .inr (11, [.ref k0, .ref k1, .ref k2, .int c3, .ref k4, .ref k5, .ref k6, .ref k7, .ref k8, .int c9, .ref ka, .ref kb, .int u.1, .int u.2.1, .int u.2.2.1, .int u.2.2.2.1, .int u.2.2.2.2.1, .int u.2.2.2.2.2.1, .int u.2.2.2.2.2.2.1, .int u.2.2.2.2.2.2.2.1, .int u.2.2.2.2.2.2.2.2.1, .ref kl, .int cm, .int cn, .ref ko])), (k0, .inl (cI, 1201, .inl c0)), (k4, .inl (cI, 6, .inl u.2.2.2.2.2.2.2.2.2))] t) (va_A [(k, .inr (11, [.ref k0, .ref k1, .ref k2, .int c3, .ref k4, .ref k5, .ref k6, .ref k7, .ref k8, .int c9, .ref ka, .ref kb, .int cc, .int cd, .int ce, .int cf, .int cg, .int ch, .int ci, .int cj, .int ck, .ref kl, .int cm, .int cn, .ref ko])), (k0, .inl (cI, 1201, .inl c0)), (k4, .inl (cI, 6, .inl c4))] sz)) 0 0 (va_A [(k, .inr (11, [.ref k0, .ref k1, .ref k2, .int c3, .ref k4, .ref k5, .ref k6, .ref k7, .ref k8, .int c9, .ref ka, .ref kb, .int cc, .int cd, .int ce, .int cf, .int cg, .int ch, .int ci, .int cj, .int ck, .ref kl, .int cm, .int cn, .ref ko])), (k0, .inl (cI, 1201, .inl c0)), (k4, .inl (cI, 6, .inl c4))] sz) := by
  refine kMetIX (own := RX11) (by decide +kernel) rfl (Nat.le_of_ble_eq_true rfl) ?_
  intro p e s m args below meth c hx hb hT hown hname hml A Q hK hP hD hS hA hN hXS hRet ls hl
  have hl : lv_has ls 2 [(0, .ref k), (1, .int a0)] := hl
  have lo_a0 := k_lo a0
  have hi_a0 := k_hi a0
  have lo_ci := k_lo ci
  have hi_ci := k_hi ci
  have pre0 : SB c0 := pre0
  have nb_1 : 0 ≤ (c0 0).toInt ∧ (c0 0).toInt ≤ 2000 := SB.n0 pre0
  have nb_2 : 0 ≤ (c0 1).toInt ∧ (c0 1).toInt ≤ 60 := SB.n1 pre0
  have nb_3 : 0 ≤ (c0 2).toInt ∧ (c0 2).toInt ≤ 4 := SB.n2 pre0
  refine lv_iload_n hx hb dX11_owed_0 rfl (lv_at hl 1 rfl) ?_
  refine kJi (wr := [(k, .inr (11, [.ref k0, .ref k1, .ref k2, .int c3, .ref k4, .ref k5, .ref k6, .ref k7, .ref k8, .int c9, .ref ka, .ref kb, .int cc, .int cd, .int ce, .int cf, .int cg, .int ch, .int ci, .int cj, .int ck, .ref kl, .int cm, .int cn, .ref ko])), (k0, .inl (cI, 1201, .inl c0)), (k4, .inl (cI, 6, .inl c4))]) (va_runS (As := [.int a0]) (rest := []) ⟨hx, hb, hml, hown, hT⟩ (c_X11_isDayG l D cI aK aV s.heap.size a0) (cwS 1 hT (gS_in mw_1479 mw_1477 mw_1478 mw_12) rfl rfl rfl (by decide +kernel) ⟨Nat.le_of_ble_eq_true rfl, Nat.le_of_ble_eq_true rfl⟩) (kStatX hK hP hD hN hXS hS hA [] rfl (by decide +kernel)) rfl rfl hl.1 rfl (lv_room (Nat.le_of_ble_eq_true rfl)) dX11_owed_1 ⟨Nat.le_of_ble_eq_true rfl, Nat.le_of_ble_eq_true rfl⟩) hP hD hS hA [] [0, 1, 2] rfl rfl (by decide +kernel) (by decide +kernel) ?_
  clear hP hD hS
  intro r_4 u_6 H locs w_5 hP hD hS
  replace hP : va_P D vwCl [(k, .inr (11, [.ref k0, .ref k1, .ref k2, .int c3, .ref k4, .ref k5, .ref k6, .ref k7, .ref k8, .int c9, .ref ka, .ref kb, .int cc, .int cd, .int ce, .int cf, .int cg, .int ch, .int ci, .int cj, .int ck, .ref kl, .int cm, .int cn, .ref ko])), (k0, .inl (cI, 1201, .inl c0)), (k4, .inl (cI, 6, .inl c4))] H := hP
  replace hD : va_D A [(k, .inr (11, [.ref k0, .ref k1, .ref k2, .int c3, .ref k4, .ref k5, .ref k6, .ref k7, .ref k8, .int c9, .ref ka, .ref kb, .int cc, .int cd, .int ce, .int cf, .int cg, .int ch, .int ci, .int cj, .int ck, .ref kl, .int cm, .int cn, .ref ko])), (k0, .inl (cI, 1201, .inl c0)), (k4, .inl (cI, 6, .inl c4))] := hD
  rcases w_5 with ⟨hr_4, h_7, h_8⟩ | ⟨hr_4, h_9⟩
  · have h_7 : 0 ≤ a0.toInt := h_7
    have h_8 : a0.toInt ≤ 2000 := h_8
    obtain rfl : r_4 = 1 := hr_4.trans (by decide +kernel)
    refine b_if_ne hx hb zl_1 (tgt := 14) dX11_owed_4 (by decide +kernel) (fun c_10 => ?_) (fun c_10 => by exfalso; omega)
    refine lv_aload_n hx hb dX11_owed_14 rfl (lv_at hl 0 rfl) ?_
    refine va_get (D := D) (ci := 11) (v := .ref k0) (C := RX11) (T := TX11) (N := 25) hx hb hT giX11 hown hK hP 0 rfl rfl 0 (by decide +kernel) (hT (Cond.fieldLink RX11 9 "DesertWireModel" "s" "[I") mw_1156) (fun _ h9 => h9) rfl dX11_owed_15 ?_
    refine lv_iconst (v := 0) hx hb dX11_owed_18 (by decide +kernel) ?_
    refine k_iald (v := (c0 0)) hx hb hK hP 1 0 rfl rfl (k_inl (by decide +kernel)) rfl dX11_owed_19 ?_
    refine lv_topi (fun v_11 ev_11 => ?_)
    have lo_v_11 := k_lo v_11
    have hi_v_11 := k_hi v_11
    have tv_11 : v_11.toInt = (c0 0).toInt := by rw [ev_11]
    have b_12 : 0 ≤ v_11.toInt ∧ v_11.toInt ≤ 2000 := by first | (rw [tv_11]; exact SB.n0 pre0) | exact SB.n0 pre0 | omega
    refine lv_iload_n hx hb dX11_owed_20 rfl (lv_at hl 1 rfl) ?_
    refine b_icmp_le hx hb rfl rfl (tgt := 53) dX11_owed_21 (by decide +kernel) (fun c_13 => ?_) (fun c_13 => ?_)
    · refine lv_iconst (v := 0) hx hb dX11_owed_53 (by decide +kernel) ?_
      exact hRet (cc, cd, ce, cf, cg, ch, ci, cj, ck, c4) [0, 1, 2] (Or.inr (Or.inl ⟨⟨by omega, by omega⟩, by omega, rfl⟩)) hP hD (by decide +kernel) rfl hS rfl dX11_owed_54
    · refine lv_aload_n hx hb dX11_owed_24 rfl (lv_at hl 0 rfl) ?_
      refine lv_iconst (v := 1) hx hb dX11_owed_25 (by decide +kernel) ?_
      refine lv_aload_n hx hb dX11_owed_26 rfl (lv_at hl 0 rfl) ?_
      refine va_get (D := D) (ci := 11) (v := .ref k0) (C := RX11) (T := TX11) (N := 25) hx hb hT giX11 hown hK hP 0 rfl rfl 0 (by decide +kernel) (hT (Cond.fieldLink RX11 9 "DesertWireModel" "s" "[I") mw_1156) (fun _ h9 => h9) rfl dX11_owed_27 ?_
      refine lv_iconst (v := 0) hx hb dX11_owed_30 (by decide +kernel) ?_
      refine k_iald (v := (c0 0)) hx hb hK hP 1 0 rfl rfl (k_inl (by decide +kernel)) rfl dX11_owed_31 ?_
      refine lv_topi (fun v_14 ev_14 => ?_)
      have lo_v_14 := k_lo v_14
      have hi_v_14 := k_hi v_14
      have tv_14 : v_14.toInt = (c0 0).toInt := by rw [ev_14]
      have b_15 : 0 ≤ v_14.toInt ∧ v_14.toInt ≤ 2000 := by first | (rw [tv_14]; exact SB.n0 pre0) | exact SB.n0 pre0 | omega
      refine lv_aload_n hx hb dX11_owed_32 rfl (lv_at hl 0 rfl) ?_
      refine va_get (D := D) (ci := 11) (v := .ref k0) (C := RX11) (T := TX11) (N := 25) hx hb hT giX11 hown hK hP 0 rfl rfl 0 (by decide +kernel) (hT (Cond.fieldLink RX11 9 "DesertWireModel" "s" "[I") mw_1156) (fun _ h9 => h9) rfl dX11_owed_33 ?_
      refine lv_iconst (v := 0) hx hb dX11_owed_36 (by decide +kernel) ?_
      refine k_iald (v := (c0 0)) hx hb hK hP 1 0 rfl rfl (k_inl (by decide +kernel)) rfl dX11_owed_37 ?_
      refine lv_topi (fun v_16 ev_16 => ?_)
      have lo_v_16 := k_lo v_16
      have hi_v_16 := k_hi v_16
      have tv_16 : v_16.toInt = (c0 0).toInt := by rw [ev_16]
      have b_17 : 0 ≤ v_16.toInt ∧ v_16.toInt ≤ 2000 := by first | (rw [tv_16]; exact SB.n0 pre0) | exact SB.n0 pre0 | omega
      refine lv_iload_n hx hb dX11_owed_38 rfl (lv_at hl 1 rfl) ?_
      refine lv_isub hx hb dX11_owed_39 ?_
      refine lv_topi (fun v_18 ev_18 => ?_)
      have tv_18 : v_18.toInt = v_16.toInt - a0.toInt := by rw [ev_18]; exact k_subv rfl rfl (by omega) (by omega)
      refine lv_aload_n hx hb dX11_owed_40 rfl (lv_at hl 0 rfl) ?_
      refine va_get (D := D) (ci := 11) (v := .ref k0) (C := RX11) (T := TX11) (N := 25) hx hb hT giX11 hown hK hP 0 rfl rfl 0 (by decide +kernel) (hT (Cond.fieldLink RX11 9 "DesertWireModel" "s" "[I") mw_1156) (fun _ h9 => h9) rfl dX11_owed_41 ?_
      refine lv_iconst (v := 0) hx hb dX11_owed_44 (by decide +kernel) ?_
      refine k_iald (v := (c0 0)) hx hb hK hP 1 0 rfl rfl (k_inl (by decide +kernel)) rfl dX11_owed_45 ?_
      refine lv_topi (fun v_19 ev_19 => ?_)
      have lo_v_19 := k_lo v_19
      have hi_v_19 := k_hi v_19
      have tv_19 : v_19.toInt = (c0 0).toInt := by rw [ev_19]
      have b_20 : 0 ≤ v_19.toInt ∧ v_19.toInt ≤ 2000 := by first | (rw [tv_19]; exact SB.n0 pre0) | exact SB.n0 pre0 | omega
      refine lv_iconst (v := 0) hx hb dX11_owed_46 (by decide +kernel) ?_
      refine kJi (wr := [(k4, .inl (cI, 6, .inl c4))]) (va_runV (As := [.int 1, .int v_14, .int v_18, .int v_19, .int 0]) (rest := []) ⟨hx, hb, hml, hown, hT⟩ (c_X11_priceOfG l D cI aK aV k k0 k1 k2 k4 k5 k6 k7 k8 ka kb kl ko H.size c3 c9 cc cd ce cf cg ch ci cj ck cm cn c0 1 v_14 v_18 v_19 0 pre0 (by first | omega | (simp only [zl_0, zl_1]; first | done | omega) | decide | assumption | rfl) (by first | omega | (simp only [zl_0, zl_1]; first | done | omega) | decide | assumption | rfl)) (cwV 5 hT (gV_in mw_1299 mw_1296 mw_1298 mw_p3_15 mw_12) rfl rfl rfl (by decide +kernel) ⟨Nat.le_of_ble_eq_true rfl, Nat.le_of_ble_eq_true rfl⟩) (kRecvX (q0 := 0) (ci := 11) hK hP hD hN hXS hS hA rfl rfl [0, 1] rfl (by decide +kernel)) rfl rfl hl.1 rfl (lv_room (Nat.le_of_ble_eq_true rfl)) dX11_owed_47 ⟨Nat.le_of_ble_eq_true rfl, Nat.le_of_ble_eq_true rfl⟩) hP hD hS hA [0, 1] [2] rfl rfl (by decide +kernel) (by decide +kernel) ?_
      clear hP hD hS
      intro r_21 u_32 H locs w_22 hP hD hS
      obtain ⟨scc_23, scd_24, sce_25, scf_26, scg_27, sch_28, sci_29, scj_30, sck_31⟩ := u_32
      replace hP : va_P D vwCl [(k4, .inl (cI, 6, .inl c4)), (k, .inr (11, [.ref k0, .ref k1, .ref k2, .int c3, .ref k4, .ref k5, .ref k6, .ref k7, .ref k8, .int c9, .ref ka, .ref kb, .int scc_23, .int scd_24, .int sce_25, .int scf_26, .int scg_27, .int sch_28, .int sci_29, .int scj_30, .int sck_31, .ref kl, .int cm, .int cn, .ref ko])), (k0, .inl (cI, 1201, .inl c0))] H := hP
      replace hD : va_D A [(k4, .inl (cI, 6, .inl c4)), (k, .inr (11, [.ref k0, .ref k1, .ref k2, .int c3, .ref k4, .ref k5, .ref k6, .ref k7, .ref k8, .int c9, .ref ka, .ref kb, .int scc_23, .int scd_24, .int sce_25, .int scf_26, .int scg_27, .int sch_28, .int sci_29, .int scj_30, .int sck_31, .ref kl, .int cm, .int cn, .ref ko])), (k0, .inl (cI, 1201, .inl c0))] := hD
      have h_33 := w_22
      try simp only [zl_0, zl_1] at h_33
      have h_33 : PRV (fun j => c0 (495 + 53 * j)) (fun j => c0 (496 + 53 * j)) (fun j => tG c0 (498 + 53 * j) (c0 (497 + 53 * j))) (fun j => c0 (497 + 53 * j)) (c0 3).toInt.toNat v_14 1 v_18 v_19 0 r_21 := h_33
      have h_33 : PRV (fun j => c0 (495 + 53 * j)) (fun j => c0 (496 + 53 * j)) (fun j => tG c0 (498 + 53 * j) (c0 (497 + 53 * j))) (fun j => c0 (497 + 53 * j)) (c0 3).toInt.toNat v_14 1 v_18 v_19 0 r_21 := h_33
      have lo_r_21 := k_lo r_21
      have hi_r_21 := k_hi r_21
      refine lv_goto (tgt := 54) hx hb dX11_owed_50 (by decide +kernel) ?_
      exact hRet (scc_23, scd_24, sce_25, scf_26, scg_27, sch_28, sci_29, scj_30, sck_31, c4) [1, 2, 0] (Or.inr (Or.inr ⟨⟨by omega, by omega⟩, by omega, by have z := h_33; simp only [ev_18, ev_14, ev_19, ev_16] at z; exact z⟩)) hP hD (by decide +kernel) rfl hS rfl dX11_owed_54
  · have h_9 : a0.toInt < 0 ∨ 2000 < a0.toInt := h_9
    obtain rfl : r_4 = 0 := hr_4.trans (by decide +kernel)
    refine b_if_ne hx hb zl_0 (tgt := 14) dX11_owed_4 (by decide +kernel) (fun c_34 => by exfalso; omega) (fun c_34 => ?_)
    refine lv_aload_n hx hb dX11_owed_7 rfl (lv_at hl 0 rfl) ?_
    refine lv_ldc (v := (-1000001)) hx hb hown (hT _ mw_1239) dX11_owed_8 ?_
    refine kJi (wr := [(k0, .inl (cI, 1201, .inl c0))]) (va_runV (As := [.int (-1000001)]) (rest := []) ⟨hx, hb, hml, hown, hT⟩ (c_X11_findingG l D cI aK aV k k0 k1 k2 k4 k5 k6 k7 k8 ka kb kl ko H.size c3 c9 cc cd ce cf cg ch ci cj ck cm cn c4 (-1000001) (by first | omega | (simp only [zl_m1000001]; first | done | omega) | decide | assumption | rfl) (by first | omega | (simp only [zl_m1000001]; first | done | omega) | decide | assumption | rfl)) (cwV 1 hT (gV_in mw_1243 mw_1240 mw_1242 mw_p3_8 mw_12) rfl rfl rfl (by decide +kernel) ⟨Nat.le_of_ble_eq_true rfl, Nat.le_of_ble_eq_true rfl⟩) (kRecvX (q0 := 0) (ci := 11) hK hP hD hN hXS hS hA rfl rfl [0, 2] rfl (by decide +kernel)) rfl rfl hl.1 rfl (lv_room (Nat.le_of_ble_eq_true rfl)) dX11_owed_10 ⟨Nat.le_of_ble_eq_true rfl, Nat.le_of_ble_eq_true rfl⟩) hP hD hS hA [0, 2] [1] rfl rfl (by decide +kernel) (by decide +kernel) ?_
    clear hP hD hS
    intro r_35 sc4_37 H locs w_36 hP hD hS
    replace hP : va_P D vwCl [(k0, .inl (cI, 1201, .inl c0)), (k, .inr (11, [.ref k0, .ref k1, .ref k2, .int c3, .ref k4, .ref k5, .ref k6, .ref k7, .ref k8, .int c9, .ref ka, .ref kb, .int cc, .int cd, .int ce, .int cf, .int cg, .int ch, .int ci, .int cj, .int ck, .ref kl, .int cm, .int cn, .ref ko])), (k4, .inl (cI, 6, .inl sc4_37))] H := hP
    replace hD : va_D A [(k0, .inl (cI, 1201, .inl c0)), (k, .inr (11, [.ref k0, .ref k1, .ref k2, .int c3, .ref k4, .ref k5, .ref k6, .ref k7, .ref k8, .int c9, .ref ka, .ref kb, .int cc, .int cd, .int ce, .int cf, .int cg, .int ch, .int ci, .int cj, .int ck, .ref kl, .int cm, .int cn, .ref ko])), (k4, .inl (cI, 6, .inl sc4_37))] := hD
    have hr_35 := w_36
    obtain rfl : r_35 = (-1000001) := hr_35.trans (by decide +kernel)
    exact hRet (cc, cd, ce, cf, cg, ch, ci, cj, ck, sc4_37) [1, 0, 2] (Or.inl ⟨by omega, rfl⟩) hP hD (by decide +kernel) rfl hS rfl dX11_owed_13
theorem bn_cX11_workIs_0 : BN cX11_workIs 0 0x568e002b70e87056ad0201402a82d8056e041c0056e060e0ac70015b810382b1781014015a8ac0c2b0f805345500adc0a1c15ab4060500aa070015b824382b0680542091c0056e040e0ad5a5800adc382b1b00402011080402010d80402010400402010300402012e004020100aac3aad208056e40098ac16014d8c002b904044081d07005345100adc382b := by
  unfold BN; decide +kernel
theorem dX11_workIs_0 : decode cX11_workIs 0 = .ok (.aload_n 0, 1) := dR0 (k := 0) (i := 0) bn_cX11_workIs_0 dop_42 (by decide +kernel)
theorem dX11_workIs_1 : decode cX11_workIs 1 = .ok (.iload_n 1, 1) := dR0 (k := 0) (i := 1) bn_cX11_workIs_0 dop_27 (by decide +kernel)
theorem dX11_workIs_2 : decode cX11_workIs 2 = .ok (.invokevirtual 80, 3) := dR2 (f := Instr.invokevirtual) (k := 0) (i := 2) bn_cX11_workIs_0 dop_182 80 (by decide +kernel)
theorem dX11_workIs_5 : decode cX11_workIs 5 = .ok (.ifCond .eq 13, 3) := dR2s (f := Instr.ifCond .eq) (k := 0) (i := 5) bn_cX11_workIs_0 dop_153 13 13 (by decide +kernel)
theorem dX11_workIs_8 : decode cX11_workIs 8 = .ok (.iload_n 2, 1) := dR0 (k := 0) (i := 8) bn_cX11_workIs_0 dop_28 (by decide +kernel)
theorem dX11_workIs_9 : decode cX11_workIs 9 = .ok (.iconst 0, 1) := dR0 (k := 0) (i := 9) bn_cX11_workIs_0 dop_3 (by decide +kernel)
theorem dX11_workIs_10 : decode cX11_workIs 10 = .ok (.bipush 7, 2) := dR1s (f := Instr.bipush) (k := 0) (i := 10) bn_cX11_workIs_0 dop_16 7 7 (by decide +kernel)
theorem dX11_workIs_12 : decode cX11_workIs 12 = .ok (.invokestatic 47, 3) := dR2 (f := Instr.invokestatic) (k := 0) (i := 12) bn_cX11_workIs_0 dop_184 47 (by decide +kernel)
theorem dX11_workIs_15 : decode cX11_workIs 15 = .ok (.ifCond .ne 10, 3) := dR2s (f := Instr.ifCond .ne) (k := 0) (i := 15) bn_cX11_workIs_0 dop_154 10 10 (by decide +kernel)
theorem dX11_workIs_18 : decode cX11_workIs 18 = .ok (.aload_n 0, 1) := dR0 (k := 0) (i := 18) bn_cX11_workIs_0 dop_42 (by decide +kernel)
theorem dX11_workIs_19 : decode cX11_workIs 19 = .ok (.ldc 63, 2) := dR1 (f := Instr.ldc) (k := 0) (i := 19) bn_cX11_workIs_0 dop_18 63 (by decide +kernel)
theorem dX11_workIs_21 : decode cX11_workIs 21 = .ok (.invokevirtual 64, 3) := dR2 (f := Instr.invokevirtual) (k := 0) (i := 21) bn_cX11_workIs_0 dop_182 64 (by decide +kernel)
theorem dX11_workIs_24 : decode cX11_workIs 24 = .ok (.ireturn, 1) := dR0 (k := 0) (i := 24) bn_cX11_workIs_0 dop_172 (by decide +kernel)
theorem dX11_workIs_25 : decode cX11_workIs 25 = .ok (.iload_n 2, 1) := dR0 (k := 0) (i := 25) bn_cX11_workIs_0 dop_28 (by decide +kernel)
theorem dX11_workIs_26 : decode cX11_workIs 26 = .ok (.tableswitch 91 5 7 #[26, 32, 53], 26) := by decide +kernel
theorem dX11_workIs_52 : decode cX11_workIs 52 = .ok (.aload_n 0, 1) := dR0 (k := 0) (i := 52) bn_cX11_workIs_0 dop_42 (by decide +kernel)
theorem dX11_workIs_53 : decode cX11_workIs 53 = .ok (.iload_n 1, 1) := dR0 (k := 0) (i := 53) bn_cX11_workIs_0 dop_27 (by decide +kernel)
theorem dX11_workIs_54 : decode cX11_workIs 54 = .ok (.invokevirtual 87, 3) := dR2 (f := Instr.invokevirtual) (k := 0) (i := 54) bn_cX11_workIs_0 dop_182 87 (by decide +kernel)
theorem dX11_workIs_57 : decode cX11_workIs 57 = .ok (.ireturn, 1) := dR0 (k := 0) (i := 57) bn_cX11_workIs_0 dop_172 (by decide +kernel)
theorem dX11_workIs_58 : decode cX11_workIs 58 = .ok (.aload_n 0, 1) := dR0 (k := 0) (i := 58) bn_cX11_workIs_0 dop_42 (by decide +kernel)
theorem dX11_workIs_59 : decode cX11_workIs 59 = .ok (.iload_n 1, 1) := dR0 (k := 0) (i := 59) bn_cX11_workIs_0 dop_27 (by decide +kernel)
theorem dX11_workIs_60 : decode cX11_workIs 60 = .ok (.iconst 0, 1) := dR0 (k := 0) (i := 60) bn_cX11_workIs_0 dop_3 (by decide +kernel)
theorem dX11_workIs_61 : decode cX11_workIs 61 = .ok (.invokevirtual 55, 3) := dR2 (f := Instr.invokevirtual) (k := 0) (i := 61) bn_cX11_workIs_0 dop_182 55 (by decide +kernel)
theorem dX11_workIs_64 : decode cX11_workIs 64 = .ok (.iconst 5, 1) := dR0 (k := 0) (i := 64) bn_cX11_workIs_0 dop_8 (by decide +kernel)
theorem dX11_workIs_65 : decode cX11_workIs 65 = .ok (.if_icmp .ne 12, 3) := dR2s (f := Instr.if_icmp .ne) (k := 0) (i := 65) bn_cX11_workIs_0 dop_160 12 12 (by decide +kernel)
theorem dX11_workIs_68 : decode cX11_workIs 68 = .ok (.aload_n 0, 1) := dR0 (k := 0) (i := 68) bn_cX11_workIs_0 dop_42 (by decide +kernel)
theorem dX11_workIs_69 : decode cX11_workIs 69 = .ok (.iload_n 1, 1) := dR0 (k := 0) (i := 69) bn_cX11_workIs_0 dop_27 (by decide +kernel)
theorem dX11_workIs_70 : decode cX11_workIs 70 = .ok (.iconst 5, 1) := dR0 (k := 0) (i := 70) bn_cX11_workIs_0 dop_8 (by decide +kernel)
theorem dX11_workIs_71 : decode cX11_workIs 71 = .ok (.invokevirtual 55, 3) := dR2 (f := Instr.invokevirtual) (k := 0) (i := 71) bn_cX11_workIs_0 dop_182 55 (by decide +kernel)
theorem dX11_workIs_74 : decode cX11_workIs 74 = .ok (.goto 4, 3) := dR2s (f := Instr.goto) (k := 0) (i := 74) bn_cX11_workIs_0 dop_167 4 4 (by decide +kernel)
theorem dX11_workIs_77 : decode cX11_workIs 77 = .ok (.iconst (-1), 1) := dR0 (k := 0) (i := 77) bn_cX11_workIs_0 dop_2 (by decide +kernel)
theorem dX11_workIs_78 : decode cX11_workIs 78 = .ok (.ireturn, 1) := dR0 (k := 0) (i := 78) bn_cX11_workIs_0 dop_172 (by decide +kernel)
theorem dX11_workIs_79 : decode cX11_workIs 79 = .ok (.aload_n 0, 1) := dR0 (k := 0) (i := 79) bn_cX11_workIs_0 dop_42 (by decide +kernel)
theorem dX11_workIs_80 : decode cX11_workIs 80 = .ok (.iload_n 1, 1) := dR0 (k := 0) (i := 80) bn_cX11_workIs_0 dop_27 (by decide +kernel)
theorem dX11_workIs_81 : decode cX11_workIs 81 = .ok (.iconst 1, 1) := dR0 (k := 0) (i := 81) bn_cX11_workIs_0 dop_4 (by decide +kernel)
theorem dX11_workIs_82 : decode cX11_workIs 82 = .ok (.invokevirtual 84, 3) := dR2 (f := Instr.invokevirtual) (k := 0) (i := 82) bn_cX11_workIs_0 dop_182 84 (by decide +kernel)
theorem dX11_workIs_85 : decode cX11_workIs 85 = .ok (.ifCond .eq 30, 3) := dR2s (f := Instr.ifCond .eq) (k := 0) (i := 85) bn_cX11_workIs_0 dop_153 30 30 (by decide +kernel)
theorem dX11_workIs_88 : decode cX11_workIs 88 = .ok (.aload_n 0, 1) := dR0 (k := 0) (i := 88) bn_cX11_workIs_0 dop_42 (by decide +kernel)
theorem dX11_workIs_89 : decode cX11_workIs 89 = .ok (.iconst 2, 1) := dR0 (k := 0) (i := 89) bn_cX11_workIs_0 dop_5 (by decide +kernel)
theorem dX11_workIs_90 : decode cX11_workIs 90 = .ok (.aload_n 0, 1) := dR0 (k := 0) (i := 90) bn_cX11_workIs_0 dop_42 (by decide +kernel)
theorem dX11_workIs_91 : decode cX11_workIs 91 = .ok (.getfield 9, 3) := dR2 (f := Instr.getfield) (k := 0) (i := 91) bn_cX11_workIs_0 dop_180 9 (by decide +kernel)
theorem dX11_workIs_94 : decode cX11_workIs 94 = .ok (.iconst 0, 1) := dR0 (k := 0) (i := 94) bn_cX11_workIs_0 dop_3 (by decide +kernel)
theorem dX11_workIs_95 : decode cX11_workIs 95 = .ok (.iaload, 1) := dR0 (k := 0) (i := 95) bn_cX11_workIs_0 dop_46 (by decide +kernel)
theorem dX11_workIs_96 : decode cX11_workIs 96 = .ok (.aload_n 0, 1) := dR0 (k := 0) (i := 96) bn_cX11_workIs_0 dop_42 (by decide +kernel)
theorem dX11_workIs_97 : decode cX11_workIs 97 = .ok (.iload_n 1, 1) := dR0 (k := 0) (i := 97) bn_cX11_workIs_0 dop_27 (by decide +kernel)
theorem dX11_workIs_98 : decode cX11_workIs 98 = .ok (.iconst 0, 1) := dR0 (k := 0) (i := 98) bn_cX11_workIs_0 dop_3 (by decide +kernel)
theorem dX11_workIs_99 : decode cX11_workIs 99 = .ok (.invokevirtual 55, 3) := dR2 (f := Instr.invokevirtual) (k := 0) (i := 99) bn_cX11_workIs_0 dop_182 55 (by decide +kernel)
theorem dX11_workIs_102 : decode cX11_workIs 102 = .ok (.aload_n 0, 1) := dR0 (k := 0) (i := 102) bn_cX11_workIs_0 dop_42 (by decide +kernel)
theorem dX11_workIs_103 : decode cX11_workIs 103 = .ok (.iload_n 1, 1) := dR0 (k := 0) (i := 103) bn_cX11_workIs_0 dop_27 (by decide +kernel)
theorem dX11_workIs_104 : decode cX11_workIs 104 = .ok (.iconst 2, 1) := dR0 (k := 0) (i := 104) bn_cX11_workIs_0 dop_5 (by decide +kernel)
theorem dX11_workIs_105 : decode cX11_workIs 105 = .ok (.invokevirtual 55, 3) := dR2 (f := Instr.invokevirtual) (k := 0) (i := 105) bn_cX11_workIs_0 dop_182 55 (by decide +kernel)
theorem dX11_workIs_108 : decode cX11_workIs 108 = .ok (.iconst 0, 1) := dR0 (k := 0) (i := 108) bn_cX11_workIs_0 dop_3 (by decide +kernel)
theorem dX11_workIs_109 : decode cX11_workIs 109 = .ok (.invokevirtual 90, 3) := dR2 (f := Instr.invokevirtual) (k := 0) (i := 109) bn_cX11_workIs_0 dop_182 90 (by decide +kernel)
theorem dX11_workIs_112 : decode cX11_workIs 112 = .ok (.goto 4, 3) := dR2s (f := Instr.goto) (k := 0) (i := 112) bn_cX11_workIs_0 dop_167 4 4 (by decide +kernel)
theorem dX11_workIs_115 : decode cX11_workIs 115 = .ok (.iconst 0, 1) := dR0 (k := 0) (i := 115) bn_cX11_workIs_0 dop_3 (by decide +kernel)
theorem dX11_workIs_116 : decode cX11_workIs 116 = .ok (.ireturn, 1) := dR0 (k := 0) (i := 116) bn_cX11_workIs_0 dop_172 (by decide +kernel)
theorem dX11_workIs_117 : decode cX11_workIs 117 = .ok (.aload_n 0, 1) := dR0 (k := 0) (i := 117) bn_cX11_workIs_0 dop_42 (by decide +kernel)
theorem dX11_workIs_118 : decode cX11_workIs 118 = .ok (.iload_n 1, 1) := dR0 (k := 0) (i := 118) bn_cX11_workIs_0 dop_27 (by decide +kernel)
theorem dX11_workIs_119 : decode cX11_workIs 119 = .ok (.iload_n 2, 1) := dR0 (k := 0) (i := 119) bn_cX11_workIs_0 dop_28 (by decide +kernel)
theorem dX11_workIs_120 : decode cX11_workIs 120 = .ok (.invokevirtual 55, 3) := dR2 (f := Instr.invokevirtual) (k := 0) (i := 120) bn_cX11_workIs_0 dop_182 55 (by decide +kernel)
theorem dX11_workIs_123 : decode cX11_workIs 123 = .ok (.ireturn, 1) := dR0 (k := 0) (i := 123) bn_cX11_workIs_0 dop_172 (by decide +kernel)
set_option maxHeartbeats 4000000 in
set_option maxRecDepth 100000 in
theorem c_X11_workIsG (l : Launch) (D : va_G) (cI : ClassId) (aK aV : Nat → Nat) (k k0 k1 k2 k4 k5 k6 k7 k8 ka kb kl ko : Nat) (sz : Nat) (c3 : Int32) (c9 : Int32) (cc : Int32) (cd : Int32) (ce : Int32) (cf : Int32) (cg : Int32) (ch : Int32) (ci : Int32) (cj : Int32) (ck : Int32) (cm : Int32) (cn : Int32) (c0 : Nat → Int32) (c4 : Nat → Int32) (a0 : Int32) (a1 : Int32) (pre0 : SB c0) : Met l yX11_workIs (gW yX11_workIs cX11_workIs 3 (some .int)) ({ frames := 121, cells := 0, slots := 0, locals := 8335 } : Room) (kPreX D cI aK aV [.ref k, .int a0, .int a1] [(k, .inr (11, [.ref k0, .ref k1, .ref k2, .int c3, .ref k4, .ref k5, .ref k6, .ref k7, .ref k8, .int c9, .ref ka, .ref kb, .int cc, .int cd, .int ce, .int cf, .int cg, .int ch, .int ci, .int cj, .int ck, .ref kl, .int cm, .int cn, .ref ko])), (k0, .inl (cI, 1201, .inl c0)), (k4, .inl (cI, 6, .inl c4))] sz) (va_Qi (fun (r : Int32) (u : Int32 × Int32 × Int32 × Int32 × Int32 × Int32 × Int32 × Int32 × Int32 × (Nat → Int32)) => ((a1.toInt = 7 ∧ (0 ≤ a0.toInt ∧ a0.toInt < (c0 1).toInt) ∧ stF c0 a0 1 = 1 ∧ PRV (fun j => c0 (495 + 53 * j)) (fun j => c0 (496 + 53 * j)) (fun j => tG c0 (498 + 53 * j) (c0 (497 + 53 * j))) (fun j => c0 (497 + 53 * j)) (c0 3).toInt.toNat (c0 0) 2 (wW c0 a0 0) (wW c0 a0 2) 0 r) ∨ (¬ (a1.toInt = 7 ∧ (0 ≤ a0.toInt ∧ a0.toInt < (c0 1).toInt) ∧ stF c0 a0 1 = 1) ∧ r = wiR c0 a0 a1))) (fun u t => kWd D cI (va_A [(k, .inr (11, [.ref k0, .ref k1, .ref k2, .int c3, .ref k4, .ref k5, .ref k6, .ref k7, .ref k8, .int c9, .ref ka, .ref kb, .int cc, .int cd, .int ce, .int cf, .int cg, .int ch, .int ci, .int cj, .int ck, .ref kl, .int cm, .int cn, .ref ko])), (k0, .inl (cI, 1201, .inl c0)), (k4, .inl (cI, 6, .inl c4))] sz) [(k, .inr (11, [.ref k0, .ref k1, .ref k2, .int c3, .ref k4, .ref k5, .ref k6, .ref k7, .ref k8, .int c9, .ref ka, .ref kb, .int u.1, .int u.2.1, .int u.2.2.1, .int u.2.2.2.1, .int u.2.2.2.2.1, .int u.2.2.2.2.2.1, .int u.2.2.2.2.2.2.1, .int u.2.2.2.2.2.2.2.1, .int u.2.2.2.2.2.2.2.2.1, .ref kl, .int cm, .int cn, .ref ko])), (k0, .inl (cI, 1201, .inl c0)), (k4, .inl (cI, 6, .inl u.2.2.2.2.2.2.2.2.2))] t) (va_A [(k, .inr (11, [.ref k0, .ref k1, .ref k2, .int c3, .ref k4, .ref k5, .ref k6, .ref k7, .ref k8, .int c9, .ref ka, .ref kb, .int cc, .int cd, .int ce, .int cf, .int cg, .int ch, .int ci, .int cj, .int ck, .ref kl, .int cm, .int cn, .ref ko])), (k0, .inl (cI, 1201, .inl c0)), (k4, .inl (cI, 6, .inl c4))] sz)) 0 0 (va_A [(k, .inr (11, [.ref k0, .ref k1, .ref k2, .int c3, .ref k4, .ref k5, .ref k6, .ref k7, .ref k8, .int c9, .ref ka, .ref kb, .int cc, .int cd, .int ce, .int cf, .int cg, .int ch, .int ci, .int cj, .int ck, .ref kl, .int cm, .int cn, .ref ko])), (k0, .inl (cI, 1201, .inl c0)), (k4, .inl (cI, 6, .inl c4))] sz) := by
  refine kMetIX (own := RX11) (by decide +kernel) rfl (Nat.le_of_ble_eq_true rfl) ?_
  intro p e s m args below meth c hx hb hT hown hname hml A Q hK hP hD hS hA hN hXS hRet ls hl
  have hl : lv_has ls 3 [(0, .ref k), (1, .int a0), (2, .int a1)] := hl
  have lo_a0 := k_lo a0
  have hi_a0 := k_hi a0
  have lo_a1 := k_lo a1
  have hi_a1 := k_hi a1
  have lo_ci := k_lo ci
  have hi_ci := k_hi ci
  have pre0 : SB c0 := pre0
  have nb_1 : 0 ≤ (c0 0).toInt ∧ (c0 0).toInt ≤ 2000 := SB.n0 pre0
  have nb_2 : 0 ≤ (c0 1).toInt ∧ (c0 1).toInt ≤ 60 := SB.n1 pre0
  have nb_3 : 0 ≤ (c0 2).toInt ∧ (c0 2).toInt ≤ 4 := SB.n2 pre0
  refine lv_aload_n hx hb dX11_workIs_0 rfl (lv_at hl 0 rfl) ?_
  refine lv_iload_n hx hb dX11_workIs_1 rfl (lv_at hl 1 rfl) ?_
  refine kJi (wr := [(k4, .inl (cI, 6, .inl c4))]) (va_runV (As := [.int a0]) (rest := []) ⟨hx, hb, hml, hown, hT⟩ (c_X11_isWorkG l D cI aK aV k k0 k1 k2 k4 k5 k6 k7 k8 ka kb kl ko s.heap.size c3 c9 cc cd ce cf cg ch ci cj ck cm cn c0 a0 pre0) (cwV 1 hT (gV_in mw_1272 mw_1269 mw_1271 mw_p3_11 mw_12) rfl rfl rfl (by decide +kernel) ⟨Nat.le_of_ble_eq_true rfl, Nat.le_of_ble_eq_true rfl⟩) (kRecvX (q0 := 0) (ci := 11) hK hP hD hN hXS hS hA rfl rfl [0, 1] rfl (by decide +kernel)) rfl rfl hl.1 rfl (lv_room (Nat.le_of_ble_eq_true rfl)) dX11_workIs_2 ⟨Nat.le_of_ble_eq_true rfl, Nat.le_of_ble_eq_true rfl⟩) hP hD hS hA [0, 1] [2] rfl rfl (by decide +kernel) (by decide +kernel) ?_
  clear hP hD hS
  intro r_4 u_6 H locs w_5 hP hD hS
  replace hP : va_P D vwCl [(k4, .inl (cI, 6, .inl c4)), (k, .inr (11, [.ref k0, .ref k1, .ref k2, .int c3, .ref k4, .ref k5, .ref k6, .ref k7, .ref k8, .int c9, .ref ka, .ref kb, .int cc, .int cd, .int ce, .int cf, .int cg, .int ch, .int ci, .int cj, .int ck, .ref kl, .int cm, .int cn, .ref ko])), (k0, .inl (cI, 1201, .inl c0))] H := hP
  replace hD : va_D A [(k4, .inl (cI, 6, .inl c4)), (k, .inr (11, [.ref k0, .ref k1, .ref k2, .int c3, .ref k4, .ref k5, .ref k6, .ref k7, .ref k8, .int c9, .ref ka, .ref kb, .int cc, .int cd, .int ce, .int cf, .int cg, .int ch, .int ci, .int cj, .int ck, .ref kl, .int cm, .int cn, .ref ko])), (k0, .inl (cI, 1201, .inl c0))] := hD
  rcases w_5 with ⟨hr_4, h_7, h_8⟩ | ⟨hr_4, h_9⟩
  · have h_7 : 0 ≤ a0.toInt := h_7
    have h_8 : a0.toInt < (c0 1).toInt := h_8
    obtain rfl : r_4 = 1 := hr_4.trans (by decide +kernel)
    refine b_if_eq hx hb zl_1 (tgt := 18) dX11_workIs_5 (by decide +kernel) (fun c_10 => by exfalso; omega) (fun c_10 => ?_)
    refine lv_iload_n hx hb dX11_workIs_8 rfl (lv_at hl 2 rfl) ?_
    refine lv_iconst (v := 0) hx hb dX11_workIs_9 (by decide +kernel) ?_
    refine lv_bipush (v := 7) hx hb dX11_workIs_10 (by decide +kernel) ?_
    refine kJi (wr := [(k4, .inl (cI, 6, .inl c4)), (k, .inr (11, [.ref k0, .ref k1, .ref k2, .int c3, .ref k4, .ref k5, .ref k6, .ref k7, .ref k8, .int c9, .ref ka, .ref kb, .int cc, .int cd, .int ce, .int cf, .int cg, .int ch, .int ci, .int cj, .int ck, .ref kl, .int cm, .int cn, .ref ko])), (k0, .inl (cI, 1201, .inl c0))]) (va_runS (As := [.int a1, .int 0, .int 7]) (rest := []) ⟨hx, hb, hml, hown, hT⟩ (c_X11_inG l D cI aK aV H.size a1 0 7) (cwS 3 hT (gS_in mw_1238 mw_1236 mw_1237 mw_12) rfl rfl rfl (by decide +kernel) ⟨Nat.le_of_ble_eq_true rfl, Nat.le_of_ble_eq_true rfl⟩) (kStatX hK hP hD hN hXS hS hA [] rfl (by decide +kernel)) rfl rfl hl.1 rfl (lv_room (Nat.le_of_ble_eq_true rfl)) dX11_workIs_12 ⟨Nat.le_of_ble_eq_true rfl, Nat.le_of_ble_eq_true rfl⟩) hP hD hS hA [] [0, 1, 2] rfl rfl (by decide +kernel) (by decide +kernel) ?_
    clear hP hD hS
    intro r_11 u_13 H locs w_12 hP hD hS
    replace hP : va_P D vwCl [(k4, .inl (cI, 6, .inl c4)), (k, .inr (11, [.ref k0, .ref k1, .ref k2, .int c3, .ref k4, .ref k5, .ref k6, .ref k7, .ref k8, .int c9, .ref ka, .ref kb, .int cc, .int cd, .int ce, .int cf, .int cg, .int ch, .int ci, .int cj, .int ck, .ref kl, .int cm, .int cn, .ref ko])), (k0, .inl (cI, 1201, .inl c0))] H := hP
    replace hD : va_D A [(k4, .inl (cI, 6, .inl c4)), (k, .inr (11, [.ref k0, .ref k1, .ref k2, .int c3, .ref k4, .ref k5, .ref k6, .ref k7, .ref k8, .int c9, .ref ka, .ref kb, .int cc, .int cd, .int ce, .int cf, .int cg, .int ch, .int ci, .int cj, .int ck, .ref kl, .int cm, .int cn, .ref ko])), (k0, .inl (cI, 1201, .inl c0))] := hD
    rcases w_12 with ⟨hr_11, h_14, h_15⟩ | ⟨hr_11, h_16⟩
    · try simp only [zl_0, zl_7] at h_14
      have h_14 : 0 ≤ a1.toInt := h_14
      try simp only [zl_0, zl_7] at h_15
      have h_15 : a1.toInt ≤ 7 := h_15
      obtain rfl : r_11 = 1 := hr_11.trans (by decide +kernel)
      refine b_if_ne hx hb zl_1 (tgt := 25) dX11_workIs_15 (by decide +kernel) (fun c_17 => ?_) (fun c_17 => by exfalso; omega)
      refine lv_iload_n hx hb dX11_workIs_25 rfl (lv_at hl 2 rfl) ?_
      by_cases c_18 : a1.toInt = 5
      · refine lv_tableIn (off := 26) (tgt := 52) hx hb dX11_workIs_26 (by omega) (by omega) (by rw [c_18]; decide) (by decide +kernel) ?_
        refine lv_aload_n hx hb dX11_workIs_52 rfl (lv_at hl 0 rfl) ?_
        refine lv_iload_n hx hb dX11_workIs_53 rfl (lv_at hl 1 rfl) ?_
        refine kJi (wr := [(k4, .inl (cI, 6, .inl c4))]) (va_runV (As := [.int a0]) (rest := []) ⟨hx, hb, hml, hown, hT⟩ (c_X11_eatenOnG l D cI aK aV k k0 k1 k2 k4 k5 k6 k7 k8 ka kb kl ko H.size c3 c9 cc cd ce cf cg ch ci cj ck cm cn c0 a0 pre0 (by first | omega | decide | assumption | rfl) (by first | omega | decide | assumption | rfl)) (cwV 1 hT (gV_in mw_1291 mw_1288 mw_1290 mw_p3_13 mw_12) rfl rfl rfl (by decide +kernel) ⟨Nat.le_of_ble_eq_true rfl, Nat.le_of_ble_eq_true rfl⟩) (kRecvX (q0 := 1) (ci := 11) hK hP hD hN hXS hS hA rfl rfl [1, 2] rfl (by decide +kernel)) rfl rfl hl.1 rfl (lv_room (Nat.le_of_ble_eq_true rfl)) dX11_workIs_54 ⟨Nat.le_of_ble_eq_true rfl, Nat.le_of_ble_eq_true rfl⟩) hP hD hS hA [1, 2] [0] rfl rfl (by decide +kernel) (by decide +kernel) ?_
        clear hP hD hS
        intro r_19 u_21 H locs w_20 hP hD hS
        replace hP : va_P D vwCl [(k4, .inl (cI, 6, .inl c4)), (k, .inr (11, [.ref k0, .ref k1, .ref k2, .int c3, .ref k4, .ref k5, .ref k6, .ref k7, .ref k8, .int c9, .ref ka, .ref kb, .int cc, .int cd, .int ce, .int cf, .int cg, .int ch, .int ci, .int cj, .int ck, .ref kl, .int cm, .int cn, .ref ko])), (k0, .inl (cI, 1201, .inl c0))] H := hP
        replace hD : va_D A [(k4, .inl (cI, 6, .inl c4)), (k, .inr (11, [.ref k0, .ref k1, .ref k2, .int c3, .ref k4, .ref k5, .ref k6, .ref k7, .ref k8, .int c9, .ref ka, .ref kb, .int cc, .int cd, .int ce, .int cf, .int cg, .int ch, .int ci, .int cj, .int ck, .ref kl, .int cm, .int cn, .ref ko])), (k0, .inl (cI, 1201, .inl c0))] := hD
        have h_22 := w_20
        have h_22 : r_19 = eoN c0 a0.toInt.toNat := h_22
        have h_22 : r_19 = eoN c0 a0.toInt.toNat := h_22
        have lo_r_19 := k_lo r_19
        have hi_r_19 := k_hi r_19
        exact hRet (cc, cd, ce, cf, cg, ch, ci, cj, ck, c4) [1, 2, 0] (Or.inr ⟨(fun z => by omega), by unfold wiR; (repeat (first | rw [if_pos (by omega)] | rw [if_neg (by omega)])); exact h_22⟩) hP hD (by decide +kernel) rfl hS rfl dX11_workIs_57
      by_cases c_23 : a1.toInt = 6
      · refine lv_tableIn (off := 32) (tgt := 58) hx hb dX11_workIs_26 (by omega) (by omega) (by rw [c_23]; decide) (by decide +kernel) ?_
        refine lv_aload_n hx hb dX11_workIs_58 rfl (lv_at hl 0 rfl) ?_
        refine lv_iload_n hx hb dX11_workIs_59 rfl (lv_at hl 1 rfl) ?_
        refine lv_iconst (v := 0) hx hb dX11_workIs_60 (by decide +kernel) ?_
        refine kJi (wr := [(k4, .inl (cI, 6, .inl c4))]) (va_runV (As := [.int a0, .int 0]) (rest := []) ⟨hx, hb, hml, hown, hT⟩ (c_X11_workG0 l D cI aK aV k k0 k1 k2 k4 k5 k6 k7 k8 ka kb kl ko H.size c3 c9 cc cd ce cf cg ch ci cj ck cm cn c0 a0 0 (by first | omega | (simp only [zl_0]; first | done | omega) | decide | assumption | rfl) (by first | omega | (simp only [zl_0]; first | done | omega) | decide | assumption | rfl) (by first | omega | (simp only [zl_0]; first | done | omega) | decide | assumption | rfl)) (cwV 2 hT (gV_in mw_1276 mw_1273 mw_1275 mw_p3_12 mw_12) rfl rfl rfl (by decide +kernel) ⟨Nat.le_of_ble_eq_true rfl, Nat.le_of_ble_eq_true rfl⟩) (kRecvX (q0 := 1) (ci := 11) hK hP hD hN hXS hS hA rfl rfl [1, 2] rfl (by decide +kernel)) rfl rfl hl.1 rfl (lv_room (Nat.le_of_ble_eq_true rfl)) dX11_workIs_61 ⟨Nat.le_of_ble_eq_true rfl, Nat.le_of_ble_eq_true rfl⟩) hP hD hS hA [1, 2] [0] rfl rfl (by decide +kernel) (by decide +kernel) ?_
        clear hP hD hS
        intro r_24 u_26 H locs w_25 hP hD hS
        replace hP : va_P D vwCl [(k4, .inl (cI, 6, .inl c4)), (k, .inr (11, [.ref k0, .ref k1, .ref k2, .int c3, .ref k4, .ref k5, .ref k6, .ref k7, .ref k8, .int c9, .ref ka, .ref kb, .int cc, .int cd, .int ce, .int cf, .int cg, .int ch, .int ci, .int cj, .int ck, .ref kl, .int cm, .int cn, .ref ko])), (k0, .inl (cI, 1201, .inl c0))] H := hP
        replace hD : va_D A [(k4, .inl (cI, 6, .inl c4)), (k, .inr (11, [.ref k0, .ref k1, .ref k2, .int c3, .ref k4, .ref k5, .ref k6, .ref k7, .ref k8, .int c9, .ref ka, .ref kb, .int cc, .int cd, .int ce, .int cf, .int cg, .int ch, .int ci, .int cj, .int ck, .ref kl, .int cm, .int cn, .ref ko])), (k0, .inl (cI, 1201, .inl c0))] := hD
        have h_27 := w_25
        have h_27 : r_24 = wW c0 a0 0 := h_27
        have t_28 : r_24.toInt = (wW c0 a0 0).toInt := by rw [h_27]
        have b_29 : 0 ≤ r_24.toInt ∧ r_24.toInt ≤ 5 := by rw [h_27]; exact SB.w0 pre0 (by omega) (by omega)
        have lo_r_24 := k_lo r_24
        have hi_r_24 := k_hi r_24
        refine lv_iconst (v := 5) hx hb dX11_workIs_64 (by decide +kernel) ?_
        refine b_icmp_ne hx hb rfl zl_5 (tgt := 77) dX11_workIs_65 (by decide +kernel) (fun c_30 => ?_) (fun c_30 => ?_)
        · refine lv_iconst (v := (-1)) hx hb dX11_workIs_77 (by decide +kernel) ?_
          exact hRet (cc, cd, ce, cf, cg, ch, ci, cj, ck, c4) [1, 2, 0] (Or.inr ⟨(fun z => by omega), by unfold wiR; (repeat (first | rw [if_pos (by omega)] | rw [if_neg (by omega)]))⟩) hP hD (by decide +kernel) rfl hS rfl dX11_workIs_78
        · refine lv_aload_n hx hb dX11_workIs_68 rfl (lv_at hl 0 rfl) ?_
          refine lv_iload_n hx hb dX11_workIs_69 rfl (lv_at hl 1 rfl) ?_
          refine lv_iconst (v := 5) hx hb dX11_workIs_70 (by decide +kernel) ?_
          refine kJi (wr := [(k4, .inl (cI, 6, .inl c4))]) (va_runV (As := [.int a0, .int 5]) (rest := []) ⟨hx, hb, hml, hown, hT⟩ (c_X11_workG5 l D cI aK aV k k0 k1 k2 k4 k5 k6 k7 k8 ka kb kl ko H.size c3 c9 cc cd ce cf cg ch ci cj ck cm cn c0 a0 5 (by first | omega | (simp only [zl_5]; first | done | omega) | decide | assumption | rfl) (by first | omega | (simp only [zl_5]; first | done | omega) | decide | assumption | rfl) (by first | omega | (simp only [zl_5]; first | done | omega) | decide | assumption | rfl)) (cwV 2 hT (gV_in mw_1276 mw_1273 mw_1275 mw_p3_12 mw_12) rfl rfl rfl (by decide +kernel) ⟨Nat.le_of_ble_eq_true rfl, Nat.le_of_ble_eq_true rfl⟩) (kRecvX (q0 := 1) (ci := 11) hK hP hD hN hXS hS hA rfl rfl [1, 2] rfl (by decide +kernel)) rfl rfl hl.1 rfl (lv_room (Nat.le_of_ble_eq_true rfl)) dX11_workIs_71 ⟨Nat.le_of_ble_eq_true rfl, Nat.le_of_ble_eq_true rfl⟩) hP hD hS hA [1, 2] [0] rfl rfl (by decide +kernel) (by decide +kernel) ?_
          clear hP hD hS
          intro r_31 u_33 H locs w_32 hP hD hS
          replace hP : va_P D vwCl [(k4, .inl (cI, 6, .inl c4)), (k, .inr (11, [.ref k0, .ref k1, .ref k2, .int c3, .ref k4, .ref k5, .ref k6, .ref k7, .ref k8, .int c9, .ref ka, .ref kb, .int cc, .int cd, .int ce, .int cf, .int cg, .int ch, .int ci, .int cj, .int ck, .ref kl, .int cm, .int cn, .ref ko])), (k0, .inl (cI, 1201, .inl c0))] H := hP
          replace hD : va_D A [(k4, .inl (cI, 6, .inl c4)), (k, .inr (11, [.ref k0, .ref k1, .ref k2, .int c3, .ref k4, .ref k5, .ref k6, .ref k7, .ref k8, .int c9, .ref ka, .ref kb, .int cc, .int cd, .int ce, .int cf, .int cg, .int ch, .int ci, .int cj, .int ck, .ref kl, .int cm, .int cn, .ref ko])), (k0, .inl (cI, 1201, .inl c0))] := hD
          have h_34 := w_32
          have h_34 : r_31 = wW c0 a0 5 := h_34
          have t_35 : r_31.toInt = (wW c0 a0 5).toInt := by rw [h_34]
          have b_36 : 0 ≤ r_31.toInt ∧ r_31.toInt ≤ 9999 := by rw [h_34]; exact SB.w5 pre0 (by omega) (by omega)
          have lo_r_31 := k_lo r_31
          have hi_r_31 := k_hi r_31
          refine lv_goto (tgt := 78) hx hb dX11_workIs_74 (by decide +kernel) ?_
          exact hRet (cc, cd, ce, cf, cg, ch, ci, cj, ck, c4) [1, 2, 0] (Or.inr ⟨(fun z => by omega), by unfold wiR; (repeat (first | rw [if_pos (by omega)] | rw [if_neg (by omega)])); first | done | exact h_34⟩) hP hD (by decide +kernel) rfl hS rfl dX11_workIs_78
      by_cases c_37 : a1.toInt = 7
      · refine lv_tableIn (off := 53) (tgt := 79) hx hb dX11_workIs_26 (by omega) (by omega) (by rw [c_37]; decide) (by decide +kernel) ?_
        refine lv_aload_n hx hb dX11_workIs_79 rfl (lv_at hl 0 rfl) ?_
        refine lv_iload_n hx hb dX11_workIs_80 rfl (lv_at hl 1 rfl) ?_
        refine lv_iconst (v := 1) hx hb dX11_workIs_81 (by decide +kernel) ?_
        refine kJi (wr := [(k4, .inl (cI, 6, .inl c4))]) (va_runV (As := [.int a0, .int 1]) (rest := []) ⟨hx, hb, hml, hown, hT⟩ (c_X11_standsG l D cI aK aV k k0 k1 k2 k4 k5 k6 k7 k8 ka kb kl ko H.size c3 c9 cc cd ce cf cg ch ci cj ck cm cn c0 a0 1 (by first | omega | (simp only [zl_1]; first | done | omega) | decide | assumption | rfl) (by first | omega | (simp only [zl_1]; first | done | omega) | decide | assumption | rfl) pre0) (cwV 2 hT (gV_in mw_1295 mw_1292 mw_1294 mw_p3_14 mw_12) rfl rfl rfl (by decide +kernel) ⟨Nat.le_of_ble_eq_true rfl, Nat.le_of_ble_eq_true rfl⟩) (kRecvX (q0 := 1) (ci := 11) hK hP hD hN hXS hS hA rfl rfl [1, 2] rfl (by decide +kernel)) rfl rfl hl.1 rfl (lv_room (Nat.le_of_ble_eq_true rfl)) dX11_workIs_82 ⟨Nat.le_of_ble_eq_true rfl, Nat.le_of_ble_eq_true rfl⟩) hP hD hS hA [1, 2] [0] rfl rfl (by decide +kernel) (by decide +kernel) ?_
        clear hP hD hS
        intro r_38 u_40 H locs w_39 hP hD hS
        replace hP : va_P D vwCl [(k4, .inl (cI, 6, .inl c4)), (k, .inr (11, [.ref k0, .ref k1, .ref k2, .int c3, .ref k4, .ref k5, .ref k6, .ref k7, .ref k8, .int c9, .ref ka, .ref kb, .int cc, .int cd, .int ce, .int cf, .int cg, .int ch, .int ci, .int cj, .int ck, .ref kl, .int cm, .int cn, .ref ko])), (k0, .inl (cI, 1201, .inl c0))] H := hP
        replace hD : va_D A [(k4, .inl (cI, 6, .inl c4)), (k, .inr (11, [.ref k0, .ref k1, .ref k2, .int c3, .ref k4, .ref k5, .ref k6, .ref k7, .ref k8, .int c9, .ref ka, .ref kb, .int cc, .int cd, .int ce, .int cf, .int cg, .int ch, .int ci, .int cj, .int ck, .ref kl, .int cm, .int cn, .ref ko])), (k0, .inl (cI, 1201, .inl c0))] := hD
        rcases w_39 with ⟨hr_38, h_41⟩ | ⟨hr_38, h_42⟩
        · try simp only [zl_1] at h_41
          have h_41 : stF c0 a0 1 = 1 := h_41
          obtain rfl : r_38 = 1 := hr_38.trans (by decide +kernel)
          refine b_if_eq hx hb zl_1 (tgt := 115) dX11_workIs_85 (by decide +kernel) (fun c_43 => by exfalso; omega) (fun c_43 => ?_)
          refine lv_aload_n hx hb dX11_workIs_88 rfl (lv_at hl 0 rfl) ?_
          refine lv_iconst (v := 2) hx hb dX11_workIs_89 (by decide +kernel) ?_
          refine lv_aload_n hx hb dX11_workIs_90 rfl (lv_at hl 0 rfl) ?_
          refine va_get (D := D) (ci := 11) (v := .ref k0) (C := RX11) (T := TX11) (N := 25) hx hb hT giX11 hown hK hP 1 rfl rfl 0 (by decide +kernel) (hT (Cond.fieldLink RX11 9 "DesertWireModel" "s" "[I") mw_1156) (fun _ h9 => h9) rfl dX11_workIs_91 ?_
          refine lv_iconst (v := 0) hx hb dX11_workIs_94 (by decide +kernel) ?_
          refine k_iald (v := (c0 0)) hx hb hK hP 2 0 rfl rfl (k_inl (by decide +kernel)) rfl dX11_workIs_95 ?_
          refine lv_topi (fun v_44 ev_44 => ?_)
          have lo_v_44 := k_lo v_44
          have hi_v_44 := k_hi v_44
          have tv_44 : v_44.toInt = (c0 0).toInt := by rw [ev_44]
          have b_45 : 0 ≤ v_44.toInt ∧ v_44.toInt ≤ 2000 := by first | (rw [tv_44]; exact SB.n0 pre0) | exact SB.n0 pre0 | omega
          refine lv_aload_n hx hb dX11_workIs_96 rfl (lv_at hl 0 rfl) ?_
          refine lv_iload_n hx hb dX11_workIs_97 rfl (lv_at hl 1 rfl) ?_
          refine lv_iconst (v := 0) hx hb dX11_workIs_98 (by decide +kernel) ?_
          refine kJi (wr := [(k4, .inl (cI, 6, .inl c4))]) (va_runV (As := [.int a0, .int 0]) (rest := [.int v_44, .int 2, .ref k]) ⟨hx, hb, hml, hown, hT⟩ (c_X11_workG0 l D cI aK aV k k0 k1 k2 k4 k5 k6 k7 k8 ka kb kl ko H.size c3 c9 cc cd ce cf cg ch ci cj ck cm cn c0 a0 0 (by first | omega | (simp only [zl_0]; first | done | omega) | decide | assumption | rfl) (by first | omega | (simp only [zl_0]; first | done | omega) | decide | assumption | rfl) (by first | omega | (simp only [zl_0]; first | done | omega) | decide | assumption | rfl)) (cwV 2 hT (gV_in mw_1276 mw_1273 mw_1275 mw_p3_12 mw_12) rfl rfl rfl (by decide +kernel) ⟨Nat.le_of_ble_eq_true rfl, Nat.le_of_ble_eq_true rfl⟩) (kRecvX (q0 := 1) (ci := 11) hK hP hD hN hXS hS hA rfl rfl [1, 2] rfl (by decide +kernel)) rfl rfl hl.1 rfl (lv_room (Nat.le_of_ble_eq_true rfl)) dX11_workIs_99 ⟨Nat.le_of_ble_eq_true rfl, Nat.le_of_ble_eq_true rfl⟩) hP hD hS hA [1, 2] [0] rfl rfl (by decide +kernel) (by decide +kernel) ?_
          clear hP hD hS
          intro r_46 u_48 H locs w_47 hP hD hS
          replace hP : va_P D vwCl [(k4, .inl (cI, 6, .inl c4)), (k, .inr (11, [.ref k0, .ref k1, .ref k2, .int c3, .ref k4, .ref k5, .ref k6, .ref k7, .ref k8, .int c9, .ref ka, .ref kb, .int cc, .int cd, .int ce, .int cf, .int cg, .int ch, .int ci, .int cj, .int ck, .ref kl, .int cm, .int cn, .ref ko])), (k0, .inl (cI, 1201, .inl c0))] H := hP
          replace hD : va_D A [(k4, .inl (cI, 6, .inl c4)), (k, .inr (11, [.ref k0, .ref k1, .ref k2, .int c3, .ref k4, .ref k5, .ref k6, .ref k7, .ref k8, .int c9, .ref ka, .ref kb, .int cc, .int cd, .int ce, .int cf, .int cg, .int ch, .int ci, .int cj, .int ck, .ref kl, .int cm, .int cn, .ref ko])), (k0, .inl (cI, 1201, .inl c0))] := hD
          have h_49 := w_47
          have h_49 : r_46 = wW c0 a0 0 := h_49
          have t_50 : r_46.toInt = (wW c0 a0 0).toInt := by rw [h_49]
          have b_51 : 0 ≤ r_46.toInt ∧ r_46.toInt ≤ 5 := by rw [h_49]; exact SB.w0 pre0 (by omega) (by omega)
          have lo_r_46 := k_lo r_46
          have hi_r_46 := k_hi r_46
          refine lv_aload_n hx hb dX11_workIs_102 rfl (lv_at hl 0 rfl) ?_
          refine lv_iload_n hx hb dX11_workIs_103 rfl (lv_at hl 1 rfl) ?_
          refine lv_iconst (v := 2) hx hb dX11_workIs_104 (by decide +kernel) ?_
          refine kJi (wr := [(k4, .inl (cI, 6, .inl c4))]) (va_runV (As := [.int a0, .int 2]) (rest := [.int r_46, .int v_44, .int 2, .ref k]) ⟨hx, hb, hml, hown, hT⟩ (c_X11_workG2 l D cI aK aV k k0 k1 k2 k4 k5 k6 k7 k8 ka kb kl ko H.size c3 c9 cc cd ce cf cg ch ci cj ck cm cn c0 a0 2 (by first | omega | (simp only [zl_2]; first | done | omega) | decide | assumption | rfl) (by first | omega | (simp only [zl_2]; first | done | omega) | decide | assumption | rfl) (by first | omega | (simp only [zl_2]; first | done | omega) | decide | assumption | rfl)) (cwV 2 hT (gV_in mw_1276 mw_1273 mw_1275 mw_p3_12 mw_12) rfl rfl rfl (by decide +kernel) ⟨Nat.le_of_ble_eq_true rfl, Nat.le_of_ble_eq_true rfl⟩) (kRecvX (q0 := 1) (ci := 11) hK hP hD hN hXS hS hA rfl rfl [1, 2] rfl (by decide +kernel)) rfl rfl hl.1 rfl (lv_room (Nat.le_of_ble_eq_true rfl)) dX11_workIs_105 ⟨Nat.le_of_ble_eq_true rfl, Nat.le_of_ble_eq_true rfl⟩) hP hD hS hA [1, 2] [0] rfl rfl (by decide +kernel) (by decide +kernel) ?_
          clear hP hD hS
          intro r_52 u_54 H locs w_53 hP hD hS
          replace hP : va_P D vwCl [(k4, .inl (cI, 6, .inl c4)), (k, .inr (11, [.ref k0, .ref k1, .ref k2, .int c3, .ref k4, .ref k5, .ref k6, .ref k7, .ref k8, .int c9, .ref ka, .ref kb, .int cc, .int cd, .int ce, .int cf, .int cg, .int ch, .int ci, .int cj, .int ck, .ref kl, .int cm, .int cn, .ref ko])), (k0, .inl (cI, 1201, .inl c0))] H := hP
          replace hD : va_D A [(k4, .inl (cI, 6, .inl c4)), (k, .inr (11, [.ref k0, .ref k1, .ref k2, .int c3, .ref k4, .ref k5, .ref k6, .ref k7, .ref k8, .int c9, .ref ka, .ref kb, .int cc, .int cd, .int ce, .int cf, .int cg, .int ch, .int ci, .int cj, .int ck, .ref kl, .int cm, .int cn, .ref ko])), (k0, .inl (cI, 1201, .inl c0))] := hD
          have h_55 := w_53
          have h_55 : r_52 = wW c0 a0 2 := h_55
          have t_56 : r_52.toInt = (wW c0 a0 2).toInt := by rw [h_55]
          have lo_r_52 := k_lo r_52
          have hi_r_52 := k_hi r_52
          refine lv_iconst (v := 0) hx hb dX11_workIs_108 (by decide +kernel) ?_
          refine kJi (wr := [(k4, .inl (cI, 6, .inl c4))]) (va_runV (As := [.int 2, .int v_44, .int r_46, .int r_52, .int 0]) (rest := []) ⟨hx, hb, hml, hown, hT⟩ (c_X11_priceOfG l D cI aK aV k k0 k1 k2 k4 k5 k6 k7 k8 ka kb kl ko H.size c3 c9 cc cd ce cf cg ch ci cj ck cm cn c0 2 v_44 r_46 r_52 0 pre0 (by first | omega | (simp only [zl_0, zl_2]; first | done | omega) | decide | assumption | rfl) (by first | omega | (simp only [zl_0, zl_2]; first | done | omega) | decide | assumption | rfl)) (cwV 5 hT (gV_in mw_1299 mw_1296 mw_1298 mw_p3_15 mw_12) rfl rfl rfl (by decide +kernel) ⟨Nat.le_of_ble_eq_true rfl, Nat.le_of_ble_eq_true rfl⟩) (kRecvX (q0 := 1) (ci := 11) hK hP hD hN hXS hS hA rfl rfl [1, 2] rfl (by decide +kernel)) rfl rfl hl.1 rfl (lv_room (Nat.le_of_ble_eq_true rfl)) dX11_workIs_109 ⟨Nat.le_of_ble_eq_true rfl, Nat.le_of_ble_eq_true rfl⟩) hP hD hS hA [1, 2] [0] rfl rfl (by decide +kernel) (by decide +kernel) ?_
          clear hP hD hS
          intro r_57 u_68 H locs w_58 hP hD hS
          obtain ⟨scc_59, scd_60, sce_61, scf_62, scg_63, sch_64, sci_65, scj_66, sck_67⟩ := u_68
          replace hP : va_P D vwCl [(k4, .inl (cI, 6, .inl c4)), (k, .inr (11, [.ref k0, .ref k1, .ref k2, .int c3, .ref k4, .ref k5, .ref k6, .ref k7, .ref k8, .int c9, .ref ka, .ref kb, .int scc_59, .int scd_60, .int sce_61, .int scf_62, .int scg_63, .int sch_64, .int sci_65, .int scj_66, .int sck_67, .ref kl, .int cm, .int cn, .ref ko])), (k0, .inl (cI, 1201, .inl c0))] H := hP
          replace hD : va_D A [(k4, .inl (cI, 6, .inl c4)), (k, .inr (11, [.ref k0, .ref k1, .ref k2, .int c3, .ref k4, .ref k5, .ref k6, .ref k7, .ref k8, .int c9, .ref ka, .ref kb, .int scc_59, .int scd_60, .int sce_61, .int scf_62, .int scg_63, .int sch_64, .int sci_65, .int scj_66, .int sck_67, .ref kl, .int cm, .int cn, .ref ko])), (k0, .inl (cI, 1201, .inl c0))] := hD
          have h_69 := w_58
          try simp only [zl_0, zl_2] at h_69
          have h_69 : PRV (fun j => c0 (495 + 53 * j)) (fun j => c0 (496 + 53 * j)) (fun j => tG c0 (498 + 53 * j) (c0 (497 + 53 * j))) (fun j => c0 (497 + 53 * j)) (c0 3).toInt.toNat v_44 2 r_46 r_52 0 r_57 := h_69
          have h_69 : PRV (fun j => c0 (495 + 53 * j)) (fun j => c0 (496 + 53 * j)) (fun j => tG c0 (498 + 53 * j) (c0 (497 + 53 * j))) (fun j => c0 (497 + 53 * j)) (c0 3).toInt.toNat v_44 2 r_46 r_52 0 r_57 := h_69
          have lo_r_57 := k_lo r_57
          have hi_r_57 := k_hi r_57
          refine lv_goto (tgt := 116) hx hb dX11_workIs_112 (by decide +kernel) ?_
          exact hRet (scc_59, scd_60, sce_61, scf_62, scg_63, sch_64, sci_65, scj_66, sck_67, c4) [1, 2, 0] (Or.inl ⟨by omega, ⟨by omega, by omega⟩, h_41, by rw [← ev_44, ← h_49, ← h_55]; exact h_69⟩) hP hD (by decide +kernel) rfl hS rfl dX11_workIs_116
        · try simp only [zl_1] at h_42
          have h_42 : stF c0 a0 1 = 0 := h_42
          obtain rfl : r_38 = 0 := hr_38.trans (by decide +kernel)
          refine b_if_eq hx hb zl_0 (tgt := 115) dX11_workIs_85 (by decide +kernel) (fun c_70 => ?_) (fun c_70 => by exfalso; omega)
          refine lv_iconst (v := 0) hx hb dX11_workIs_115 (by decide +kernel) ?_
          exact hRet (cc, cd, ce, cf, cg, ch, ci, cj, ck, c4) [1, 2, 0] (Or.inr ⟨fun z => by have y := z.2.2; rw [h_42] at y; exact absurd y (by decide +kernel), (by (try dsimp only); unfold wiR; (repeat (first | rw [if_pos (by omega)] | rw [if_neg (by omega)])))⟩) hP hD (by decide +kernel) rfl hS rfl dX11_workIs_116
      refine lv_tableOut (tgt := 117) hx hb dX11_workIs_26 (by omega) (by decide +kernel) ?_
      refine lv_aload_n hx hb dX11_workIs_117 rfl (lv_at hl 0 rfl) ?_
      refine lv_iload_n hx hb dX11_workIs_118 rfl (lv_at hl 1 rfl) ?_
      refine lv_iload_n hx hb dX11_workIs_119 rfl (lv_at hl 2 rfl) ?_
      refine kJi (wr := [(k4, .inl (cI, 6, .inl c4))]) (va_runV (As := [.int a0, .int a1]) (rest := []) ⟨hx, hb, hml, hown, hT⟩ (c_X11_workGV l D cI aK aV k k0 k1 k2 k4 k5 k6 k7 k8 ka kb kl ko H.size c3 c9 cc cd ce cf cg ch ci cj ck cm cn c0 a0 a1 (by first | omega | decide | assumption | rfl) (by first | omega | decide | assumption | rfl) (by first | omega | decide | assumption | rfl) (by first | omega | decide | assumption | rfl)) (cwV 2 hT (gV_in mw_1276 mw_1273 mw_1275 mw_p3_12 mw_12) rfl rfl rfl (by decide +kernel) ⟨Nat.le_of_ble_eq_true rfl, Nat.le_of_ble_eq_true rfl⟩) (kRecvX (q0 := 1) (ci := 11) hK hP hD hN hXS hS hA rfl rfl [1, 2] rfl (by decide +kernel)) rfl rfl hl.1 rfl (lv_room (Nat.le_of_ble_eq_true rfl)) dX11_workIs_120 ⟨Nat.le_of_ble_eq_true rfl, Nat.le_of_ble_eq_true rfl⟩) hP hD hS hA [1, 2] [0] rfl rfl (by decide +kernel) (by decide +kernel) ?_
      clear hP hD hS
      intro r_71 u_73 H locs w_72 hP hD hS
      replace hP : va_P D vwCl [(k4, .inl (cI, 6, .inl c4)), (k, .inr (11, [.ref k0, .ref k1, .ref k2, .int c3, .ref k4, .ref k5, .ref k6, .ref k7, .ref k8, .int c9, .ref ka, .ref kb, .int cc, .int cd, .int ce, .int cf, .int cg, .int ch, .int ci, .int cj, .int ck, .ref kl, .int cm, .int cn, .ref ko])), (k0, .inl (cI, 1201, .inl c0))] H := hP
      replace hD : va_D A [(k4, .inl (cI, 6, .inl c4)), (k, .inr (11, [.ref k0, .ref k1, .ref k2, .int c3, .ref k4, .ref k5, .ref k6, .ref k7, .ref k8, .int c9, .ref ka, .ref kb, .int cc, .int cd, .int ce, .int cf, .int cg, .int ch, .int ci, .int cj, .int ck, .ref kl, .int cm, .int cn, .ref ko])), (k0, .inl (cI, 1201, .inl c0))] := hD
      have h_74 := w_72
      have h_74 : r_71 = c0 (99 + 6 * a0.toInt.toNat + a1.toInt.toNat) := h_74
      have lo_r_71 := k_lo r_71
      have hi_r_71 := k_hi r_71
      exact hRet (cc, cd, ce, cf, cg, ch, ci, cj, ck, c4) [1, 2, 0] (Or.inr ⟨(fun z => by omega), by unfold wiR; (repeat (first | rw [if_pos (by omega)] | rw [if_neg (by omega)])); first | done | assumption⟩) hP hD (by decide +kernel) rfl hS rfl dX11_workIs_123
    · try simp only [zl_0, zl_7] at h_16
      have h_16 : a1.toInt < 0 ∨ 7 < a1.toInt := h_16
      obtain rfl : r_11 = 0 := hr_11.trans (by decide +kernel)
      refine b_if_ne hx hb zl_0 (tgt := 25) dX11_workIs_15 (by decide +kernel) (fun c_75 => by exfalso; omega) (fun c_75 => ?_)
      refine lv_aload_n hx hb dX11_workIs_18 rfl (lv_at hl 0 rfl) ?_
      refine lv_ldc (v := (-1000001)) hx hb hown (hT _ mw_1239) dX11_workIs_19 ?_
      refine kJi (wr := [(k0, .inl (cI, 1201, .inl c0))]) (va_runV (As := [.int (-1000001)]) (rest := []) ⟨hx, hb, hml, hown, hT⟩ (c_X11_findingG l D cI aK aV k k0 k1 k2 k4 k5 k6 k7 k8 ka kb kl ko H.size c3 c9 cc cd ce cf cg ch ci cj ck cm cn c4 (-1000001) (by first | omega | (simp only [zl_m1000001]; first | done | omega) | decide | assumption | rfl) (by first | omega | (simp only [zl_m1000001]; first | done | omega) | decide | assumption | rfl)) (cwV 1 hT (gV_in mw_1243 mw_1240 mw_1242 mw_p3_8 mw_12) rfl rfl rfl (by decide +kernel) ⟨Nat.le_of_ble_eq_true rfl, Nat.le_of_ble_eq_true rfl⟩) (kRecvX (q0 := 1) (ci := 11) hK hP hD hN hXS hS hA rfl rfl [1, 0] rfl (by decide +kernel)) rfl rfl hl.1 rfl (lv_room (Nat.le_of_ble_eq_true rfl)) dX11_workIs_21 ⟨Nat.le_of_ble_eq_true rfl, Nat.le_of_ble_eq_true rfl⟩) hP hD hS hA [1, 0] [2] rfl rfl (by decide +kernel) (by decide +kernel) ?_
      clear hP hD hS
      intro r_76 sc4_78 H locs w_77 hP hD hS
      replace hP : va_P D vwCl [(k0, .inl (cI, 1201, .inl c0)), (k, .inr (11, [.ref k0, .ref k1, .ref k2, .int c3, .ref k4, .ref k5, .ref k6, .ref k7, .ref k8, .int c9, .ref ka, .ref kb, .int cc, .int cd, .int ce, .int cf, .int cg, .int ch, .int ci, .int cj, .int ck, .ref kl, .int cm, .int cn, .ref ko])), (k4, .inl (cI, 6, .inl sc4_78))] H := hP
      replace hD : va_D A [(k0, .inl (cI, 1201, .inl c0)), (k, .inr (11, [.ref k0, .ref k1, .ref k2, .int c3, .ref k4, .ref k5, .ref k6, .ref k7, .ref k8, .int c9, .ref ka, .ref kb, .int cc, .int cd, .int ce, .int cf, .int cg, .int ch, .int ci, .int cj, .int ck, .ref kl, .int cm, .int cn, .ref ko])), (k4, .inl (cI, 6, .inl sc4_78))] := hD
      have hr_76 := w_77
      obtain rfl : r_76 = (-1000001) := hr_76.trans (by decide +kernel)
      exact hRet (cc, cd, ce, cf, cg, ch, ci, cj, ck, sc4_78) [1, 0, 2] (Or.inr ⟨(fun z => by omega), (by (try dsimp only); unfold wiR; (repeat (first | rw [if_pos (by omega)] | rw [if_neg (by omega)])))⟩) hP hD (by decide +kernel) rfl hS rfl dX11_workIs_24
  · have h_9 : a0.toInt < 0 ∨ (c0 1).toInt ≤ a0.toInt := h_9
    obtain rfl : r_4 = 0 := hr_4.trans (by decide +kernel)
    refine b_if_eq hx hb zl_0 (tgt := 18) dX11_workIs_5 (by decide +kernel) (fun c_79 => ?_) (fun c_79 => by exfalso; omega)
    refine lv_aload_n hx hb dX11_workIs_18 rfl (lv_at hl 0 rfl) ?_
    refine lv_ldc (v := (-1000001)) hx hb hown (hT _ mw_1239) dX11_workIs_19 ?_
    refine kJi (wr := [(k0, .inl (cI, 1201, .inl c0))]) (va_runV (As := [.int (-1000001)]) (rest := []) ⟨hx, hb, hml, hown, hT⟩ (c_X11_findingG l D cI aK aV k k0 k1 k2 k4 k5 k6 k7 k8 ka kb kl ko H.size c3 c9 cc cd ce cf cg ch ci cj ck cm cn c4 (-1000001) (by first | omega | (simp only [zl_m1000001]; first | done | omega) | decide | assumption | rfl) (by first | omega | (simp only [zl_m1000001]; first | done | omega) | decide | assumption | rfl)) (cwV 1 hT (gV_in mw_1243 mw_1240 mw_1242 mw_p3_8 mw_12) rfl rfl rfl (by decide +kernel) ⟨Nat.le_of_ble_eq_true rfl, Nat.le_of_ble_eq_true rfl⟩) (kRecvX (q0 := 1) (ci := 11) hK hP hD hN hXS hS hA rfl rfl [1, 0] rfl (by decide +kernel)) rfl rfl hl.1 rfl (lv_room (Nat.le_of_ble_eq_true rfl)) dX11_workIs_21 ⟨Nat.le_of_ble_eq_true rfl, Nat.le_of_ble_eq_true rfl⟩) hP hD hS hA [1, 0] [2] rfl rfl (by decide +kernel) (by decide +kernel) ?_
    clear hP hD hS
    intro r_80 sc4_82 H locs w_81 hP hD hS
    replace hP : va_P D vwCl [(k0, .inl (cI, 1201, .inl c0)), (k, .inr (11, [.ref k0, .ref k1, .ref k2, .int c3, .ref k4, .ref k5, .ref k6, .ref k7, .ref k8, .int c9, .ref ka, .ref kb, .int cc, .int cd, .int ce, .int cf, .int cg, .int ch, .int ci, .int cj, .int ck, .ref kl, .int cm, .int cn, .ref ko])), (k4, .inl (cI, 6, .inl sc4_82))] H := hP
    replace hD : va_D A [(k0, .inl (cI, 1201, .inl c0)), (k, .inr (11, [.ref k0, .ref k1, .ref k2, .int c3, .ref k4, .ref k5, .ref k6, .ref k7, .ref k8, .int c9, .ref ka, .ref kb, .int cc, .int cd, .int ce, .int cf, .int cg, .int ch, .int ci, .int cj, .int ck, .ref kl, .int cm, .int cn, .ref ko])), (k4, .inl (cI, 6, .inl sc4_82))] := hD
    have hr_80 := w_81
    obtain rfl : r_80 = (-1000001) := hr_80.trans (by decide +kernel)
    exact hRet (cc, cd, ce, cf, cg, ch, ci, cj, ck, sc4_82) [1, 0, 2] (Or.inr ⟨(fun z => by omega), (by (try dsimp only); unfold wiR; (repeat (first | rw [if_pos (by omega)] | rw [if_neg (by omega)])))⟩) hP hD (by decide +kernel) rfl hS rfl dX11_workIs_24
theorem bn_cX11_digit_0 : BN cX11_digit 0 0x569fc0e7b349943a65028780c1c := by
  unfold BN; decide +kernel
theorem dX11_digit_0 : decode cX11_digit 0 = .ok (.iload_n 1, 1) := dR0 (k := 0) (i := 0) bn_cX11_digit_0 dop_27 (by decide +kernel)
theorem dX11_digit_1 : decode cX11_digit 1 = .ok (.iconst 2, 1) := dR0 (k := 0) (i := 1) bn_cX11_digit_0 dop_5 (by decide +kernel)
theorem dX11_digit_2 : decode cX11_digit 2 = .ok (.iload_n 3, 1) := dR0 (k := 0) (i := 2) bn_cX11_digit_0 dop_29 (by decide +kernel)
theorem dX11_digit_3 : decode cX11_digit 3 = .ok (.iconst 1, 1) := dR0 (k := 0) (i := 3) bn_cX11_digit_0 dop_4 (by decide +kernel)
theorem dX11_digit_4 : decode cX11_digit 4 = .ok (.isub, 1) := dR0 (k := 0) (i := 4) bn_cX11_digit_0 dop_100 (by decide +kernel)
theorem dX11_digit_5 : decode cX11_digit 5 = .ok (.iload_n 2, 1) := dR0 (k := 0) (i := 5) bn_cX11_digit_0 dop_28 (by decide +kernel)
theorem dX11_digit_6 : decode cX11_digit 6 = .ok (.isub, 1) := dR0 (k := 0) (i := 6) bn_cX11_digit_0 dop_100 (by decide +kernel)
theorem dX11_digit_7 : decode cX11_digit 7 = .ok (.imul, 1) := dR0 (k := 0) (i := 7) bn_cX11_digit_0 dop_104 (by decide +kernel)
theorem dX11_digit_8 : decode cX11_digit 8 = .ok (.ishr, 1) := dR0 (k := 0) (i := 8) bn_cX11_digit_0 dop_122 (by decide +kernel)
theorem dX11_digit_9 : decode cX11_digit 9 = .ok (.iconst 3, 1) := dR0 (k := 0) (i := 9) bn_cX11_digit_0 dop_6 (by decide +kernel)
theorem dX11_digit_10 : decode cX11_digit 10 = .ok (.iand, 1) := dR0 (k := 0) (i := 10) bn_cX11_digit_0 dop_126 (by decide +kernel)
theorem dX11_digit_11 : decode cX11_digit 11 = .ok (.ireturn, 1) := dR0 (k := 0) (i := 11) bn_cX11_digit_0 dop_172 (by decide +kernel)
set_option maxHeartbeats 4000000 in
set_option maxRecDepth 100000 in
theorem c_X11_digitG (l : Launch) (D : va_G) (cI : ClassId) (aK aV : Nat → Nat) (k : Nat) (sz : Nat) (a0 : Int32) (a1 : Int32) (a2 : Int32) : Met l yX11_digit (gW yX11_digit cX11_digit 4 (some .int)) ({ frames := 0, cells := 0, slots := 0, locals := 0 } : Room) (kPreX D cI aK aV [.ref k, .int a0, .int a1, .int a2] [] sz) (va_Qi (fun (r : Int32) (u : Unit) => True) (fun u t => kWd D cI (va_A [] sz) [] t) (va_A [] sz)) 0 0 (va_A [] sz) := by
  refine kMetIX (own := RX11) (by decide +kernel) rfl (Nat.le_of_ble_eq_true rfl) ?_
  intro p e s m args below meth c hx hb hT hown hname hml A Q hK hP hD hS hA hN hXS hRet ls hl
  have hl : lv_has ls 4 [(0, .ref k), (1, .int a0), (2, .int a1), (3, .int a2)] := hl
  refine lv_iload_n hx hb dX11_digit_0 rfl (lv_at hl 1 rfl) ?_
  refine lv_iconst (v := 2) hx hb dX11_digit_1 (by decide +kernel) ?_
  refine lv_iload_n hx hb dX11_digit_2 rfl (lv_at hl 3 rfl) ?_
  refine lv_iconst (v := 1) hx hb dX11_digit_3 (by decide +kernel) ?_
  refine lv_isub hx hb dX11_digit_4 ?_
  refine lv_topi (fun v_1 ev_1 => ?_)
  have lo_v_1 := k_lo v_1
  have hi_v_1 := k_hi v_1
  refine lv_iload_n hx hb dX11_digit_5 rfl (lv_at hl 2 rfl) ?_
  refine lv_isub hx hb dX11_digit_6 ?_
  refine lv_topi (fun v_2 ev_2 => ?_)
  have lo_v_2 := k_lo v_2
  have hi_v_2 := k_hi v_2
  refine lv_imul hx hb dX11_digit_7 ?_
  refine lv_topi (fun v_3 ev_3 => ?_)
  have lo_v_3 := k_lo v_3
  have hi_v_3 := k_hi v_3
  refine lv_ishr hx hb dX11_digit_8 ?_
  refine lv_topi (fun v_4 ev_4 => ?_)
  have lo_v_4 := k_lo v_4
  have hi_v_4 := k_hi v_4
  refine lv_iconst (v := 3) hx hb dX11_digit_9 (by decide +kernel) ?_
  refine lv_iand hx hb dX11_digit_10 ?_
  refine lv_topi (fun v_5 ev_5 => ?_)
  have lo_v_5 := k_lo v_5
  have hi_v_5 := k_hi v_5
  exact hRet () [] trivial hP hD (by decide +kernel) rfl hS rfl dX11_digit_11
theorem bn_cX11_areThings_0 : BN cX11_areThings 0 0x5687571005400808851f0c002b903814e8015b878382b07805503000ae5d00409010e8015b878382b0a00542053881c3c2600aa060015c8a422053a0056e1e0e0ac26014d9c40e1e21005341d23005462f0e06802b5158787e041f0100a015401410014d0c002b90c8440e2f0e06802b51585c029b3881c5e1c0d0056a2b := by
  unfold BN; decide +kernel
theorem dX11_areThings_0 : decode cX11_areThings 0 = .ok (.aload_n 0, 1) := dR0 (k := 0) (i := 0) bn_cX11_areThings_0 dop_42 (by decide +kernel)
theorem dX11_areThings_1 : decode cX11_areThings 1 = .ok (.getfield 25, 3) := dR2 (f := Instr.getfield) (k := 0) (i := 1) bn_cX11_areThings_0 dop_180 25 (by decide +kernel)
theorem dX11_areThings_4 : decode cX11_areThings 4 = .ok (.iload_n 1, 1) := dR0 (k := 0) (i := 4) bn_cX11_areThings_0 dop_27 (by decide +kernel)
theorem dX11_areThings_5 : decode cX11_areThings 5 = .ok (.iaload, 1) := dR0 (k := 0) (i := 5) bn_cX11_areThings_0 dop_46 (by decide +kernel)
theorem dX11_areThings_6 : decode cX11_areThings 6 = .ok (.iconst 3, 1) := dR0 (k := 0) (i := 6) bn_cX11_areThings_0 dop_6 (by decide +kernel)
theorem dX11_areThings_7 : decode cX11_areThings 7 = .ok (.irem, 1) := dR0 (k := 0) (i := 7) bn_cX11_areThings_0 dop_112 (by decide +kernel)
theorem dX11_areThings_8 : decode cX11_areThings 8 = .ok (.ifCond .ne 22, 3) := dR2s (f := Instr.ifCond .ne) (k := 0) (i := 8) bn_cX11_areThings_0 dop_154 22 22 (by decide +kernel)
theorem dX11_areThings_11 : decode cX11_areThings 11 = .ok (.aload_n 0, 1) := dR0 (k := 0) (i := 11) bn_cX11_areThings_0 dop_42 (by decide +kernel)
theorem dX11_areThings_12 : decode cX11_areThings 12 = .ok (.getfield 25, 3) := dR2 (f := Instr.getfield) (k := 0) (i := 12) bn_cX11_areThings_0 dop_180 25 (by decide +kernel)
theorem dX11_areThings_15 : decode cX11_areThings 15 = .ok (.iload_n 1, 1) := dR0 (k := 0) (i := 15) bn_cX11_areThings_0 dop_27 (by decide +kernel)
theorem dX11_areThings_16 : decode cX11_areThings 16 = .ok (.iaload, 1) := dR0 (k := 0) (i := 16) bn_cX11_areThings_0 dop_46 (by decide +kernel)
theorem dX11_areThings_17 : decode cX11_areThings 17 = .ok (.iconst 3, 1) := dR0 (k := 0) (i := 17) bn_cX11_areThings_0 dop_6 (by decide +kernel)
theorem dX11_areThings_18 : decode cX11_areThings 18 = .ok (.bipush 24, 2) := dR1s (f := Instr.bipush) (k := 0) (i := 18) bn_cX11_areThings_0 dop_16 24 24 (by decide +kernel)
theorem dX11_areThings_20 : decode cX11_areThings 20 = .ok (.invokestatic 47, 3) := dR2 (f := Instr.invokestatic) (k := 0) (i := 20) bn_cX11_areThings_0 dop_184 47 (by decide +kernel)
theorem dX11_areThings_23 : decode cX11_areThings 23 = .ok (.ifCond .eq 7, 3) := dR2s (f := Instr.ifCond .eq) (k := 0) (i := 23) bn_cX11_areThings_0 dop_153 7 7 (by decide +kernel)
theorem dX11_areThings_26 : decode cX11_areThings 26 = .ok (.iconst 1, 1) := dR0 (k := 0) (i := 26) bn_cX11_areThings_0 dop_4 (by decide +kernel)
theorem dX11_areThings_27 : decode cX11_areThings 27 = .ok (.goto 4, 3) := dR2s (f := Instr.goto) (k := 0) (i := 27) bn_cX11_areThings_0 dop_167 4 4 (by decide +kernel)
theorem dX11_areThings_30 : decode cX11_areThings 30 = .ok (.iconst 0, 1) := dR0 (k := 0) (i := 30) bn_cX11_areThings_0 dop_3 (by decide +kernel)
theorem dX11_areThings_31 : decode cX11_areThings 31 = .ok (.istore_n 2, 1) := dR0 (k := 0) (i := 31) bn_cX11_areThings_0 dop_61 (by decide +kernel)
theorem dX11_areThings_32 : decode cX11_areThings 32 = .ok (.iconst 0, 1) := dR0 (k := 0) (i := 32) bn_cX11_areThings_0 dop_3 (by decide +kernel)
theorem dX11_areThings_33 : decode cX11_areThings 33 = .ok (.istore_n 3, 1) := dR0 (k := 0) (i := 33) bn_cX11_areThings_0 dop_62 (by decide +kernel)
theorem dX11_areThings_34 : decode cX11_areThings 34 = .ok (.iload_n 3, 1) := dR0 (k := 0) (i := 34) bn_cX11_areThings_0 dop_29 (by decide +kernel)
theorem dX11_areThings_35 : decode cX11_areThings 35 = .ok (.aload_n 0, 1) := dR0 (k := 0) (i := 35) bn_cX11_areThings_0 dop_42 (by decide +kernel)
theorem dX11_areThings_36 : decode cX11_areThings 36 = .ok (.getfield 25, 3) := dR2 (f := Instr.getfield) (k := 0) (i := 36) bn_cX11_areThings_0 dop_180 25 (by decide +kernel)
theorem dX11_areThings_39 : decode cX11_areThings 39 = .ok (.iload_n 1, 1) := dR0 (k := 0) (i := 39) bn_cX11_areThings_0 dop_27 (by decide +kernel)
theorem dX11_areThings_40 : decode cX11_areThings 40 = .ok (.iaload, 1) := dR0 (k := 0) (i := 40) bn_cX11_areThings_0 dop_46 (by decide +kernel)
theorem dX11_areThings_41 : decode cX11_areThings 41 = .ok (.if_icmp .ge 69, 3) := dR2s (f := Instr.if_icmp .ge) (k := 0) (i := 41) bn_cX11_areThings_0 dop_162 69 69 (by decide +kernel)
theorem dX11_areThings_44 : decode cX11_areThings 44 = .ok (.iload_n 2, 1) := dR0 (k := 0) (i := 44) bn_cX11_areThings_0 dop_28 (by decide +kernel)
theorem dX11_areThings_45 : decode cX11_areThings 45 = .ok (.ifCond .eq 65, 3) := dR2s (f := Instr.ifCond .eq) (k := 0) (i := 45) bn_cX11_areThings_0 dop_153 65 65 (by decide +kernel)
theorem dX11_areThings_48 : decode cX11_areThings 48 = .ok (.iload_n 3, 1) := dR0 (k := 0) (i := 48) bn_cX11_areThings_0 dop_29 (by decide +kernel)
theorem dX11_areThings_49 : decode cX11_areThings 49 = .ok (.iconst 3, 1) := dR0 (k := 0) (i := 49) bn_cX11_areThings_0 dop_6 (by decide +kernel)
theorem dX11_areThings_50 : decode cX11_areThings 50 = .ok (.irem, 1) := dR0 (k := 0) (i := 50) bn_cX11_areThings_0 dop_112 (by decide +kernel)
theorem dX11_areThings_51 : decode cX11_areThings 51 = .ok (.ifCond .ne 18, 3) := dR2s (f := Instr.ifCond .ne) (k := 0) (i := 51) bn_cX11_areThings_0 dop_154 18 18 (by decide +kernel)
theorem dX11_areThings_54 : decode cX11_areThings 54 = .ok (.aload_n 0, 1) := dR0 (k := 0) (i := 54) bn_cX11_areThings_0 dop_42 (by decide +kernel)
theorem dX11_areThings_55 : decode cX11_areThings 55 = .ok (.iload_n 1, 1) := dR0 (k := 0) (i := 55) bn_cX11_areThings_0 dop_27 (by decide +kernel)
theorem dX11_areThings_56 : decode cX11_areThings 56 = .ok (.iload_n 3, 1) := dR0 (k := 0) (i := 56) bn_cX11_areThings_0 dop_29 (by decide +kernel)
theorem dX11_areThings_57 : decode cX11_areThings 57 = .ok (.invokevirtual 115, 3) := dR2 (f := Instr.invokevirtual) (k := 0) (i := 57) bn_cX11_areThings_0 dop_182 115 (by decide +kernel)
theorem dX11_areThings_60 : decode cX11_areThings 60 = .ok (.iconst 1, 1) := dR0 (k := 0) (i := 60) bn_cX11_areThings_0 dop_4 (by decide +kernel)
theorem dX11_areThings_61 : decode cX11_areThings 61 = .ok (.bipush 40, 2) := dR1s (f := Instr.bipush) (k := 0) (i := 61) bn_cX11_areThings_0 dop_16 40 40 (by decide +kernel)
theorem dX11_areThings_63 : decode cX11_areThings 63 = .ok (.invokestatic 47, 3) := dR2 (f := Instr.invokestatic) (k := 0) (i := 63) bn_cX11_areThings_0 dop_184 47 (by decide +kernel)
theorem dX11_areThings_66 : decode cX11_areThings 66 = .ok (.goto 37, 3) := dR2s (f := Instr.goto) (k := 0) (i := 66) bn_cX11_areThings_0 dop_167 37 37 (by decide +kernel)
theorem dX11_areThings_69 : decode cX11_areThings 69 = .ok (.iload_n 3, 1) := dR0 (k := 0) (i := 69) bn_cX11_areThings_0 dop_29 (by decide +kernel)
theorem dX11_areThings_70 : decode cX11_areThings 70 = .ok (.iconst 3, 1) := dR0 (k := 0) (i := 70) bn_cX11_areThings_0 dop_6 (by decide +kernel)
theorem dX11_areThings_71 : decode cX11_areThings 71 = .ok (.irem, 1) := dR0 (k := 0) (i := 71) bn_cX11_areThings_0 dop_112 (by decide +kernel)
theorem dX11_areThings_72 : decode cX11_areThings 72 = .ok (.iconst 1, 1) := dR0 (k := 0) (i := 72) bn_cX11_areThings_0 dop_4 (by decide +kernel)
theorem dX11_areThings_73 : decode cX11_areThings 73 = .ok (.if_icmp .ne 19, 3) := dR2s (f := Instr.if_icmp .ne) (k := 0) (i := 73) bn_cX11_areThings_0 dop_160 19 19 (by decide +kernel)
theorem dX11_areThings_76 : decode cX11_areThings 76 = .ok (.aload_n 0, 1) := dR0 (k := 0) (i := 76) bn_cX11_areThings_0 dop_42 (by decide +kernel)
theorem dX11_areThings_77 : decode cX11_areThings 77 = .ok (.iload_n 1, 1) := dR0 (k := 0) (i := 77) bn_cX11_areThings_0 dop_27 (by decide +kernel)
theorem dX11_areThings_78 : decode cX11_areThings 78 = .ok (.iload_n 3, 1) := dR0 (k := 0) (i := 78) bn_cX11_areThings_0 dop_29 (by decide +kernel)
theorem dX11_areThings_79 : decode cX11_areThings 79 = .ok (.invokevirtual 115, 3) := dR2 (f := Instr.invokevirtual) (k := 0) (i := 79) bn_cX11_areThings_0 dop_182 115 (by decide +kernel)
theorem dX11_areThings_82 : decode cX11_areThings 82 = .ok (.iconst 0, 1) := dR0 (k := 0) (i := 82) bn_cX11_areThings_0 dop_3 (by decide +kernel)
theorem dX11_areThings_83 : decode cX11_areThings 83 = .ok (.sipush 999, 3) := dR2s (f := Instr.sipush) (k := 0) (i := 83) bn_cX11_areThings_0 dop_17 999 999 (by decide +kernel)
theorem dX11_areThings_86 : decode cX11_areThings 86 = .ok (.invokestatic 47, 3) := dR2 (f := Instr.invokestatic) (k := 0) (i := 86) bn_cX11_areThings_0 dop_184 47 (by decide +kernel)
theorem dX11_areThings_89 : decode cX11_areThings 89 = .ok (.goto 14, 3) := dR2s (f := Instr.goto) (k := 0) (i := 89) bn_cX11_areThings_0 dop_167 14 14 (by decide +kernel)
theorem dX11_areThings_92 : decode cX11_areThings 92 = .ok (.aload_n 0, 1) := dR0 (k := 0) (i := 92) bn_cX11_areThings_0 dop_42 (by decide +kernel)
theorem dX11_areThings_93 : decode cX11_areThings 93 = .ok (.iload_n 1, 1) := dR0 (k := 0) (i := 93) bn_cX11_areThings_0 dop_27 (by decide +kernel)
theorem dX11_areThings_94 : decode cX11_areThings 94 = .ok (.iload_n 3, 1) := dR0 (k := 0) (i := 94) bn_cX11_areThings_0 dop_29 (by decide +kernel)
theorem dX11_areThings_95 : decode cX11_areThings 95 = .ok (.invokevirtual 115, 3) := dR2 (f := Instr.invokevirtual) (k := 0) (i := 95) bn_cX11_areThings_0 dop_182 115 (by decide +kernel)
theorem dX11_areThings_98 : decode cX11_areThings 98 = .ok (.iconst 1, 1) := dR0 (k := 0) (i := 98) bn_cX11_areThings_0 dop_4 (by decide +kernel)
theorem dX11_areThings_99 : decode cX11_areThings 99 = .ok (.iconst 3, 1) := dR0 (k := 0) (i := 99) bn_cX11_areThings_0 dop_6 (by decide +kernel)
theorem dX11_areThings_100 : decode cX11_areThings 100 = .ok (.invokestatic 47, 3) := dR2 (f := Instr.invokestatic) (k := 0) (i := 100) bn_cX11_areThings_0 dop_184 47 (by decide +kernel)
theorem dX11_areThings_103 : decode cX11_areThings 103 = .ok (.istore_n 2, 1) := dR0 (k := 0) (i := 103) bn_cX11_areThings_0 dop_61 (by decide +kernel)
theorem dX11_areThings_104 : decode cX11_areThings 104 = .ok (.iinc 3 1, 3) := dRii (f := Instr.iinc) (k := 0) (i := 104) bn_cX11_areThings_0 dop_132 3 1 1 (by decide +kernel)
theorem dX11_areThings_107 : decode cX11_areThings 107 = .ok (.goto (-73), 3) := dR2s (f := Instr.goto) (k := 0) (i := 107) bn_cX11_areThings_0 dop_167 65463 (-73) (by decide +kernel)
theorem dX11_areThings_110 : decode cX11_areThings 110 = .ok (.iload_n 2, 1) := dR0 (k := 0) (i := 110) bn_cX11_areThings_0 dop_28 (by decide +kernel)
theorem dX11_areThings_111 : decode cX11_areThings 111 = .ok (.ireturn, 1) := dR0 (k := 0) (i := 111) bn_cX11_areThings_0 dop_172 (by decide +kernel)
set_option maxHeartbeats 4000000 in
set_option maxRecDepth 100000 in
theorem c_X11_areThingsG (l : Launch) (D : va_G) (cI : ClassId) (aK aV : Nat → Nat) (k k0 k1 k2 k4 k5 k6 k7 k8 ka kb kl ko : Nat) (sz : Nat) (c3 : Int32) (c9 : Int32) (cc : Int32) (cd : Int32) (ce : Int32) (cf : Int32) (cg : Int32) (ch : Int32) (ci : Int32) (cj : Int32) (ck : Int32) (cm : Int32) (cn : Int32) (c6 : Nat → Int32) (c7 : Nat → Int32) (a0 : Int32) (pre0 : ∀ k : Nat, k < 4 → 0 ≤ (c6 k).toInt ∧ (c6 k).toInt ≤ 36) (pre1 : 0 ≤ a0.toInt) (pre2 : a0.toInt ≤ 3) : Met l yX11_areThings (gW yX11_areThings cX11_areThings 4 (some .boolean)) ({ frames := 1, cells := 0, slots := 0, locals := 22 } : Room) (kPreX D cI aK aV [.ref k, .int a0] [(k, .inr (11, [.ref k0, .ref k1, .ref k2, .int c3, .ref k4, .ref k5, .ref k6, .ref k7, .ref k8, .int c9, .ref ka, .ref kb, .int cc, .int cd, .int ce, .int cf, .int cg, .int ch, .int ci, .int cj, .int ck, .ref kl, .int cm, .int cn, .ref ko])), (k6, .inl (cI, 4, .inl c6)), (k7, .inl (cI, 144, .inl c7))] sz) (va_Qi (fun (r : Int32) (u : Unit) => (r = 1 ∧ 3 ≤ (c6 a0.toNatClampNeg).toInt ∧ (c6 a0.toNatClampNeg).toInt ≤ 24) ∨ (r = 0)) (fun u t => kWd D cI (va_A [(k, .inr (11, [.ref k0, .ref k1, .ref k2, .int c3, .ref k4, .ref k5, .ref k6, .ref k7, .ref k8, .int c9, .ref ka, .ref kb, .int cc, .int cd, .int ce, .int cf, .int cg, .int ch, .int ci, .int cj, .int ck, .ref kl, .int cm, .int cn, .ref ko])), (k6, .inl (cI, 4, .inl c6)), (k7, .inl (cI, 144, .inl c7))] sz) [(k, .inr (11, [.ref k0, .ref k1, .ref k2, .int c3, .ref k4, .ref k5, .ref k6, .ref k7, .ref k8, .int c9, .ref ka, .ref kb, .int cc, .int cd, .int ce, .int cf, .int cg, .int ch, .int ci, .int cj, .int ck, .ref kl, .int cm, .int cn, .ref ko])), (k6, .inl (cI, 4, .inl c6)), (k7, .inl (cI, 144, .inl c7))] t) (va_A [(k, .inr (11, [.ref k0, .ref k1, .ref k2, .int c3, .ref k4, .ref k5, .ref k6, .ref k7, .ref k8, .int c9, .ref ka, .ref kb, .int cc, .int cd, .int ce, .int cf, .int cg, .int ch, .int ci, .int cj, .int ck, .ref kl, .int cm, .int cn, .ref ko])), (k6, .inl (cI, 4, .inl c6)), (k7, .inl (cI, 144, .inl c7))] sz)) 0 0 (va_A [(k, .inr (11, [.ref k0, .ref k1, .ref k2, .int c3, .ref k4, .ref k5, .ref k6, .ref k7, .ref k8, .int c9, .ref ka, .ref kb, .int cc, .int cd, .int ce, .int cf, .int cg, .int ch, .int ci, .int cj, .int ck, .ref kl, .int cm, .int cn, .ref ko])), (k6, .inl (cI, 4, .inl c6)), (k7, .inl (cI, 144, .inl c7))] sz) := by
  refine kMetIX (own := RX11) (by decide +kernel) rfl (Nat.le_of_ble_eq_true rfl) ?_
  intro p e s m args below meth c hx hb hT hown hname hml A Q hK hP hD hS hA hN hXS hRet ls hl
  have hl : lv_has ls 4 [(0, .ref k), (1, .int a0)] := hl
  have lo_a0 := k_lo a0
  have hi_a0 := k_hi a0
  have lo_ci := k_lo ci
  have hi_ci := k_hi ci
  refine lv_aload_n hx hb dX11_areThings_0 rfl (lv_at hl 0 rfl) ?_
  refine va_get (D := D) (ci := 11) (v := .ref k6) (C := RX11) (T := TX11) (N := 25) hx hb hT giX11 hown hK hP 0 rfl rfl 6 (by decide +kernel) (hT (Cond.fieldLink RX11 25 "DesertWireModel" "size" "[I") mw_1162) (fun _ h9 => h9) rfl dX11_areThings_1 ?_
  refine lv_iload_n hx hb dX11_areThings_4 rfl (lv_at hl 1 rfl) ?_
  refine k_iald (v := (c6 a0.toNatClampNeg)) hx hb hK hP 1 0 rfl rfl (k_in (by omega) (by omega)) rfl dX11_areThings_5 ?_
  refine lv_topi (fun v_1 ev_1 => ?_)
  have lo_v_1 := k_lo v_1
  have hi_v_1 := k_hi v_1
  have tv_1 : v_1.toInt = (c6 a0.toNatClampNeg).toInt := by rw [ev_1]
  have b_2 : 0 ≤ v_1.toInt ∧ v_1.toInt ≤ 36 := by rw [tv_1]; exact pre0 a0.toNatClampNeg (by rw [k_clamp]; omega)
  refine lv_iconst (v := 3) hx hb dX11_areThings_6 (by decide +kernel) ?_
  refine lv_irem hx hb dX11_areThings_7 (by decide +kernel) ?_
  refine lv_topi (fun v_3 ev_3 => ?_)
  have tv_3 : v_3.toInt = v_1.toInt % 3 := k_remv (w := 0) ev_3 zl_3 (by omega) (by decide +kernel)
  have lo_v_3 := k_lo v_3
  have hi_v_3 := k_hi v_3
  refine b_if_ne hx hb rfl (tgt := 30) dX11_areThings_8 (by decide +kernel) (fun c_4 => ?_) (fun c_4 => ?_)
  · refine lv_iconst (v := 0) hx hb dX11_areThings_30 (by decide +kernel) ?_
    refine lv_istore_n (lv' := [(2, .int 0), (0, .ref k), (1, .int a0)]) hx hb dX11_areThings_31 rfl hl (by decide +kernel) rfl ?_
    clear hl
    intro ls hl
    refine lv_iconst (v := 0) hx hb dX11_areThings_32 (by decide +kernel) ?_
    refine lv_istore_n (lv' := [(3, .int 0), (2, .int 0), (0, .ref k), (1, .int a0)]) hx hb dX11_areThings_33 rfl hl (by decide +kernel) rfl ?_
    clear hl
    intro ls hl
    have hloop_34 : ∀ (fu_ : Nat) (l34_2 : Int32) (l34_3 : Int32), l34_2.toInt ≤ 0 → 0 ≤ l34_3.toInt → 0 ≤ l34_2.toInt → l34_2.toInt ≤ 1 → l34_3.toInt ≤ 36 → (l34_2.toInt = 0 ∨ (3 ≤ (c6 a0.toNatClampNeg).toInt ∧ (c6 a0.toNatClampNeg).toInt ≤ 24)) → (36 - l34_3.toInt).toNat < fu_ → ∀ (ls : Array Slot) (H : Heap) (locs : List Loc), lv_has ls 4 [(3, .int l34_3), (2, .int l34_2), (0, .ref k), (1, .int a0)] → va_P D vwCl [(k, .inr (11, [.ref k0, .ref k1, .ref k2, .int c3, .ref k4, .ref k5, .ref k6, .ref k7, .ref k8, .int c9, .ref ka, .ref kb, .int cc, .int cd, .int ce, .int cf, .int cg, .int ch, .int ci, .int cj, .int ck, .ref kl, .int cm, .int cn, .ref ko])), (k6, .inl (cI, 4, .inl c6)), (k7, .inl (cI, 144, .inl c7))] H → va_D A [(k, .inr (11, [.ref k0, .ref k1, .ref k2, .int c3, .ref k4, .ref k5, .ref k6, .ref k7, .ref k8, .int c9, .ref ka, .ref kb, .int cc, .int cd, .int ce, .int cf, .int cg, .int ch, .int ci, .int cj, .int ck, .ref kl, .int cm, .int cn, .ref ko])), (k6, .inl (cI, 4, .inl c6)), (k7, .inl (cI, 144, .inl c7))] → va_S A s.heap H locs → W p l e ({ frames := 1, cells := 0, slots := 0, locals := 22 } : Room) s m args below meth c H locs 0 0 Q (F0 m 34 ls []) := by
      intro fu_; induction fu_ with
      | zero => intro l34_2 l34_3 i34_0 i34_1 i34_2 i34_3 i34_4 i34_5 hm; exact absurd hm (by omega)
      | succ fu_ ih34 =>
          intro l34_2 l34_3 i34_0 i34_1 i34_2 i34_3 i34_4 i34_5 hm ls H locs hl hP hD hS
          have lo_l34_2 := k_lo l34_2
          have hi_l34_2 := k_hi l34_2
          have lo_l34_3 := k_lo l34_3
          have hi_l34_3 := k_hi l34_3
          refine lv_iload_n hx hb dX11_areThings_34 rfl (lv_at hl 0 rfl) ?_
          refine lv_aload_n hx hb dX11_areThings_35 rfl (lv_at hl 2 rfl) ?_
          refine va_get (D := D) (ci := 11) (v := .ref k6) (C := RX11) (T := TX11) (N := 25) hx hb hT giX11 hown hK hP 0 rfl rfl 6 (by decide +kernel) (hT (Cond.fieldLink RX11 25 "DesertWireModel" "size" "[I") mw_1162) (fun _ h9 => h9) rfl dX11_areThings_36 ?_
          refine lv_iload_n hx hb dX11_areThings_39 rfl (lv_at hl 3 rfl) ?_
          refine k_iald (v := (c6 a0.toNatClampNeg)) hx hb hK hP 1 0 rfl rfl (k_in (by omega) (by omega)) rfl dX11_areThings_40 ?_
          refine lv_topi (fun v_5 ev_5 => ?_)
          have lo_v_5 := k_lo v_5
          have hi_v_5 := k_hi v_5
          have tv_5 : v_5.toInt = (c6 a0.toNatClampNeg).toInt := by rw [ev_5]
          have b_6 : 0 ≤ v_5.toInt ∧ v_5.toInt ≤ 36 := by rw [tv_5]; exact pre0 a0.toNatClampNeg (by rw [k_clamp]; omega)
          refine b_icmp_ge hx hb rfl rfl (tgt := 110) dX11_areThings_41 (by decide +kernel) (fun c_7 => ?_) (fun c_7 => ?_)
          · refine lv_iload_n hx hb dX11_areThings_110 rfl (lv_at hl 1 rfl) ?_
            rcases (show l34_2.toInt = 0 ∨ l34_2.toInt = 1 by omega) with h_z | h_z
            · obtain rfl : l34_2 = 0 := k_inj (by rw [zl_0]; omega)
              exact hRet () [0, 1, 2] (Or.inr (rfl)) hP hD (by decide +kernel) rfl hS rfl dX11_areThings_111
            · obtain rfl : l34_2 = 1 := k_inj (by rw [zl_1]; omega)
              exact hRet () [0, 1, 2] (Or.inl ⟨rfl, (by omega), (by omega)⟩) hP hD (by decide +kernel) rfl hS rfl dX11_areThings_111
          · refine lv_iload_n hx hb dX11_areThings_44 rfl (lv_at hl 1 rfl) ?_
            refine b_if_eq hx hb rfl (tgt := 110) dX11_areThings_45 (by decide +kernel) (fun c_8 => ?_) (fun c_8 => by exfalso; omega)
            refine lv_iload_n hx hb dX11_areThings_110 rfl (lv_at hl 1 rfl) ?_
            rcases (show l34_2.toInt = 0 ∨ l34_2.toInt = 1 by omega) with h_z | h_z
            · obtain rfl : l34_2 = 0 := k_inj (by rw [zl_0]; omega)
              exact hRet () [0, 1, 2] (Or.inr (rfl)) hP hD (by decide +kernel) rfl hS rfl dX11_areThings_111
            · obtain rfl : l34_2 = 1 := k_inj (by rw [zl_1]; omega)
              exact hRet () [0, 1, 2] (Or.inl ⟨rfl, (by omega), (by omega)⟩) hP hD (by decide +kernel) rfl hS rfl dX11_areThings_111
    exact hloop_34 _ 0 0 (by first | omega | (simp only [zl_0]; first | done | omega) | decide | assumption | rfl) (by first | omega | (simp only [zl_0]; first | done | omega) | decide | assumption | rfl) (by first | omega | (simp only [zl_0]; first | done | omega) | decide | assumption | rfl) (by first | omega | (simp only [zl_0]; first | done | omega) | decide | assumption | rfl) (by first | omega | (simp only [zl_0]; first | done | omega) | decide | assumption | rfl) (by first | omega | exact Or.inl zl_0 | exact Or.inr ⟨by omega, by omega⟩) (Nat.lt_succ_self _) ls _ _ (lv_sub hl [0, 1, 2, 3] rfl) hP hD hS
  · refine lv_aload_n hx hb dX11_areThings_11 rfl (lv_at hl 0 rfl) ?_
    refine va_get (D := D) (ci := 11) (v := .ref k6) (C := RX11) (T := TX11) (N := 25) hx hb hT giX11 hown hK hP 0 rfl rfl 6 (by decide +kernel) (hT (Cond.fieldLink RX11 25 "DesertWireModel" "size" "[I") mw_1162) (fun _ h9 => h9) rfl dX11_areThings_12 ?_
    refine lv_iload_n hx hb dX11_areThings_15 rfl (lv_at hl 1 rfl) ?_
    refine k_iald (v := (c6 a0.toNatClampNeg)) hx hb hK hP 1 0 rfl rfl (k_in (by omega) (by omega)) rfl dX11_areThings_16 ?_
    refine lv_topi (fun v_9 ev_9 => ?_)
    have lo_v_9 := k_lo v_9
    have hi_v_9 := k_hi v_9
    have tv_9 : v_9.toInt = (c6 a0.toNatClampNeg).toInt := by rw [ev_9]
    have b_10 : 0 ≤ v_9.toInt ∧ v_9.toInt ≤ 36 := by rw [tv_9]; exact pre0 a0.toNatClampNeg (by rw [k_clamp]; omega)
    refine lv_iconst (v := 3) hx hb dX11_areThings_17 (by decide +kernel) ?_
    refine lv_bipush (v := 24) hx hb dX11_areThings_18 (by decide +kernel) ?_
    refine kJi (wr := [(k, .inr (11, [.ref k0, .ref k1, .ref k2, .int c3, .ref k4, .ref k5, .ref k6, .ref k7, .ref k8, .int c9, .ref ka, .ref kb, .int cc, .int cd, .int ce, .int cf, .int cg, .int ch, .int ci, .int cj, .int ck, .ref kl, .int cm, .int cn, .ref ko])), (k6, .inl (cI, 4, .inl c6)), (k7, .inl (cI, 144, .inl c7))]) (va_runS (As := [.int v_9, .int 3, .int 24]) (rest := []) ⟨hx, hb, hml, hown, hT⟩ (c_X11_inG l D cI aK aV s.heap.size v_9 3 24) (cwS 3 hT (gS_in mw_1238 mw_1236 mw_1237 mw_12) rfl rfl rfl (by decide +kernel) ⟨Nat.le_of_ble_eq_true rfl, Nat.le_of_ble_eq_true rfl⟩) (kStatX hK hP hD hN hXS hS hA [] rfl (by decide +kernel)) rfl rfl hl.1 rfl (lv_room (Nat.le_of_ble_eq_true rfl)) dX11_areThings_20 ⟨Nat.le_of_ble_eq_true rfl, Nat.le_of_ble_eq_true rfl⟩) hP hD hS hA [] [0, 1, 2] rfl rfl (by decide +kernel) (by decide +kernel) ?_
    clear hP hD hS
    intro r_11 u_13 H locs w_12 hP hD hS
    replace hP : va_P D vwCl [(k, .inr (11, [.ref k0, .ref k1, .ref k2, .int c3, .ref k4, .ref k5, .ref k6, .ref k7, .ref k8, .int c9, .ref ka, .ref kb, .int cc, .int cd, .int ce, .int cf, .int cg, .int ch, .int ci, .int cj, .int ck, .ref kl, .int cm, .int cn, .ref ko])), (k6, .inl (cI, 4, .inl c6)), (k7, .inl (cI, 144, .inl c7))] H := hP
    replace hD : va_D A [(k, .inr (11, [.ref k0, .ref k1, .ref k2, .int c3, .ref k4, .ref k5, .ref k6, .ref k7, .ref k8, .int c9, .ref ka, .ref kb, .int cc, .int cd, .int ce, .int cf, .int cg, .int ch, .int ci, .int cj, .int ck, .ref kl, .int cm, .int cn, .ref ko])), (k6, .inl (cI, 4, .inl c6)), (k7, .inl (cI, 144, .inl c7))] := hD
    rcases w_12 with ⟨hr_11, h_14, h_15⟩ | ⟨hr_11, h_16⟩
    · try simp only [zl_3, zl_24] at h_14
      have h_14 : 3 ≤ v_9.toInt := h_14
      try simp only [zl_3, zl_24] at h_15
      have h_15 : v_9.toInt ≤ 24 := h_15
      obtain rfl : r_11 = 1 := hr_11.trans (by decide +kernel)
      refine b_if_eq hx hb zl_1 (tgt := 30) dX11_areThings_23 (by decide +kernel) (fun c_17 => by exfalso; omega) (fun c_17 => ?_)
      refine lv_iconst (v := 1) hx hb dX11_areThings_26 (by decide +kernel) ?_
      refine lv_goto (tgt := 31) hx hb dX11_areThings_27 (by decide +kernel) ?_
      refine lv_istore_n (lv' := [(2, .int 1), (0, .ref k), (1, .int a0)]) hx hb dX11_areThings_31 rfl hl (by decide +kernel) rfl ?_
      clear hl
      intro ls hl
      refine lv_iconst (v := 0) hx hb dX11_areThings_32 (by decide +kernel) ?_
      refine lv_istore_n (lv' := [(3, .int 0), (2, .int 1), (0, .ref k), (1, .int a0)]) hx hb dX11_areThings_33 rfl hl (by decide +kernel) rfl ?_
      clear hl
      intro ls hl
      have hloop_34 : ∀ (fu_ : Nat) (l34_2 : Int32) (l34_3 : Int32), l34_2.toInt ≤ 1 → 0 ≤ l34_3.toInt → 0 ≤ l34_2.toInt → l34_2.toInt ≤ 1 → l34_3.toInt ≤ 36 → (l34_2.toInt = 0 ∨ (3 ≤ (c6 a0.toNatClampNeg).toInt ∧ (c6 a0.toNatClampNeg).toInt ≤ 24)) → (36 - l34_3.toInt).toNat < fu_ → ∀ (ls : Array Slot) (H : Heap) (locs : List Loc), lv_has ls 4 [(3, .int l34_3), (2, .int l34_2), (0, .ref k), (1, .int a0)] → va_P D vwCl [(k, .inr (11, [.ref k0, .ref k1, .ref k2, .int c3, .ref k4, .ref k5, .ref k6, .ref k7, .ref k8, .int c9, .ref ka, .ref kb, .int cc, .int cd, .int ce, .int cf, .int cg, .int ch, .int ci, .int cj, .int ck, .ref kl, .int cm, .int cn, .ref ko])), (k6, .inl (cI, 4, .inl c6)), (k7, .inl (cI, 144, .inl c7))] H → va_D A [(k, .inr (11, [.ref k0, .ref k1, .ref k2, .int c3, .ref k4, .ref k5, .ref k6, .ref k7, .ref k8, .int c9, .ref ka, .ref kb, .int cc, .int cd, .int ce, .int cf, .int cg, .int ch, .int ci, .int cj, .int ck, .ref kl, .int cm, .int cn, .ref ko])), (k6, .inl (cI, 4, .inl c6)), (k7, .inl (cI, 144, .inl c7))] → va_S A s.heap H locs → W p l e ({ frames := 1, cells := 0, slots := 0, locals := 22 } : Room) s m args below meth c H locs 0 0 Q (F0 m 34 ls []) := by
        intro fu_; induction fu_ with
        | zero => intro l34_2 l34_3 i34_0 i34_1 i34_2 i34_3 i34_4 i34_5 hm; exact absurd hm (by omega)
        | succ fu_ ih34 =>
            intro l34_2 l34_3 i34_0 i34_1 i34_2 i34_3 i34_4 i34_5 hm ls H locs hl hP hD hS
            have lo_l34_2 := k_lo l34_2
            have hi_l34_2 := k_hi l34_2
            have lo_l34_3 := k_lo l34_3
            have hi_l34_3 := k_hi l34_3
            refine lv_iload_n hx hb dX11_areThings_34 rfl (lv_at hl 0 rfl) ?_
            refine lv_aload_n hx hb dX11_areThings_35 rfl (lv_at hl 2 rfl) ?_
            refine va_get (D := D) (ci := 11) (v := .ref k6) (C := RX11) (T := TX11) (N := 25) hx hb hT giX11 hown hK hP 0 rfl rfl 6 (by decide +kernel) (hT (Cond.fieldLink RX11 25 "DesertWireModel" "size" "[I") mw_1162) (fun _ h9 => h9) rfl dX11_areThings_36 ?_
            refine lv_iload_n hx hb dX11_areThings_39 rfl (lv_at hl 3 rfl) ?_
            refine k_iald (v := (c6 a0.toNatClampNeg)) hx hb hK hP 1 0 rfl rfl (k_in (by omega) (by omega)) rfl dX11_areThings_40 ?_
            refine lv_topi (fun v_18 ev_18 => ?_)
            have lo_v_18 := k_lo v_18
            have hi_v_18 := k_hi v_18
            have tv_18 : v_18.toInt = (c6 a0.toNatClampNeg).toInt := by rw [ev_18]
            have b_19 : 0 ≤ v_18.toInt ∧ v_18.toInt ≤ 36 := by rw [tv_18]; exact pre0 a0.toNatClampNeg (by rw [k_clamp]; omega)
            refine b_icmp_ge hx hb rfl rfl (tgt := 110) dX11_areThings_41 (by decide +kernel) (fun c_20 => ?_) (fun c_20 => ?_)
            · refine lv_iload_n hx hb dX11_areThings_110 rfl (lv_at hl 1 rfl) ?_
              rcases (show l34_2.toInt = 0 ∨ l34_2.toInt = 1 by omega) with h_z | h_z
              · obtain rfl : l34_2 = 0 := k_inj (by rw [zl_0]; omega)
                exact hRet () [0, 1, 2] (Or.inr (rfl)) hP hD (by decide +kernel) rfl hS rfl dX11_areThings_111
              · obtain rfl : l34_2 = 1 := k_inj (by rw [zl_1]; omega)
                exact hRet () [0, 1, 2] (Or.inl ⟨rfl, (by omega), (by omega)⟩) hP hD (by decide +kernel) rfl hS rfl dX11_areThings_111
            · refine lv_iload_n hx hb dX11_areThings_44 rfl (lv_at hl 1 rfl) ?_
              refine b_if_eq hx hb rfl (tgt := 110) dX11_areThings_45 (by decide +kernel) (fun c_21 => ?_) (fun c_21 => ?_)
              · refine lv_iload_n hx hb dX11_areThings_110 rfl (lv_at hl 1 rfl) ?_
                rcases (show l34_2.toInt = 0 ∨ l34_2.toInt = 1 by omega) with h_z | h_z
                · obtain rfl : l34_2 = 0 := k_inj (by rw [zl_0]; omega)
                  exact hRet () [0, 1, 2] (Or.inr (rfl)) hP hD (by decide +kernel) rfl hS rfl dX11_areThings_111
                · obtain rfl : l34_2 = 1 := k_inj (by rw [zl_1]; omega)
                  exact hRet () [0, 1, 2] (Or.inl ⟨rfl, (by omega), (by omega)⟩) hP hD (by decide +kernel) rfl hS rfl dX11_areThings_111
              · refine lv_iload_n hx hb dX11_areThings_48 rfl (lv_at hl 0 rfl) ?_
                refine lv_iconst (v := 3) hx hb dX11_areThings_49 (by decide +kernel) ?_
                refine lv_irem hx hb dX11_areThings_50 (by decide +kernel) ?_
                refine lv_topi (fun v_22 ev_22 => ?_)
                have tv_22 : v_22.toInt = l34_3.toInt % 3 := k_remv (w := 0) ev_22 zl_3 (by omega) (by decide +kernel)
                have lo_v_22 := k_lo v_22
                have hi_v_22 := k_hi v_22
                refine b_if_ne hx hb rfl (tgt := 69) dX11_areThings_51 (by decide +kernel) (fun c_23 => ?_) (fun c_23 => ?_)
                · refine lv_iload_n hx hb dX11_areThings_69 rfl (lv_at hl 0 rfl) ?_
                  refine lv_iconst (v := 3) hx hb dX11_areThings_70 (by decide +kernel) ?_
                  refine lv_irem hx hb dX11_areThings_71 (by decide +kernel) ?_
                  refine lv_topi (fun v_24 ev_24 => ?_)
                  have tv_24 : v_24.toInt = l34_3.toInt % 3 := k_remv (w := 0) ev_24 zl_3 (by omega) (by decide +kernel)
                  have lo_v_24 := k_lo v_24
                  have hi_v_24 := k_hi v_24
                  refine lv_iconst (v := 1) hx hb dX11_areThings_72 (by decide +kernel) ?_
                  refine b_icmp_ne hx hb rfl zl_1 (tgt := 92) dX11_areThings_73 (by decide +kernel) (fun c_25 => ?_) (fun c_25 => ?_)
                  · refine lv_aload_n hx hb dX11_areThings_92 rfl (lv_at hl 2 rfl) ?_
                    refine lv_iload_n hx hb dX11_areThings_93 rfl (lv_at hl 3 rfl) ?_
                    refine lv_iload_n hx hb dX11_areThings_94 rfl (lv_at hl 0 rfl) ?_
                    refine kJi (wr := [(k6, .inl (cI, 4, .inl c6))]) (va_runV (As := [.int a0, .int l34_3]) (rest := []) ⟨hx, hb, hml, hown, hT⟩ (c_X11_atG l D cI aK aV k k0 k1 k2 k4 k5 k6 k7 k8 ka kb kl ko H.size c3 c9 cc cd ce cf cg ch ci cj ck cm cn c7 a0 l34_3 (by first | omega | decide | assumption | rfl) (by first | omega | decide | assumption | rfl) (by first | omega | decide | assumption | rfl) (by first | omega | decide | assumption | rfl)) (cwV 2 hT (gV_in mw_1396 mw_1393 mw_1395 mw_p5_2 mw_12) rfl rfl rfl (by decide +kernel) ⟨Nat.le_of_ble_eq_true rfl, Nat.le_of_ble_eq_true rfl⟩) (kRecvX (q0 := 0) (ci := 11) hK hP hD hN hXS hS hA rfl rfl [0, 2] rfl (by decide +kernel)) rfl rfl hl.1 rfl (lv_room (Nat.le_of_ble_eq_true rfl)) dX11_areThings_95 ⟨Nat.le_of_ble_eq_true rfl, Nat.le_of_ble_eq_true rfl⟩) hP hD hS hA [0, 2] [1] rfl rfl (by decide +kernel) (by decide +kernel) ?_
                    clear hP hD hS
                    intro r_26 u_28 H locs w_27 hP hD hS
                    replace hP : va_P D vwCl [(k6, .inl (cI, 4, .inl c6)), (k, .inr (11, [.ref k0, .ref k1, .ref k2, .int c3, .ref k4, .ref k5, .ref k6, .ref k7, .ref k8, .int c9, .ref ka, .ref kb, .int cc, .int cd, .int ce, .int cf, .int cg, .int ch, .int ci, .int cj, .int ck, .ref kl, .int cm, .int cn, .ref ko])), (k7, .inl (cI, 144, .inl c7))] H := hP
                    replace hD : va_D A [(k6, .inl (cI, 4, .inl c6)), (k, .inr (11, [.ref k0, .ref k1, .ref k2, .int c3, .ref k4, .ref k5, .ref k6, .ref k7, .ref k8, .int c9, .ref ka, .ref kb, .int cc, .int cd, .int ce, .int cf, .int cg, .int ch, .int ci, .int cj, .int ck, .ref kl, .int cm, .int cn, .ref ko])), (k7, .inl (cI, 144, .inl c7))] := hD
                    have h_29 := w_27
                    have h_29 : r_26 = c7 (36 * a0.toInt.toNat + l34_3.toInt.toNat) := h_29
                    have h_29 : r_26 = c7 (36 * a0.toInt.toNat + l34_3.toInt.toNat) := h_29
                    have lo_r_26 := k_lo r_26
                    have hi_r_26 := k_hi r_26
                    refine lv_iconst (v := 1) hx hb dX11_areThings_98 (by decide +kernel) ?_
                    refine lv_iconst (v := 3) hx hb dX11_areThings_99 (by decide +kernel) ?_
                    refine kJi (wr := [(k6, .inl (cI, 4, .inl c6)), (k, .inr (11, [.ref k0, .ref k1, .ref k2, .int c3, .ref k4, .ref k5, .ref k6, .ref k7, .ref k8, .int c9, .ref ka, .ref kb, .int cc, .int cd, .int ce, .int cf, .int cg, .int ch, .int ci, .int cj, .int ck, .ref kl, .int cm, .int cn, .ref ko])), (k7, .inl (cI, 144, .inl c7))]) (va_runS (As := [.int r_26, .int 1, .int 3]) (rest := []) ⟨hx, hb, hml, hown, hT⟩ (c_X11_inG l D cI aK aV H.size r_26 1 3) (cwS 3 hT (gS_in mw_1238 mw_1236 mw_1237 mw_12) rfl rfl rfl (by decide +kernel) ⟨Nat.le_of_ble_eq_true rfl, Nat.le_of_ble_eq_true rfl⟩) (kStatX hK hP hD hN hXS hS hA [] rfl (by decide +kernel)) rfl rfl hl.1 rfl (lv_room (Nat.le_of_ble_eq_true rfl)) dX11_areThings_100 ⟨Nat.le_of_ble_eq_true rfl, Nat.le_of_ble_eq_true rfl⟩) hP hD hS hA [] [0, 1, 2] rfl rfl (by decide +kernel) (by decide +kernel) ?_
                    clear hP hD hS
                    intro r_30 u_32 H locs w_31 hP hD hS
                    replace hP : va_P D vwCl [(k6, .inl (cI, 4, .inl c6)), (k, .inr (11, [.ref k0, .ref k1, .ref k2, .int c3, .ref k4, .ref k5, .ref k6, .ref k7, .ref k8, .int c9, .ref ka, .ref kb, .int cc, .int cd, .int ce, .int cf, .int cg, .int ch, .int ci, .int cj, .int ck, .ref kl, .int cm, .int cn, .ref ko])), (k7, .inl (cI, 144, .inl c7))] H := hP
                    replace hD : va_D A [(k6, .inl (cI, 4, .inl c6)), (k, .inr (11, [.ref k0, .ref k1, .ref k2, .int c3, .ref k4, .ref k5, .ref k6, .ref k7, .ref k8, .int c9, .ref ka, .ref kb, .int cc, .int cd, .int ce, .int cf, .int cg, .int ch, .int ci, .int cj, .int ck, .ref kl, .int cm, .int cn, .ref ko])), (k7, .inl (cI, 144, .inl c7))] := hD
                    rcases w_31 with ⟨hr_30, h_33, h_34⟩ | ⟨hr_30, h_35⟩
                    · try simp only [zl_1, zl_3] at h_33
                      have h_33 : 1 ≤ r_26.toInt := h_33
                      try simp only [zl_1, zl_3] at h_34
                      have h_34 : r_26.toInt ≤ 3 := h_34
                      obtain rfl : r_30 = 1 := hr_30.trans (by decide +kernel)
                      refine lv_istore_n (lv' := [(2, .int 1), (3, .int l34_3), (0, .ref k), (1, .int a0)]) hx hb dX11_areThings_103 rfl hl (by decide +kernel) rfl ?_
                      clear hl
                      intro ls hl
                      obtain ⟨v_36, ev_36⟩ : ∃ y : Int32, y = l34_3 + 1 := ⟨_, rfl⟩
                      have tv_36 : v_36.toInt = l34_3.toInt + 1 := by rw [ev_36]; exact k_addv rfl zl_1 (by omega) (by omega)
                      refine lv_iinc (v := v_36) (lv' := [(3, .int v_36), (2, .int 1), (0, .ref k), (1, .int a0)]) hx hb dX11_areThings_104 hl (k := 1) rfl (by rw [ev_36]; rfl) (by decide +kernel) rfl ?_
                      clear hl
                      intro ls hl
                      refine lv_goto (tgt := 34) hx hb dX11_areThings_107 (by decide +kernel) ?_
                      exact ih34 1 v_36 (by first | omega | (simp only [zl_1]; first | done | omega) | decide | assumption | rfl) (by first | omega | (simp only [zl_1]; first | done | omega) | decide | assumption | rfl) (by first | omega | (simp only [zl_1]; first | done | omega) | decide | assumption | rfl) (by first | omega | (simp only [zl_1]; first | done | omega) | decide | assumption | rfl) (by first | omega | (simp only [zl_1]; first | done | omega) | decide | assumption | rfl) (by first | omega | exact Or.inl zl_0 | exact Or.inr ⟨by omega, by omega⟩) (by omega) ls _ _ (lv_sub hl [0, 1, 2, 3] rfl) (hP.sub [1, 0, 2] rfl) (hD.sub [1, 0, 2] (by decide +kernel) rfl) hS
                    · try simp only [zl_1, zl_3] at h_35
                      have h_35 : r_26.toInt < 1 ∨ 3 < r_26.toInt := h_35
                      obtain rfl : r_30 = 0 := hr_30.trans (by decide +kernel)
                      refine lv_istore_n (lv' := [(2, .int 0), (3, .int l34_3), (0, .ref k), (1, .int a0)]) hx hb dX11_areThings_103 rfl hl (by decide +kernel) rfl ?_
                      clear hl
                      intro ls hl
                      obtain ⟨v_37, ev_37⟩ : ∃ y : Int32, y = l34_3 + 1 := ⟨_, rfl⟩
                      have tv_37 : v_37.toInt = l34_3.toInt + 1 := by rw [ev_37]; exact k_addv rfl zl_1 (by omega) (by omega)
                      refine lv_iinc (v := v_37) (lv' := [(3, .int v_37), (2, .int 0), (0, .ref k), (1, .int a0)]) hx hb dX11_areThings_104 hl (k := 1) rfl (by rw [ev_37]; rfl) (by decide +kernel) rfl ?_
                      clear hl
                      intro ls hl
                      refine lv_goto (tgt := 34) hx hb dX11_areThings_107 (by decide +kernel) ?_
                      exact ih34 0 v_37 (by first | omega | (simp only [zl_0]; first | done | omega) | decide | assumption | rfl) (by first | omega | (simp only [zl_0]; first | done | omega) | decide | assumption | rfl) (by first | omega | (simp only [zl_0]; first | done | omega) | decide | assumption | rfl) (by first | omega | (simp only [zl_0]; first | done | omega) | decide | assumption | rfl) (by first | omega | (simp only [zl_0]; first | done | omega) | decide | assumption | rfl) (by first | omega | exact Or.inl zl_0 | exact Or.inr ⟨by omega, by omega⟩) (by omega) ls _ _ (lv_sub hl [0, 1, 2, 3] rfl) (hP.sub [1, 0, 2] rfl) (hD.sub [1, 0, 2] (by decide +kernel) rfl) hS
                  · refine lv_aload_n hx hb dX11_areThings_76 rfl (lv_at hl 2 rfl) ?_
                    refine lv_iload_n hx hb dX11_areThings_77 rfl (lv_at hl 3 rfl) ?_
                    refine lv_iload_n hx hb dX11_areThings_78 rfl (lv_at hl 0 rfl) ?_
                    refine kJi (wr := [(k6, .inl (cI, 4, .inl c6))]) (va_runV (As := [.int a0, .int l34_3]) (rest := []) ⟨hx, hb, hml, hown, hT⟩ (c_X11_atG l D cI aK aV k k0 k1 k2 k4 k5 k6 k7 k8 ka kb kl ko H.size c3 c9 cc cd ce cf cg ch ci cj ck cm cn c7 a0 l34_3 (by first | omega | decide | assumption | rfl) (by first | omega | decide | assumption | rfl) (by first | omega | decide | assumption | rfl) (by first | omega | decide | assumption | rfl)) (cwV 2 hT (gV_in mw_1396 mw_1393 mw_1395 mw_p5_2 mw_12) rfl rfl rfl (by decide +kernel) ⟨Nat.le_of_ble_eq_true rfl, Nat.le_of_ble_eq_true rfl⟩) (kRecvX (q0 := 0) (ci := 11) hK hP hD hN hXS hS hA rfl rfl [0, 2] rfl (by decide +kernel)) rfl rfl hl.1 rfl (lv_room (Nat.le_of_ble_eq_true rfl)) dX11_areThings_79 ⟨Nat.le_of_ble_eq_true rfl, Nat.le_of_ble_eq_true rfl⟩) hP hD hS hA [0, 2] [1] rfl rfl (by decide +kernel) (by decide +kernel) ?_
                    clear hP hD hS
                    intro r_38 u_40 H locs w_39 hP hD hS
                    replace hP : va_P D vwCl [(k6, .inl (cI, 4, .inl c6)), (k, .inr (11, [.ref k0, .ref k1, .ref k2, .int c3, .ref k4, .ref k5, .ref k6, .ref k7, .ref k8, .int c9, .ref ka, .ref kb, .int cc, .int cd, .int ce, .int cf, .int cg, .int ch, .int ci, .int cj, .int ck, .ref kl, .int cm, .int cn, .ref ko])), (k7, .inl (cI, 144, .inl c7))] H := hP
                    replace hD : va_D A [(k6, .inl (cI, 4, .inl c6)), (k, .inr (11, [.ref k0, .ref k1, .ref k2, .int c3, .ref k4, .ref k5, .ref k6, .ref k7, .ref k8, .int c9, .ref ka, .ref kb, .int cc, .int cd, .int ce, .int cf, .int cg, .int ch, .int ci, .int cj, .int ck, .ref kl, .int cm, .int cn, .ref ko])), (k7, .inl (cI, 144, .inl c7))] := hD
                    have h_41 := w_39
                    have h_41 : r_38 = c7 (36 * a0.toInt.toNat + l34_3.toInt.toNat) := h_41
                    have h_41 : r_38 = c7 (36 * a0.toInt.toNat + l34_3.toInt.toNat) := h_41
                    have lo_r_38 := k_lo r_38
                    have hi_r_38 := k_hi r_38
                    refine lv_iconst (v := 0) hx hb dX11_areThings_82 (by decide +kernel) ?_
                    refine lv_sipush (v := 999) hx hb dX11_areThings_83 (by decide +kernel) ?_
                    refine kJi (wr := [(k6, .inl (cI, 4, .inl c6)), (k, .inr (11, [.ref k0, .ref k1, .ref k2, .int c3, .ref k4, .ref k5, .ref k6, .ref k7, .ref k8, .int c9, .ref ka, .ref kb, .int cc, .int cd, .int ce, .int cf, .int cg, .int ch, .int ci, .int cj, .int ck, .ref kl, .int cm, .int cn, .ref ko])), (k7, .inl (cI, 144, .inl c7))]) (va_runS (As := [.int r_38, .int 0, .int 999]) (rest := []) ⟨hx, hb, hml, hown, hT⟩ (c_X11_inG l D cI aK aV H.size r_38 0 999) (cwS 3 hT (gS_in mw_1238 mw_1236 mw_1237 mw_12) rfl rfl rfl (by decide +kernel) ⟨Nat.le_of_ble_eq_true rfl, Nat.le_of_ble_eq_true rfl⟩) (kStatX hK hP hD hN hXS hS hA [] rfl (by decide +kernel)) rfl rfl hl.1 rfl (lv_room (Nat.le_of_ble_eq_true rfl)) dX11_areThings_86 ⟨Nat.le_of_ble_eq_true rfl, Nat.le_of_ble_eq_true rfl⟩) hP hD hS hA [] [0, 1, 2] rfl rfl (by decide +kernel) (by decide +kernel) ?_
                    clear hP hD hS
                    intro r_42 u_44 H locs w_43 hP hD hS
                    replace hP : va_P D vwCl [(k6, .inl (cI, 4, .inl c6)), (k, .inr (11, [.ref k0, .ref k1, .ref k2, .int c3, .ref k4, .ref k5, .ref k6, .ref k7, .ref k8, .int c9, .ref ka, .ref kb, .int cc, .int cd, .int ce, .int cf, .int cg, .int ch, .int ci, .int cj, .int ck, .ref kl, .int cm, .int cn, .ref ko])), (k7, .inl (cI, 144, .inl c7))] H := hP
                    replace hD : va_D A [(k6, .inl (cI, 4, .inl c6)), (k, .inr (11, [.ref k0, .ref k1, .ref k2, .int c3, .ref k4, .ref k5, .ref k6, .ref k7, .ref k8, .int c9, .ref ka, .ref kb, .int cc, .int cd, .int ce, .int cf, .int cg, .int ch, .int ci, .int cj, .int ck, .ref kl, .int cm, .int cn, .ref ko])), (k7, .inl (cI, 144, .inl c7))] := hD
                    rcases w_43 with ⟨hr_42, h_45, h_46⟩ | ⟨hr_42, h_47⟩
                    · try simp only [zl_0, zl_999] at h_45
                      have h_45 : 0 ≤ r_38.toInt := h_45
                      try simp only [zl_0, zl_999] at h_46
                      have h_46 : r_38.toInt ≤ 999 := h_46
                      obtain rfl : r_42 = 1 := hr_42.trans (by decide +kernel)
                      refine lv_goto (tgt := 103) hx hb dX11_areThings_89 (by decide +kernel) ?_
                      refine lv_istore_n (lv' := [(2, .int 1), (3, .int l34_3), (0, .ref k), (1, .int a0)]) hx hb dX11_areThings_103 rfl hl (by decide +kernel) rfl ?_
                      clear hl
                      intro ls hl
                      obtain ⟨v_48, ev_48⟩ : ∃ y : Int32, y = l34_3 + 1 := ⟨_, rfl⟩
                      have tv_48 : v_48.toInt = l34_3.toInt + 1 := by rw [ev_48]; exact k_addv rfl zl_1 (by omega) (by omega)
                      refine lv_iinc (v := v_48) (lv' := [(3, .int v_48), (2, .int 1), (0, .ref k), (1, .int a0)]) hx hb dX11_areThings_104 hl (k := 1) rfl (by rw [ev_48]; rfl) (by decide +kernel) rfl ?_
                      clear hl
                      intro ls hl
                      refine lv_goto (tgt := 34) hx hb dX11_areThings_107 (by decide +kernel) ?_
                      exact ih34 1 v_48 (by first | omega | (simp only [zl_1]; first | done | omega) | decide | assumption | rfl) (by first | omega | (simp only [zl_1]; first | done | omega) | decide | assumption | rfl) (by first | omega | (simp only [zl_1]; first | done | omega) | decide | assumption | rfl) (by first | omega | (simp only [zl_1]; first | done | omega) | decide | assumption | rfl) (by first | omega | (simp only [zl_1]; first | done | omega) | decide | assumption | rfl) (by first | omega | exact Or.inl zl_0 | exact Or.inr ⟨by omega, by omega⟩) (by omega) ls _ _ (lv_sub hl [0, 1, 2, 3] rfl) (hP.sub [1, 0, 2] rfl) (hD.sub [1, 0, 2] (by decide +kernel) rfl) hS
                    · try simp only [zl_0, zl_999] at h_47
                      have h_47 : r_38.toInt < 0 ∨ 999 < r_38.toInt := h_47
                      obtain rfl : r_42 = 0 := hr_42.trans (by decide +kernel)
                      refine lv_goto (tgt := 103) hx hb dX11_areThings_89 (by decide +kernel) ?_
                      refine lv_istore_n (lv' := [(2, .int 0), (3, .int l34_3), (0, .ref k), (1, .int a0)]) hx hb dX11_areThings_103 rfl hl (by decide +kernel) rfl ?_
                      clear hl
                      intro ls hl
                      obtain ⟨v_49, ev_49⟩ : ∃ y : Int32, y = l34_3 + 1 := ⟨_, rfl⟩
                      have tv_49 : v_49.toInt = l34_3.toInt + 1 := by rw [ev_49]; exact k_addv rfl zl_1 (by omega) (by omega)
                      refine lv_iinc (v := v_49) (lv' := [(3, .int v_49), (2, .int 0), (0, .ref k), (1, .int a0)]) hx hb dX11_areThings_104 hl (k := 1) rfl (by rw [ev_49]; rfl) (by decide +kernel) rfl ?_
                      clear hl
                      intro ls hl
                      refine lv_goto (tgt := 34) hx hb dX11_areThings_107 (by decide +kernel) ?_
                      exact ih34 0 v_49 (by first | omega | (simp only [zl_0]; first | done | omega) | decide | assumption | rfl) (by first | omega | (simp only [zl_0]; first | done | omega) | decide | assumption | rfl) (by first | omega | (simp only [zl_0]; first | done | omega) | decide | assumption | rfl) (by first | omega | (simp only [zl_0]; first | done | omega) | decide | assumption | rfl) (by first | omega | (simp only [zl_0]; first | done | omega) | decide | assumption | rfl) (by first | omega | exact Or.inl zl_0 | exact Or.inr ⟨by omega, by omega⟩) (by omega) ls _ _ (lv_sub hl [0, 1, 2, 3] rfl) (hP.sub [1, 0, 2] rfl) (hD.sub [1, 0, 2] (by decide +kernel) rfl) hS
                · refine lv_aload_n hx hb dX11_areThings_54 rfl (lv_at hl 2 rfl) ?_
                  refine lv_iload_n hx hb dX11_areThings_55 rfl (lv_at hl 3 rfl) ?_
                  refine lv_iload_n hx hb dX11_areThings_56 rfl (lv_at hl 0 rfl) ?_
                  refine kJi (wr := [(k6, .inl (cI, 4, .inl c6))]) (va_runV (As := [.int a0, .int l34_3]) (rest := []) ⟨hx, hb, hml, hown, hT⟩ (c_X11_atG l D cI aK aV k k0 k1 k2 k4 k5 k6 k7 k8 ka kb kl ko H.size c3 c9 cc cd ce cf cg ch ci cj ck cm cn c7 a0 l34_3 (by first | omega | decide | assumption | rfl) (by first | omega | decide | assumption | rfl) (by first | omega | decide | assumption | rfl) (by first | omega | decide | assumption | rfl)) (cwV 2 hT (gV_in mw_1396 mw_1393 mw_1395 mw_p5_2 mw_12) rfl rfl rfl (by decide +kernel) ⟨Nat.le_of_ble_eq_true rfl, Nat.le_of_ble_eq_true rfl⟩) (kRecvX (q0 := 0) (ci := 11) hK hP hD hN hXS hS hA rfl rfl [0, 2] rfl (by decide +kernel)) rfl rfl hl.1 rfl (lv_room (Nat.le_of_ble_eq_true rfl)) dX11_areThings_57 ⟨Nat.le_of_ble_eq_true rfl, Nat.le_of_ble_eq_true rfl⟩) hP hD hS hA [0, 2] [1] rfl rfl (by decide +kernel) (by decide +kernel) ?_
                  clear hP hD hS
                  intro r_50 u_52 H locs w_51 hP hD hS
                  replace hP : va_P D vwCl [(k6, .inl (cI, 4, .inl c6)), (k, .inr (11, [.ref k0, .ref k1, .ref k2, .int c3, .ref k4, .ref k5, .ref k6, .ref k7, .ref k8, .int c9, .ref ka, .ref kb, .int cc, .int cd, .int ce, .int cf, .int cg, .int ch, .int ci, .int cj, .int ck, .ref kl, .int cm, .int cn, .ref ko])), (k7, .inl (cI, 144, .inl c7))] H := hP
                  replace hD : va_D A [(k6, .inl (cI, 4, .inl c6)), (k, .inr (11, [.ref k0, .ref k1, .ref k2, .int c3, .ref k4, .ref k5, .ref k6, .ref k7, .ref k8, .int c9, .ref ka, .ref kb, .int cc, .int cd, .int ce, .int cf, .int cg, .int ch, .int ci, .int cj, .int ck, .ref kl, .int cm, .int cn, .ref ko])), (k7, .inl (cI, 144, .inl c7))] := hD
                  have h_53 := w_51
                  have h_53 : r_50 = c7 (36 * a0.toInt.toNat + l34_3.toInt.toNat) := h_53
                  have h_53 : r_50 = c7 (36 * a0.toInt.toNat + l34_3.toInt.toNat) := h_53
                  have lo_r_50 := k_lo r_50
                  have hi_r_50 := k_hi r_50
                  refine lv_iconst (v := 1) hx hb dX11_areThings_60 (by decide +kernel) ?_
                  refine lv_bipush (v := 40) hx hb dX11_areThings_61 (by decide +kernel) ?_
                  refine kJi (wr := [(k6, .inl (cI, 4, .inl c6)), (k, .inr (11, [.ref k0, .ref k1, .ref k2, .int c3, .ref k4, .ref k5, .ref k6, .ref k7, .ref k8, .int c9, .ref ka, .ref kb, .int cc, .int cd, .int ce, .int cf, .int cg, .int ch, .int ci, .int cj, .int ck, .ref kl, .int cm, .int cn, .ref ko])), (k7, .inl (cI, 144, .inl c7))]) (va_runS (As := [.int r_50, .int 1, .int 40]) (rest := []) ⟨hx, hb, hml, hown, hT⟩ (c_X11_inG l D cI aK aV H.size r_50 1 40) (cwS 3 hT (gS_in mw_1238 mw_1236 mw_1237 mw_12) rfl rfl rfl (by decide +kernel) ⟨Nat.le_of_ble_eq_true rfl, Nat.le_of_ble_eq_true rfl⟩) (kStatX hK hP hD hN hXS hS hA [] rfl (by decide +kernel)) rfl rfl hl.1 rfl (lv_room (Nat.le_of_ble_eq_true rfl)) dX11_areThings_63 ⟨Nat.le_of_ble_eq_true rfl, Nat.le_of_ble_eq_true rfl⟩) hP hD hS hA [] [0, 1, 2] rfl rfl (by decide +kernel) (by decide +kernel) ?_
                  clear hP hD hS
                  intro r_54 u_56 H locs w_55 hP hD hS
                  replace hP : va_P D vwCl [(k6, .inl (cI, 4, .inl c6)), (k, .inr (11, [.ref k0, .ref k1, .ref k2, .int c3, .ref k4, .ref k5, .ref k6, .ref k7, .ref k8, .int c9, .ref ka, .ref kb, .int cc, .int cd, .int ce, .int cf, .int cg, .int ch, .int ci, .int cj, .int ck, .ref kl, .int cm, .int cn, .ref ko])), (k7, .inl (cI, 144, .inl c7))] H := hP
                  replace hD : va_D A [(k6, .inl (cI, 4, .inl c6)), (k, .inr (11, [.ref k0, .ref k1, .ref k2, .int c3, .ref k4, .ref k5, .ref k6, .ref k7, .ref k8, .int c9, .ref ka, .ref kb, .int cc, .int cd, .int ce, .int cf, .int cg, .int ch, .int ci, .int cj, .int ck, .ref kl, .int cm, .int cn, .ref ko])), (k7, .inl (cI, 144, .inl c7))] := hD
                  rcases w_55 with ⟨hr_54, h_57, h_58⟩ | ⟨hr_54, h_59⟩
                  · try simp only [zl_1, zl_40] at h_57
                    have h_57 : 1 ≤ r_50.toInt := h_57
                    try simp only [zl_1, zl_40] at h_58
                    have h_58 : r_50.toInt ≤ 40 := h_58
                    obtain rfl : r_54 = 1 := hr_54.trans (by decide +kernel)
                    refine lv_goto (tgt := 103) hx hb dX11_areThings_66 (by decide +kernel) ?_
                    refine lv_istore_n (lv' := [(2, .int 1), (3, .int l34_3), (0, .ref k), (1, .int a0)]) hx hb dX11_areThings_103 rfl hl (by decide +kernel) rfl ?_
                    clear hl
                    intro ls hl
                    obtain ⟨v_60, ev_60⟩ : ∃ y : Int32, y = l34_3 + 1 := ⟨_, rfl⟩
                    have tv_60 : v_60.toInt = l34_3.toInt + 1 := by rw [ev_60]; exact k_addv rfl zl_1 (by omega) (by omega)
                    refine lv_iinc (v := v_60) (lv' := [(3, .int v_60), (2, .int 1), (0, .ref k), (1, .int a0)]) hx hb dX11_areThings_104 hl (k := 1) rfl (by rw [ev_60]; rfl) (by decide +kernel) rfl ?_
                    clear hl
                    intro ls hl
                    refine lv_goto (tgt := 34) hx hb dX11_areThings_107 (by decide +kernel) ?_
                    exact ih34 1 v_60 (by first | omega | (simp only [zl_1]; first | done | omega) | decide | assumption | rfl) (by first | omega | (simp only [zl_1]; first | done | omega) | decide | assumption | rfl) (by first | omega | (simp only [zl_1]; first | done | omega) | decide | assumption | rfl) (by first | omega | (simp only [zl_1]; first | done | omega) | decide | assumption | rfl) (by first | omega | (simp only [zl_1]; first | done | omega) | decide | assumption | rfl) (by first | omega | exact Or.inl zl_0 | exact Or.inr ⟨by omega, by omega⟩) (by omega) ls _ _ (lv_sub hl [0, 1, 2, 3] rfl) (hP.sub [1, 0, 2] rfl) (hD.sub [1, 0, 2] (by decide +kernel) rfl) hS
                  · try simp only [zl_1, zl_40] at h_59
                    have h_59 : r_50.toInt < 1 ∨ 40 < r_50.toInt := h_59
                    obtain rfl : r_54 = 0 := hr_54.trans (by decide +kernel)
                    refine lv_goto (tgt := 103) hx hb dX11_areThings_66 (by decide +kernel) ?_
                    refine lv_istore_n (lv' := [(2, .int 0), (3, .int l34_3), (0, .ref k), (1, .int a0)]) hx hb dX11_areThings_103 rfl hl (by decide +kernel) rfl ?_
                    clear hl
                    intro ls hl
                    obtain ⟨v_61, ev_61⟩ : ∃ y : Int32, y = l34_3 + 1 := ⟨_, rfl⟩
                    have tv_61 : v_61.toInt = l34_3.toInt + 1 := by rw [ev_61]; exact k_addv rfl zl_1 (by omega) (by omega)
                    refine lv_iinc (v := v_61) (lv' := [(3, .int v_61), (2, .int 0), (0, .ref k), (1, .int a0)]) hx hb dX11_areThings_104 hl (k := 1) rfl (by rw [ev_61]; rfl) (by decide +kernel) rfl ?_
                    clear hl
                    intro ls hl
                    refine lv_goto (tgt := 34) hx hb dX11_areThings_107 (by decide +kernel) ?_
                    exact ih34 0 v_61 (by first | omega | (simp only [zl_0]; first | done | omega) | decide | assumption | rfl) (by first | omega | (simp only [zl_0]; first | done | omega) | decide | assumption | rfl) (by first | omega | (simp only [zl_0]; first | done | omega) | decide | assumption | rfl) (by first | omega | (simp only [zl_0]; first | done | omega) | decide | assumption | rfl) (by first | omega | (simp only [zl_0]; first | done | omega) | decide | assumption | rfl) (by first | omega | exact Or.inl zl_0 | exact Or.inr ⟨by omega, by omega⟩) (by omega) ls _ _ (lv_sub hl [0, 1, 2, 3] rfl) (hP.sub [1, 0, 2] rfl) (hD.sub [1, 0, 2] (by decide +kernel) rfl) hS
      exact hloop_34 _ 1 0 (by first | omega | (simp only [zl_0, zl_1]; first | done | omega) | decide | assumption | rfl) (by first | omega | (simp only [zl_0, zl_1]; first | done | omega) | decide | assumption | rfl) (by first | omega | (simp only [zl_0, zl_1]; first | done | omega) | decide | assumption | rfl) (by first | omega | (simp only [zl_0, zl_1]; first | done | omega) | decide | assumption | rfl) (by first | omega | (simp only [zl_0, zl_1]; first | done | omega) | decide | assumption | rfl) (by first | omega | exact Or.inl zl_0 | exact Or.inr ⟨by omega, by omega⟩) (Nat.lt_succ_self _) ls _ _ (lv_sub hl [0, 1, 2, 3] rfl) hP hD hS
    · try simp only [zl_3, zl_24] at h_16
      have h_16 : v_9.toInt < 3 ∨ 24 < v_9.toInt := h_16
      obtain rfl : r_11 = 0 := hr_11.trans (by decide +kernel)
      refine b_if_eq hx hb zl_0 (tgt := 30) dX11_areThings_23 (by decide +kernel) (fun c_62 => ?_) (fun c_62 => by exfalso; omega)
      refine lv_iconst (v := 0) hx hb dX11_areThings_30 (by decide +kernel) ?_
      refine lv_istore_n (lv' := [(2, .int 0), (0, .ref k), (1, .int a0)]) hx hb dX11_areThings_31 rfl hl (by decide +kernel) rfl ?_
      clear hl
      intro ls hl
      refine lv_iconst (v := 0) hx hb dX11_areThings_32 (by decide +kernel) ?_
      refine lv_istore_n (lv' := [(3, .int 0), (2, .int 0), (0, .ref k), (1, .int a0)]) hx hb dX11_areThings_33 rfl hl (by decide +kernel) rfl ?_
      clear hl
      intro ls hl
      have hloop_34 : ∀ (fu_ : Nat) (l34_2 : Int32) (l34_3 : Int32), l34_2.toInt ≤ 0 → 0 ≤ l34_3.toInt → 0 ≤ l34_2.toInt → l34_2.toInt ≤ 1 → l34_3.toInt ≤ 36 → (l34_2.toInt = 0 ∨ (3 ≤ (c6 a0.toNatClampNeg).toInt ∧ (c6 a0.toNatClampNeg).toInt ≤ 24)) → (36 - l34_3.toInt).toNat < fu_ → ∀ (ls : Array Slot) (H : Heap) (locs : List Loc), lv_has ls 4 [(3, .int l34_3), (2, .int l34_2), (0, .ref k), (1, .int a0)] → va_P D vwCl [(k, .inr (11, [.ref k0, .ref k1, .ref k2, .int c3, .ref k4, .ref k5, .ref k6, .ref k7, .ref k8, .int c9, .ref ka, .ref kb, .int cc, .int cd, .int ce, .int cf, .int cg, .int ch, .int ci, .int cj, .int ck, .ref kl, .int cm, .int cn, .ref ko])), (k6, .inl (cI, 4, .inl c6)), (k7, .inl (cI, 144, .inl c7))] H → va_D A [(k, .inr (11, [.ref k0, .ref k1, .ref k2, .int c3, .ref k4, .ref k5, .ref k6, .ref k7, .ref k8, .int c9, .ref ka, .ref kb, .int cc, .int cd, .int ce, .int cf, .int cg, .int ch, .int ci, .int cj, .int ck, .ref kl, .int cm, .int cn, .ref ko])), (k6, .inl (cI, 4, .inl c6)), (k7, .inl (cI, 144, .inl c7))] → va_S A s.heap H locs → W p l e ({ frames := 1, cells := 0, slots := 0, locals := 22 } : Room) s m args below meth c H locs 0 0 Q (F0 m 34 ls []) := by
        intro fu_; induction fu_ with
        | zero => intro l34_2 l34_3 i34_0 i34_1 i34_2 i34_3 i34_4 i34_5 hm; exact absurd hm (by omega)
        | succ fu_ ih34 =>
            intro l34_2 l34_3 i34_0 i34_1 i34_2 i34_3 i34_4 i34_5 hm ls H locs hl hP hD hS
            have lo_l34_2 := k_lo l34_2
            have hi_l34_2 := k_hi l34_2
            have lo_l34_3 := k_lo l34_3
            have hi_l34_3 := k_hi l34_3
            refine lv_iload_n hx hb dX11_areThings_34 rfl (lv_at hl 0 rfl) ?_
            refine lv_aload_n hx hb dX11_areThings_35 rfl (lv_at hl 2 rfl) ?_
            refine va_get (D := D) (ci := 11) (v := .ref k6) (C := RX11) (T := TX11) (N := 25) hx hb hT giX11 hown hK hP 0 rfl rfl 6 (by decide +kernel) (hT (Cond.fieldLink RX11 25 "DesertWireModel" "size" "[I") mw_1162) (fun _ h9 => h9) rfl dX11_areThings_36 ?_
            refine lv_iload_n hx hb dX11_areThings_39 rfl (lv_at hl 3 rfl) ?_
            refine k_iald (v := (c6 a0.toNatClampNeg)) hx hb hK hP 1 0 rfl rfl (k_in (by omega) (by omega)) rfl dX11_areThings_40 ?_
            refine lv_topi (fun v_63 ev_63 => ?_)
            have lo_v_63 := k_lo v_63
            have hi_v_63 := k_hi v_63
            have tv_63 : v_63.toInt = (c6 a0.toNatClampNeg).toInt := by rw [ev_63]
            have b_64 : 0 ≤ v_63.toInt ∧ v_63.toInt ≤ 36 := by rw [tv_63]; exact pre0 a0.toNatClampNeg (by rw [k_clamp]; omega)
            refine b_icmp_ge hx hb rfl rfl (tgt := 110) dX11_areThings_41 (by decide +kernel) (fun c_65 => ?_) (fun c_65 => ?_)
            · refine lv_iload_n hx hb dX11_areThings_110 rfl (lv_at hl 1 rfl) ?_
              rcases (show l34_2.toInt = 0 ∨ l34_2.toInt = 1 by omega) with h_z | h_z
              · obtain rfl : l34_2 = 0 := k_inj (by rw [zl_0]; omega)
                exact hRet () [0, 1, 2] (Or.inr (rfl)) hP hD (by decide +kernel) rfl hS rfl dX11_areThings_111
              · obtain rfl : l34_2 = 1 := k_inj (by rw [zl_1]; omega)
                exact hRet () [0, 1, 2] (Or.inl ⟨rfl, (by omega), (by omega)⟩) hP hD (by decide +kernel) rfl hS rfl dX11_areThings_111
            · refine lv_iload_n hx hb dX11_areThings_44 rfl (lv_at hl 1 rfl) ?_
              refine b_if_eq hx hb rfl (tgt := 110) dX11_areThings_45 (by decide +kernel) (fun c_66 => ?_) (fun c_66 => by exfalso; omega)
              refine lv_iload_n hx hb dX11_areThings_110 rfl (lv_at hl 1 rfl) ?_
              rcases (show l34_2.toInt = 0 ∨ l34_2.toInt = 1 by omega) with h_z | h_z
              · obtain rfl : l34_2 = 0 := k_inj (by rw [zl_0]; omega)
                exact hRet () [0, 1, 2] (Or.inr (rfl)) hP hD (by decide +kernel) rfl hS rfl dX11_areThings_111
              · obtain rfl : l34_2 = 1 := k_inj (by rw [zl_1]; omega)
                exact hRet () [0, 1, 2] (Or.inl ⟨rfl, (by omega), (by omega)⟩) hP hD (by decide +kernel) rfl hS rfl dX11_areThings_111
      exact hloop_34 _ 0 0 (by first | omega | (simp only [zl_0]; first | done | omega) | decide | assumption | rfl) (by first | omega | (simp only [zl_0]; first | done | omega) | decide | assumption | rfl) (by first | omega | (simp only [zl_0]; first | done | omega) | decide | assumption | rfl) (by first | omega | (simp only [zl_0]; first | done | omega) | decide | assumption | rfl) (by first | omega | (simp only [zl_0]; first | done | omega) | decide | assumption | rfl) (by first | omega | exact Or.inl zl_0 | exact Or.inr ⟨by omega, by omega⟩) (Nat.lt_succ_self _) ls _ _ (lv_sub hl [0, 1, 2, 3] rfl) hP hD hS
theorem bn_cX11_findLoad_0 : BN cX11_findLoad 0 0xa68101656c01500204a140e37309a4e8015b9840a69048580e1c158282c070b0186e61349d002b7348242c070e0ac14160305810370201402a80282002a43a0056e61031a4121603870560a0b0286edd00adc3c090b0142c2b2800534080b15402a30f0242c091b81010370281c6e04030dc08be00a700a16028dcca053c9a43c0602b6802b6020adae015b00c563f3681c5e1c0d0056a2b := by
  unfold BN; decide +kernel
theorem dX11_findLoad_0 : decode cX11_findLoad 0 = .ok (.aload_n 0, 1) := dR0 (k := 0) (i := 0) bn_cX11_findLoad_0 dop_42 (by decide +kernel)
theorem dX11_findLoad_1 : decode cX11_findLoad 1 = .ok (.getfield 25, 3) := dR2 (f := Instr.getfield) (k := 0) (i := 1) bn_cX11_findLoad_0 dop_180 25 (by decide +kernel)
theorem dX11_findLoad_4 : decode cX11_findLoad 4 = .ok (.iload_n 1, 1) := dR0 (k := 0) (i := 4) bn_cX11_findLoad_0 dop_27 (by decide +kernel)
theorem dX11_findLoad_5 : decode cX11_findLoad 5 = .ok (.iaload, 1) := dR0 (k := 0) (i := 5) bn_cX11_findLoad_0 dop_46 (by decide +kernel)
theorem dX11_findLoad_6 : decode cX11_findLoad 6 = .ok (.iconst 3, 1) := dR0 (k := 0) (i := 6) bn_cX11_findLoad_0 dop_6 (by decide +kernel)
theorem dX11_findLoad_7 : decode cX11_findLoad 7 = .ok (.idiv, 1) := dR0 (k := 0) (i := 7) bn_cX11_findLoad_0 dop_108 (by decide +kernel)
theorem dX11_findLoad_8 : decode cX11_findLoad 8 = .ok (.istore_n 3, 1) := dR0 (k := 0) (i := 8) bn_cX11_findLoad_0 dop_62 (by decide +kernel)
theorem dX11_findLoad_9 : decode cX11_findLoad 9 = .ok (.aload_n 0, 1) := dR0 (k := 0) (i := 9) bn_cX11_findLoad_0 dop_42 (by decide +kernel)
theorem dX11_findLoad_10 : decode cX11_findLoad 10 = .ok (.iconst (-1), 1) := dR0 (k := 0) (i := 10) bn_cX11_findLoad_0 dop_2 (by decide +kernel)
theorem dX11_findLoad_11 : decode cX11_findLoad 11 = .ok (.putfield 214, 3) := dR2 (f := Instr.putfield) (k := 0) (i := 11) bn_cX11_findLoad_0 dop_181 214 (by decide +kernel)
theorem dX11_findLoad_14 : decode cX11_findLoad 14 = .ok (.aload_n 0, 1) := dR0 (k := 0) (i := 14) bn_cX11_findLoad_0 dop_42 (by decide +kernel)
theorem dX11_findLoad_15 : decode cX11_findLoad 15 = .ok (.iconst 0, 1) := dR0 (k := 0) (i := 15) bn_cX11_findLoad_0 dop_3 (by decide +kernel)
theorem dX11_findLoad_16 : decode cX11_findLoad 16 = .ok (.putfield 217, 3) := dR2 (f := Instr.putfield) (k := 0) (i := 16) bn_cX11_findLoad_0 dop_181 217 (by decide +kernel)
theorem dX11_findLoad_19 : decode cX11_findLoad 19 = .ok (.iconst 1, 1) := dR0 (k := 0) (i := 19) bn_cX11_findLoad_0 dop_4 (by decide +kernel)
theorem dX11_findLoad_20 : decode cX11_findLoad 20 = .ok (.iconst 2, 1) := dR0 (k := 0) (i := 20) bn_cX11_findLoad_0 dop_5 (by decide +kernel)
theorem dX11_findLoad_21 : decode cX11_findLoad 21 = .ok (.iload_n 3, 1) := dR0 (k := 0) (i := 21) bn_cX11_findLoad_0 dop_29 (by decide +kernel)
theorem dX11_findLoad_22 : decode cX11_findLoad 22 = .ok (.imul, 1) := dR0 (k := 0) (i := 22) bn_cX11_findLoad_0 dop_104 (by decide +kernel)
theorem dX11_findLoad_23 : decode cX11_findLoad 23 = .ok (.ishl, 1) := dR0 (k := 0) (i := 23) bn_cX11_findLoad_0 dop_120 (by decide +kernel)
theorem dX11_findLoad_24 : decode cX11_findLoad 24 = .ok (.iconst 1, 1) := dR0 (k := 0) (i := 24) bn_cX11_findLoad_0 dop_4 (by decide +kernel)
theorem dX11_findLoad_25 : decode cX11_findLoad 25 = .ok (.isub, 1) := dR0 (k := 0) (i := 25) bn_cX11_findLoad_0 dop_100 (by decide +kernel)
theorem dX11_findLoad_26 : decode cX11_findLoad 26 = .ok (.istore 4, 2) := dR1 (f := Instr.istore) (k := 0) (i := 26) bn_cX11_findLoad_0 dop_54 4 (by decide +kernel)
theorem dX11_findLoad_28 : decode cX11_findLoad 28 = .ok (.iload 4, 2) := dR1 (f := Instr.iload) (k := 0) (i := 28) bn_cX11_findLoad_0 dop_21 4 (by decide +kernel)
theorem dX11_findLoad_30 : decode cX11_findLoad 30 = .ok (.ifCond .lt 189, 3) := dR2s (f := Instr.ifCond .lt) (k := 0) (i := 30) bn_cX11_findLoad_0 dop_155 189 189 (by decide +kernel)
theorem dX11_findLoad_33 : decode cX11_findLoad 33 = .ok (.iconst 0, 1) := dR0 (k := 0) (i := 33) bn_cX11_findLoad_0 dop_3 (by decide +kernel)
theorem dX11_findLoad_34 : decode cX11_findLoad 34 = .ok (.istore 5, 2) := dR1 (f := Instr.istore) (k := 0) (i := 34) bn_cX11_findLoad_0 dop_54 5 (by decide +kernel)
theorem dX11_findLoad_36 : decode cX11_findLoad 36 = .ok (.iconst 0, 1) := dR0 (k := 0) (i := 36) bn_cX11_findLoad_0 dop_3 (by decide +kernel)
theorem dX11_findLoad_37 : decode cX11_findLoad 37 = .ok (.istore 6, 2) := dR1 (f := Instr.istore) (k := 0) (i := 37) bn_cX11_findLoad_0 dop_54 6 (by decide +kernel)
theorem dX11_findLoad_39 : decode cX11_findLoad 39 = .ok (.iconst 1, 1) := dR0 (k := 0) (i := 39) bn_cX11_findLoad_0 dop_4 (by decide +kernel)
theorem dX11_findLoad_40 : decode cX11_findLoad 40 = .ok (.istore 7, 2) := dR1 (f := Instr.istore) (k := 0) (i := 40) bn_cX11_findLoad_0 dop_54 7 (by decide +kernel)
theorem dX11_findLoad_42 : decode cX11_findLoad 42 = .ok (.iconst 0, 1) := dR0 (k := 0) (i := 42) bn_cX11_findLoad_0 dop_3 (by decide +kernel)
theorem dX11_findLoad_43 : decode cX11_findLoad 43 = .ok (.istore 8, 2) := dR1 (f := Instr.istore) (k := 0) (i := 43) bn_cX11_findLoad_0 dop_54 8 (by decide +kernel)
theorem dX11_findLoad_45 : decode cX11_findLoad 45 = .ok (.iload 8, 2) := dR1 (f := Instr.iload) (k := 0) (i := 45) bn_cX11_findLoad_0 dop_21 8 (by decide +kernel)
theorem dX11_findLoad_47 : decode cX11_findLoad 47 = .ok (.iload_n 3, 1) := dR0 (k := 0) (i := 47) bn_cX11_findLoad_0 dop_29 (by decide +kernel)
theorem dX11_findLoad_48 : decode cX11_findLoad 48 = .ok (.if_icmp .ge 84, 3) := dR2s (f := Instr.if_icmp .ge) (k := 0) (i := 48) bn_cX11_findLoad_0 dop_162 84 84 (by decide +kernel)
theorem dX11_findLoad_51 : decode cX11_findLoad 51 = .ok (.iload 7, 2) := dR1 (f := Instr.iload) (k := 0) (i := 51) bn_cX11_findLoad_0 dop_21 7 (by decide +kernel)
theorem dX11_findLoad_53 : decode cX11_findLoad 53 = .ok (.ifCond .eq 79, 3) := dR2s (f := Instr.ifCond .eq) (k := 0) (i := 53) bn_cX11_findLoad_0 dop_153 79 79 (by decide +kernel)
theorem dX11_findLoad_56 : decode cX11_findLoad 56 = .ok (.aload_n 0, 1) := dR0 (k := 0) (i := 56) bn_cX11_findLoad_0 dop_42 (by decide +kernel)
theorem dX11_findLoad_57 : decode cX11_findLoad 57 = .ok (.iload 4, 2) := dR1 (f := Instr.iload) (k := 0) (i := 57) bn_cX11_findLoad_0 dop_21 4 (by decide +kernel)
theorem dX11_findLoad_59 : decode cX11_findLoad 59 = .ok (.iload 8, 2) := dR1 (f := Instr.iload) (k := 0) (i := 59) bn_cX11_findLoad_0 dop_21 8 (by decide +kernel)
theorem dX11_findLoad_61 : decode cX11_findLoad 61 = .ok (.iload_n 3, 1) := dR0 (k := 0) (i := 61) bn_cX11_findLoad_0 dop_29 (by decide +kernel)
theorem dX11_findLoad_62 : decode cX11_findLoad 62 = .ok (.invokevirtual 220, 3) := dR2 (f := Instr.invokevirtual) (k := 0) (i := 62) bn_cX11_findLoad_0 dop_182 220 (by decide +kernel)
theorem dX11_findLoad_65 : decode cX11_findLoad 65 = .ok (.istore 9, 2) := dR1 (f := Instr.istore) (k := 0) (i := 65) bn_cX11_findLoad_0 dop_54 9 (by decide +kernel)
theorem dX11_findLoad_67 : decode cX11_findLoad 67 = .ok (.iload 9, 2) := dR1 (f := Instr.iload) (k := 0) (i := 67) bn_cX11_findLoad_0 dop_21 9 (by decide +kernel)
theorem dX11_findLoad_69 : decode cX11_findLoad 69 = .ok (.aload_n 0, 1) := dR0 (k := 0) (i := 69) bn_cX11_findLoad_0 dop_42 (by decide +kernel)
theorem dX11_findLoad_70 : decode cX11_findLoad 70 = .ok (.iload_n 1, 1) := dR0 (k := 0) (i := 70) bn_cX11_findLoad_0 dop_27 (by decide +kernel)
theorem dX11_findLoad_71 : decode cX11_findLoad 71 = .ok (.iconst 3, 1) := dR0 (k := 0) (i := 71) bn_cX11_findLoad_0 dop_6 (by decide +kernel)
theorem dX11_findLoad_72 : decode cX11_findLoad 72 = .ok (.iload 8, 2) := dR1 (f := Instr.iload) (k := 0) (i := 72) bn_cX11_findLoad_0 dop_21 8 (by decide +kernel)
theorem dX11_findLoad_74 : decode cX11_findLoad 74 = .ok (.imul, 1) := dR0 (k := 0) (i := 74) bn_cX11_findLoad_0 dop_104 (by decide +kernel)
theorem dX11_findLoad_75 : decode cX11_findLoad 75 = .ok (.iconst 2, 1) := dR0 (k := 0) (i := 75) bn_cX11_findLoad_0 dop_5 (by decide +kernel)
theorem dX11_findLoad_76 : decode cX11_findLoad 76 = .ok (.iadd, 1) := dR0 (k := 0) (i := 76) bn_cX11_findLoad_0 dop_96 (by decide +kernel)
theorem dX11_findLoad_77 : decode cX11_findLoad 77 = .ok (.invokevirtual 115, 3) := dR2 (f := Instr.invokevirtual) (k := 0) (i := 77) bn_cX11_findLoad_0 dop_182 115 (by decide +kernel)
theorem dX11_findLoad_80 : decode cX11_findLoad 80 = .ok (.if_icmp .gt 7, 3) := dR2s (f := Instr.if_icmp .gt) (k := 0) (i := 80) bn_cX11_findLoad_0 dop_163 7 7 (by decide +kernel)
theorem dX11_findLoad_83 : decode cX11_findLoad 83 = .ok (.iconst 1, 1) := dR0 (k := 0) (i := 83) bn_cX11_findLoad_0 dop_4 (by decide +kernel)
theorem dX11_findLoad_84 : decode cX11_findLoad 84 = .ok (.goto 4, 3) := dR2s (f := Instr.goto) (k := 0) (i := 84) bn_cX11_findLoad_0 dop_167 4 4 (by decide +kernel)
theorem dX11_findLoad_87 : decode cX11_findLoad 87 = .ok (.iconst 0, 1) := dR0 (k := 0) (i := 87) bn_cX11_findLoad_0 dop_3 (by decide +kernel)
theorem dX11_findLoad_88 : decode cX11_findLoad 88 = .ok (.istore 7, 2) := dR1 (f := Instr.istore) (k := 0) (i := 88) bn_cX11_findLoad_0 dop_54 7 (by decide +kernel)
theorem dX11_findLoad_90 : decode cX11_findLoad 90 = .ok (.iload 5, 2) := dR1 (f := Instr.iload) (k := 0) (i := 90) bn_cX11_findLoad_0 dop_21 5 (by decide +kernel)
theorem dX11_findLoad_92 : decode cX11_findLoad 92 = .ok (.iload 9, 2) := dR1 (f := Instr.iload) (k := 0) (i := 92) bn_cX11_findLoad_0 dop_21 9 (by decide +kernel)
theorem dX11_findLoad_94 : decode cX11_findLoad 94 = .ok (.aload_n 0, 1) := dR0 (k := 0) (i := 94) bn_cX11_findLoad_0 dop_42 (by decide +kernel)
theorem dX11_findLoad_95 : decode cX11_findLoad 95 = .ok (.iload_n 1, 1) := dR0 (k := 0) (i := 95) bn_cX11_findLoad_0 dop_27 (by decide +kernel)
theorem dX11_findLoad_96 : decode cX11_findLoad 96 = .ok (.iconst 3, 1) := dR0 (k := 0) (i := 96) bn_cX11_findLoad_0 dop_6 (by decide +kernel)
theorem dX11_findLoad_97 : decode cX11_findLoad 97 = .ok (.iload 8, 2) := dR1 (f := Instr.iload) (k := 0) (i := 97) bn_cX11_findLoad_0 dop_21 8 (by decide +kernel)
theorem dX11_findLoad_99 : decode cX11_findLoad 99 = .ok (.imul, 1) := dR0 (k := 0) (i := 99) bn_cX11_findLoad_0 dop_104 (by decide +kernel)
theorem dX11_findLoad_100 : decode cX11_findLoad 100 = .ok (.invokevirtual 115, 3) := dR2 (f := Instr.invokevirtual) (k := 0) (i := 100) bn_cX11_findLoad_0 dop_182 115 (by decide +kernel)
theorem dX11_findLoad_103 : decode cX11_findLoad 103 = .ok (.imul, 1) := dR0 (k := 0) (i := 103) bn_cX11_findLoad_0 dop_104 (by decide +kernel)
theorem dX11_findLoad_104 : decode cX11_findLoad 104 = .ok (.iadd, 1) := dR0 (k := 0) (i := 104) bn_cX11_findLoad_0 dop_96 (by decide +kernel)
theorem dX11_findLoad_105 : decode cX11_findLoad 105 = .ok (.istore 5, 2) := dR1 (f := Instr.istore) (k := 0) (i := 105) bn_cX11_findLoad_0 dop_54 5 (by decide +kernel)
theorem dX11_findLoad_107 : decode cX11_findLoad 107 = .ok (.iload 6, 2) := dR1 (f := Instr.iload) (k := 0) (i := 107) bn_cX11_findLoad_0 dop_21 6 (by decide +kernel)
theorem dX11_findLoad_109 : decode cX11_findLoad 109 = .ok (.iload 9, 2) := dR1 (f := Instr.iload) (k := 0) (i := 109) bn_cX11_findLoad_0 dop_21 9 (by decide +kernel)
theorem dX11_findLoad_111 : decode cX11_findLoad 111 = .ok (.aload_n 0, 1) := dR0 (k := 0) (i := 111) bn_cX11_findLoad_0 dop_42 (by decide +kernel)
theorem dX11_findLoad_112 : decode cX11_findLoad 112 = .ok (.iload_n 1, 1) := dR0 (k := 0) (i := 112) bn_cX11_findLoad_0 dop_27 (by decide +kernel)
theorem dX11_findLoad_113 : decode cX11_findLoad 113 = .ok (.iconst 3, 1) := dR0 (k := 0) (i := 113) bn_cX11_findLoad_0 dop_6 (by decide +kernel)
theorem dX11_findLoad_114 : decode cX11_findLoad 114 = .ok (.iload 8, 2) := dR1 (f := Instr.iload) (k := 0) (i := 114) bn_cX11_findLoad_0 dop_21 8 (by decide +kernel)
theorem dX11_findLoad_116 : decode cX11_findLoad 116 = .ok (.imul, 1) := dR0 (k := 0) (i := 116) bn_cX11_findLoad_0 dop_104 (by decide +kernel)
theorem dX11_findLoad_117 : decode cX11_findLoad 117 = .ok (.iconst 1, 1) := dR0 (k := 0) (i := 117) bn_cX11_findLoad_0 dop_4 (by decide +kernel)
theorem dX11_findLoad_118 : decode cX11_findLoad 118 = .ok (.iadd, 1) := dR0 (k := 0) (i := 118) bn_cX11_findLoad_0 dop_96 (by decide +kernel)
theorem dX11_findLoad_119 : decode cX11_findLoad 119 = .ok (.invokevirtual 115, 3) := dR2 (f := Instr.invokevirtual) (k := 0) (i := 119) bn_cX11_findLoad_0 dop_182 115 (by decide +kernel)
theorem dX11_findLoad_122 : decode cX11_findLoad 122 = .ok (.imul, 1) := dR0 (k := 0) (i := 122) bn_cX11_findLoad_0 dop_104 (by decide +kernel)
theorem dX11_findLoad_123 : decode cX11_findLoad 123 = .ok (.iadd, 1) := dR0 (k := 0) (i := 123) bn_cX11_findLoad_0 dop_96 (by decide +kernel)
theorem dX11_findLoad_124 : decode cX11_findLoad 124 = .ok (.istore 6, 2) := dR1 (f := Instr.istore) (k := 0) (i := 124) bn_cX11_findLoad_0 dop_54 6 (by decide +kernel)
theorem dX11_findLoad_126 : decode cX11_findLoad 126 = .ok (.iinc 8 1, 3) := dRii (f := Instr.iinc) (k := 0) (i := 126) bn_cX11_findLoad_0 dop_132 8 1 1 (by decide +kernel)
theorem bn_cX11_findLoad_128 : BN cX11_findLoad 128 0x5911600a8800150ae8802a0040942941ba015b87812160285856090b0a402b51586802a30f0242c091b811b4015b0182c2b6b8056c070b0ac5e0151b6802b5158182c3800a85ae015a8ac0e160b00548d700ad456070b12802a40e8182c5000a68101656c015002 := by
  unfold BN; decide +kernel
theorem dX11_findLoad_129 : decode cX11_findLoad 129 = .ok (.goto (-84), 3) := dR2s (f := Instr.goto) (k := 128) (i := 1) bn_cX11_findLoad_128 dop_167 65452 (-84) (by decide +kernel)
theorem dX11_findLoad_132 : decode cX11_findLoad 132 = .ok (.iload 7, 2) := dR1 (f := Instr.iload) (k := 128) (i := 4) bn_cX11_findLoad_128 dop_21 7 (by decide +kernel)
theorem dX11_findLoad_134 : decode cX11_findLoad 134 = .ok (.ifCond .eq 79, 3) := dR2s (f := Instr.ifCond .eq) (k := 128) (i := 6) bn_cX11_findLoad_128 dop_153 79 79 (by decide +kernel)
theorem dX11_findLoad_137 : decode cX11_findLoad 137 = .ok (.iload 5, 2) := dR1 (f := Instr.iload) (k := 128) (i := 9) bn_cX11_findLoad_128 dop_21 5 (by decide +kernel)
theorem dX11_findLoad_139 : decode cX11_findLoad 139 = .ok (.iload_n 2, 1) := dR0 (k := 128) (i := 11) bn_cX11_findLoad_128 dop_28 (by decide +kernel)
theorem dX11_findLoad_140 : decode cX11_findLoad 140 = .ok (.if_icmp .gt 73, 3) := dR2s (f := Instr.if_icmp .gt) (k := 128) (i := 12) bn_cX11_findLoad_128 dop_163 73 73 (by decide +kernel)
theorem dX11_findLoad_143 : decode cX11_findLoad 143 = .ok (.iload 6, 2) := dR1 (f := Instr.iload) (k := 128) (i := 15) bn_cX11_findLoad_128 dop_21 6 (by decide +kernel)
theorem dX11_findLoad_145 : decode cX11_findLoad 145 = .ok (.aload_n 0, 1) := dR0 (k := 128) (i := 17) bn_cX11_findLoad_128 dop_42 (by decide +kernel)
theorem dX11_findLoad_146 : decode cX11_findLoad 146 = .ok (.getfield 214, 3) := dR2 (f := Instr.getfield) (k := 128) (i := 18) bn_cX11_findLoad_128 dop_180 214 (by decide +kernel)
theorem dX11_findLoad_149 : decode cX11_findLoad 149 = .ok (.if_icmp .gt 21, 3) := dR2s (f := Instr.if_icmp .gt) (k := 128) (i := 21) bn_cX11_findLoad_128 dop_163 21 21 (by decide +kernel)
theorem dX11_findLoad_152 : decode cX11_findLoad 152 = .ok (.iload 6, 2) := dR1 (f := Instr.iload) (k := 128) (i := 24) bn_cX11_findLoad_128 dop_21 6 (by decide +kernel)
theorem dX11_findLoad_154 : decode cX11_findLoad 154 = .ok (.aload_n 0, 1) := dR0 (k := 128) (i := 26) bn_cX11_findLoad_128 dop_42 (by decide +kernel)
theorem dX11_findLoad_155 : decode cX11_findLoad 155 = .ok (.getfield 214, 3) := dR2 (f := Instr.getfield) (k := 128) (i := 27) bn_cX11_findLoad_128 dop_180 214 (by decide +kernel)
theorem dX11_findLoad_158 : decode cX11_findLoad 158 = .ok (.if_icmp .ne 55, 3) := dR2s (f := Instr.if_icmp .ne) (k := 128) (i := 30) bn_cX11_findLoad_128 dop_160 55 55 (by decide +kernel)
theorem dX11_findLoad_161 : decode cX11_findLoad 161 = .ok (.iload 5, 2) := dR1 (f := Instr.iload) (k := 128) (i := 33) bn_cX11_findLoad_128 dop_21 5 (by decide +kernel)
theorem dX11_findLoad_163 : decode cX11_findLoad 163 = .ok (.aload_n 0, 1) := dR0 (k := 128) (i := 35) bn_cX11_findLoad_128 dop_42 (by decide +kernel)
theorem dX11_findLoad_164 : decode cX11_findLoad 164 = .ok (.getfield 217, 3) := dR2 (f := Instr.getfield) (k := 128) (i := 36) bn_cX11_findLoad_128 dop_180 217 (by decide +kernel)
theorem dX11_findLoad_167 : decode cX11_findLoad 167 = .ok (.if_icmp .ge 46, 3) := dR2s (f := Instr.if_icmp .ge) (k := 128) (i := 39) bn_cX11_findLoad_128 dop_162 46 46 (by decide +kernel)
theorem dX11_findLoad_170 : decode cX11_findLoad 170 = .ok (.aload_n 0, 1) := dR0 (k := 128) (i := 42) bn_cX11_findLoad_128 dop_42 (by decide +kernel)
theorem dX11_findLoad_171 : decode cX11_findLoad 171 = .ok (.iload 6, 2) := dR1 (f := Instr.iload) (k := 128) (i := 43) bn_cX11_findLoad_128 dop_21 6 (by decide +kernel)
theorem dX11_findLoad_173 : decode cX11_findLoad 173 = .ok (.putfield 214, 3) := dR2 (f := Instr.putfield) (k := 128) (i := 45) bn_cX11_findLoad_128 dop_181 214 (by decide +kernel)
theorem dX11_findLoad_176 : decode cX11_findLoad 176 = .ok (.aload_n 0, 1) := dR0 (k := 128) (i := 48) bn_cX11_findLoad_128 dop_42 (by decide +kernel)
theorem dX11_findLoad_177 : decode cX11_findLoad 177 = .ok (.iload 5, 2) := dR1 (f := Instr.iload) (k := 128) (i := 49) bn_cX11_findLoad_128 dop_21 5 (by decide +kernel)
theorem dX11_findLoad_179 : decode cX11_findLoad 179 = .ok (.putfield 217, 3) := dR2 (f := Instr.putfield) (k := 128) (i := 51) bn_cX11_findLoad_128 dop_181 217 (by decide +kernel)
theorem dX11_findLoad_182 : decode cX11_findLoad 182 = .ok (.iconst 0, 1) := dR0 (k := 128) (i := 54) bn_cX11_findLoad_128 dop_3 (by decide +kernel)
theorem dX11_findLoad_183 : decode cX11_findLoad 183 = .ok (.istore 8, 2) := dR1 (f := Instr.istore) (k := 128) (i := 55) bn_cX11_findLoad_128 dop_54 8 (by decide +kernel)
theorem dX11_findLoad_185 : decode cX11_findLoad 185 = .ok (.iload 8, 2) := dR1 (f := Instr.iload) (k := 128) (i := 57) bn_cX11_findLoad_128 dop_21 8 (by decide +kernel)
theorem dX11_findLoad_187 : decode cX11_findLoad 187 = .ok (.iload_n 3, 1) := dR0 (k := 128) (i := 59) bn_cX11_findLoad_128 dop_29 (by decide +kernel)
theorem dX11_findLoad_188 : decode cX11_findLoad 188 = .ok (.if_icmp .ge 25, 3) := dR2s (f := Instr.if_icmp .ge) (k := 128) (i := 60) bn_cX11_findLoad_128 dop_162 25 25 (by decide +kernel)
theorem dX11_findLoad_191 : decode cX11_findLoad 191 = .ok (.aload_n 0, 1) := dR0 (k := 128) (i := 63) bn_cX11_findLoad_128 dop_42 (by decide +kernel)
theorem dX11_findLoad_192 : decode cX11_findLoad 192 = .ok (.getfield 40, 3) := dR2 (f := Instr.getfield) (k := 128) (i := 64) bn_cX11_findLoad_128 dop_180 40 (by decide +kernel)
theorem dX11_findLoad_195 : decode cX11_findLoad 195 = .ok (.iload 8, 2) := dR1 (f := Instr.iload) (k := 128) (i := 67) bn_cX11_findLoad_128 dop_21 8 (by decide +kernel)
theorem dX11_findLoad_197 : decode cX11_findLoad 197 = .ok (.aload_n 0, 1) := dR0 (k := 128) (i := 69) bn_cX11_findLoad_128 dop_42 (by decide +kernel)
theorem dX11_findLoad_198 : decode cX11_findLoad 198 = .ok (.iload 4, 2) := dR1 (f := Instr.iload) (k := 128) (i := 70) bn_cX11_findLoad_128 dop_21 4 (by decide +kernel)
theorem dX11_findLoad_200 : decode cX11_findLoad 200 = .ok (.iload 8, 2) := dR1 (f := Instr.iload) (k := 128) (i := 72) bn_cX11_findLoad_128 dop_21 8 (by decide +kernel)
theorem dX11_findLoad_202 : decode cX11_findLoad 202 = .ok (.iload_n 3, 1) := dR0 (k := 128) (i := 74) bn_cX11_findLoad_128 dop_29 (by decide +kernel)
theorem dX11_findLoad_203 : decode cX11_findLoad 203 = .ok (.invokevirtual 220, 3) := dR2 (f := Instr.invokevirtual) (k := 128) (i := 75) bn_cX11_findLoad_128 dop_182 220 (by decide +kernel)
theorem dX11_findLoad_206 : decode cX11_findLoad 206 = .ok (.iastore, 1) := dR0 (k := 128) (i := 78) bn_cX11_findLoad_128 dop_79 (by decide +kernel)
theorem dX11_findLoad_207 : decode cX11_findLoad 207 = .ok (.iinc 8 1, 3) := dRii (f := Instr.iinc) (k := 128) (i := 79) bn_cX11_findLoad_128 dop_132 8 1 1 (by decide +kernel)
theorem dX11_findLoad_210 : decode cX11_findLoad 210 = .ok (.goto (-25), 3) := dR2s (f := Instr.goto) (k := 128) (i := 82) bn_cX11_findLoad_128 dop_167 65511 (-25) (by decide +kernel)
theorem dX11_findLoad_213 : decode cX11_findLoad 213 = .ok (.iinc 4 (-1), 3) := dRii (f := Instr.iinc) (k := 128) (i := 85) bn_cX11_findLoad_128 dop_132 4 255 (-1) (by decide +kernel)
theorem dX11_findLoad_216 : decode cX11_findLoad 216 = .ok (.goto (-188), 3) := dR2s (f := Instr.goto) (k := 128) (i := 88) bn_cX11_findLoad_128 dop_167 65348 (-188) (by decide +kernel)
theorem dX11_findLoad_219 : decode cX11_findLoad 219 = .ok (.return_, 1) := dR0 (k := 128) (i := 91) bn_cX11_findLoad_128 dop_177 (by decide +kernel)
set_option maxHeartbeats 4000000 in
set_option maxRecDepth 100000 in
theorem c_X11_findLoadG (l : Launch) (D : va_G) (cI : ClassId) (aK aV : Nat → Nat) (k k0 k1 k2 k4 k5 k6 k7 k8 ka kb kl ko : Nat) (sz : Nat) (c3 : Int32) (c9 : Int32) (cc : Int32) (cd : Int32) (ce : Int32) (cf : Int32) (cg : Int32) (ch : Int32) (ci : Int32) (cj : Int32) (ck : Int32) (cm : Int32) (cn : Int32) (c6 : Nat → Int32) (c7 : Nat → Int32) (cl : Nat → Int32) (a0 : Int32) (a1 : Int32) (pre0 : ∀ k : Nat, k < 4 → 0 ≤ (c6 k).toInt ∧ (c6 k).toInt ≤ 36) (pre1 : 0 ≤ a0.toInt) (pre2 : a0.toInt ≤ 3) (pre3 : 3 ≤ (c6 a0.toNatClampNeg).toInt) (pre4 : (c6 a0.toNatClampNeg).toInt ≤ 24) : Met l yX11_findLoad (gW yX11_findLoad cX11_findLoad 10 none) ({ frames := 1, cells := 0, slots := 0, locals := 23 } : Room) (kPreX D cI aK aV [.ref k, .int a0, .int a1] [(k, .inr (11, [.ref k0, .ref k1, .ref k2, .int c3, .ref k4, .ref k5, .ref k6, .ref k7, .ref k8, .int c9, .ref ka, .ref kb, .int cc, .int cd, .int ce, .int cf, .int cg, .int ch, .int ci, .int cj, .int ck, .ref kl, .int cm, .int cn, .ref ko])), (k6, .inl (cI, 4, .inl c6)), (k7, .inl (cI, 144, .inl c7)), (kl, .inl (cI, 8, .inl cl))] sz) (va_Qv (fun (u : Int32 × Int32 × (Nat → Int32)) => True) (fun u t => kWd D cI (va_A [(k, .inr (11, [.ref k0, .ref k1, .ref k2, .int c3, .ref k4, .ref k5, .ref k6, .ref k7, .ref k8, .int c9, .ref ka, .ref kb, .int cc, .int cd, .int ce, .int cf, .int cg, .int ch, .int ci, .int cj, .int ck, .ref kl, .int cm, .int cn, .ref ko])), (k6, .inl (cI, 4, .inl c6)), (k7, .inl (cI, 144, .inl c7)), (kl, .inl (cI, 8, .inl cl))] sz) [(k, .inr (11, [.ref k0, .ref k1, .ref k2, .int c3, .ref k4, .ref k5, .ref k6, .ref k7, .ref k8, .int c9, .ref ka, .ref kb, .int cc, .int cd, .int ce, .int cf, .int cg, .int ch, .int ci, .int cj, .int ck, .ref kl, .int u.1, .int u.2.1, .ref ko])), (k6, .inl (cI, 4, .inl c6)), (k7, .inl (cI, 144, .inl c7)), (kl, .inl (cI, 8, .inl u.2.2))] t) (va_A [(k, .inr (11, [.ref k0, .ref k1, .ref k2, .int c3, .ref k4, .ref k5, .ref k6, .ref k7, .ref k8, .int c9, .ref ka, .ref kb, .int cc, .int cd, .int ce, .int cf, .int cg, .int ch, .int ci, .int cj, .int ck, .ref kl, .int cm, .int cn, .ref ko])), (k6, .inl (cI, 4, .inl c6)), (k7, .inl (cI, 144, .inl c7)), (kl, .inl (cI, 8, .inl cl))] sz)) 0 0 (va_A [(k, .inr (11, [.ref k0, .ref k1, .ref k2, .int c3, .ref k4, .ref k5, .ref k6, .ref k7, .ref k8, .int c9, .ref ka, .ref kb, .int cc, .int cd, .int ce, .int cf, .int cg, .int ch, .int ci, .int cj, .int ck, .ref kl, .int cm, .int cn, .ref ko])), (k6, .inl (cI, 4, .inl c6)), (k7, .inl (cI, 144, .inl c7)), (kl, .inl (cI, 8, .inl cl))] sz) := by
  refine kMetVX (own := RX11) (by decide +kernel) rfl (Nat.le_of_ble_eq_true rfl) ?_
  intro p e s m args below meth c hx hb hT hown hname hml A Q hK hP hD hS hA hN hXS hRet ls hl
  have hl : lv_has ls 10 [(0, .ref k), (1, .int a0), (2, .int a1)] := hl
  have lo_a0 := k_lo a0
  have hi_a0 := k_hi a0
  have lo_a1 := k_lo a1
  have hi_a1 := k_hi a1
  have lo_ci := k_lo ci
  have hi_ci := k_hi ci
  refine lv_aload_n hx hb dX11_findLoad_0 rfl (lv_at hl 0 rfl) ?_
  refine va_get (D := D) (ci := 11) (v := .ref k6) (C := RX11) (T := TX11) (N := 25) hx hb hT giX11 hown hK hP 0 rfl rfl 6 (by decide +kernel) (hT (Cond.fieldLink RX11 25 "DesertWireModel" "size" "[I") mw_1162) (fun _ h9 => h9) rfl dX11_findLoad_1 ?_
  refine lv_iload_n hx hb dX11_findLoad_4 rfl (lv_at hl 1 rfl) ?_
  refine k_iald (v := (c6 a0.toNatClampNeg)) hx hb hK hP 1 0 rfl rfl (k_in (by omega) (by omega)) rfl dX11_findLoad_5 ?_
  refine lv_topi (fun v_1 ev_1 => ?_)
  have lo_v_1 := k_lo v_1
  have hi_v_1 := k_hi v_1
  have tv_1 : v_1.toInt = (c6 a0.toNatClampNeg).toInt := by rw [ev_1]
  have b_2 : 0 ≤ v_1.toInt ∧ v_1.toInt ≤ 36 := by rw [tv_1]; exact pre0 a0.toNatClampNeg (by rw [k_clamp]; omega)
  refine lv_iconst (v := 3) hx hb dX11_findLoad_6 (by decide +kernel) ?_
  refine lv_idiv hx hb dX11_findLoad_7 (by decide +kernel) ?_
  refine lv_topi (fun v_3 ev_3 => ?_)
  have tv_3 : v_3.toInt = v_1.toInt / 3 := k_divv (w := 0) ev_3 zl_3 (by omega) (by decide +kernel)
  have lo_v_3 := k_lo v_3
  have hi_v_3 := k_hi v_3
  refine lv_istore_n (lv' := [(3, .int v_3), (0, .ref k), (1, .int a0), (2, .int a1)]) hx hb dX11_findLoad_8 rfl hl (by decide +kernel) rfl ?_
  clear hl
  intro ls hl
  refine lv_aload_n hx hb dX11_findLoad_9 rfl (lv_at hl 1 rfl) ?_
  refine lv_iconst (v := (-1)) hx hb dX11_findLoad_10 (by decide +kernel) ?_
  refine va_put (D := D) (ci := 11) (v := .int (-1)) (ty := .int) (C := RX11) (T := TX11) (N := 25) hx hb hT giX11 tyX11 tyX11_ok nmX11 hown hK hP hD hS 0 rfl rfl 22 (by decide +kernel) (hT (Cond.fieldLink RX11 214 "DesertWireModel" "bestWorth" "I") mw_1178) (fun _ h9 => h9) rfl (by decide +kernel) rfl rfl (Nat.le_of_ble_eq_true rfl) dX11_findLoad_11 ?_
  clear hP hD hS
  intro H locs hP hD hS
  replace hP : va_P D vwCl [(k, .inr (11, [.ref k0, .ref k1, .ref k2, .int c3, .ref k4, .ref k5, .ref k6, .ref k7, .ref k8, .int c9, .ref ka, .ref kb, .int cc, .int cd, .int ce, .int cf, .int cg, .int ch, .int ci, .int cj, .int ck, .ref kl, .int (-1), .int cn, .ref ko])), (k6, .inl (cI, 4, .inl c6)), (k7, .inl (cI, 144, .inl c7)), (kl, .inl (cI, 8, .inl cl))] H := hP
  replace hD : va_D A [(k, .inr (11, [.ref k0, .ref k1, .ref k2, .int c3, .ref k4, .ref k5, .ref k6, .ref k7, .ref k8, .int c9, .ref ka, .ref kb, .int cc, .int cd, .int ce, .int cf, .int cg, .int ch, .int ci, .int cj, .int ck, .ref kl, .int (-1), .int cn, .ref ko])), (k6, .inl (cI, 4, .inl c6)), (k7, .inl (cI, 144, .inl c7)), (kl, .inl (cI, 8, .inl cl))] := hD
  refine lv_aload_n hx hb dX11_findLoad_14 rfl (lv_at hl 1 rfl) ?_
  refine lv_iconst (v := 0) hx hb dX11_findLoad_15 (by decide +kernel) ?_
  refine va_put (D := D) (ci := 11) (v := .int 0) (ty := .int) (C := RX11) (T := TX11) (N := 25) hx hb hT giX11 tyX11 tyX11_ok nmX11 hown hK hP hD hS 0 rfl rfl 23 (by decide +kernel) (hT (Cond.fieldLink RX11 217 "DesertWireModel" "bestWeight" "I") mw_1179) (fun _ h9 => h9) rfl (by decide +kernel) rfl rfl (Nat.le_of_ble_eq_true rfl) dX11_findLoad_16 ?_
  clear hP hD hS
  intro H locs hP hD hS
  replace hP : va_P D vwCl [(k, .inr (11, [.ref k0, .ref k1, .ref k2, .int c3, .ref k4, .ref k5, .ref k6, .ref k7, .ref k8, .int c9, .ref ka, .ref kb, .int cc, .int cd, .int ce, .int cf, .int cg, .int ch, .int ci, .int cj, .int ck, .ref kl, .int (-1), .int 0, .ref ko])), (k6, .inl (cI, 4, .inl c6)), (k7, .inl (cI, 144, .inl c7)), (kl, .inl (cI, 8, .inl cl))] H := hP
  replace hD : va_D A [(k, .inr (11, [.ref k0, .ref k1, .ref k2, .int c3, .ref k4, .ref k5, .ref k6, .ref k7, .ref k8, .int c9, .ref ka, .ref kb, .int cc, .int cd, .int ce, .int cf, .int cg, .int ch, .int ci, .int cj, .int ck, .ref kl, .int (-1), .int 0, .ref ko])), (k6, .inl (cI, 4, .inl c6)), (k7, .inl (cI, 144, .inl c7)), (kl, .inl (cI, 8, .inl cl))] := hD
  refine lv_iconst (v := 1) hx hb dX11_findLoad_19 (by decide +kernel) ?_
  refine lv_iconst (v := 2) hx hb dX11_findLoad_20 (by decide +kernel) ?_
  refine lv_iload_n hx hb dX11_findLoad_21 rfl (lv_at hl 0 rfl) ?_
  refine lv_imul hx hb dX11_findLoad_22 ?_
  refine lv_topi (fun v_4 ev_4 => ?_)
  have tv_4 : v_4.toInt = 2 * v_3.toInt := by rw [ev_4]; exact k_mulv zl_2 rfl (by omega) (by omega)
  refine lv_ishl hx hb dX11_findLoad_23 ?_
  refine lv_topi (fun v_5 ev_5 => ?_)
  have lo_v_5 := k_lo v_5
  have hi_v_5 := k_hi v_5
  refine lv_iconst (v := 1) hx hb dX11_findLoad_24 (by decide +kernel) ?_
  refine lv_isub hx hb dX11_findLoad_25 ?_
  refine lv_topi (fun v_6 ev_6 => ?_)
  have lo_v_6 := k_lo v_6
  have hi_v_6 := k_hi v_6
  refine lv_istore (lv' := [(4, .int v_6), (3, .int v_3), (0, .ref k), (1, .int a0), (2, .int a1)]) hx hb dX11_findLoad_26 hl (by decide +kernel) rfl ?_
  clear hl
  intro ls hl
  have hloop_28 : ∀ (fu_ : Nat) (l28_4 : Int32) (f28_km : Int32) (f28_kn : Int32) (g28_kl : Nat → Int32), l28_4.toInt ≤ v_6.toInt → (-1) ≤ f28_km.toInt → (l28_4.toInt + 1 - 0).toNat < fu_ → ∀ (ls : Array Slot) (H : Heap) (locs : List Loc), lv_has ls 10 [(4, .int l28_4), (3, .int v_3), (0, .ref k), (1, .int a0), (2, .int a1)] → va_P D vwCl [(k, .inr (11, [.ref k0, .ref k1, .ref k2, .int c3, .ref k4, .ref k5, .ref k6, .ref k7, .ref k8, .int c9, .ref ka, .ref kb, .int cc, .int cd, .int ce, .int cf, .int cg, .int ch, .int ci, .int cj, .int ck, .ref kl, .int f28_km, .int f28_kn, .ref ko])), (k6, .inl (cI, 4, .inl c6)), (k7, .inl (cI, 144, .inl c7)), (kl, .inl (cI, 8, .inl g28_kl))] H → va_D A [(k, .inr (11, [.ref k0, .ref k1, .ref k2, .int c3, .ref k4, .ref k5, .ref k6, .ref k7, .ref k8, .int c9, .ref ka, .ref kb, .int cc, .int cd, .int ce, .int cf, .int cg, .int ch, .int ci, .int cj, .int ck, .ref kl, .int f28_km, .int f28_kn, .ref ko])), (k6, .inl (cI, 4, .inl c6)), (k7, .inl (cI, 144, .inl c7)), (kl, .inl (cI, 8, .inl g28_kl))] → va_S A s.heap H locs → W p l e ({ frames := 1, cells := 0, slots := 0, locals := 23 } : Room) s m args below meth c H locs 0 0 Q (F0 m 28 ls []) := by
    intro fu_; induction fu_ with
    | zero => intro l28_4 f28_km f28_kn g28_kl i28_0 i28_1 hm; exact absurd hm (by omega)
    | succ fu_ ih28 =>
        intro l28_4 f28_km f28_kn g28_kl i28_0 i28_1 hm ls H locs hl hP hD hS
        have lo_l28_4 := k_lo l28_4
        have hi_l28_4 := k_hi l28_4
        have lo_f28_km := k_lo f28_km
        have hi_f28_km := k_hi f28_km
        have lo_f28_kn := k_lo f28_kn
        have hi_f28_kn := k_hi f28_kn
        refine lv_iload hx hb dX11_findLoad_28 (lv_at hl 0 rfl) ?_
        refine b_if_lt hx hb rfl (tgt := 219) dX11_findLoad_30 (by decide +kernel) (fun c_7 => ?_) (fun c_7 => ?_)
        · exact hRet (f28_km, f28_kn, g28_kl) [0, 1, 2, 3] trivial hP hD (by decide +kernel) rfl hS dX11_findLoad_219
        · refine lv_iconst (v := 0) hx hb dX11_findLoad_33 (by decide +kernel) ?_
          refine lv_istore (lv' := [(5, .int 0), (4, .int l28_4), (3, .int v_3), (0, .ref k), (1, .int a0), (2, .int a1)]) hx hb dX11_findLoad_34 hl (by decide +kernel) rfl ?_
          clear hl
          intro ls hl
          refine lv_iconst (v := 0) hx hb dX11_findLoad_36 (by decide +kernel) ?_
          refine lv_istore (lv' := [(6, .int 0), (5, .int 0), (4, .int l28_4), (3, .int v_3), (0, .ref k), (1, .int a0), (2, .int a1)]) hx hb dX11_findLoad_37 hl (by decide +kernel) rfl ?_
          clear hl
          intro ls hl
          refine lv_iconst (v := 1) hx hb dX11_findLoad_39 (by decide +kernel) ?_
          refine lv_istore (lv' := [(7, .int 1), (6, .int 0), (5, .int 0), (4, .int l28_4), (3, .int v_3), (0, .ref k), (1, .int a0), (2, .int a1)]) hx hb dX11_findLoad_40 hl (by decide +kernel) rfl ?_
          clear hl
          intro ls hl
          refine lv_iconst (v := 0) hx hb dX11_findLoad_42 (by decide +kernel) ?_
          refine lv_istore (lv' := [(8, .int 0), (7, .int 1), (6, .int 0), (5, .int 0), (4, .int l28_4), (3, .int v_3), (0, .ref k), (1, .int a0), (2, .int a1)]) hx hb dX11_findLoad_43 hl (by decide +kernel) rfl ?_
          clear hl
          intro ls hl
          have hloop_45 : ∀ (fu_ : Nat) (l45_5 : Int32) (l45_6 : Int32) (l45_7 : Int32) (l45_8 : Int32), l45_7.toInt ≤ 1 → 0 ≤ l45_8.toInt → (v_3.toInt - l45_8.toInt).toNat < fu_ → ∀ (ls : Array Slot) (H : Heap) (locs : List Loc), lv_has ls 10 [(8, .int l45_8), (7, .int l45_7), (6, .int l45_6), (5, .int l45_5), (4, .int l28_4), (3, .int v_3), (0, .ref k), (1, .int a0), (2, .int a1)] → va_P D vwCl [(k, .inr (11, [.ref k0, .ref k1, .ref k2, .int c3, .ref k4, .ref k5, .ref k6, .ref k7, .ref k8, .int c9, .ref ka, .ref kb, .int cc, .int cd, .int ce, .int cf, .int cg, .int ch, .int ci, .int cj, .int ck, .ref kl, .int f28_km, .int f28_kn, .ref ko])), (k6, .inl (cI, 4, .inl c6)), (k7, .inl (cI, 144, .inl c7)), (kl, .inl (cI, 8, .inl g28_kl))] H → va_D A [(k, .inr (11, [.ref k0, .ref k1, .ref k2, .int c3, .ref k4, .ref k5, .ref k6, .ref k7, .ref k8, .int c9, .ref ka, .ref kb, .int cc, .int cd, .int ce, .int cf, .int cg, .int ch, .int ci, .int cj, .int ck, .ref kl, .int f28_km, .int f28_kn, .ref ko])), (k6, .inl (cI, 4, .inl c6)), (k7, .inl (cI, 144, .inl c7)), (kl, .inl (cI, 8, .inl g28_kl))] → va_S A s.heap H locs → W p l e ({ frames := 1, cells := 0, slots := 0, locals := 23 } : Room) s m args below meth c H locs 0 0 Q (F0 m 45 ls []) := by
            intro fu_; induction fu_ with
            | zero => intro l45_5 l45_6 l45_7 l45_8 i45_0 i45_1 hm; exact absurd hm (by omega)
            | succ fu_ ih45 =>
                intro l45_5 l45_6 l45_7 l45_8 i45_0 i45_1 hm ls H locs hl hP hD hS
                have lo_l45_5 := k_lo l45_5
                have hi_l45_5 := k_hi l45_5
                have lo_l45_6 := k_lo l45_6
                have hi_l45_6 := k_hi l45_6
                have lo_l45_7 := k_lo l45_7
                have hi_l45_7 := k_hi l45_7
                have lo_l45_8 := k_lo l45_8
                have hi_l45_8 := k_hi l45_8
                refine lv_iload hx hb dX11_findLoad_45 (lv_at hl 0 rfl) ?_
                refine lv_iload_n hx hb dX11_findLoad_47 rfl (lv_at hl 5 rfl) ?_
                refine b_icmp_ge hx hb rfl rfl (tgt := 132) dX11_findLoad_48 (by decide +kernel) (fun c_8 => ?_) (fun c_8 => ?_)
                · refine lv_iload hx hb dX11_findLoad_132 (lv_at hl 1 rfl) ?_
                  refine b_if_eq hx hb rfl (tgt := 213) dX11_findLoad_134 (by decide +kernel) (fun c_9 => ?_) (fun c_9 => ?_)
                  · obtain ⟨v_10, ev_10⟩ : ∃ y : Int32, y = l28_4 + (-1) := ⟨_, rfl⟩
                    have tv_10 : v_10.toInt = l28_4.toInt + (-1) := by rw [ev_10]; exact k_addv rfl zl_m1 (by omega) (by omega)
                    refine lv_iinc (v := v_10) (lv' := [(4, .int v_10), (8, .int l45_8), (7, .int l45_7), (6, .int l45_6), (5, .int l45_5), (3, .int v_3), (0, .ref k), (1, .int a0), (2, .int a1)]) hx hb dX11_findLoad_213 hl (k := 4) rfl (by rw [ev_10]; rfl) (by decide +kernel) rfl ?_
                    clear hl
                    intro ls hl
                    refine lv_goto (tgt := 28) hx hb dX11_findLoad_216 (by decide +kernel) ?_
                    exact ih28 v_10 f28_km f28_kn g28_kl (by first | omega | decide | assumption | rfl) (by first | omega | decide | assumption | rfl) (by omega) ls _ _ (lv_sub hl [0, 5, 6, 7, 8] rfl) (hP.sub [0, 1, 2, 3] rfl) (hD.sub [0, 1, 2, 3] (by decide +kernel) rfl) hS
                  · refine lv_iload hx hb dX11_findLoad_137 (lv_at hl 3 rfl) ?_
                    refine lv_iload_n hx hb dX11_findLoad_139 rfl (lv_at hl 8 rfl) ?_
                    refine b_icmp_gt hx hb rfl rfl (tgt := 213) dX11_findLoad_140 (by decide +kernel) (fun c_11 => ?_) (fun c_11 => ?_)
                    · obtain ⟨v_12, ev_12⟩ : ∃ y : Int32, y = l28_4 + (-1) := ⟨_, rfl⟩
                      have tv_12 : v_12.toInt = l28_4.toInt + (-1) := by rw [ev_12]; exact k_addv rfl zl_m1 (by omega) (by omega)
                      refine lv_iinc (v := v_12) (lv' := [(4, .int v_12), (8, .int l45_8), (7, .int l45_7), (6, .int l45_6), (5, .int l45_5), (3, .int v_3), (0, .ref k), (1, .int a0), (2, .int a1)]) hx hb dX11_findLoad_213 hl (k := 4) rfl (by rw [ev_12]; rfl) (by decide +kernel) rfl ?_
                      clear hl
                      intro ls hl
                      refine lv_goto (tgt := 28) hx hb dX11_findLoad_216 (by decide +kernel) ?_
                      exact ih28 v_12 f28_km f28_kn g28_kl (by first | omega | decide | assumption | rfl) (by first | omega | decide | assumption | rfl) (by omega) ls _ _ (lv_sub hl [0, 5, 6, 7, 8] rfl) (hP.sub [0, 1, 2, 3] rfl) (hD.sub [0, 1, 2, 3] (by decide +kernel) rfl) hS
                    · refine lv_iload hx hb dX11_findLoad_143 (lv_at hl 2 rfl) ?_
                      refine lv_aload_n hx hb dX11_findLoad_145 rfl (lv_at hl 6 rfl) ?_
                      refine va_get (D := D) (ci := 11) (v := .int f28_km) (C := RX11) (T := TX11) (N := 25) hx hb hT giX11 hown hK hP 0 rfl rfl 22 (by decide +kernel) (hT (Cond.fieldLink RX11 214 "DesertWireModel" "bestWorth" "I") mw_1178) (fun _ h9 => h9) rfl dX11_findLoad_146 ?_
                      refine b_icmp_gt hx hb rfl rfl (tgt := 170) dX11_findLoad_149 (by decide +kernel) (fun c_13 => ?_) (fun c_13 => ?_)
                      · refine lv_aload_n hx hb dX11_findLoad_170 rfl (lv_at hl 6 rfl) ?_
                        refine lv_iload hx hb dX11_findLoad_171 (lv_at hl 2 rfl) ?_
                        refine va_put (D := D) (ci := 11) (v := .int l45_6) (ty := .int) (C := RX11) (T := TX11) (N := 25) hx hb hT giX11 tyX11 tyX11_ok nmX11 hown hK hP hD hS 0 rfl rfl 22 (by decide +kernel) (hT (Cond.fieldLink RX11 214 "DesertWireModel" "bestWorth" "I") mw_1178) (fun _ h9 => h9) rfl (by decide +kernel) rfl rfl (Nat.le_of_ble_eq_true rfl) dX11_findLoad_173 ?_
                        clear hP hD hS
                        intro H locs hP hD hS
                        replace hP : va_P D vwCl [(k, .inr (11, [.ref k0, .ref k1, .ref k2, .int c3, .ref k4, .ref k5, .ref k6, .ref k7, .ref k8, .int c9, .ref ka, .ref kb, .int cc, .int cd, .int ce, .int cf, .int cg, .int ch, .int ci, .int cj, .int ck, .ref kl, .int l45_6, .int f28_kn, .ref ko])), (k6, .inl (cI, 4, .inl c6)), (k7, .inl (cI, 144, .inl c7)), (kl, .inl (cI, 8, .inl g28_kl))] H := hP
                        replace hD : va_D A [(k, .inr (11, [.ref k0, .ref k1, .ref k2, .int c3, .ref k4, .ref k5, .ref k6, .ref k7, .ref k8, .int c9, .ref ka, .ref kb, .int cc, .int cd, .int ce, .int cf, .int cg, .int ch, .int ci, .int cj, .int ck, .ref kl, .int l45_6, .int f28_kn, .ref ko])), (k6, .inl (cI, 4, .inl c6)), (k7, .inl (cI, 144, .inl c7)), (kl, .inl (cI, 8, .inl g28_kl))] := hD
                        refine lv_aload_n hx hb dX11_findLoad_176 rfl (lv_at hl 6 rfl) ?_
                        refine lv_iload hx hb dX11_findLoad_177 (lv_at hl 3 rfl) ?_
                        refine va_put (D := D) (ci := 11) (v := .int l45_5) (ty := .int) (C := RX11) (T := TX11) (N := 25) hx hb hT giX11 tyX11 tyX11_ok nmX11 hown hK hP hD hS 0 rfl rfl 23 (by decide +kernel) (hT (Cond.fieldLink RX11 217 "DesertWireModel" "bestWeight" "I") mw_1179) (fun _ h9 => h9) rfl (by decide +kernel) rfl rfl (Nat.le_of_ble_eq_true rfl) dX11_findLoad_179 ?_
                        clear hP hD hS
                        intro H locs hP hD hS
                        replace hP : va_P D vwCl [(k, .inr (11, [.ref k0, .ref k1, .ref k2, .int c3, .ref k4, .ref k5, .ref k6, .ref k7, .ref k8, .int c9, .ref ka, .ref kb, .int cc, .int cd, .int ce, .int cf, .int cg, .int ch, .int ci, .int cj, .int ck, .ref kl, .int l45_6, .int l45_5, .ref ko])), (k6, .inl (cI, 4, .inl c6)), (k7, .inl (cI, 144, .inl c7)), (kl, .inl (cI, 8, .inl g28_kl))] H := hP
                        replace hD : va_D A [(k, .inr (11, [.ref k0, .ref k1, .ref k2, .int c3, .ref k4, .ref k5, .ref k6, .ref k7, .ref k8, .int c9, .ref ka, .ref kb, .int cc, .int cd, .int ce, .int cf, .int cg, .int ch, .int ci, .int cj, .int ck, .ref kl, .int l45_6, .int l45_5, .ref ko])), (k6, .inl (cI, 4, .inl c6)), (k7, .inl (cI, 144, .inl c7)), (kl, .inl (cI, 8, .inl g28_kl))] := hD
                        refine lv_iconst (v := 0) hx hb dX11_findLoad_182 (by decide +kernel) ?_
                        refine lv_istore (lv' := [(8, .int 0), (7, .int l45_7), (6, .int l45_6), (5, .int l45_5), (4, .int l28_4), (3, .int v_3), (0, .ref k), (1, .int a0), (2, .int a1)]) hx hb dX11_findLoad_183 hl (by decide +kernel) rfl ?_
                        clear hl
                        intro ls hl
                        have hloop_185 : ∀ (fu_ : Nat) (l185_8 : Int32) (g185_kl : Nat → Int32), 0 ≤ l185_8.toInt → (v_3.toInt - l185_8.toInt).toNat < fu_ → ∀ (ls : Array Slot) (H : Heap) (locs : List Loc), lv_has ls 10 [(8, .int l185_8), (7, .int l45_7), (6, .int l45_6), (5, .int l45_5), (4, .int l28_4), (3, .int v_3), (0, .ref k), (1, .int a0), (2, .int a1)] → va_P D vwCl [(k, .inr (11, [.ref k0, .ref k1, .ref k2, .int c3, .ref k4, .ref k5, .ref k6, .ref k7, .ref k8, .int c9, .ref ka, .ref kb, .int cc, .int cd, .int ce, .int cf, .int cg, .int ch, .int ci, .int cj, .int ck, .ref kl, .int l45_6, .int l45_5, .ref ko])), (k6, .inl (cI, 4, .inl c6)), (k7, .inl (cI, 144, .inl c7)), (kl, .inl (cI, 8, .inl g185_kl))] H → va_D A [(k, .inr (11, [.ref k0, .ref k1, .ref k2, .int c3, .ref k4, .ref k5, .ref k6, .ref k7, .ref k8, .int c9, .ref ka, .ref kb, .int cc, .int cd, .int ce, .int cf, .int cg, .int ch, .int ci, .int cj, .int ck, .ref kl, .int l45_6, .int l45_5, .ref ko])), (k6, .inl (cI, 4, .inl c6)), (k7, .inl (cI, 144, .inl c7)), (kl, .inl (cI, 8, .inl g185_kl))] → va_S A s.heap H locs → W p l e ({ frames := 1, cells := 0, slots := 0, locals := 23 } : Room) s m args below meth c H locs 0 0 Q (F0 m 185 ls []) := by
                          intro fu_; induction fu_ with
                          | zero => intro l185_8 g185_kl i185_0 hm; exact absurd hm (by omega)
                          | succ fu_ ih185 =>
                              intro l185_8 g185_kl i185_0 hm ls H locs hl hP hD hS
                              have lo_l185_8 := k_lo l185_8
                              have hi_l185_8 := k_hi l185_8
                              refine lv_iload hx hb dX11_findLoad_185 (lv_at hl 0 rfl) ?_
                              refine lv_iload_n hx hb dX11_findLoad_187 rfl (lv_at hl 5 rfl) ?_
                              refine b_icmp_ge hx hb rfl rfl (tgt := 213) dX11_findLoad_188 (by decide +kernel) (fun c_14 => ?_) (fun c_14 => ?_)
                              · obtain ⟨v_15, ev_15⟩ : ∃ y : Int32, y = l28_4 + (-1) := ⟨_, rfl⟩
                                have tv_15 : v_15.toInt = l28_4.toInt + (-1) := by rw [ev_15]; exact k_addv rfl zl_m1 (by omega) (by omega)
                                refine lv_iinc (v := v_15) (lv' := [(4, .int v_15), (8, .int l185_8), (7, .int l45_7), (6, .int l45_6), (5, .int l45_5), (3, .int v_3), (0, .ref k), (1, .int a0), (2, .int a1)]) hx hb dX11_findLoad_213 hl (k := 4) rfl (by rw [ev_15]; rfl) (by decide +kernel) rfl ?_
                                clear hl
                                intro ls hl
                                refine lv_goto (tgt := 28) hx hb dX11_findLoad_216 (by decide +kernel) ?_
                                exact ih28 v_15 l45_6 l45_5 g185_kl (by first | omega | decide | assumption | rfl) (by first | omega | decide | assumption | rfl) (by omega) ls _ _ (lv_sub hl [0, 5, 6, 7, 8] rfl) (hP.sub [0, 1, 2, 3] rfl) (hD.sub [0, 1, 2, 3] (by decide +kernel) rfl) hS
                              · refine lv_aload_n hx hb dX11_findLoad_191 rfl (lv_at hl 6 rfl) ?_
                                refine va_get (D := D) (ci := 11) (v := .ref kl) (C := RX11) (T := TX11) (N := 25) hx hb hT giX11 hown hK hP 0 rfl rfl 21 (by decide +kernel) (hT (Cond.fieldLink RX11 40 "DesertWireModel" "best" "[I") mw_1177) (fun _ h9 => h9) rfl dX11_findLoad_192 ?_
                                refine lv_iload hx hb dX11_findLoad_195 (lv_at hl 0 rfl) ?_
                                refine lv_aload_n hx hb dX11_findLoad_197 rfl (lv_at hl 6 rfl) ?_
                                refine lv_iload hx hb dX11_findLoad_198 (lv_at hl 4 rfl) ?_
                                refine lv_iload hx hb dX11_findLoad_200 (lv_at hl 0 rfl) ?_
                                refine lv_iload_n hx hb dX11_findLoad_202 rfl (lv_at hl 5 rfl) ?_
                                refine kJi (wr := [(k, .inr (11, [.ref k0, .ref k1, .ref k2, .int c3, .ref k4, .ref k5, .ref k6, .ref k7, .ref k8, .int c9, .ref ka, .ref kb, .int cc, .int cd, .int ce, .int cf, .int cg, .int ch, .int ci, .int cj, .int ck, .ref kl, .int l45_6, .int l45_5, .ref ko])), (k6, .inl (cI, 4, .inl c6)), (k7, .inl (cI, 144, .inl c7)), (kl, .inl (cI, 8, .inl g185_kl))]) (va_runV (As := [.int l28_4, .int l185_8, .int v_3]) (rest := [.int l185_8, .ref kl]) ⟨hx, hb, hml, hown, hT⟩ (c_X11_digitG l D cI aK aV k H.size l28_4 l185_8 v_3) (cwV 3 hT (gV_in mw_1507 mw_1504 mw_1506 mw_p5_11 mw_12) rfl rfl rfl (by decide +kernel) ⟨Nat.le_of_ble_eq_true rfl, Nat.le_of_ble_eq_true rfl⟩) (kRecvX (q0 := 0) (ci := 11) hK hP hD hN hXS hS hA rfl rfl [] rfl (by decide +kernel)) rfl rfl hl.1 rfl (lv_room (Nat.le_of_ble_eq_true rfl)) dX11_findLoad_203 ⟨Nat.le_of_ble_eq_true rfl, Nat.le_of_ble_eq_true rfl⟩) hP hD hS hA [] [0, 1, 2, 3] rfl rfl (by decide +kernel) (by decide +kernel) ?_
                                clear hP hD hS
                                intro r_16 u_18 H locs w_17 hP hD hS
                                replace hP : va_P D vwCl [(k, .inr (11, [.ref k0, .ref k1, .ref k2, .int c3, .ref k4, .ref k5, .ref k6, .ref k7, .ref k8, .int c9, .ref ka, .ref kb, .int cc, .int cd, .int ce, .int cf, .int cg, .int ch, .int ci, .int cj, .int ck, .ref kl, .int l45_6, .int l45_5, .ref ko])), (k6, .inl (cI, 4, .inl c6)), (k7, .inl (cI, 144, .inl c7)), (kl, .inl (cI, 8, .inl g185_kl))] H := hP
                                replace hD : va_D A [(k, .inr (11, [.ref k0, .ref k1, .ref k2, .int c3, .ref k4, .ref k5, .ref k6, .ref k7, .ref k8, .int c9, .ref ka, .ref kb, .int cc, .int cd, .int ce, .int cf, .int cg, .int ch, .int ci, .int cj, .int ck, .ref kl, .int l45_6, .int l45_5, .ref ko])), (k6, .inl (cI, 4, .inl c6)), (k7, .inl (cI, 144, .inl c7)), (kl, .inl (cI, 8, .inl g185_kl))] := hD
                                have lo_r_16 := k_lo r_16
                                have hi_r_16 := k_hi r_16
                                refine va_iast hx hb hK hP hD hS 3 0 rfl rfl (k_in (by omega) (by omega)) dX11_findLoad_206 ?_
                                clear hP hD hS
                                intro H locs hP hD hS
                                replace hP : va_P D vwCl [(k, .inr (11, [.ref k0, .ref k1, .ref k2, .int c3, .ref k4, .ref k5, .ref k6, .ref k7, .ref k8, .int c9, .ref ka, .ref kb, .int cc, .int cd, .int ce, .int cf, .int cg, .int ch, .int ci, .int cj, .int ck, .ref kl, .int l45_6, .int l45_5, .ref ko])), (k6, .inl (cI, 4, .inl c6)), (k7, .inl (cI, 144, .inl c7)), (kl, .inl (cI, 8, .inl (upd g185_kl l185_8.toNatClampNeg r_16)))] H := hP
                                replace hD : va_D A [(k, .inr (11, [.ref k0, .ref k1, .ref k2, .int c3, .ref k4, .ref k5, .ref k6, .ref k7, .ref k8, .int c9, .ref ka, .ref kb, .int cc, .int cd, .int ce, .int cf, .int cg, .int ch, .int ci, .int cj, .int ck, .ref kl, .int l45_6, .int l45_5, .ref ko])), (k6, .inl (cI, 4, .inl c6)), (k7, .inl (cI, 144, .inl c7)), (kl, .inl (cI, 8, .inl (upd g185_kl l185_8.toNatClampNeg r_16)))] := hD
                                obtain ⟨f_19, ef_19⟩ : ∃ g : Nat → Int32, g = upd g185_kl l185_8.toNatClampNeg r_16 := ⟨_, rfl⟩
                                rw [← ef_19] at hP hD
                                obtain ⟨v_20, ev_20⟩ : ∃ y : Int32, y = l185_8 + 1 := ⟨_, rfl⟩
                                have tv_20 : v_20.toInt = l185_8.toInt + 1 := by rw [ev_20]; exact k_addv rfl zl_1 (by omega) (by omega)
                                refine lv_iinc (v := v_20) (lv' := [(8, .int v_20), (7, .int l45_7), (6, .int l45_6), (5, .int l45_5), (4, .int l28_4), (3, .int v_3), (0, .ref k), (1, .int a0), (2, .int a1)]) hx hb dX11_findLoad_207 hl (k := 0) rfl (by rw [ev_20]; rfl) (by decide +kernel) rfl ?_
                                clear hl
                                intro ls hl
                                refine lv_goto (tgt := 185) hx hb dX11_findLoad_210 (by decide +kernel) ?_
                                exact ih185 v_20 f_19 (by first | omega | decide | assumption | rfl) (by omega) ls _ _ (lv_sub hl [0, 1, 2, 3, 4, 5, 6, 7, 8] rfl) (hP.sub [0, 1, 2, 3] rfl) (hD.sub [0, 1, 2, 3] (by decide +kernel) rfl) hS
                        exact hloop_185 _ 0 g28_kl (by first | omega | (simp only [zl_0]; first | done | omega) | decide | assumption | rfl) (Nat.lt_succ_self _) ls _ _ (lv_sub hl [0, 1, 2, 3, 4, 5, 6, 7, 8] rfl) hP hD hS
                      · refine lv_iload hx hb dX11_findLoad_152 (lv_at hl 2 rfl) ?_
                        refine lv_aload_n hx hb dX11_findLoad_154 rfl (lv_at hl 6 rfl) ?_
                        refine va_get (D := D) (ci := 11) (v := .int f28_km) (C := RX11) (T := TX11) (N := 25) hx hb hT giX11 hown hK hP 0 rfl rfl 22 (by decide +kernel) (hT (Cond.fieldLink RX11 214 "DesertWireModel" "bestWorth" "I") mw_1178) (fun _ h9 => h9) rfl dX11_findLoad_155 ?_
                        refine b_icmp_ne hx hb rfl rfl (tgt := 213) dX11_findLoad_158 (by decide +kernel) (fun c_21 => ?_) (fun c_21 => ?_)
                        · obtain ⟨v_22, ev_22⟩ : ∃ y : Int32, y = l28_4 + (-1) := ⟨_, rfl⟩
                          have tv_22 : v_22.toInt = l28_4.toInt + (-1) := by rw [ev_22]; exact k_addv rfl zl_m1 (by omega) (by omega)
                          refine lv_iinc (v := v_22) (lv' := [(4, .int v_22), (8, .int l45_8), (7, .int l45_7), (6, .int l45_6), (5, .int l45_5), (3, .int v_3), (0, .ref k), (1, .int a0), (2, .int a1)]) hx hb dX11_findLoad_213 hl (k := 4) rfl (by rw [ev_22]; rfl) (by decide +kernel) rfl ?_
                          clear hl
                          intro ls hl
                          refine lv_goto (tgt := 28) hx hb dX11_findLoad_216 (by decide +kernel) ?_
                          exact ih28 v_22 f28_km f28_kn g28_kl (by first | omega | decide | assumption | rfl) (by first | omega | decide | assumption | rfl) (by omega) ls _ _ (lv_sub hl [0, 5, 6, 7, 8] rfl) (hP.sub [0, 1, 2, 3] rfl) (hD.sub [0, 1, 2, 3] (by decide +kernel) rfl) hS
                        · refine lv_iload hx hb dX11_findLoad_161 (lv_at hl 3 rfl) ?_
                          refine lv_aload_n hx hb dX11_findLoad_163 rfl (lv_at hl 6 rfl) ?_
                          refine va_get (D := D) (ci := 11) (v := .int f28_kn) (C := RX11) (T := TX11) (N := 25) hx hb hT giX11 hown hK hP 0 rfl rfl 23 (by decide +kernel) (hT (Cond.fieldLink RX11 217 "DesertWireModel" "bestWeight" "I") mw_1179) (fun _ h9 => h9) rfl dX11_findLoad_164 ?_
                          refine b_icmp_ge hx hb rfl rfl (tgt := 213) dX11_findLoad_167 (by decide +kernel) (fun c_23 => ?_) (fun c_23 => ?_)
                          · obtain ⟨v_24, ev_24⟩ : ∃ y : Int32, y = l28_4 + (-1) := ⟨_, rfl⟩
                            have tv_24 : v_24.toInt = l28_4.toInt + (-1) := by rw [ev_24]; exact k_addv rfl zl_m1 (by omega) (by omega)
                            refine lv_iinc (v := v_24) (lv' := [(4, .int v_24), (8, .int l45_8), (7, .int l45_7), (6, .int l45_6), (5, .int l45_5), (3, .int v_3), (0, .ref k), (1, .int a0), (2, .int a1)]) hx hb dX11_findLoad_213 hl (k := 4) rfl (by rw [ev_24]; rfl) (by decide +kernel) rfl ?_
                            clear hl
                            intro ls hl
                            refine lv_goto (tgt := 28) hx hb dX11_findLoad_216 (by decide +kernel) ?_
                            exact ih28 v_24 f28_km f28_kn g28_kl (by first | omega | decide | assumption | rfl) (by first | omega | decide | assumption | rfl) (by omega) ls _ _ (lv_sub hl [0, 5, 6, 7, 8] rfl) (hP.sub [0, 1, 2, 3] rfl) (hD.sub [0, 1, 2, 3] (by decide +kernel) rfl) hS
                          · refine lv_aload_n hx hb dX11_findLoad_170 rfl (lv_at hl 6 rfl) ?_
                            refine lv_iload hx hb dX11_findLoad_171 (lv_at hl 2 rfl) ?_
                            refine va_put (D := D) (ci := 11) (v := .int l45_6) (ty := .int) (C := RX11) (T := TX11) (N := 25) hx hb hT giX11 tyX11 tyX11_ok nmX11 hown hK hP hD hS 0 rfl rfl 22 (by decide +kernel) (hT (Cond.fieldLink RX11 214 "DesertWireModel" "bestWorth" "I") mw_1178) (fun _ h9 => h9) rfl (by decide +kernel) rfl rfl (Nat.le_of_ble_eq_true rfl) dX11_findLoad_173 ?_
                            clear hP hD hS
                            intro H locs hP hD hS
                            replace hP : va_P D vwCl [(k, .inr (11, [.ref k0, .ref k1, .ref k2, .int c3, .ref k4, .ref k5, .ref k6, .ref k7, .ref k8, .int c9, .ref ka, .ref kb, .int cc, .int cd, .int ce, .int cf, .int cg, .int ch, .int ci, .int cj, .int ck, .ref kl, .int l45_6, .int f28_kn, .ref ko])), (k6, .inl (cI, 4, .inl c6)), (k7, .inl (cI, 144, .inl c7)), (kl, .inl (cI, 8, .inl g28_kl))] H := hP
                            replace hD : va_D A [(k, .inr (11, [.ref k0, .ref k1, .ref k2, .int c3, .ref k4, .ref k5, .ref k6, .ref k7, .ref k8, .int c9, .ref ka, .ref kb, .int cc, .int cd, .int ce, .int cf, .int cg, .int ch, .int ci, .int cj, .int ck, .ref kl, .int l45_6, .int f28_kn, .ref ko])), (k6, .inl (cI, 4, .inl c6)), (k7, .inl (cI, 144, .inl c7)), (kl, .inl (cI, 8, .inl g28_kl))] := hD
                            refine lv_aload_n hx hb dX11_findLoad_176 rfl (lv_at hl 6 rfl) ?_
                            refine lv_iload hx hb dX11_findLoad_177 (lv_at hl 3 rfl) ?_
                            refine va_put (D := D) (ci := 11) (v := .int l45_5) (ty := .int) (C := RX11) (T := TX11) (N := 25) hx hb hT giX11 tyX11 tyX11_ok nmX11 hown hK hP hD hS 0 rfl rfl 23 (by decide +kernel) (hT (Cond.fieldLink RX11 217 "DesertWireModel" "bestWeight" "I") mw_1179) (fun _ h9 => h9) rfl (by decide +kernel) rfl rfl (Nat.le_of_ble_eq_true rfl) dX11_findLoad_179 ?_
                            clear hP hD hS
                            intro H locs hP hD hS
                            replace hP : va_P D vwCl [(k, .inr (11, [.ref k0, .ref k1, .ref k2, .int c3, .ref k4, .ref k5, .ref k6, .ref k7, .ref k8, .int c9, .ref ka, .ref kb, .int cc, .int cd, .int ce, .int cf, .int cg, .int ch, .int ci, .int cj, .int ck, .ref kl, .int l45_6, .int l45_5, .ref ko])), (k6, .inl (cI, 4, .inl c6)), (k7, .inl (cI, 144, .inl c7)), (kl, .inl (cI, 8, .inl g28_kl))] H := hP
                            replace hD : va_D A [(k, .inr (11, [.ref k0, .ref k1, .ref k2, .int c3, .ref k4, .ref k5, .ref k6, .ref k7, .ref k8, .int c9, .ref ka, .ref kb, .int cc, .int cd, .int ce, .int cf, .int cg, .int ch, .int ci, .int cj, .int ck, .ref kl, .int l45_6, .int l45_5, .ref ko])), (k6, .inl (cI, 4, .inl c6)), (k7, .inl (cI, 144, .inl c7)), (kl, .inl (cI, 8, .inl g28_kl))] := hD
                            refine lv_iconst (v := 0) hx hb dX11_findLoad_182 (by decide +kernel) ?_
                            refine lv_istore (lv' := [(8, .int 0), (7, .int l45_7), (6, .int l45_6), (5, .int l45_5), (4, .int l28_4), (3, .int v_3), (0, .ref k), (1, .int a0), (2, .int a1)]) hx hb dX11_findLoad_183 hl (by decide +kernel) rfl ?_
                            clear hl
                            intro ls hl
                            have hloop_185 : ∀ (fu_ : Nat) (l185_8 : Int32) (g185_kl : Nat → Int32), 0 ≤ l185_8.toInt → (v_3.toInt - l185_8.toInt).toNat < fu_ → ∀ (ls : Array Slot) (H : Heap) (locs : List Loc), lv_has ls 10 [(8, .int l185_8), (7, .int l45_7), (6, .int l45_6), (5, .int l45_5), (4, .int l28_4), (3, .int v_3), (0, .ref k), (1, .int a0), (2, .int a1)] → va_P D vwCl [(k, .inr (11, [.ref k0, .ref k1, .ref k2, .int c3, .ref k4, .ref k5, .ref k6, .ref k7, .ref k8, .int c9, .ref ka, .ref kb, .int cc, .int cd, .int ce, .int cf, .int cg, .int ch, .int ci, .int cj, .int ck, .ref kl, .int l45_6, .int l45_5, .ref ko])), (k6, .inl (cI, 4, .inl c6)), (k7, .inl (cI, 144, .inl c7)), (kl, .inl (cI, 8, .inl g185_kl))] H → va_D A [(k, .inr (11, [.ref k0, .ref k1, .ref k2, .int c3, .ref k4, .ref k5, .ref k6, .ref k7, .ref k8, .int c9, .ref ka, .ref kb, .int cc, .int cd, .int ce, .int cf, .int cg, .int ch, .int ci, .int cj, .int ck, .ref kl, .int l45_6, .int l45_5, .ref ko])), (k6, .inl (cI, 4, .inl c6)), (k7, .inl (cI, 144, .inl c7)), (kl, .inl (cI, 8, .inl g185_kl))] → va_S A s.heap H locs → W p l e ({ frames := 1, cells := 0, slots := 0, locals := 23 } : Room) s m args below meth c H locs 0 0 Q (F0 m 185 ls []) := by
                              intro fu_; induction fu_ with
                              | zero => intro l185_8 g185_kl i185_0 hm; exact absurd hm (by omega)
                              | succ fu_ ih185 =>
                                  intro l185_8 g185_kl i185_0 hm ls H locs hl hP hD hS
                                  have lo_l185_8 := k_lo l185_8
                                  have hi_l185_8 := k_hi l185_8
                                  refine lv_iload hx hb dX11_findLoad_185 (lv_at hl 0 rfl) ?_
                                  refine lv_iload_n hx hb dX11_findLoad_187 rfl (lv_at hl 5 rfl) ?_
                                  refine b_icmp_ge hx hb rfl rfl (tgt := 213) dX11_findLoad_188 (by decide +kernel) (fun c_25 => ?_) (fun c_25 => ?_)
                                  · obtain ⟨v_26, ev_26⟩ : ∃ y : Int32, y = l28_4 + (-1) := ⟨_, rfl⟩
                                    have tv_26 : v_26.toInt = l28_4.toInt + (-1) := by rw [ev_26]; exact k_addv rfl zl_m1 (by omega) (by omega)
                                    refine lv_iinc (v := v_26) (lv' := [(4, .int v_26), (8, .int l185_8), (7, .int l45_7), (6, .int l45_6), (5, .int l45_5), (3, .int v_3), (0, .ref k), (1, .int a0), (2, .int a1)]) hx hb dX11_findLoad_213 hl (k := 4) rfl (by rw [ev_26]; rfl) (by decide +kernel) rfl ?_
                                    clear hl
                                    intro ls hl
                                    refine lv_goto (tgt := 28) hx hb dX11_findLoad_216 (by decide +kernel) ?_
                                    exact ih28 v_26 l45_6 l45_5 g185_kl (by first | omega | decide | assumption | rfl) (by first | omega | decide | assumption | rfl) (by omega) ls _ _ (lv_sub hl [0, 5, 6, 7, 8] rfl) (hP.sub [0, 1, 2, 3] rfl) (hD.sub [0, 1, 2, 3] (by decide +kernel) rfl) hS
                                  · refine lv_aload_n hx hb dX11_findLoad_191 rfl (lv_at hl 6 rfl) ?_
                                    refine va_get (D := D) (ci := 11) (v := .ref kl) (C := RX11) (T := TX11) (N := 25) hx hb hT giX11 hown hK hP 0 rfl rfl 21 (by decide +kernel) (hT (Cond.fieldLink RX11 40 "DesertWireModel" "best" "[I") mw_1177) (fun _ h9 => h9) rfl dX11_findLoad_192 ?_
                                    refine lv_iload hx hb dX11_findLoad_195 (lv_at hl 0 rfl) ?_
                                    refine lv_aload_n hx hb dX11_findLoad_197 rfl (lv_at hl 6 rfl) ?_
                                    refine lv_iload hx hb dX11_findLoad_198 (lv_at hl 4 rfl) ?_
                                    refine lv_iload hx hb dX11_findLoad_200 (lv_at hl 0 rfl) ?_
                                    refine lv_iload_n hx hb dX11_findLoad_202 rfl (lv_at hl 5 rfl) ?_
                                    refine kJi (wr := [(k, .inr (11, [.ref k0, .ref k1, .ref k2, .int c3, .ref k4, .ref k5, .ref k6, .ref k7, .ref k8, .int c9, .ref ka, .ref kb, .int cc, .int cd, .int ce, .int cf, .int cg, .int ch, .int ci, .int cj, .int ck, .ref kl, .int l45_6, .int l45_5, .ref ko])), (k6, .inl (cI, 4, .inl c6)), (k7, .inl (cI, 144, .inl c7)), (kl, .inl (cI, 8, .inl g185_kl))]) (va_runV (As := [.int l28_4, .int l185_8, .int v_3]) (rest := [.int l185_8, .ref kl]) ⟨hx, hb, hml, hown, hT⟩ (c_X11_digitG l D cI aK aV k H.size l28_4 l185_8 v_3) (cwV 3 hT (gV_in mw_1507 mw_1504 mw_1506 mw_p5_11 mw_12) rfl rfl rfl (by decide +kernel) ⟨Nat.le_of_ble_eq_true rfl, Nat.le_of_ble_eq_true rfl⟩) (kRecvX (q0 := 0) (ci := 11) hK hP hD hN hXS hS hA rfl rfl [] rfl (by decide +kernel)) rfl rfl hl.1 rfl (lv_room (Nat.le_of_ble_eq_true rfl)) dX11_findLoad_203 ⟨Nat.le_of_ble_eq_true rfl, Nat.le_of_ble_eq_true rfl⟩) hP hD hS hA [] [0, 1, 2, 3] rfl rfl (by decide +kernel) (by decide +kernel) ?_
                                    clear hP hD hS
                                    intro r_27 u_29 H locs w_28 hP hD hS
                                    replace hP : va_P D vwCl [(k, .inr (11, [.ref k0, .ref k1, .ref k2, .int c3, .ref k4, .ref k5, .ref k6, .ref k7, .ref k8, .int c9, .ref ka, .ref kb, .int cc, .int cd, .int ce, .int cf, .int cg, .int ch, .int ci, .int cj, .int ck, .ref kl, .int l45_6, .int l45_5, .ref ko])), (k6, .inl (cI, 4, .inl c6)), (k7, .inl (cI, 144, .inl c7)), (kl, .inl (cI, 8, .inl g185_kl))] H := hP
                                    replace hD : va_D A [(k, .inr (11, [.ref k0, .ref k1, .ref k2, .int c3, .ref k4, .ref k5, .ref k6, .ref k7, .ref k8, .int c9, .ref ka, .ref kb, .int cc, .int cd, .int ce, .int cf, .int cg, .int ch, .int ci, .int cj, .int ck, .ref kl, .int l45_6, .int l45_5, .ref ko])), (k6, .inl (cI, 4, .inl c6)), (k7, .inl (cI, 144, .inl c7)), (kl, .inl (cI, 8, .inl g185_kl))] := hD
                                    have lo_r_27 := k_lo r_27
                                    have hi_r_27 := k_hi r_27
                                    refine va_iast hx hb hK hP hD hS 3 0 rfl rfl (k_in (by omega) (by omega)) dX11_findLoad_206 ?_
                                    clear hP hD hS
                                    intro H locs hP hD hS
                                    replace hP : va_P D vwCl [(k, .inr (11, [.ref k0, .ref k1, .ref k2, .int c3, .ref k4, .ref k5, .ref k6, .ref k7, .ref k8, .int c9, .ref ka, .ref kb, .int cc, .int cd, .int ce, .int cf, .int cg, .int ch, .int ci, .int cj, .int ck, .ref kl, .int l45_6, .int l45_5, .ref ko])), (k6, .inl (cI, 4, .inl c6)), (k7, .inl (cI, 144, .inl c7)), (kl, .inl (cI, 8, .inl (upd g185_kl l185_8.toNatClampNeg r_27)))] H := hP
                                    replace hD : va_D A [(k, .inr (11, [.ref k0, .ref k1, .ref k2, .int c3, .ref k4, .ref k5, .ref k6, .ref k7, .ref k8, .int c9, .ref ka, .ref kb, .int cc, .int cd, .int ce, .int cf, .int cg, .int ch, .int ci, .int cj, .int ck, .ref kl, .int l45_6, .int l45_5, .ref ko])), (k6, .inl (cI, 4, .inl c6)), (k7, .inl (cI, 144, .inl c7)), (kl, .inl (cI, 8, .inl (upd g185_kl l185_8.toNatClampNeg r_27)))] := hD
                                    obtain ⟨f_30, ef_30⟩ : ∃ g : Nat → Int32, g = upd g185_kl l185_8.toNatClampNeg r_27 := ⟨_, rfl⟩
                                    rw [← ef_30] at hP hD
                                    obtain ⟨v_31, ev_31⟩ : ∃ y : Int32, y = l185_8 + 1 := ⟨_, rfl⟩
                                    have tv_31 : v_31.toInt = l185_8.toInt + 1 := by rw [ev_31]; exact k_addv rfl zl_1 (by omega) (by omega)
                                    refine lv_iinc (v := v_31) (lv' := [(8, .int v_31), (7, .int l45_7), (6, .int l45_6), (5, .int l45_5), (4, .int l28_4), (3, .int v_3), (0, .ref k), (1, .int a0), (2, .int a1)]) hx hb dX11_findLoad_207 hl (k := 0) rfl (by rw [ev_31]; rfl) (by decide +kernel) rfl ?_
                                    clear hl
                                    intro ls hl
                                    refine lv_goto (tgt := 185) hx hb dX11_findLoad_210 (by decide +kernel) ?_
                                    exact ih185 v_31 f_30 (by first | omega | decide | assumption | rfl) (by omega) ls _ _ (lv_sub hl [0, 1, 2, 3, 4, 5, 6, 7, 8] rfl) (hP.sub [0, 1, 2, 3] rfl) (hD.sub [0, 1, 2, 3] (by decide +kernel) rfl) hS
                            exact hloop_185 _ 0 g28_kl (by first | omega | (simp only [zl_0]; first | done | omega) | decide | assumption | rfl) (Nat.lt_succ_self _) ls _ _ (lv_sub hl [0, 1, 2, 3, 4, 5, 6, 7, 8] rfl) hP hD hS
                · refine lv_iload hx hb dX11_findLoad_51 (lv_at hl 1 rfl) ?_
                  refine b_if_eq hx hb rfl (tgt := 132) dX11_findLoad_53 (by decide +kernel) (fun c_32 => ?_) (fun c_32 => ?_)
                  · refine lv_iload hx hb dX11_findLoad_132 (lv_at hl 1 rfl) ?_
                    refine b_if_eq hx hb rfl (tgt := 213) dX11_findLoad_134 (by decide +kernel) (fun c_33 => ?_) (fun c_33 => by exfalso; omega)
                    obtain ⟨v_34, ev_34⟩ : ∃ y : Int32, y = l28_4 + (-1) := ⟨_, rfl⟩
                    have tv_34 : v_34.toInt = l28_4.toInt + (-1) := by rw [ev_34]; exact k_addv rfl zl_m1 (by omega) (by omega)
                    refine lv_iinc (v := v_34) (lv' := [(4, .int v_34), (8, .int l45_8), (7, .int l45_7), (6, .int l45_6), (5, .int l45_5), (3, .int v_3), (0, .ref k), (1, .int a0), (2, .int a1)]) hx hb dX11_findLoad_213 hl (k := 4) rfl (by rw [ev_34]; rfl) (by decide +kernel) rfl ?_
                    clear hl
                    intro ls hl
                    refine lv_goto (tgt := 28) hx hb dX11_findLoad_216 (by decide +kernel) ?_
                    exact ih28 v_34 f28_km f28_kn g28_kl (by first | omega | decide | assumption | rfl) (by first | omega | decide | assumption | rfl) (by omega) ls _ _ (lv_sub hl [0, 5, 6, 7, 8] rfl) (hP.sub [0, 1, 2, 3] rfl) (hD.sub [0, 1, 2, 3] (by decide +kernel) rfl) hS
                  · refine lv_aload_n hx hb dX11_findLoad_56 rfl (lv_at hl 6 rfl) ?_
                    refine lv_iload hx hb dX11_findLoad_57 (lv_at hl 4 rfl) ?_
                    refine lv_iload hx hb dX11_findLoad_59 (lv_at hl 0 rfl) ?_
                    refine lv_iload_n hx hb dX11_findLoad_61 rfl (lv_at hl 5 rfl) ?_
                    refine kJi (wr := [(k, .inr (11, [.ref k0, .ref k1, .ref k2, .int c3, .ref k4, .ref k5, .ref k6, .ref k7, .ref k8, .int c9, .ref ka, .ref kb, .int cc, .int cd, .int ce, .int cf, .int cg, .int ch, .int ci, .int cj, .int ck, .ref kl, .int f28_km, .int f28_kn, .ref ko])), (k6, .inl (cI, 4, .inl c6)), (k7, .inl (cI, 144, .inl c7)), (kl, .inl (cI, 8, .inl g28_kl))]) (va_runV (As := [.int l28_4, .int l45_8, .int v_3]) (rest := []) ⟨hx, hb, hml, hown, hT⟩ (c_X11_digitG l D cI aK aV k H.size l28_4 l45_8 v_3) (cwV 3 hT (gV_in mw_1507 mw_1504 mw_1506 mw_p5_11 mw_12) rfl rfl rfl (by decide +kernel) ⟨Nat.le_of_ble_eq_true rfl, Nat.le_of_ble_eq_true rfl⟩) (kRecvX (q0 := 0) (ci := 11) hK hP hD hN hXS hS hA rfl rfl [] rfl (by decide +kernel)) rfl rfl hl.1 rfl (lv_room (Nat.le_of_ble_eq_true rfl)) dX11_findLoad_62 ⟨Nat.le_of_ble_eq_true rfl, Nat.le_of_ble_eq_true rfl⟩) hP hD hS hA [] [0, 1, 2, 3] rfl rfl (by decide +kernel) (by decide +kernel) ?_
                    clear hP hD hS
                    intro r_35 u_37 H locs w_36 hP hD hS
                    replace hP : va_P D vwCl [(k, .inr (11, [.ref k0, .ref k1, .ref k2, .int c3, .ref k4, .ref k5, .ref k6, .ref k7, .ref k8, .int c9, .ref ka, .ref kb, .int cc, .int cd, .int ce, .int cf, .int cg, .int ch, .int ci, .int cj, .int ck, .ref kl, .int f28_km, .int f28_kn, .ref ko])), (k6, .inl (cI, 4, .inl c6)), (k7, .inl (cI, 144, .inl c7)), (kl, .inl (cI, 8, .inl g28_kl))] H := hP
                    replace hD : va_D A [(k, .inr (11, [.ref k0, .ref k1, .ref k2, .int c3, .ref k4, .ref k5, .ref k6, .ref k7, .ref k8, .int c9, .ref ka, .ref kb, .int cc, .int cd, .int ce, .int cf, .int cg, .int ch, .int ci, .int cj, .int ck, .ref kl, .int f28_km, .int f28_kn, .ref ko])), (k6, .inl (cI, 4, .inl c6)), (k7, .inl (cI, 144, .inl c7)), (kl, .inl (cI, 8, .inl g28_kl))] := hD
                    have lo_r_35 := k_lo r_35
                    have hi_r_35 := k_hi r_35
                    refine lv_istore (lv' := [(9, .int r_35), (8, .int l45_8), (7, .int l45_7), (6, .int l45_6), (5, .int l45_5), (4, .int l28_4), (3, .int v_3), (0, .ref k), (1, .int a0), (2, .int a1)]) hx hb dX11_findLoad_65 hl (by decide +kernel) rfl ?_
                    clear hl
                    intro ls hl
                    refine lv_iload hx hb dX11_findLoad_67 (lv_at hl 0 rfl) ?_
                    refine lv_aload_n hx hb dX11_findLoad_69 rfl (lv_at hl 7 rfl) ?_
                    refine lv_iload_n hx hb dX11_findLoad_70 rfl (lv_at hl 8 rfl) ?_
                    refine lv_iconst (v := 3) hx hb dX11_findLoad_71 (by decide +kernel) ?_
                    refine lv_iload hx hb dX11_findLoad_72 (lv_at hl 1 rfl) ?_
                    refine lv_imul hx hb dX11_findLoad_74 ?_
                    refine lv_topi (fun v_38 ev_38 => ?_)
                    have tv_38 : v_38.toInt = 3 * l45_8.toInt := by rw [ev_38]; exact k_mulv zl_3 rfl (by omega) (by omega)
                    refine lv_iconst (v := 2) hx hb dX11_findLoad_75 (by decide +kernel) ?_
                    refine lv_iadd hx hb dX11_findLoad_76 ?_
                    refine lv_topi (fun v_39 ev_39 => ?_)
                    have tv_39 : v_39.toInt = v_38.toInt + 2 := by rw [ev_39]; exact k_addv rfl zl_2 (by omega) (by omega)
                    refine kJi (wr := [(k6, .inl (cI, 4, .inl c6)), (kl, .inl (cI, 8, .inl g28_kl))]) (va_runV (As := [.int a0, .int v_39]) (rest := [.int r_35]) ⟨hx, hb, hml, hown, hT⟩ (c_X11_atG l D cI aK aV k k0 k1 k2 k4 k5 k6 k7 k8 ka kb kl ko H.size c3 c9 cc cd ce cf cg ch ci cj ck f28_km f28_kn c7 a0 v_39 (by first | omega | decide | assumption | rfl) (by first | omega | decide | assumption | rfl) (by first | omega | decide | assumption | rfl) (by first | omega | decide | assumption | rfl)) (cwV 2 hT (gV_in mw_1396 mw_1393 mw_1395 mw_p5_2 mw_12) rfl rfl rfl (by decide +kernel) ⟨Nat.le_of_ble_eq_true rfl, Nat.le_of_ble_eq_true rfl⟩) (kRecvX (q0 := 0) (ci := 11) hK hP hD hN hXS hS hA rfl rfl [0, 2] rfl (by decide +kernel)) rfl rfl hl.1 rfl (lv_room (Nat.le_of_ble_eq_true rfl)) dX11_findLoad_77 ⟨Nat.le_of_ble_eq_true rfl, Nat.le_of_ble_eq_true rfl⟩) hP hD hS hA [0, 2] [1, 3] rfl rfl (by decide +kernel) (by decide +kernel) ?_
                    clear hP hD hS
                    intro r_40 u_42 H locs w_41 hP hD hS
                    replace hP : va_P D vwCl [(k6, .inl (cI, 4, .inl c6)), (kl, .inl (cI, 8, .inl g28_kl)), (k, .inr (11, [.ref k0, .ref k1, .ref k2, .int c3, .ref k4, .ref k5, .ref k6, .ref k7, .ref k8, .int c9, .ref ka, .ref kb, .int cc, .int cd, .int ce, .int cf, .int cg, .int ch, .int ci, .int cj, .int ck, .ref kl, .int f28_km, .int f28_kn, .ref ko])), (k7, .inl (cI, 144, .inl c7))] H := hP
                    replace hD : va_D A [(k6, .inl (cI, 4, .inl c6)), (kl, .inl (cI, 8, .inl g28_kl)), (k, .inr (11, [.ref k0, .ref k1, .ref k2, .int c3, .ref k4, .ref k5, .ref k6, .ref k7, .ref k8, .int c9, .ref ka, .ref kb, .int cc, .int cd, .int ce, .int cf, .int cg, .int ch, .int ci, .int cj, .int ck, .ref kl, .int f28_km, .int f28_kn, .ref ko])), (k7, .inl (cI, 144, .inl c7))] := hD
                    have h_43 := w_41
                    have h_43 : r_40 = c7 (36 * a0.toInt.toNat + v_39.toInt.toNat) := h_43
                    have h_43 : r_40 = c7 (36 * a0.toInt.toNat + v_39.toInt.toNat) := h_43
                    have lo_r_40 := k_lo r_40
                    have hi_r_40 := k_hi r_40
                    refine b_icmp_gt hx hb rfl rfl (tgt := 87) dX11_findLoad_80 (by decide +kernel) (fun c_44 => ?_) (fun c_44 => ?_)
                    · refine lv_iconst (v := 0) hx hb dX11_findLoad_87 (by decide +kernel) ?_
                      refine lv_istore (lv' := [(7, .int 0), (9, .int r_35), (8, .int l45_8), (6, .int l45_6), (5, .int l45_5), (4, .int l28_4), (3, .int v_3), (0, .ref k), (1, .int a0), (2, .int a1)]) hx hb dX11_findLoad_88 hl (by decide +kernel) rfl ?_
                      clear hl
                      intro ls hl
                      refine lv_iload hx hb dX11_findLoad_90 (lv_at hl 4 rfl) ?_
                      refine lv_iload hx hb dX11_findLoad_92 (lv_at hl 1 rfl) ?_
                      refine lv_aload_n hx hb dX11_findLoad_94 rfl (lv_at hl 7 rfl) ?_
                      refine lv_iload_n hx hb dX11_findLoad_95 rfl (lv_at hl 8 rfl) ?_
                      refine lv_iconst (v := 3) hx hb dX11_findLoad_96 (by decide +kernel) ?_
                      refine lv_iload hx hb dX11_findLoad_97 (lv_at hl 2 rfl) ?_
                      refine lv_imul hx hb dX11_findLoad_99 ?_
                      refine lv_topi (fun v_45 ev_45 => ?_)
                      have tv_45 : v_45.toInt = 3 * l45_8.toInt := by rw [ev_45]; exact k_mulv zl_3 rfl (by omega) (by omega)
                      refine kJi (wr := [(k6, .inl (cI, 4, .inl c6)), (kl, .inl (cI, 8, .inl g28_kl))]) (va_runV (As := [.int a0, .int v_45]) (rest := [.int r_35, .int l45_5]) ⟨hx, hb, hml, hown, hT⟩ (c_X11_atG l D cI aK aV k k0 k1 k2 k4 k5 k6 k7 k8 ka kb kl ko H.size c3 c9 cc cd ce cf cg ch ci cj ck f28_km f28_kn c7 a0 v_45 (by first | omega | decide | assumption | rfl) (by first | omega | decide | assumption | rfl) (by first | omega | decide | assumption | rfl) (by first | omega | decide | assumption | rfl)) (cwV 2 hT (gV_in mw_1396 mw_1393 mw_1395 mw_p5_2 mw_12) rfl rfl rfl (by decide +kernel) ⟨Nat.le_of_ble_eq_true rfl, Nat.le_of_ble_eq_true rfl⟩) (kRecvX (q0 := 2) (ci := 11) hK hP hD hN hXS hS hA rfl rfl [2, 3] rfl (by decide +kernel)) rfl rfl hl.1 rfl (lv_room (Nat.le_of_ble_eq_true rfl)) dX11_findLoad_100 ⟨Nat.le_of_ble_eq_true rfl, Nat.le_of_ble_eq_true rfl⟩) hP hD hS hA [2, 3] [0, 1] rfl rfl (by decide +kernel) (by decide +kernel) ?_
                      clear hP hD hS
                      intro r_46 u_48 H locs w_47 hP hD hS
                      replace hP : va_P D vwCl [(k6, .inl (cI, 4, .inl c6)), (kl, .inl (cI, 8, .inl g28_kl)), (k, .inr (11, [.ref k0, .ref k1, .ref k2, .int c3, .ref k4, .ref k5, .ref k6, .ref k7, .ref k8, .int c9, .ref ka, .ref kb, .int cc, .int cd, .int ce, .int cf, .int cg, .int ch, .int ci, .int cj, .int ck, .ref kl, .int f28_km, .int f28_kn, .ref ko])), (k7, .inl (cI, 144, .inl c7))] H := hP
                      replace hD : va_D A [(k6, .inl (cI, 4, .inl c6)), (kl, .inl (cI, 8, .inl g28_kl)), (k, .inr (11, [.ref k0, .ref k1, .ref k2, .int c3, .ref k4, .ref k5, .ref k6, .ref k7, .ref k8, .int c9, .ref ka, .ref kb, .int cc, .int cd, .int ce, .int cf, .int cg, .int ch, .int ci, .int cj, .int ck, .ref kl, .int f28_km, .int f28_kn, .ref ko])), (k7, .inl (cI, 144, .inl c7))] := hD
                      have h_49 := w_47
                      have h_49 : r_46 = c7 (36 * a0.toInt.toNat + v_45.toInt.toNat) := h_49
                      have h_49 : r_46 = c7 (36 * a0.toInt.toNat + v_45.toInt.toNat) := h_49
                      have lo_r_46 := k_lo r_46
                      have hi_r_46 := k_hi r_46
                      refine lv_imul hx hb dX11_findLoad_103 ?_
                      refine lv_topi (fun v_50 ev_50 => ?_)
                      have lo_v_50 := k_lo v_50
                      have hi_v_50 := k_hi v_50
                      refine lv_iadd hx hb dX11_findLoad_104 ?_
                      refine lv_topi (fun v_51 ev_51 => ?_)
                      have lo_v_51 := k_lo v_51
                      have hi_v_51 := k_hi v_51
                      refine lv_istore (lv' := [(5, .int v_51), (7, .int 0), (9, .int r_35), (8, .int l45_8), (6, .int l45_6), (4, .int l28_4), (3, .int v_3), (0, .ref k), (1, .int a0), (2, .int a1)]) hx hb dX11_findLoad_105 hl (by decide +kernel) rfl ?_
                      clear hl
                      intro ls hl
                      refine lv_iload hx hb dX11_findLoad_107 (lv_at hl 4 rfl) ?_
                      refine lv_iload hx hb dX11_findLoad_109 (lv_at hl 2 rfl) ?_
                      refine lv_aload_n hx hb dX11_findLoad_111 rfl (lv_at hl 7 rfl) ?_
                      refine lv_iload_n hx hb dX11_findLoad_112 rfl (lv_at hl 8 rfl) ?_
                      refine lv_iconst (v := 3) hx hb dX11_findLoad_113 (by decide +kernel) ?_
                      refine lv_iload hx hb dX11_findLoad_114 (lv_at hl 3 rfl) ?_
                      refine lv_imul hx hb dX11_findLoad_116 ?_
                      refine lv_topi (fun v_52 ev_52 => ?_)
                      have tv_52 : v_52.toInt = 3 * l45_8.toInt := by rw [ev_52]; exact k_mulv zl_3 rfl (by omega) (by omega)
                      refine lv_iconst (v := 1) hx hb dX11_findLoad_117 (by decide +kernel) ?_
                      refine lv_iadd hx hb dX11_findLoad_118 ?_
                      refine lv_topi (fun v_53 ev_53 => ?_)
                      have tv_53 : v_53.toInt = v_52.toInt + 1 := by rw [ev_53]; exact k_addv rfl zl_1 (by omega) (by omega)
                      refine kJi (wr := [(k6, .inl (cI, 4, .inl c6)), (kl, .inl (cI, 8, .inl g28_kl))]) (va_runV (As := [.int a0, .int v_53]) (rest := [.int r_35, .int l45_6]) ⟨hx, hb, hml, hown, hT⟩ (c_X11_atG l D cI aK aV k k0 k1 k2 k4 k5 k6 k7 k8 ka kb kl ko H.size c3 c9 cc cd ce cf cg ch ci cj ck f28_km f28_kn c7 a0 v_53 (by first | omega | decide | assumption | rfl) (by first | omega | decide | assumption | rfl) (by first | omega | decide | assumption | rfl) (by first | omega | decide | assumption | rfl)) (cwV 2 hT (gV_in mw_1396 mw_1393 mw_1395 mw_p5_2 mw_12) rfl rfl rfl (by decide +kernel) ⟨Nat.le_of_ble_eq_true rfl, Nat.le_of_ble_eq_true rfl⟩) (kRecvX (q0 := 2) (ci := 11) hK hP hD hN hXS hS hA rfl rfl [2, 3] rfl (by decide +kernel)) rfl rfl hl.1 rfl (lv_room (Nat.le_of_ble_eq_true rfl)) dX11_findLoad_119 ⟨Nat.le_of_ble_eq_true rfl, Nat.le_of_ble_eq_true rfl⟩) hP hD hS hA [2, 3] [0, 1] rfl rfl (by decide +kernel) (by decide +kernel) ?_
                      clear hP hD hS
                      intro r_54 u_56 H locs w_55 hP hD hS
                      replace hP : va_P D vwCl [(k6, .inl (cI, 4, .inl c6)), (kl, .inl (cI, 8, .inl g28_kl)), (k, .inr (11, [.ref k0, .ref k1, .ref k2, .int c3, .ref k4, .ref k5, .ref k6, .ref k7, .ref k8, .int c9, .ref ka, .ref kb, .int cc, .int cd, .int ce, .int cf, .int cg, .int ch, .int ci, .int cj, .int ck, .ref kl, .int f28_km, .int f28_kn, .ref ko])), (k7, .inl (cI, 144, .inl c7))] H := hP
                      replace hD : va_D A [(k6, .inl (cI, 4, .inl c6)), (kl, .inl (cI, 8, .inl g28_kl)), (k, .inr (11, [.ref k0, .ref k1, .ref k2, .int c3, .ref k4, .ref k5, .ref k6, .ref k7, .ref k8, .int c9, .ref ka, .ref kb, .int cc, .int cd, .int ce, .int cf, .int cg, .int ch, .int ci, .int cj, .int ck, .ref kl, .int f28_km, .int f28_kn, .ref ko])), (k7, .inl (cI, 144, .inl c7))] := hD
                      have h_57 := w_55
                      have h_57 : r_54 = c7 (36 * a0.toInt.toNat + v_53.toInt.toNat) := h_57
                      have h_57 : r_54 = c7 (36 * a0.toInt.toNat + v_53.toInt.toNat) := h_57
                      have lo_r_54 := k_lo r_54
                      have hi_r_54 := k_hi r_54
                      refine lv_imul hx hb dX11_findLoad_122 ?_
                      refine lv_topi (fun v_58 ev_58 => ?_)
                      have lo_v_58 := k_lo v_58
                      have hi_v_58 := k_hi v_58
                      refine lv_iadd hx hb dX11_findLoad_123 ?_
                      refine lv_topi (fun v_59 ev_59 => ?_)
                      have lo_v_59 := k_lo v_59
                      have hi_v_59 := k_hi v_59
                      refine lv_istore (lv' := [(6, .int v_59), (5, .int v_51), (7, .int 0), (9, .int r_35), (8, .int l45_8), (4, .int l28_4), (3, .int v_3), (0, .ref k), (1, .int a0), (2, .int a1)]) hx hb dX11_findLoad_124 hl (by decide +kernel) rfl ?_
                      clear hl
                      intro ls hl
                      obtain ⟨v_60, ev_60⟩ : ∃ y : Int32, y = l45_8 + 1 := ⟨_, rfl⟩
                      have tv_60 : v_60.toInt = l45_8.toInt + 1 := by rw [ev_60]; exact k_addv rfl zl_1 (by omega) (by omega)
                      refine lv_iinc (v := v_60) (lv' := [(8, .int v_60), (6, .int v_59), (5, .int v_51), (7, .int 0), (9, .int r_35), (4, .int l28_4), (3, .int v_3), (0, .ref k), (1, .int a0), (2, .int a1)]) hx hb dX11_findLoad_126 hl (k := 4) rfl (by rw [ev_60]; rfl) (by decide +kernel) rfl ?_
                      clear hl
                      intro ls hl
                      refine lv_goto (tgt := 45) hx hb dX11_findLoad_129 (by decide +kernel) ?_
                      exact ih45 v_51 v_59 0 v_60 (by first | omega | (simp only [zl_0]; first | done | omega) | decide | assumption | rfl) (by first | omega | (simp only [zl_0]; first | done | omega) | decide | assumption | rfl) (by omega) ls _ _ (lv_sub hl [0, 3, 1, 2, 5, 6, 7, 8, 9] rfl) (hP.sub [2, 0, 3, 1] rfl) (hD.sub [2, 0, 3, 1] (by decide +kernel) rfl) hS
                    · refine lv_iconst (v := 1) hx hb dX11_findLoad_83 (by decide +kernel) ?_
                      refine lv_goto (tgt := 88) hx hb dX11_findLoad_84 (by decide +kernel) ?_
                      refine lv_istore (lv' := [(7, .int 1), (9, .int r_35), (8, .int l45_8), (6, .int l45_6), (5, .int l45_5), (4, .int l28_4), (3, .int v_3), (0, .ref k), (1, .int a0), (2, .int a1)]) hx hb dX11_findLoad_88 hl (by decide +kernel) rfl ?_
                      clear hl
                      intro ls hl
                      refine lv_iload hx hb dX11_findLoad_90 (lv_at hl 4 rfl) ?_
                      refine lv_iload hx hb dX11_findLoad_92 (lv_at hl 1 rfl) ?_
                      refine lv_aload_n hx hb dX11_findLoad_94 rfl (lv_at hl 7 rfl) ?_
                      refine lv_iload_n hx hb dX11_findLoad_95 rfl (lv_at hl 8 rfl) ?_
                      refine lv_iconst (v := 3) hx hb dX11_findLoad_96 (by decide +kernel) ?_
                      refine lv_iload hx hb dX11_findLoad_97 (lv_at hl 2 rfl) ?_
                      refine lv_imul hx hb dX11_findLoad_99 ?_
                      refine lv_topi (fun v_61 ev_61 => ?_)
                      have tv_61 : v_61.toInt = 3 * l45_8.toInt := by rw [ev_61]; exact k_mulv zl_3 rfl (by omega) (by omega)
                      refine kJi (wr := [(k6, .inl (cI, 4, .inl c6)), (kl, .inl (cI, 8, .inl g28_kl))]) (va_runV (As := [.int a0, .int v_61]) (rest := [.int r_35, .int l45_5]) ⟨hx, hb, hml, hown, hT⟩ (c_X11_atG l D cI aK aV k k0 k1 k2 k4 k5 k6 k7 k8 ka kb kl ko H.size c3 c9 cc cd ce cf cg ch ci cj ck f28_km f28_kn c7 a0 v_61 (by first | omega | decide | assumption | rfl) (by first | omega | decide | assumption | rfl) (by first | omega | decide | assumption | rfl) (by first | omega | decide | assumption | rfl)) (cwV 2 hT (gV_in mw_1396 mw_1393 mw_1395 mw_p5_2 mw_12) rfl rfl rfl (by decide +kernel) ⟨Nat.le_of_ble_eq_true rfl, Nat.le_of_ble_eq_true rfl⟩) (kRecvX (q0 := 2) (ci := 11) hK hP hD hN hXS hS hA rfl rfl [2, 3] rfl (by decide +kernel)) rfl rfl hl.1 rfl (lv_room (Nat.le_of_ble_eq_true rfl)) dX11_findLoad_100 ⟨Nat.le_of_ble_eq_true rfl, Nat.le_of_ble_eq_true rfl⟩) hP hD hS hA [2, 3] [0, 1] rfl rfl (by decide +kernel) (by decide +kernel) ?_
                      clear hP hD hS
                      intro r_62 u_64 H locs w_63 hP hD hS
                      replace hP : va_P D vwCl [(k6, .inl (cI, 4, .inl c6)), (kl, .inl (cI, 8, .inl g28_kl)), (k, .inr (11, [.ref k0, .ref k1, .ref k2, .int c3, .ref k4, .ref k5, .ref k6, .ref k7, .ref k8, .int c9, .ref ka, .ref kb, .int cc, .int cd, .int ce, .int cf, .int cg, .int ch, .int ci, .int cj, .int ck, .ref kl, .int f28_km, .int f28_kn, .ref ko])), (k7, .inl (cI, 144, .inl c7))] H := hP
                      replace hD : va_D A [(k6, .inl (cI, 4, .inl c6)), (kl, .inl (cI, 8, .inl g28_kl)), (k, .inr (11, [.ref k0, .ref k1, .ref k2, .int c3, .ref k4, .ref k5, .ref k6, .ref k7, .ref k8, .int c9, .ref ka, .ref kb, .int cc, .int cd, .int ce, .int cf, .int cg, .int ch, .int ci, .int cj, .int ck, .ref kl, .int f28_km, .int f28_kn, .ref ko])), (k7, .inl (cI, 144, .inl c7))] := hD
                      have h_65 := w_63
                      have h_65 : r_62 = c7 (36 * a0.toInt.toNat + v_61.toInt.toNat) := h_65
                      have h_65 : r_62 = c7 (36 * a0.toInt.toNat + v_61.toInt.toNat) := h_65
                      have lo_r_62 := k_lo r_62
                      have hi_r_62 := k_hi r_62
                      refine lv_imul hx hb dX11_findLoad_103 ?_
                      refine lv_topi (fun v_66 ev_66 => ?_)
                      have lo_v_66 := k_lo v_66
                      have hi_v_66 := k_hi v_66
                      refine lv_iadd hx hb dX11_findLoad_104 ?_
                      refine lv_topi (fun v_67 ev_67 => ?_)
                      have lo_v_67 := k_lo v_67
                      have hi_v_67 := k_hi v_67
                      refine lv_istore (lv' := [(5, .int v_67), (7, .int 1), (9, .int r_35), (8, .int l45_8), (6, .int l45_6), (4, .int l28_4), (3, .int v_3), (0, .ref k), (1, .int a0), (2, .int a1)]) hx hb dX11_findLoad_105 hl (by decide +kernel) rfl ?_
                      clear hl
                      intro ls hl
                      refine lv_iload hx hb dX11_findLoad_107 (lv_at hl 4 rfl) ?_
                      refine lv_iload hx hb dX11_findLoad_109 (lv_at hl 2 rfl) ?_
                      refine lv_aload_n hx hb dX11_findLoad_111 rfl (lv_at hl 7 rfl) ?_
                      refine lv_iload_n hx hb dX11_findLoad_112 rfl (lv_at hl 8 rfl) ?_
                      refine lv_iconst (v := 3) hx hb dX11_findLoad_113 (by decide +kernel) ?_
                      refine lv_iload hx hb dX11_findLoad_114 (lv_at hl 3 rfl) ?_
                      refine lv_imul hx hb dX11_findLoad_116 ?_
                      refine lv_topi (fun v_68 ev_68 => ?_)
                      have tv_68 : v_68.toInt = 3 * l45_8.toInt := by rw [ev_68]; exact k_mulv zl_3 rfl (by omega) (by omega)
                      refine lv_iconst (v := 1) hx hb dX11_findLoad_117 (by decide +kernel) ?_
                      refine lv_iadd hx hb dX11_findLoad_118 ?_
                      refine lv_topi (fun v_69 ev_69 => ?_)
                      have tv_69 : v_69.toInt = v_68.toInt + 1 := by rw [ev_69]; exact k_addv rfl zl_1 (by omega) (by omega)
                      refine kJi (wr := [(k6, .inl (cI, 4, .inl c6)), (kl, .inl (cI, 8, .inl g28_kl))]) (va_runV (As := [.int a0, .int v_69]) (rest := [.int r_35, .int l45_6]) ⟨hx, hb, hml, hown, hT⟩ (c_X11_atG l D cI aK aV k k0 k1 k2 k4 k5 k6 k7 k8 ka kb kl ko H.size c3 c9 cc cd ce cf cg ch ci cj ck f28_km f28_kn c7 a0 v_69 (by first | omega | decide | assumption | rfl) (by first | omega | decide | assumption | rfl) (by first | omega | decide | assumption | rfl) (by first | omega | decide | assumption | rfl)) (cwV 2 hT (gV_in mw_1396 mw_1393 mw_1395 mw_p5_2 mw_12) rfl rfl rfl (by decide +kernel) ⟨Nat.le_of_ble_eq_true rfl, Nat.le_of_ble_eq_true rfl⟩) (kRecvX (q0 := 2) (ci := 11) hK hP hD hN hXS hS hA rfl rfl [2, 3] rfl (by decide +kernel)) rfl rfl hl.1 rfl (lv_room (Nat.le_of_ble_eq_true rfl)) dX11_findLoad_119 ⟨Nat.le_of_ble_eq_true rfl, Nat.le_of_ble_eq_true rfl⟩) hP hD hS hA [2, 3] [0, 1] rfl rfl (by decide +kernel) (by decide +kernel) ?_
                      clear hP hD hS
                      intro r_70 u_72 H locs w_71 hP hD hS
                      replace hP : va_P D vwCl [(k6, .inl (cI, 4, .inl c6)), (kl, .inl (cI, 8, .inl g28_kl)), (k, .inr (11, [.ref k0, .ref k1, .ref k2, .int c3, .ref k4, .ref k5, .ref k6, .ref k7, .ref k8, .int c9, .ref ka, .ref kb, .int cc, .int cd, .int ce, .int cf, .int cg, .int ch, .int ci, .int cj, .int ck, .ref kl, .int f28_km, .int f28_kn, .ref ko])), (k7, .inl (cI, 144, .inl c7))] H := hP
                      replace hD : va_D A [(k6, .inl (cI, 4, .inl c6)), (kl, .inl (cI, 8, .inl g28_kl)), (k, .inr (11, [.ref k0, .ref k1, .ref k2, .int c3, .ref k4, .ref k5, .ref k6, .ref k7, .ref k8, .int c9, .ref ka, .ref kb, .int cc, .int cd, .int ce, .int cf, .int cg, .int ch, .int ci, .int cj, .int ck, .ref kl, .int f28_km, .int f28_kn, .ref ko])), (k7, .inl (cI, 144, .inl c7))] := hD
                      have h_73 := w_71
                      have h_73 : r_70 = c7 (36 * a0.toInt.toNat + v_69.toInt.toNat) := h_73
                      have h_73 : r_70 = c7 (36 * a0.toInt.toNat + v_69.toInt.toNat) := h_73
                      have lo_r_70 := k_lo r_70
                      have hi_r_70 := k_hi r_70
                      refine lv_imul hx hb dX11_findLoad_122 ?_
                      refine lv_topi (fun v_74 ev_74 => ?_)
                      have lo_v_74 := k_lo v_74
                      have hi_v_74 := k_hi v_74
                      refine lv_iadd hx hb dX11_findLoad_123 ?_
                      refine lv_topi (fun v_75 ev_75 => ?_)
                      have lo_v_75 := k_lo v_75
                      have hi_v_75 := k_hi v_75
                      refine lv_istore (lv' := [(6, .int v_75), (5, .int v_67), (7, .int 1), (9, .int r_35), (8, .int l45_8), (4, .int l28_4), (3, .int v_3), (0, .ref k), (1, .int a0), (2, .int a1)]) hx hb dX11_findLoad_124 hl (by decide +kernel) rfl ?_
                      clear hl
                      intro ls hl
                      obtain ⟨v_76, ev_76⟩ : ∃ y : Int32, y = l45_8 + 1 := ⟨_, rfl⟩
                      have tv_76 : v_76.toInt = l45_8.toInt + 1 := by rw [ev_76]; exact k_addv rfl zl_1 (by omega) (by omega)
                      refine lv_iinc (v := v_76) (lv' := [(8, .int v_76), (6, .int v_75), (5, .int v_67), (7, .int 1), (9, .int r_35), (4, .int l28_4), (3, .int v_3), (0, .ref k), (1, .int a0), (2, .int a1)]) hx hb dX11_findLoad_126 hl (k := 4) rfl (by rw [ev_76]; rfl) (by decide +kernel) rfl ?_
                      clear hl
                      intro ls hl
                      refine lv_goto (tgt := 45) hx hb dX11_findLoad_129 (by decide +kernel) ?_
                      exact ih45 v_67 v_75 1 v_76 (by first | omega | (simp only [zl_1]; first | done | omega) | decide | assumption | rfl) (by first | omega | (simp only [zl_1]; first | done | omega) | decide | assumption | rfl) (by omega) ls _ _ (lv_sub hl [0, 3, 1, 2, 5, 6, 7, 8, 9] rfl) (hP.sub [2, 0, 3, 1] rfl) (hD.sub [2, 0, 3, 1] (by decide +kernel) rfl) hS
          exact hloop_45 _ 0 0 1 0 (by first | omega | (simp only [zl_0, zl_1]; first | done | omega) | decide | assumption | rfl) (by first | omega | (simp only [zl_0, zl_1]; first | done | omega) | decide | assumption | rfl) (Nat.lt_succ_self _) ls _ _ (lv_sub hl [0, 1, 2, 3, 4, 5, 6, 7, 8] rfl) hP hD hS
  exact hloop_28 _ v_6 (-1) 0 cl (by first | omega | (simp only [zl_m1, zl_0]; first | done | omega) | decide | assumption | rfl) (by first | omega | (simp only [zl_m1, zl_0]; first | done | omega) | decide | assumption | rfl) (Nat.lt_succ_self _) ls _ _ (lv_sub hl [0, 1, 2, 3, 4] rfl) hP hD hS
