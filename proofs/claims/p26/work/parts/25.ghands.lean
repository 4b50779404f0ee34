theorem bn_cX0_survey_0 : BN cX0_survey 0 0xb263401500201a14a0610201402a802820029d0f0bc3a1000ad456610287420015a8aca06113005721e020bc3a0a00ad456610287414015a8ac7e2000adc3a2c1e0054629088747c04 := by
  unfold BN; decide +kernel
theorem dX0_survey_0 : decode cX0_survey 0 = .ok (.iconst 0, 1) := dR0 (k := 0) (i := 0) bn_cX0_survey_0 dop_3 (by decide +kernel)
theorem dX0_survey_1 : decode cX0_survey 1 = .ok (.istore_n 2, 1) := dR0 (k := 0) (i := 1) bn_cX0_survey_0 dop_61 (by decide +kernel)
theorem dX0_survey_2 : decode cX0_survey 2 = .ok (.iload_n 2, 1) := dR0 (k := 0) (i := 2) bn_cX0_survey_0 dop_28 (by decide +kernel)
theorem dX0_survey_3 : decode cX0_survey 3 = .ok (.bipush 40, 2) := dR1s (f := Instr.bipush) (k := 0) (i := 3) bn_cX0_survey_0 dop_16 40 40 (by decide +kernel)
theorem dX0_survey_5 : decode cX0_survey 5 = .ok (.if_icmp .ge 59, 3) := dR2s (f := Instr.if_icmp .ge) (k := 0) (i := 5) bn_cX0_survey_0 dop_162 59 59 (by decide +kernel)
theorem dX0_survey_8 : decode cX0_survey 8 = .ok (.aload_n 1, 1) := dR0 (k := 0) (i := 8) bn_cX0_survey_0 dop_43 (by decide +kernel)
theorem dX0_survey_9 : decode cX0_survey 9 = .ok (.iload_n 2, 1) := dR0 (k := 0) (i := 9) bn_cX0_survey_0 dop_28 (by decide +kernel)
theorem dX0_survey_10 : decode cX0_survey 10 = .ok (.invokevirtual 31, 3) := dR2 (f := Instr.invokevirtual) (k := 0) (i := 10) bn_cX0_survey_0 dop_182 31 (by decide +kernel)
theorem dX0_survey_13 : decode cX0_survey 13 = .ok (.istore_n 3, 1) := dR0 (k := 0) (i := 13) bn_cX0_survey_0 dop_62 (by decide +kernel)
theorem dX0_survey_14 : decode cX0_survey 14 = .ok (.aload_n 0, 1) := dR0 (k := 0) (i := 14) bn_cX0_survey_0 dop_42 (by decide +kernel)
theorem dX0_survey_15 : decode cX0_survey 15 = .ok (.getfield 9, 3) := dR2 (f := Instr.getfield) (k := 0) (i := 15) bn_cX0_survey_0 dop_180 9 (by decide +kernel)
theorem dX0_survey_18 : decode cX0_survey 18 = .ok (.iload_n 2, 1) := dR0 (k := 0) (i := 18) bn_cX0_survey_0 dop_28 (by decide +kernel)
theorem dX0_survey_19 : decode cX0_survey 19 = .ok (.iconst 1, 1) := dR0 (k := 0) (i := 19) bn_cX0_survey_0 dop_4 (by decide +kernel)
theorem dX0_survey_20 : decode cX0_survey 20 = .ok (.iadd, 1) := dR0 (k := 0) (i := 20) bn_cX0_survey_0 dop_96 (by decide +kernel)
theorem dX0_survey_21 : decode cX0_survey 21 = .ok (.aload_n 0, 1) := dR0 (k := 0) (i := 21) bn_cX0_survey_0 dop_42 (by decide +kernel)
theorem dX0_survey_22 : decode cX0_survey 22 = .ok (.getfield 9, 3) := dR2 (f := Instr.getfield) (k := 0) (i := 22) bn_cX0_survey_0 dop_180 9 (by decide +kernel)
theorem dX0_survey_25 : decode cX0_survey 25 = .ok (.iload_n 2, 1) := dR0 (k := 0) (i := 25) bn_cX0_survey_0 dop_28 (by decide +kernel)
theorem dX0_survey_26 : decode cX0_survey 26 = .ok (.iaload, 1) := dR0 (k := 0) (i := 26) bn_cX0_survey_0 dop_46 (by decide +kernel)
theorem dX0_survey_27 : decode cX0_survey 27 = .ok (.iconst 0, 1) := dR0 (k := 0) (i := 27) bn_cX0_survey_0 dop_3 (by decide +kernel)
theorem dX0_survey_28 : decode cX0_survey 28 = .ok (.iload_n 3, 1) := dR0 (k := 0) (i := 28) bn_cX0_survey_0 dop_29 (by decide +kernel)
theorem dX0_survey_29 : decode cX0_survey 29 = .ok (.invokestatic 37, 3) := dR2 (f := Instr.invokestatic) (k := 0) (i := 29) bn_cX0_survey_0 dop_184 37 (by decide +kernel)
theorem dX0_survey_32 : decode cX0_survey 32 = .ok (.iadd, 1) := dR0 (k := 0) (i := 32) bn_cX0_survey_0 dop_96 (by decide +kernel)
theorem dX0_survey_33 : decode cX0_survey 33 = .ok (.iastore, 1) := dR0 (k := 0) (i := 33) bn_cX0_survey_0 dop_79 (by decide +kernel)
theorem dX0_survey_34 : decode cX0_survey 34 = .ok (.aload_n 0, 1) := dR0 (k := 0) (i := 34) bn_cX0_survey_0 dop_42 (by decide +kernel)
theorem dX0_survey_35 : decode cX0_survey 35 = .ok (.getfield 15, 3) := dR2 (f := Instr.getfield) (k := 0) (i := 35) bn_cX0_survey_0 dop_180 15 (by decide +kernel)
theorem dX0_survey_38 : decode cX0_survey 38 = .ok (.iload_n 2, 1) := dR0 (k := 0) (i := 38) bn_cX0_survey_0 dop_28 (by decide +kernel)
theorem dX0_survey_39 : decode cX0_survey 39 = .ok (.iconst 1, 1) := dR0 (k := 0) (i := 39) bn_cX0_survey_0 dop_4 (by decide +kernel)
theorem dX0_survey_40 : decode cX0_survey 40 = .ok (.iadd, 1) := dR0 (k := 0) (i := 40) bn_cX0_survey_0 dop_96 (by decide +kernel)
theorem dX0_survey_41 : decode cX0_survey 41 = .ok (.aload_n 0, 1) := dR0 (k := 0) (i := 41) bn_cX0_survey_0 dop_42 (by decide +kernel)
theorem dX0_survey_42 : decode cX0_survey 42 = .ok (.getfield 15, 3) := dR2 (f := Instr.getfield) (k := 0) (i := 42) bn_cX0_survey_0 dop_180 15 (by decide +kernel)
theorem dX0_survey_45 : decode cX0_survey 45 = .ok (.iload_n 2, 1) := dR0 (k := 0) (i := 45) bn_cX0_survey_0 dop_28 (by decide +kernel)
theorem dX0_survey_46 : decode cX0_survey 46 = .ok (.iaload, 1) := dR0 (k := 0) (i := 46) bn_cX0_survey_0 dop_46 (by decide +kernel)
theorem dX0_survey_47 : decode cX0_survey 47 = .ok (.iload_n 3, 1) := dR0 (k := 0) (i := 47) bn_cX0_survey_0 dop_29 (by decide +kernel)
theorem dX0_survey_48 : decode cX0_survey 48 = .ok (.ifCond .ge 7, 3) := dR2s (f := Instr.ifCond .ge) (k := 0) (i := 48) bn_cX0_survey_0 dop_156 7 7 (by decide +kernel)
theorem dX0_survey_51 : decode cX0_survey 51 = .ok (.iconst 1, 1) := dR0 (k := 0) (i := 51) bn_cX0_survey_0 dop_4 (by decide +kernel)
theorem dX0_survey_52 : decode cX0_survey 52 = .ok (.goto 4, 3) := dR2s (f := Instr.goto) (k := 0) (i := 52) bn_cX0_survey_0 dop_167 4 4 (by decide +kernel)
theorem dX0_survey_55 : decode cX0_survey 55 = .ok (.iconst 0, 1) := dR0 (k := 0) (i := 55) bn_cX0_survey_0 dop_3 (by decide +kernel)
theorem dX0_survey_56 : decode cX0_survey 56 = .ok (.iadd, 1) := dR0 (k := 0) (i := 56) bn_cX0_survey_0 dop_96 (by decide +kernel)
theorem dX0_survey_57 : decode cX0_survey 57 = .ok (.iastore, 1) := dR0 (k := 0) (i := 57) bn_cX0_survey_0 dop_79 (by decide +kernel)
theorem dX0_survey_58 : decode cX0_survey 58 = .ok (.iinc 2 1, 3) := dRii (f := Instr.iinc) (k := 0) (i := 58) bn_cX0_survey_0 dop_132 2 1 1 (by decide +kernel)
theorem dX0_survey_61 : decode cX0_survey 61 = .ok (.goto (-59), 3) := dR2s (f := Instr.goto) (k := 0) (i := 61) bn_cX0_survey_0 dop_167 65477 (-59) (by decide +kernel)
theorem dX0_survey_64 : decode cX0_survey 64 = .ok (.return_, 1) := dR0 (k := 0) (i := 64) bn_cX0_survey_0 dop_177 (by decide +kernel)
set_option maxHeartbeats 4000000 in
set_option maxRecDepth 100000 in
theorem c_X0_surveyG (l : Launch) (D : va_G) (cI : ClassId) (aK aV : Nat → Nat) (k o k0 k1 k2 k3 k4 o0 o1 o2 o3 o4 o5 o40 o41 o42 o43 o44 o45 o46 o47 o48 : Nat) (sz : Nat) (c5 : Int32) (c0 : Nat → Int32) (c1 : Nat → Int32) (d6 : Int32) (d7 : Int32) (d8 : Int32) (d0 : Nat → Int32) (d49 : Int32) (d40 : Nat → Int32) (d41 : Nat → Int32) (d43 : Nat → Int32) (d45 : Nat → Int32) (d46 : Nat → Int32) : Met l yX0_survey (gW yX0_survey cX0_survey 4 none) ({ frames := 3, cells := 0, slots := 0, locals := 68 } : Room) (kPreX D cI aK aV [.ref k, .ref o] [(k, .inr (0, [.ref k0, .ref k1, .ref k2, .ref k3, .ref k4, .int c5])), (k0, .inl (cI, 41, .inl c0)), (k1, .inl (cI, 41, .inl c1)), (o, .inr (9, [.ref o0, .ref o1, .ref o2, .ref o3, .ref o4, .ref o5, .int d6, .int d7, .int d8])), (o0, .inl (cI, 12, .inl d0)), (o4, .inr (8, [.ref o40, .ref o41, .ref o42, .ref o43, .ref o44, .ref o45, .ref o46, .ref o47, .ref o48, .int d49])), (o40, .inl (cI, 60, .inl d40)), (o41, .inl (cI, 60, .inl d41)), (o43, .inl (cI, 60, .inl d43)), (o45, .inl (cI, 60, .inl d45)), (o46, .inl (cI, 40, .inl d46))] sz) (va_Qv (fun (u : (Nat → Int32) × (Nat → Int32)) => True) (fun u t => kWd D cI (va_A [(k, .inr (0, [.ref k0, .ref k1, .ref k2, .ref k3, .ref k4, .int c5])), (k0, .inl (cI, 41, .inl c0)), (k1, .inl (cI, 41, .inl c1)), (o, .inr (9, [.ref o0, .ref o1, .ref o2, .ref o3, .ref o4, .ref o5, .int d6, .int d7, .int d8])), (o0, .inl (cI, 12, .inl d0)), (o4, .inr (8, [.ref o40, .ref o41, .ref o42, .ref o43, .ref o44, .ref o45, .ref o46, .ref o47, .ref o48, .int d49])), (o40, .inl (cI, 60, .inl d40)), (o41, .inl (cI, 60, .inl d41)), (o43, .inl (cI, 60, .inl d43)), (o45, .inl (cI, 60, .inl d45)), (o46, .inl (cI, 40, .inl d46))] sz) [(k, .inr (0, [.ref k0, .ref k1, .ref k2, .ref k3, .ref k4, .int c5])), (k0, .inl (cI, 41, .inl u.1)), (k1, .inl (cI, 41, .inl u.2)), (o, .inr (9, [.ref o0, .ref o1, .ref o2, .ref o3, .ref o4, .ref o5, .int d6, .int d7, .int d8])), (o0, .inl (cI, 12, .inl d0)), (o4, .inr (8, [.ref o40, .ref o41, .ref o42, .ref o43, .ref o44, .ref o45, .ref o46, .ref o47, .ref o48, .int d49])), (o40, .inl (cI, 60, .inl d40)), (o41, .inl (cI, 60, .inl d41)), (o43, .inl (cI, 60, .inl d43)), (o45, .inl (cI, 60, .inl d45)), (o46, .inl (cI, 40, .inl d46))] t) (va_A [(k, .inr (0, [.ref k0, .ref k1, .ref k2, .ref k3, .ref k4, .int c5])), (k0, .inl (cI, 41, .inl c0)), (k1, .inl (cI, 41, .inl c1)), (o, .inr (9, [.ref o0, .ref o1, .ref o2, .ref o3, .ref o4, .ref o5, .int d6, .int d7, .int d8])), (o0, .inl (cI, 12, .inl d0)), (o4, .inr (8, [.ref o40, .ref o41, .ref o42, .ref o43, .ref o44, .ref o45, .ref o46, .ref o47, .ref o48, .int d49])), (o40, .inl (cI, 60, .inl d40)), (o41, .inl (cI, 60, .inl d41)), (o43, .inl (cI, 60, .inl d43)), (o45, .inl (cI, 60, .inl d45)), (o46, .inl (cI, 40, .inl d46))] sz)) 0 0 (va_A [(k, .inr (0, [.ref k0, .ref k1, .ref k2, .ref k3, .ref k4, .int c5])), (k0, .inl (cI, 41, .inl c0)), (k1, .inl (cI, 41, .inl c1)), (o, .inr (9, [.ref o0, .ref o1, .ref o2, .ref o3, .ref o4, .ref o5, .int d6, .int d7, .int d8])), (o0, .inl (cI, 12, .inl d0)), (o4, .inr (8, [.ref o40, .ref o41, .ref o42, .ref o43, .ref o44, .ref o45, .ref o46, .ref o47, .ref o48, .int d49])), (o40, .inl (cI, 60, .inl d40)), (o41, .inl (cI, 60, .inl d41)), (o43, .inl (cI, 60, .inl d43)), (o45, .inl (cI, 60, .inl d45)), (o46, .inl (cI, 40, .inl d46))] sz) := by
  refine kMetVX (own := RX0) (by decide +kernel) rfl (Nat.le_of_ble_eq_true rfl) ?_
  intro p e s m args below meth c hx hb hT hown hname hml A Q hK hP hD hS hA hN hXS hRet ls hl
  have hl : lv_has ls 4 [(0, .ref k), (1, .ref o)] := hl
  refine lv_iconst (v := 0) hx hb dX0_survey_0 (by decide +kernel) ?_
  refine lv_istore_n (lv' := [(2, .int 0), (0, .ref k), (1, .ref o)]) hx hb dX0_survey_1 rfl hl (by decide +kernel) rfl ?_
  clear hl
  intro ls hl
  have hloop_2 : ∀ (fu_ : Nat) (l2_2 : Int32) (g2_k0 : Nat → Int32) (g2_k1 : Nat → Int32), 0 ≤ l2_2.toInt → (40 - l2_2.toInt).toNat < fu_ → ∀ (ls : Array Slot) (H : Heap) (locs : List Loc), lv_has ls 4 [(2, .int l2_2), (0, .ref k), (1, .ref o)] → va_P D vwCl [(k, .inr (0, [.ref k0, .ref k1, .ref k2, .ref k3, .ref k4, .int c5])), (k0, .inl (cI, 41, .inl g2_k0)), (k1, .inl (cI, 41, .inl g2_k1)), (o, .inr (9, [.ref o0, .ref o1, .ref o2, .ref o3, .ref o4, .ref o5, .int d6, .int d7, .int d8])), (o0, .inl (cI, 12, .inl d0)), (o4, .inr (8, [.ref o40, .ref o41, .ref o42, .ref o43, .ref o44, .ref o45, .ref o46, .ref o47, .ref o48, .int d49])), (o40, .inl (cI, 60, .inl d40)), (o41, .inl (cI, 60, .inl d41)), (o43, .inl (cI, 60, .inl d43)), (o45, .inl (cI, 60, .inl d45)), (o46, .inl (cI, 40, .inl d46))] H → va_D A [(k, .inr (0, [.ref k0, .ref k1, .ref k2, .ref k3, .ref k4, .int c5])), (k0, .inl (cI, 41, .inl g2_k0)), (k1, .inl (cI, 41, .inl g2_k1)), (o, .inr (9, [.ref o0, .ref o1, .ref o2, .ref o3, .ref o4, .ref o5, .int d6, .int d7, .int d8])), (o0, .inl (cI, 12, .inl d0)), (o4, .inr (8, [.ref o40, .ref o41, .ref o42, .ref o43, .ref o44, .ref o45, .ref o46, .ref o47, .ref o48, .int d49])), (o40, .inl (cI, 60, .inl d40)), (o41, .inl (cI, 60, .inl d41)), (o43, .inl (cI, 60, .inl d43)), (o45, .inl (cI, 60, .inl d45)), (o46, .inl (cI, 40, .inl d46))] → va_S A s.heap H locs → W p l e ({ frames := 3, cells := 0, slots := 0, locals := 68 } : Room) s m args below meth c H locs 0 0 Q (F0 m 2 ls []) := by
    intro fu_; induction fu_ with
    | zero => intro l2_2 g2_k0 g2_k1 i2_0 hm; exact absurd hm (by omega)
    | succ fu_ ih2 =>
        intro l2_2 g2_k0 g2_k1 i2_0 hm ls H locs hl hP hD hS
        have lo_l2_2 := k_lo l2_2
        have hi_l2_2 := k_hi l2_2
        refine lv_iload_n hx hb dX0_survey_2 rfl (lv_at hl 0 rfl) ?_
        refine lv_bipush (v := 40) hx hb dX0_survey_3 (by decide +kernel) ?_
        refine b_icmp_ge hx hb rfl zl_40 (tgt := 64) dX0_survey_5 (by decide +kernel) (fun c_1 => ?_) (fun c_1 => ?_)
        · exact hRet (g2_k0, g2_k1) [0, 1, 2, 3, 4, 5, 6, 7, 8, 9, 10] trivial hP hD (by decide +kernel) rfl hS dX0_survey_64
        · refine lv_aload_n hx hb dX0_survey_8 rfl (lv_at hl 2 rfl) ?_
          refine lv_iload_n hx hb dX0_survey_9 rfl (lv_at hl 0 rfl) ?_
          refine kJi (wr := [(k, .inr (0, [.ref k0, .ref k1, .ref k2, .ref k3, .ref k4, .int c5])), (k0, .inl (cI, 41, .inl g2_k0)), (k1, .inl (cI, 41, .inl g2_k1))]) (va_runV (As := [.int l2_2]) (rest := []) ⟨hx, hb, hml, hown, hT⟩ (c_X9_leakOfG l D cI aK aV o o0 o1 o2 o3 o4 o5 o40 o41 o42 o43 o44 o45 o46 o47 o48 H.size d6 d7 d8 d0 d49 d40 d41 d43 d45 d46 l2_2) (cwV 1 hT (gV_in mw_628 mw_773 mw_626 mw_627 mw_2) rfl rfl rfl (by decide +kernel) ⟨Nat.le_of_ble_eq_true rfl, Nat.le_of_ble_eq_true rfl⟩) (kRecvX (q0 := 3) (ci := 9) hK hP hD hN hXS hS hA rfl rfl [3, 4, 5, 6, 7, 8, 9, 10] rfl (by decide +kernel)) rfl rfl hl.1 rfl (lv_room (Nat.le_of_ble_eq_true rfl)) dX0_survey_10 ⟨Nat.le_of_ble_eq_true rfl, Nat.le_of_ble_eq_true rfl⟩) hP hD hS hA [3, 4, 5, 6, 7, 8, 9, 10] [0, 1, 2] rfl rfl (by decide +kernel) (by decide +kernel) ?_
          clear hP hD hS
          intro r_2 u_4 H locs w_3 hP hD hS
          replace hP : va_P D vwCl [(k, .inr (0, [.ref k0, .ref k1, .ref k2, .ref k3, .ref k4, .int c5])), (k0, .inl (cI, 41, .inl g2_k0)), (k1, .inl (cI, 41, .inl g2_k1)), (o, .inr (9, [.ref o0, .ref o1, .ref o2, .ref o3, .ref o4, .ref o5, .int d6, .int d7, .int d8])), (o0, .inl (cI, 12, .inl d0)), (o4, .inr (8, [.ref o40, .ref o41, .ref o42, .ref o43, .ref o44, .ref o45, .ref o46, .ref o47, .ref o48, .int d49])), (o40, .inl (cI, 60, .inl d40)), (o41, .inl (cI, 60, .inl d41)), (o43, .inl (cI, 60, .inl d43)), (o45, .inl (cI, 60, .inl d45)), (o46, .inl (cI, 40, .inl d46))] H := hP
          replace hD : va_D A [(k, .inr (0, [.ref k0, .ref k1, .ref k2, .ref k3, .ref k4, .int c5])), (k0, .inl (cI, 41, .inl g2_k0)), (k1, .inl (cI, 41, .inl g2_k1)), (o, .inr (9, [.ref o0, .ref o1, .ref o2, .ref o3, .ref o4, .ref o5, .int d6, .int d7, .int d8])), (o0, .inl (cI, 12, .inl d0)), (o4, .inr (8, [.ref o40, .ref o41, .ref o42, .ref o43, .ref o44, .ref o45, .ref o46, .ref o47, .ref o48, .int d49])), (o40, .inl (cI, 60, .inl d40)), (o41, .inl (cI, 60, .inl d41)), (o43, .inl (cI, 60, .inl d43)), (o45, .inl (cI, 60, .inl d45)), (o46, .inl (cI, 40, .inl d46))] := hD
          have lo_r_2 := k_lo r_2
          have hi_r_2 := k_hi r_2
          refine lv_istore_n (lv' := [(3, .int r_2), (2, .int l2_2), (0, .ref k), (1, .ref o)]) hx hb dX0_survey_13 rfl hl (by decide +kernel) rfl ?_
          clear hl
          intro ls hl
          refine lv_aload_n hx hb dX0_survey_14 rfl (lv_at hl 2 rfl) ?_
          refine va_get (D := D) (ci := 0) (v := .ref k0) (C := RX0) (T := TX0) (N := 6) hx hb hT giX0 hown hK hP 0 rfl rfl 0 (by decide +kernel) (hT (Cond.fieldLink RX0 9 "DesertWire$Hands" "leaks" "[I") mw_199) (fun _ h9 => h9) rfl dX0_survey_15 ?_
          refine lv_iload_n hx hb dX0_survey_18 rfl (lv_at hl 1 rfl) ?_
          refine lv_iconst (v := 1) hx hb dX0_survey_19 (by decide +kernel) ?_
          refine lv_iadd hx hb dX0_survey_20 ?_
          refine lv_topi (fun v_5 ev_5 => ?_)
          have tv_5 : v_5.toInt = l2_2.toInt + 1 := by rw [ev_5]; exact k_addv rfl zl_1 (by omega) (by omega)
          refine lv_aload_n hx hb dX0_survey_21 rfl (lv_at hl 2 rfl) ?_
          refine va_get (D := D) (ci := 0) (v := .ref k0) (C := RX0) (T := TX0) (N := 6) hx hb hT giX0 hown hK hP 0 rfl rfl 0 (by decide +kernel) (hT (Cond.fieldLink RX0 9 "DesertWire$Hands" "leaks" "[I") mw_199) (fun _ h9 => h9) rfl dX0_survey_22 ?_
          refine lv_iload_n hx hb dX0_survey_25 rfl (lv_at hl 1 rfl) ?_
          refine k_iald (v := (g2_k0 l2_2.toNatClampNeg)) hx hb hK hP 1 0 rfl rfl (k_in (by omega) (by omega)) rfl dX0_survey_26 ?_
          refine lv_topi (fun v_6 ev_6 => ?_)
          have lo_v_6 := k_lo v_6
          have hi_v_6 := k_hi v_6
          have tv_6 : v_6.toInt = (g2_k0 l2_2.toNatClampNeg).toInt := by rw [ev_6]
          refine lv_iconst (v := 0) hx hb dX0_survey_27 (by decide +kernel) ?_
          refine lv_iload_n hx hb dX0_survey_28 rfl (lv_at hl 0 rfl) ?_
          refine va_mmax hx hb (hml.trans hl.1.symm) hown (hT _ mw_774) (hT _ mw_426) (hT _ mw_13) (hT _ mw_427) (Nat.le_of_ble_eq_true rfl) (Nat.le_of_ble_eq_true rfl) (Nat.le_of_ble_eq_true rfl) (Nat.le_of_ble_eq_true rfl) dX0_survey_29 ?_
          refine lv_topi (fun v_7 ev_7 => ?_)
          have lo_v_7 := k_lo v_7
          have hi_v_7 := k_hi v_7
          have tv_7 : v_7.toInt = k_max 0 r_2.toInt := by rw [ev_7]; exact k_mmax zl_0 rfl
          have sv_7 := k_max_spec (0) (r_2.toInt)
          refine lv_iadd hx hb dX0_survey_32 ?_
          refine lv_topi (fun v_8 ev_8 => ?_)
          have lo_v_8 := k_lo v_8
          have hi_v_8 := k_hi v_8
          refine va_iast hx hb hK hP hD hS 1 0 rfl rfl (k_in (by omega) (by omega)) dX0_survey_33 ?_
          clear hP hD hS
          intro H locs hP hD hS
          replace hP : va_P D vwCl [(k, .inr (0, [.ref k0, .ref k1, .ref k2, .ref k3, .ref k4, .int c5])), (k0, .inl (cI, 41, .inl (upd g2_k0 v_5.toNatClampNeg v_8))), (k1, .inl (cI, 41, .inl g2_k1)), (o, .inr (9, [.ref o0, .ref o1, .ref o2, .ref o3, .ref o4, .ref o5, .int d6, .int d7, .int d8])), (o0, .inl (cI, 12, .inl d0)), (o4, .inr (8, [.ref o40, .ref o41, .ref o42, .ref o43, .ref o44, .ref o45, .ref o46, .ref o47, .ref o48, .int d49])), (o40, .inl (cI, 60, .inl d40)), (o41, .inl (cI, 60, .inl d41)), (o43, .inl (cI, 60, .inl d43)), (o45, .inl (cI, 60, .inl d45)), (o46, .inl (cI, 40, .inl d46))] H := hP
          replace hD : va_D A [(k, .inr (0, [.ref k0, .ref k1, .ref k2, .ref k3, .ref k4, .int c5])), (k0, .inl (cI, 41, .inl (upd g2_k0 v_5.toNatClampNeg v_8))), (k1, .inl (cI, 41, .inl g2_k1)), (o, .inr (9, [.ref o0, .ref o1, .ref o2, .ref o3, .ref o4, .ref o5, .int d6, .int d7, .int d8])), (o0, .inl (cI, 12, .inl d0)), (o4, .inr (8, [.ref o40, .ref o41, .ref o42, .ref o43, .ref o44, .ref o45, .ref o46, .ref o47, .ref o48, .int d49])), (o40, .inl (cI, 60, .inl d40)), (o41, .inl (cI, 60, .inl d41)), (o43, .inl (cI, 60, .inl d43)), (o45, .inl (cI, 60, .inl d45)), (o46, .inl (cI, 40, .inl d46))] := hD
          obtain ⟨f_9, ef_9⟩ : ∃ g : Nat → Int32, g = upd g2_k0 v_5.toNatClampNeg v_8 := ⟨_, rfl⟩
          rw [← ef_9] at hP hD
          refine lv_aload_n hx hb dX0_survey_34 rfl (lv_at hl 2 rfl) ?_
          refine va_get (D := D) (ci := 0) (v := .ref k1) (C := RX0) (T := TX0) (N := 6) hx hb hT giX0 hown hK hP 0 rfl rfl 1 (by decide +kernel) (hT (Cond.fieldLink RX0 15 "DesertWire$Hands" "gaps" "[I") mw_200) (fun _ h9 => h9) rfl dX0_survey_35 ?_
          refine lv_iload_n hx hb dX0_survey_38 rfl (lv_at hl 1 rfl) ?_
          refine lv_iconst (v := 1) hx hb dX0_survey_39 (by decide +kernel) ?_
          refine lv_iadd hx hb dX0_survey_40 ?_
          refine lv_topi (fun v_10 ev_10 => ?_)
          have tv_10 : v_10.toInt = l2_2.toInt + 1 := by rw [ev_10]; exact k_addv rfl zl_1 (by omega) (by omega)
          refine lv_aload_n hx hb dX0_survey_41 rfl (lv_at hl 2 rfl) ?_
          refine va_get (D := D) (ci := 0) (v := .ref k1) (C := RX0) (T := TX0) (N := 6) hx hb hT giX0 hown hK hP 0 rfl rfl 1 (by decide +kernel) (hT (Cond.fieldLink RX0 15 "DesertWire$Hands" "gaps" "[I") mw_200) (fun _ h9 => h9) rfl dX0_survey_42 ?_
          refine lv_iload_n hx hb dX0_survey_45 rfl (lv_at hl 1 rfl) ?_
          refine k_iald (v := (g2_k1 l2_2.toNatClampNeg)) hx hb hK hP 2 0 rfl rfl (k_in (by omega) (by omega)) rfl dX0_survey_46 ?_
          refine lv_topi (fun v_11 ev_11 => ?_)
          have lo_v_11 := k_lo v_11
          have hi_v_11 := k_hi v_11
          have tv_11 : v_11.toInt = (g2_k1 l2_2.toNatClampNeg).toInt := by rw [ev_11]
          refine lv_iload_n hx hb dX0_survey_47 rfl (lv_at hl 0 rfl) ?_
          refine b_if_ge hx hb rfl (tgt := 55) dX0_survey_48 (by decide +kernel) (fun c_12 => ?_) (fun c_12 => ?_)
          · refine lv_iconst (v := 0) hx hb dX0_survey_55 (by decide +kernel) ?_
            refine lv_iadd hx hb dX0_survey_56 ?_
            refine lv_topi (fun v_13 ev_13 => ?_)
            have tv_13 : v_13.toInt = v_11.toInt + 0 := by rw [ev_13]; exact k_addv rfl zl_0 (by omega) (by omega)
            refine va_iast hx hb hK hP hD hS 2 0 rfl rfl (k_in (by omega) (by omega)) dX0_survey_57 ?_
            clear hP hD hS
            intro H locs hP hD hS
            replace hP : va_P D vwCl [(k, .inr (0, [.ref k0, .ref k1, .ref k2, .ref k3, .ref k4, .int c5])), (k0, .inl (cI, 41, .inl f_9)), (k1, .inl (cI, 41, .inl (upd g2_k1 v_10.toNatClampNeg v_13))), (o, .inr (9, [.ref o0, .ref o1, .ref o2, .ref o3, .ref o4, .ref o5, .int d6, .int d7, .int d8])), (o0, .inl (cI, 12, .inl d0)), (o4, .inr (8, [.ref o40, .ref o41, .ref o42, .ref o43, .ref o44, .ref o45, .ref o46, .ref o47, .ref o48, .int d49])), (o40, .inl (cI, 60, .inl d40)), (o41, .inl (cI, 60, .inl d41)), (o43, .inl (cI, 60, .inl d43)), (o45, .inl (cI, 60, .inl d45)), (o46, .inl (cI, 40, .inl d46))] H := hP
            replace hD : va_D A [(k, .inr (0, [.ref k0, .ref k1, .ref k2, .ref k3, .ref k4, .int c5])), (k0, .inl (cI, 41, .inl f_9)), (k1, .inl (cI, 41, .inl (upd g2_k1 v_10.toNatClampNeg v_13))), (o, .inr (9, [.ref o0, .ref o1, .ref o2, .ref o3, .ref o4, .ref o5, .int d6, .int d7, .int d8])), (o0, .inl (cI, 12, .inl d0)), (o4, .inr (8, [.ref o40, .ref o41, .ref o42, .ref o43, .ref o44, .ref o45, .ref o46, .ref o47, .ref o48, .int d49])), (o40, .inl (cI, 60, .inl d40)), (o41, .inl (cI, 60, .inl d41)), (o43, .inl (cI, 60, .inl d43)), (o45, .inl (cI, 60, .inl d45)), (o46, .inl (cI, 40, .inl d46))] := hD
            obtain ⟨f_14, ef_14⟩ : ∃ g : Nat → Int32, g = upd g2_k1 v_10.toNatClampNeg v_13 := ⟨_, rfl⟩
            rw [← ef_14] at hP hD
            obtain ⟨v_15, ev_15⟩ : ∃ y : Int32, y = l2_2 + 1 := ⟨_, rfl⟩
            have tv_15 : v_15.toInt = l2_2.toInt + 1 := by rw [ev_15]; exact k_addv rfl zl_1 (by omega) (by omega)
            refine lv_iinc (v := v_15) (lv' := [(2, .int v_15), (3, .int r_2), (0, .ref k), (1, .ref o)]) hx hb dX0_survey_58 hl (k := 1) rfl (by rw [ev_15]; rfl) (by decide +kernel) rfl ?_
            clear hl
            intro ls hl
            refine lv_goto (tgt := 2) hx hb dX0_survey_61 (by decide +kernel) ?_
            exact ih2 v_15 f_9 f_14 (by first | omega | decide | assumption | rfl) (by omega) ls _ _ (lv_sub hl [0, 2, 3] rfl) (hP.sub [0, 1, 2, 3, 4, 5, 6, 7, 8, 9, 10] rfl) (hD.sub [0, 1, 2, 3, 4, 5, 6, 7, 8, 9, 10] (by decide +kernel) rfl) hS
          · refine lv_iconst (v := 1) hx hb dX0_survey_51 (by decide +kernel) ?_
            refine lv_goto (tgt := 56) hx hb dX0_survey_52 (by decide +kernel) ?_
            refine lv_iadd hx hb dX0_survey_56 ?_
            refine lv_topi (fun v_16 ev_16 => ?_)
            have lo_v_16 := k_lo v_16
            have hi_v_16 := k_hi v_16
            refine va_iast hx hb hK hP hD hS 2 0 rfl rfl (k_in (by omega) (by omega)) dX0_survey_57 ?_
            clear hP hD hS
            intro H locs hP hD hS
            replace hP : va_P D vwCl [(k, .inr (0, [.ref k0, .ref k1, .ref k2, .ref k3, .ref k4, .int c5])), (k0, .inl (cI, 41, .inl f_9)), (k1, .inl (cI, 41, .inl (upd g2_k1 v_10.toNatClampNeg v_16))), (o, .inr (9, [.ref o0, .ref o1, .ref o2, .ref o3, .ref o4, .ref o5, .int d6, .int d7, .int d8])), (o0, .inl (cI, 12, .inl d0)), (o4, .inr (8, [.ref o40, .ref o41, .ref o42, .ref o43, .ref o44, .ref o45, .ref o46, .ref o47, .ref o48, .int d49])), (o40, .inl (cI, 60, .inl d40)), (o41, .inl (cI, 60, .inl d41)), (o43, .inl (cI, 60, .inl d43)), (o45, .inl (cI, 60, .inl d45)), (o46, .inl (cI, 40, .inl d46))] H := hP
            replace hD : va_D A [(k, .inr (0, [.ref k0, .ref k1, .ref k2, .ref k3, .ref k4, .int c5])), (k0, .inl (cI, 41, .inl f_9)), (k1, .inl (cI, 41, .inl (upd g2_k1 v_10.toNatClampNeg v_16))), (o, .inr (9, [.ref o0, .ref o1, .ref o2, .ref o3, .ref o4, .ref o5, .int d6, .int d7, .int d8])), (o0, .inl (cI, 12, .inl d0)), (o4, .inr (8, [.ref o40, .ref o41, .ref o42, .ref o43, .ref o44, .ref o45, .ref o46, .ref o47, .ref o48, .int d49])), (o40, .inl (cI, 60, .inl d40)), (o41, .inl (cI, 60, .inl d41)), (o43, .inl (cI, 60, .inl d43)), (o45, .inl (cI, 60, .inl d45)), (o46, .inl (cI, 40, .inl d46))] := hD
            obtain ⟨f_17, ef_17⟩ : ∃ g : Nat → Int32, g = upd g2_k1 v_10.toNatClampNeg v_16 := ⟨_, rfl⟩
            rw [← ef_17] at hP hD
            obtain ⟨v_18, ev_18⟩ : ∃ y : Int32, y = l2_2 + 1 := ⟨_, rfl⟩
            have tv_18 : v_18.toInt = l2_2.toInt + 1 := by rw [ev_18]; exact k_addv rfl zl_1 (by omega) (by omega)
            refine lv_iinc (v := v_18) (lv' := [(2, .int v_18), (3, .int r_2), (0, .ref k), (1, .ref o)]) hx hb dX0_survey_58 hl (k := 1) rfl (by rw [ev_18]; rfl) (by decide +kernel) rfl ?_
            clear hl
            intro ls hl
            refine lv_goto (tgt := 2) hx hb dX0_survey_61 (by decide +kernel) ?_
            exact ih2 v_18 f_9 f_17 (by first | omega | decide | assumption | rfl) (by omega) ls _ _ (lv_sub hl [0, 2, 3] rfl) (hP.sub [0, 1, 2, 3, 4, 5, 6, 7, 8, 9, 10] rfl) (hD.sub [0, 1, 2, 3, 4, 5, 6, 7, 8, 9, 10] (by decide +kernel) rfl) hS
  exact hloop_2 _ 0 c0 c1 (by first | omega | (simp only [zl_0]; first | done | omega) | decide | assumption | rfl) (Nat.lt_succ_self _) ls _ _ (lv_sub hl [0, 1, 2] rfl) hP hD hS
theorem bn_cX0_canRead_0 : BN cX0_canRead 0 0xad45865179840a060b02802b5158bc0e16050056a2b10005422f0305820015a8ac5e610281c2c1000ad4563300a681016040dc080500aa00a0800a6878015c81c2c1000a6878015c8182cad0281802a1038580c16038dc4c015c8d802b70f014343600adc3a050d0186e3900ae46c015b8780a1a1b0056e1d028695a0403005343000adc3c050d034029b180056e1d028680a3b160056a2c := by
  unfold BN; decide +kernel
theorem dX0_canRead_0 : decode cX0_canRead 0 = .ok (.aload_n 1, 1) := dR0 (k := 0) (i := 0) bn_cX0_canRead_0 dop_43 (by decide +kernel)
theorem dX0_canRead_1 : decode cX0_canRead 1 = .ok (.getfield 43, 3) := dR2 (f := Instr.getfield) (k := 0) (i := 1) bn_cX0_canRead_0 dop_180 43 (by decide +kernel)
theorem dX0_canRead_4 : decode cX0_canRead 4 = .ok (.astore 4, 2) := dR1 (f := Instr.astore) (k := 0) (i := 4) bn_cX0_canRead_0 dop_58 4 (by decide +kernel)
theorem dX0_canRead_6 : decode cX0_canRead 6 = .ok (.aload 4, 2) := dR1 (f := Instr.aload) (k := 0) (i := 6) bn_cX0_canRead_0 dop_25 4 (by decide +kernel)
theorem dX0_canRead_8 : decode cX0_canRead 8 = .ok (.iload_n 2, 1) := dR0 (k := 0) (i := 8) bn_cX0_canRead_0 dop_28 (by decide +kernel)
theorem dX0_canRead_9 : decode cX0_canRead 9 = .ok (.invokevirtual 47, 3) := dR2 (f := Instr.invokevirtual) (k := 0) (i := 9) bn_cX0_canRead_0 dop_182 47 (by decide +kernel)
theorem dX0_canRead_12 : decode cX0_canRead 12 = .ok (.ifCond .ne 12, 3) := dR2s (f := Instr.ifCond .ne) (k := 0) (i := 12) bn_cX0_canRead_0 dop_154 12 12 (by decide +kernel)
theorem dX0_canRead_15 : decode cX0_canRead 15 = .ok (.aload 4, 2) := dR1 (f := Instr.aload) (k := 0) (i := 15) bn_cX0_canRead_0 dop_25 4 (by decide +kernel)
theorem dX0_canRead_17 : decode cX0_canRead 17 = .ok (.iload_n 3, 1) := dR0 (k := 0) (i := 17) bn_cX0_canRead_0 dop_29 (by decide +kernel)
theorem dX0_canRead_18 : decode cX0_canRead 18 = .ok (.invokevirtual 47, 3) := dR2 (f := Instr.invokevirtual) (k := 0) (i := 18) bn_cX0_canRead_0 dop_182 47 (by decide +kernel)
theorem dX0_canRead_21 : decode cX0_canRead 21 = .ok (.ifCond .eq 5, 3) := dR2s (f := Instr.ifCond .eq) (k := 0) (i := 21) bn_cX0_canRead_0 dop_153 5 5 (by decide +kernel)
theorem dX0_canRead_24 : decode cX0_canRead 24 = .ok (.iconst 0, 1) := dR0 (k := 0) (i := 24) bn_cX0_canRead_0 dop_3 (by decide +kernel)
theorem dX0_canRead_25 : decode cX0_canRead 25 = .ok (.ireturn, 1) := dR0 (k := 0) (i := 25) bn_cX0_canRead_0 dop_172 (by decide +kernel)
theorem dX0_canRead_26 : decode cX0_canRead 26 = .ok (.aload 4, 2) := dR1 (f := Instr.aload) (k := 0) (i := 26) bn_cX0_canRead_0 dop_25 4 (by decide +kernel)
theorem dX0_canRead_28 : decode cX0_canRead 28 = .ok (.iload_n 2, 1) := dR0 (k := 0) (i := 28) bn_cX0_canRead_0 dop_28 (by decide +kernel)
theorem dX0_canRead_29 : decode cX0_canRead 29 = .ok (.invokevirtual 53, 3) := dR2 (f := Instr.invokevirtual) (k := 0) (i := 29) bn_cX0_canRead_0 dop_182 53 (by decide +kernel)
theorem dX0_canRead_32 : decode cX0_canRead 32 = .ok (.aload 4, 2) := dR1 (f := Instr.aload) (k := 0) (i := 32) bn_cX0_canRead_0 dop_25 4 (by decide +kernel)
theorem dX0_canRead_34 : decode cX0_canRead 34 = .ok (.iload_n 3, 1) := dR0 (k := 0) (i := 34) bn_cX0_canRead_0 dop_29 (by decide +kernel)
theorem dX0_canRead_35 : decode cX0_canRead 35 = .ok (.invokevirtual 53, 3) := dR2 (f := Instr.invokevirtual) (k := 0) (i := 35) bn_cX0_canRead_0 dop_182 53 (by decide +kernel)
theorem dX0_canRead_38 : decode cX0_canRead 38 = .ok (.invokestatic 56, 3) := dR2 (f := Instr.invokestatic) (k := 0) (i := 38) bn_cX0_canRead_0 dop_184 56 (by decide +kernel)
theorem dX0_canRead_41 : decode cX0_canRead 41 = .ok (.istore 5, 2) := dR1 (f := Instr.istore) (k := 0) (i := 41) bn_cX0_canRead_0 dop_54 5 (by decide +kernel)
theorem dX0_canRead_43 : decode cX0_canRead 43 = .ok (.aload 4, 2) := dR1 (f := Instr.aload) (k := 0) (i := 43) bn_cX0_canRead_0 dop_25 4 (by decide +kernel)
theorem dX0_canRead_45 : decode cX0_canRead 45 = .ok (.iload_n 2, 1) := dR0 (k := 0) (i := 45) bn_cX0_canRead_0 dop_28 (by decide +kernel)
theorem dX0_canRead_46 : decode cX0_canRead 46 = .ok (.invokevirtual 53, 3) := dR2 (f := Instr.invokevirtual) (k := 0) (i := 46) bn_cX0_canRead_0 dop_182 53 (by decide +kernel)
theorem dX0_canRead_49 : decode cX0_canRead 49 = .ok (.aload 4, 2) := dR1 (f := Instr.aload) (k := 0) (i := 49) bn_cX0_canRead_0 dop_25 4 (by decide +kernel)
theorem dX0_canRead_51 : decode cX0_canRead 51 = .ok (.iload_n 3, 1) := dR0 (k := 0) (i := 51) bn_cX0_canRead_0 dop_29 (by decide +kernel)
theorem dX0_canRead_52 : decode cX0_canRead 52 = .ok (.invokevirtual 53, 3) := dR2 (f := Instr.invokevirtual) (k := 0) (i := 52) bn_cX0_canRead_0 dop_182 53 (by decide +kernel)
theorem dX0_canRead_55 : decode cX0_canRead 55 = .ok (.invokestatic 37, 3) := dR2 (f := Instr.invokestatic) (k := 0) (i := 55) bn_cX0_canRead_0 dop_184 37 (by decide +kernel)
theorem dX0_canRead_58 : decode cX0_canRead 58 = .ok (.istore 6, 2) := dR1 (f := Instr.istore) (k := 0) (i := 58) bn_cX0_canRead_0 dop_54 6 (by decide +kernel)
theorem dX0_canRead_60 : decode cX0_canRead 60 = .ok (.iload 5, 2) := dR1 (f := Instr.iload) (k := 0) (i := 60) bn_cX0_canRead_0 dop_21 5 (by decide +kernel)
theorem dX0_canRead_62 : decode cX0_canRead 62 = .ok (.iload 6, 2) := dR1 (f := Instr.iload) (k := 0) (i := 62) bn_cX0_canRead_0 dop_21 6 (by decide +kernel)
theorem dX0_canRead_64 : decode cX0_canRead 64 = .ok (.if_icmp .ne 5, 3) := dR2s (f := Instr.if_icmp .ne) (k := 0) (i := 64) bn_cX0_canRead_0 dop_160 5 5 (by decide +kernel)
theorem dX0_canRead_67 : decode cX0_canRead 67 = .ok (.iconst 1, 1) := dR0 (k := 0) (i := 67) bn_cX0_canRead_0 dop_4 (by decide +kernel)
theorem dX0_canRead_68 : decode cX0_canRead 68 = .ok (.ireturn, 1) := dR0 (k := 0) (i := 68) bn_cX0_canRead_0 dop_172 (by decide +kernel)
theorem dX0_canRead_69 : decode cX0_canRead 69 = .ok (.iload 5, 2) := dR1 (f := Instr.iload) (k := 0) (i := 69) bn_cX0_canRead_0 dop_21 5 (by decide +kernel)
theorem dX0_canRead_71 : decode cX0_canRead 71 = .ok (.invokestatic 59, 3) := dR2 (f := Instr.invokestatic) (k := 0) (i := 71) bn_cX0_canRead_0 dop_184 59 (by decide +kernel)
theorem dX0_canRead_74 : decode cX0_canRead 74 = .ok (.ifCond .eq 15, 3) := dR2s (f := Instr.ifCond .eq) (k := 0) (i := 74) bn_cX0_canRead_0 dop_153 15 15 (by decide +kernel)
theorem dX0_canRead_77 : decode cX0_canRead 77 = .ok (.iload 6, 2) := dR1 (f := Instr.iload) (k := 0) (i := 77) bn_cX0_canRead_0 dop_21 6 (by decide +kernel)
theorem dX0_canRead_79 : decode cX0_canRead 79 = .ok (.invokestatic 59, 3) := dR2 (f := Instr.invokestatic) (k := 0) (i := 79) bn_cX0_canRead_0 dop_184 59 (by decide +kernel)
theorem dX0_canRead_82 : decode cX0_canRead 82 = .ok (.ifCond .eq 7, 3) := dR2s (f := Instr.ifCond .eq) (k := 0) (i := 82) bn_cX0_canRead_0 dop_153 7 7 (by decide +kernel)
theorem dX0_canRead_85 : decode cX0_canRead 85 = .ok (.iconst 1, 1) := dR0 (k := 0) (i := 85) bn_cX0_canRead_0 dop_4 (by decide +kernel)
theorem dX0_canRead_86 : decode cX0_canRead 86 = .ok (.goto 4, 3) := dR2s (f := Instr.goto) (k := 0) (i := 86) bn_cX0_canRead_0 dop_167 4 4 (by decide +kernel)
theorem dX0_canRead_89 : decode cX0_canRead 89 = .ok (.iconst 0, 1) := dR0 (k := 0) (i := 89) bn_cX0_canRead_0 dop_3 (by decide +kernel)
theorem dX0_canRead_90 : decode cX0_canRead 90 = .ok (.istore 7, 2) := dR1 (f := Instr.istore) (k := 0) (i := 90) bn_cX0_canRead_0 dop_54 7 (by decide +kernel)
theorem dX0_canRead_92 : decode cX0_canRead 92 = .ok (.iload 7, 2) := dR1 (f := Instr.iload) (k := 0) (i := 92) bn_cX0_canRead_0 dop_21 7 (by decide +kernel)
theorem dX0_canRead_94 : decode cX0_canRead 94 = .ok (.ifCond .eq 50, 3) := dR2s (f := Instr.ifCond .eq) (k := 0) (i := 94) bn_cX0_canRead_0 dop_153 50 50 (by decide +kernel)
theorem dX0_canRead_97 : decode cX0_canRead 97 = .ok (.aload_n 0, 1) := dR0 (k := 0) (i := 97) bn_cX0_canRead_0 dop_42 (by decide +kernel)
theorem dX0_canRead_98 : decode cX0_canRead 98 = .ok (.getfield 15, 3) := dR2 (f := Instr.getfield) (k := 0) (i := 98) bn_cX0_canRead_0 dop_180 15 (by decide +kernel)
theorem dX0_canRead_101 : decode cX0_canRead 101 = .ok (.iload 6, 2) := dR1 (f := Instr.iload) (k := 0) (i := 101) bn_cX0_canRead_0 dop_21 6 (by decide +kernel)
theorem dX0_canRead_103 : decode cX0_canRead 103 = .ok (.iconst 1, 1) := dR0 (k := 0) (i := 103) bn_cX0_canRead_0 dop_4 (by decide +kernel)
theorem dX0_canRead_104 : decode cX0_canRead 104 = .ok (.iadd, 1) := dR0 (k := 0) (i := 104) bn_cX0_canRead_0 dop_96 (by decide +kernel)
theorem dX0_canRead_105 : decode cX0_canRead 105 = .ok (.iaload, 1) := dR0 (k := 0) (i := 105) bn_cX0_canRead_0 dop_46 (by decide +kernel)
theorem dX0_canRead_106 : decode cX0_canRead 106 = .ok (.aload_n 0, 1) := dR0 (k := 0) (i := 106) bn_cX0_canRead_0 dop_42 (by decide +kernel)
theorem dX0_canRead_107 : decode cX0_canRead 107 = .ok (.getfield 15, 3) := dR2 (f := Instr.getfield) (k := 0) (i := 107) bn_cX0_canRead_0 dop_180 15 (by decide +kernel)
theorem dX0_canRead_110 : decode cX0_canRead 110 = .ok (.iload 5, 2) := dR1 (f := Instr.iload) (k := 0) (i := 110) bn_cX0_canRead_0 dop_21 5 (by decide +kernel)
theorem dX0_canRead_112 : decode cX0_canRead 112 = .ok (.iaload, 1) := dR0 (k := 0) (i := 112) bn_cX0_canRead_0 dop_46 (by decide +kernel)
theorem dX0_canRead_113 : decode cX0_canRead 113 = .ok (.if_icmp .ne 31, 3) := dR2s (f := Instr.if_icmp .ne) (k := 0) (i := 113) bn_cX0_canRead_0 dop_160 31 31 (by decide +kernel)
theorem dX0_canRead_116 : decode cX0_canRead 116 = .ok (.aload_n 0, 1) := dR0 (k := 0) (i := 116) bn_cX0_canRead_0 dop_42 (by decide +kernel)
theorem dX0_canRead_117 : decode cX0_canRead 117 = .ok (.getfield 9, 3) := dR2 (f := Instr.getfield) (k := 0) (i := 117) bn_cX0_canRead_0 dop_180 9 (by decide +kernel)
theorem dX0_canRead_120 : decode cX0_canRead 120 = .ok (.iload 6, 2) := dR1 (f := Instr.iload) (k := 0) (i := 120) bn_cX0_canRead_0 dop_21 6 (by decide +kernel)
theorem dX0_canRead_122 : decode cX0_canRead 122 = .ok (.iaload, 1) := dR0 (k := 0) (i := 122) bn_cX0_canRead_0 dop_46 (by decide +kernel)
theorem dX0_canRead_123 : decode cX0_canRead 123 = .ok (.aload_n 0, 1) := dR0 (k := 0) (i := 123) bn_cX0_canRead_0 dop_42 (by decide +kernel)
theorem dX0_canRead_124 : decode cX0_canRead 124 = .ok (.getfield 9, 3) := dR2 (f := Instr.getfield) (k := 0) (i := 124) bn_cX0_canRead_0 dop_180 9 (by decide +kernel)
theorem dX0_canRead_127 : decode cX0_canRead 127 = .ok (.iload 5, 2) := dR1 (f := Instr.iload) (k := 0) (i := 127) bn_cX0_canRead_0 dop_21 5 (by decide +kernel)
theorem bn_cX0_canRead_128 : BN cX0_canRead 128 0x15a0402805500504005483f00ad45865179840a06 := by
  unfold BN; decide +kernel
theorem dX0_canRead_129 : decode cX0_canRead 129 = .ok (.iconst 1, 1) := dR0 (k := 128) (i := 1) bn_cX0_canRead_128 dop_4 (by decide +kernel)
theorem dX0_canRead_130 : decode cX0_canRead 130 = .ok (.iadd, 1) := dR0 (k := 128) (i := 2) bn_cX0_canRead_128 dop_96 (by decide +kernel)
theorem dX0_canRead_131 : decode cX0_canRead 131 = .ok (.iaload, 1) := dR0 (k := 128) (i := 3) bn_cX0_canRead_128 dop_46 (by decide +kernel)
theorem dX0_canRead_132 : decode cX0_canRead 132 = .ok (.isub, 1) := dR0 (k := 128) (i := 4) bn_cX0_canRead_128 dop_100 (by decide +kernel)
theorem dX0_canRead_133 : decode cX0_canRead 133 = .ok (.aload_n 1, 1) := dR0 (k := 128) (i := 5) bn_cX0_canRead_128 dop_43 (by decide +kernel)
theorem dX0_canRead_134 : decode cX0_canRead 134 = .ok (.getfield 62, 3) := dR2 (f := Instr.getfield) (k := 128) (i := 6) bn_cX0_canRead_128 dop_180 62 (by decide +kernel)
theorem dX0_canRead_137 : decode cX0_canRead 137 = .ok (.if_icmp .gt 7, 3) := dR2s (f := Instr.if_icmp .gt) (k := 128) (i := 9) bn_cX0_canRead_128 dop_163 7 7 (by decide +kernel)
theorem dX0_canRead_140 : decode cX0_canRead 140 = .ok (.iconst 1, 1) := dR0 (k := 128) (i := 12) bn_cX0_canRead_128 dop_4 (by decide +kernel)
theorem dX0_canRead_141 : decode cX0_canRead 141 = .ok (.goto 4, 3) := dR2s (f := Instr.goto) (k := 128) (i := 13) bn_cX0_canRead_128 dop_167 4 4 (by decide +kernel)
theorem dX0_canRead_144 : decode cX0_canRead 144 = .ok (.iconst 0, 1) := dR0 (k := 128) (i := 16) bn_cX0_canRead_128 dop_3 (by decide +kernel)
theorem dX0_canRead_145 : decode cX0_canRead 145 = .ok (.ireturn, 1) := dR0 (k := 128) (i := 17) bn_cX0_canRead_128 dop_172 (by decide +kernel)
set_option maxHeartbeats 4000000 in
set_option maxRecDepth 100000 in
theorem c_X0_canReadG (l : Launch) (D : va_G) (cI : ClassId) (aK aV : Nat → Nat) (k o k0 k1 k2 k3 k4 o0 o1 o2 o3 o4 o5 o40 o41 o42 o43 o44 o45 o46 o47 o48 : Nat) (sz : Nat) (c5 : Int32) (c0 : Nat → Int32) (c1 : Nat → Int32) (d6 : Int32) (d7 : Int32) (d8 : Int32) (d49 : Int32) (d41 : Nat → Int32) (d45 : Nat → Int32) (a1 : Int32) (a2 : Int32) : Met l yX0_canRead (gW yX0_canRead cX0_canRead 8 (some .boolean)) ({ frames := 2, cells := 0, slots := 0, locals := 42 } : Room) (kPreX D cI aK aV [.ref k, .ref o, .int a1, .int a2] [(k, .inr (0, [.ref k0, .ref k1, .ref k2, .ref k3, .ref k4, .int c5])), (k0, .inl (cI, 41, .inl c0)), (k1, .inl (cI, 41, .inl c1)), (o, .inr (9, [.ref o0, .ref o1, .ref o2, .ref o3, .ref o4, .ref o5, .int d6, .int d7, .int d8])), (o4, .inr (8, [.ref o40, .ref o41, .ref o42, .ref o43, .ref o44, .ref o45, .ref o46, .ref o47, .ref o48, .int d49])), (o41, .inl (cI, 60, .inl d41)), (o45, .inl (cI, 60, .inl d45))] sz) (va_Qi (fun (r : Int32) (u : Unit) => True) (fun u t => kWd D cI (va_A [(k, .inr (0, [.ref k0, .ref k1, .ref k2, .ref k3, .ref k4, .int c5])), (k0, .inl (cI, 41, .inl c0)), (k1, .inl (cI, 41, .inl c1)), (o, .inr (9, [.ref o0, .ref o1, .ref o2, .ref o3, .ref o4, .ref o5, .int d6, .int d7, .int d8])), (o4, .inr (8, [.ref o40, .ref o41, .ref o42, .ref o43, .ref o44, .ref o45, .ref o46, .ref o47, .ref o48, .int d49])), (o41, .inl (cI, 60, .inl d41)), (o45, .inl (cI, 60, .inl d45))] sz) [(k, .inr (0, [.ref k0, .ref k1, .ref k2, .ref k3, .ref k4, .int c5])), (k0, .inl (cI, 41, .inl c0)), (k1, .inl (cI, 41, .inl c1)), (o, .inr (9, [.ref o0, .ref o1, .ref o2, .ref o3, .ref o4, .ref o5, .int d6, .int d7, .int d8])), (o4, .inr (8, [.ref o40, .ref o41, .ref o42, .ref o43, .ref o44, .ref o45, .ref o46, .ref o47, .ref o48, .int d49])), (o41, .inl (cI, 60, .inl d41)), (o45, .inl (cI, 60, .inl d45))] t) (va_A [(k, .inr (0, [.ref k0, .ref k1, .ref k2, .ref k3, .ref k4, .int c5])), (k0, .inl (cI, 41, .inl c0)), (k1, .inl (cI, 41, .inl c1)), (o, .inr (9, [.ref o0, .ref o1, .ref o2, .ref o3, .ref o4, .ref o5, .int d6, .int d7, .int d8])), (o4, .inr (8, [.ref o40, .ref o41, .ref o42, .ref o43, .ref o44, .ref o45, .ref o46, .ref o47, .ref o48, .int d49])), (o41, .inl (cI, 60, .inl d41)), (o45, .inl (cI, 60, .inl d45))] sz)) 0 0 (va_A [(k, .inr (0, [.ref k0, .ref k1, .ref k2, .ref k3, .ref k4, .int c5])), (k0, .inl (cI, 41, .inl c0)), (k1, .inl (cI, 41, .inl c1)), (o, .inr (9, [.ref o0, .ref o1, .ref o2, .ref o3, .ref o4, .ref o5, .int d6, .int d7, .int d8])), (o4, .inr (8, [.ref o40, .ref o41, .ref o42, .ref o43, .ref o44, .ref o45, .ref o46, .ref o47, .ref o48, .int d49])), (o41, .inl (cI, 60, .inl d41)), (o45, .inl (cI, 60, .inl d45))] sz) := by
  refine kMetIX (own := RX0) (by decide +kernel) rfl (Nat.le_of_ble_eq_true rfl) ?_
  intro p e s m args below meth c hx hb hT hown hname hml A Q hK hP hD hS hA hN hXS hRet ls hl
  have hl : lv_has ls 8 [(0, .ref k), (1, .ref o), (2, .int a1), (3, .int a2)] := hl
  have lo_a1 := k_lo a1
  have hi_a1 := k_hi a1
  have lo_a2 := k_lo a2
  have hi_a2 := k_hi a2
  have lo_d7 := k_lo d7
  have hi_d7 := k_hi d7
  refine lv_aload_n hx hb dX0_canRead_0 rfl (lv_at hl 1 rfl) ?_
  refine va_get (D := D) (ci := 9) (v := .ref o4) (C := RX9) (T := TX9) (N := 9) hx hb hT giX9 hown hK hP 3 rfl rfl 4 (by decide +kernel) (hT (Cond.fieldLink RX0 43 "DesertWire$World" "works" "LDesertWire$Works;") mw_98) (fun _ h9 => h9) rfl dX0_canRead_1 ?_
  refine lv_astore (lv' := [(4, .ref o4), (0, .ref k), (1, .ref o), (2, .int a1), (3, .int a2)]) hx hb dX0_canRead_4 hl (by decide +kernel) rfl ?_
  clear hl
  intro ls hl
  refine lv_aload hx hb dX0_canRead_6 (lv_at hl 0 rfl) ?_
  refine lv_iload_n hx hb dX0_canRead_8 rfl (lv_at hl 3 rfl) ?_
  refine kJi (wr := [(k, .inr (0, [.ref k0, .ref k1, .ref k2, .ref k3, .ref k4, .int c5])), (k0, .inl (cI, 41, .inl c0)), (k1, .inl (cI, 41, .inl c1)), (o, .inr (9, [.ref o0, .ref o1, .ref o2, .ref o3, .ref o4, .ref o5, .int d6, .int d7, .int d8])), (o41, .inl (cI, 60, .inl d41))]) (va_runV (As := [.int a1]) (rest := []) ⟨hx, hb, hml, hown, hT⟩ (c_X8_isDownG l D cI aK aV o4 o40 o41 o42 o43 o44 o45 o46 o47 o48 s.heap.size d49 d45 a1) (cwV 1 hT (gV_in mw_407 mw_779 mw_405 mw_406 mw_3) rfl rfl rfl (by decide +kernel) ⟨Nat.le_of_ble_eq_true rfl, Nat.le_of_ble_eq_true rfl⟩) (kRecvX (q0 := 4) (ci := 8) hK hP hD hN hXS hS hA rfl rfl [4, 6] rfl (by decide +kernel)) rfl rfl hl.1 rfl (lv_room (Nat.le_of_ble_eq_true rfl)) dX0_canRead_9 ⟨Nat.le_of_ble_eq_true rfl, Nat.le_of_ble_eq_true rfl⟩) hP hD hS hA [4, 6] [0, 1, 2, 3, 5] rfl rfl (by decide +kernel) (by decide +kernel) ?_
  clear hP hD hS
  intro r_1 u_3 H locs w_2 hP hD hS
  replace hP : va_P D vwCl [(k, .inr (0, [.ref k0, .ref k1, .ref k2, .ref k3, .ref k4, .int c5])), (k0, .inl (cI, 41, .inl c0)), (k1, .inl (cI, 41, .inl c1)), (o, .inr (9, [.ref o0, .ref o1, .ref o2, .ref o3, .ref o4, .ref o5, .int d6, .int d7, .int d8])), (o41, .inl (cI, 60, .inl d41)), (o4, .inr (8, [.ref o40, .ref o41, .ref o42, .ref o43, .ref o44, .ref o45, .ref o46, .ref o47, .ref o48, .int d49])), (o45, .inl (cI, 60, .inl d45))] H := hP
  replace hD : va_D A [(k, .inr (0, [.ref k0, .ref k1, .ref k2, .ref k3, .ref k4, .int c5])), (k0, .inl (cI, 41, .inl c0)), (k1, .inl (cI, 41, .inl c1)), (o, .inr (9, [.ref o0, .ref o1, .ref o2, .ref o3, .ref o4, .ref o5, .int d6, .int d7, .int d8])), (o41, .inl (cI, 60, .inl d41)), (o4, .inr (8, [.ref o40, .ref o41, .ref o42, .ref o43, .ref o44, .ref o45, .ref o46, .ref o47, .ref o48, .int d49])), (o45, .inl (cI, 60, .inl d45))] := hD
  have lo_r_1 := k_lo r_1
  have hi_r_1 := k_hi r_1
  refine b_if_ne hx hb rfl (tgt := 24) dX0_canRead_12 (by decide +kernel) (fun c_4 => ?_) (fun c_4 => ?_)
  · refine lv_iconst (v := 0) hx hb dX0_canRead_24 (by decide +kernel) ?_
    exact hRet () [0, 1, 2, 3, 5, 4, 6] trivial hP hD (by decide +kernel) rfl hS rfl dX0_canRead_25
  · refine lv_aload hx hb dX0_canRead_15 (lv_at hl 0 rfl) ?_
    refine lv_iload_n hx hb dX0_canRead_17 rfl (lv_at hl 4 rfl) ?_
    refine kJi (wr := [(k, .inr (0, [.ref k0, .ref k1, .ref k2, .ref k3, .ref k4, .int c5])), (k0, .inl (cI, 41, .inl c0)), (k1, .inl (cI, 41, .inl c1)), (o, .inr (9, [.ref o0, .ref o1, .ref o2, .ref o3, .ref o4, .ref o5, .int d6, .int d7, .int d8])), (o41, .inl (cI, 60, .inl d41))]) (va_runV (As := [.int a2]) (rest := []) ⟨hx, hb, hml, hown, hT⟩ (c_X8_isDownG l D cI aK aV o4 o40 o41 o42 o43 o44 o45 o46 o47 o48 H.size d49 d45 a2) (cwV 1 hT (gV_in mw_407 mw_779 mw_405 mw_406 mw_3) rfl rfl rfl (by decide +kernel) ⟨Nat.le_of_ble_eq_true rfl, Nat.le_of_ble_eq_true rfl⟩) (kRecvX (q0 := 5) (ci := 8) hK hP hD hN hXS hS hA rfl rfl [5, 6] rfl (by decide +kernel)) rfl rfl hl.1 rfl (lv_room (Nat.le_of_ble_eq_true rfl)) dX0_canRead_18 ⟨Nat.le_of_ble_eq_true rfl, Nat.le_of_ble_eq_true rfl⟩) hP hD hS hA [5, 6] [0, 1, 2, 3, 4] rfl rfl (by decide +kernel) (by decide +kernel) ?_
    clear hP hD hS
    intro r_5 u_7 H locs w_6 hP hD hS
    replace hP : va_P D vwCl [(k, .inr (0, [.ref k0, .ref k1, .ref k2, .ref k3, .ref k4, .int c5])), (k0, .inl (cI, 41, .inl c0)), (k1, .inl (cI, 41, .inl c1)), (o, .inr (9, [.ref o0, .ref o1, .ref o2, .ref o3, .ref o4, .ref o5, .int d6, .int d7, .int d8])), (o41, .inl (cI, 60, .inl d41)), (o4, .inr (8, [.ref o40, .ref o41, .ref o42, .ref o43, .ref o44, .ref o45, .ref o46, .ref o47, .ref o48, .int d49])), (o45, .inl (cI, 60, .inl d45))] H := hP
    replace hD : va_D A [(k, .inr (0, [.ref k0, .ref k1, .ref k2, .ref k3, .ref k4, .int c5])), (k0, .inl (cI, 41, .inl c0)), (k1, .inl (cI, 41, .inl c1)), (o, .inr (9, [.ref o0, .ref o1, .ref o2, .ref o3, .ref o4, .ref o5, .int d6, .int d7, .int d8])), (o41, .inl (cI, 60, .inl d41)), (o4, .inr (8, [.ref o40, .ref o41, .ref o42, .ref o43, .ref o44, .ref o45, .ref o46, .ref o47, .ref o48, .int d49])), (o45, .inl (cI, 60, .inl d45))] := hD
    have lo_r_5 := k_lo r_5
    have hi_r_5 := k_hi r_5
    refine b_if_eq hx hb rfl (tgt := 26) dX0_canRead_21 (by decide +kernel) (fun c_8 => ?_) (fun c_8 => ?_)
    · refine lv_aload hx hb dX0_canRead_26 (lv_at hl 0 rfl) ?_
      refine lv_iload_n hx hb dX0_canRead_28 rfl (lv_at hl 3 rfl) ?_
      refine kJi (wr := [(k, .inr (0, [.ref k0, .ref k1, .ref k2, .ref k3, .ref k4, .int c5])), (k0, .inl (cI, 41, .inl c0)), (k1, .inl (cI, 41, .inl c1)), (o, .inr (9, [.ref o0, .ref o1, .ref o2, .ref o3, .ref o4, .ref o5, .int d6, .int d7, .int d8])), (o45, .inl (cI, 60, .inl d45))]) (va_runV (As := [.int a1]) (rest := []) ⟨hx, hb, hml, hown, hT⟩ (c_X8_mileOfG l D cI aK aV o4 o40 o41 o42 o43 o44 o45 o46 o47 o48 H.size d49 d41 a1) (cwV 1 hT (gV_in mw_367 mw_780 mw_365 mw_366 mw_3) rfl rfl rfl (by decide +kernel) ⟨Nat.le_of_ble_eq_true rfl, Nat.le_of_ble_eq_true rfl⟩) (kRecvX (q0 := 5) (ci := 8) hK hP hD hN hXS hS hA rfl rfl [5, 4] rfl (by decide +kernel)) rfl rfl hl.1 rfl (lv_room (Nat.le_of_ble_eq_true rfl)) dX0_canRead_29 ⟨Nat.le_of_ble_eq_true rfl, Nat.le_of_ble_eq_true rfl⟩) hP hD hS hA [5, 4] [0, 1, 2, 3, 6] rfl rfl (by decide +kernel) (by decide +kernel) ?_
      clear hP hD hS
      intro r_9 u_11 H locs w_10 hP hD hS
      replace hP : va_P D vwCl [(k, .inr (0, [.ref k0, .ref k1, .ref k2, .ref k3, .ref k4, .int c5])), (k0, .inl (cI, 41, .inl c0)), (k1, .inl (cI, 41, .inl c1)), (o, .inr (9, [.ref o0, .ref o1, .ref o2, .ref o3, .ref o4, .ref o5, .int d6, .int d7, .int d8])), (o45, .inl (cI, 60, .inl d45)), (o4, .inr (8, [.ref o40, .ref o41, .ref o42, .ref o43, .ref o44, .ref o45, .ref o46, .ref o47, .ref o48, .int d49])), (o41, .inl (cI, 60, .inl d41))] H := hP
      replace hD : va_D A [(k, .inr (0, [.ref k0, .ref k1, .ref k2, .ref k3, .ref k4, .int c5])), (k0, .inl (cI, 41, .inl c0)), (k1, .inl (cI, 41, .inl c1)), (o, .inr (9, [.ref o0, .ref o1, .ref o2, .ref o3, .ref o4, .ref o5, .int d6, .int d7, .int d8])), (o45, .inl (cI, 60, .inl d45)), (o4, .inr (8, [.ref o40, .ref o41, .ref o42, .ref o43, .ref o44, .ref o45, .ref o46, .ref o47, .ref o48, .int d49])), (o41, .inl (cI, 60, .inl d41))] := hD
      have lo_r_9 := k_lo r_9
      have hi_r_9 := k_hi r_9
      refine lv_aload hx hb dX0_canRead_32 (lv_at hl 0 rfl) ?_
      refine lv_iload_n hx hb dX0_canRead_34 rfl (lv_at hl 4 rfl) ?_
      refine kJi (wr := [(k, .inr (0, [.ref k0, .ref k1, .ref k2, .ref k3, .ref k4, .int c5])), (k0, .inl (cI, 41, .inl c0)), (k1, .inl (cI, 41, .inl c1)), (o, .inr (9, [.ref o0, .ref o1, .ref o2, .ref o3, .ref o4, .ref o5, .int d6, .int d7, .int d8])), (o45, .inl (cI, 60, .inl d45))]) (va_runV (As := [.int a2]) (rest := [.int r_9]) ⟨hx, hb, hml, hown, hT⟩ (c_X8_mileOfG l D cI aK aV o4 o40 o41 o42 o43 o44 o45 o46 o47 o48 H.size d49 d41 a2) (cwV 1 hT (gV_in mw_367 mw_780 mw_365 mw_366 mw_3) rfl rfl rfl (by decide +kernel) ⟨Nat.le_of_ble_eq_true rfl, Nat.le_of_ble_eq_true rfl⟩) (kRecvX (q0 := 5) (ci := 8) hK hP hD hN hXS hS hA rfl rfl [5, 6] rfl (by decide +kernel)) rfl rfl hl.1 rfl (lv_room (Nat.le_of_ble_eq_true rfl)) dX0_canRead_35 ⟨Nat.le_of_ble_eq_true rfl, Nat.le_of_ble_eq_true rfl⟩) hP hD hS hA [5, 6] [0, 1, 2, 3, 4] rfl rfl (by decide +kernel) (by decide +kernel) ?_
      clear hP hD hS
      intro r_12 u_14 H locs w_13 hP hD hS
      replace hP : va_P D vwCl [(k, .inr (0, [.ref k0, .ref k1, .ref k2, .ref k3, .ref k4, .int c5])), (k0, .inl (cI, 41, .inl c0)), (k1, .inl (cI, 41, .inl c1)), (o, .inr (9, [.ref o0, .ref o1, .ref o2, .ref o3, .ref o4, .ref o5, .int d6, .int d7, .int d8])), (o45, .inl (cI, 60, .inl d45)), (o4, .inr (8, [.ref o40, .ref o41, .ref o42, .ref o43, .ref o44, .ref o45, .ref o46, .ref o47, .ref o48, .int d49])), (o41, .inl (cI, 60, .inl d41))] H := hP
      replace hD : va_D A [(k, .inr (0, [.ref k0, .ref k1, .ref k2, .ref k3, .ref k4, .int c5])), (k0, .inl (cI, 41, .inl c0)), (k1, .inl (cI, 41, .inl c1)), (o, .inr (9, [.ref o0, .ref o1, .ref o2, .ref o3, .ref o4, .ref o5, .int d6, .int d7, .int d8])), (o45, .inl (cI, 60, .inl d45)), (o4, .inr (8, [.ref o40, .ref o41, .ref o42, .ref o43, .ref o44, .ref o45, .ref o46, .ref o47, .ref o48, .int d49])), (o41, .inl (cI, 60, .inl d41))] := hD
      have lo_r_12 := k_lo r_12
      have hi_r_12 := k_hi r_12
      refine va_mmin hx hb (hml.trans hl.1.symm) hown (hT _ mw_781) (hT _ mw_538) (hT _ mw_13) (hT _ mw_539) (Nat.le_of_ble_eq_true rfl) (Nat.le_of_ble_eq_true rfl) (Nat.le_of_ble_eq_true rfl) (Nat.le_of_ble_eq_true rfl) dX0_canRead_38 ?_
      refine lv_topi (fun v_15 ev_15 => ?_)
      have lo_v_15 := k_lo v_15
      have hi_v_15 := k_hi v_15
      have tv_15 : v_15.toInt = k_min r_9.toInt r_12.toInt := by rw [ev_15]; exact k_mmin rfl rfl
      have sv_15 := k_min_spec (r_9.toInt) (r_12.toInt)
      refine lv_istore (lv' := [(5, .int v_15), (4, .ref o4), (0, .ref k), (1, .ref o), (2, .int a1), (3, .int a2)]) hx hb dX0_canRead_41 hl (by decide +kernel) rfl ?_
      clear hl
      intro ls hl
      refine lv_aload hx hb dX0_canRead_43 (lv_at hl 1 rfl) ?_
      refine lv_iload_n hx hb dX0_canRead_45 rfl (lv_at hl 4 rfl) ?_
      refine kJi (wr := [(k, .inr (0, [.ref k0, .ref k1, .ref k2, .ref k3, .ref k4, .int c5])), (k0, .inl (cI, 41, .inl c0)), (k1, .inl (cI, 41, .inl c1)), (o, .inr (9, [.ref o0, .ref o1, .ref o2, .ref o3, .ref o4, .ref o5, .int d6, .int d7, .int d8])), (o45, .inl (cI, 60, .inl d45))]) (va_runV (As := [.int a1]) (rest := []) ⟨hx, hb, hml, hown, hT⟩ (c_X8_mileOfG l D cI aK aV o4 o40 o41 o42 o43 o44 o45 o46 o47 o48 H.size d49 d41 a1) (cwV 1 hT (gV_in mw_367 mw_780 mw_365 mw_366 mw_3) rfl rfl rfl (by decide +kernel) ⟨Nat.le_of_ble_eq_true rfl, Nat.le_of_ble_eq_true rfl⟩) (kRecvX (q0 := 5) (ci := 8) hK hP hD hN hXS hS hA rfl rfl [5, 6] rfl (by decide +kernel)) rfl rfl hl.1 rfl (lv_room (Nat.le_of_ble_eq_true rfl)) dX0_canRead_46 ⟨Nat.le_of_ble_eq_true rfl, Nat.le_of_ble_eq_true rfl⟩) hP hD hS hA [5, 6] [0, 1, 2, 3, 4] rfl rfl (by decide +kernel) (by decide +kernel) ?_
      clear hP hD hS
      intro r_16 u_18 H locs w_17 hP hD hS
      replace hP : va_P D vwCl [(k, .inr (0, [.ref k0, .ref k1, .ref k2, .ref k3, .ref k4, .int c5])), (k0, .inl (cI, 41, .inl c0)), (k1, .inl (cI, 41, .inl c1)), (o, .inr (9, [.ref o0, .ref o1, .ref o2, .ref o3, .ref o4, .ref o5, .int d6, .int d7, .int d8])), (o45, .inl (cI, 60, .inl d45)), (o4, .inr (8, [.ref o40, .ref o41, .ref o42, .ref o43, .ref o44, .ref o45, .ref o46, .ref o47, .ref o48, .int d49])), (o41, .inl (cI, 60, .inl d41))] H := hP
      replace hD : va_D A [(k, .inr (0, [.ref k0, .ref k1, .ref k2, .ref k3, .ref k4, .int c5])), (k0, .inl (cI, 41, .inl c0)), (k1, .inl (cI, 41, .inl c1)), (o, .inr (9, [.ref o0, .ref o1, .ref o2, .ref o3, .ref o4, .ref o5, .int d6, .int d7, .int d8])), (o45, .inl (cI, 60, .inl d45)), (o4, .inr (8, [.ref o40, .ref o41, .ref o42, .ref o43, .ref o44, .ref o45, .ref o46, .ref o47, .ref o48, .int d49])), (o41, .inl (cI, 60, .inl d41))] := hD
      have lo_r_16 := k_lo r_16
      have hi_r_16 := k_hi r_16
      refine lv_aload hx hb dX0_canRead_49 (lv_at hl 1 rfl) ?_
      refine lv_iload_n hx hb dX0_canRead_51 rfl (lv_at hl 5 rfl) ?_
      refine kJi (wr := [(k, .inr (0, [.ref k0, .ref k1, .ref k2, .ref k3, .ref k4, .int c5])), (k0, .inl (cI, 41, .inl c0)), (k1, .inl (cI, 41, .inl c1)), (o, .inr (9, [.ref o0, .ref o1, .ref o2, .ref o3, .ref o4, .ref o5, .int d6, .int d7, .int d8])), (o45, .inl (cI, 60, .inl d45))]) (va_runV (As := [.int a2]) (rest := [.int r_16]) ⟨hx, hb, hml, hown, hT⟩ (c_X8_mileOfG l D cI aK aV o4 o40 o41 o42 o43 o44 o45 o46 o47 o48 H.size d49 d41 a2) (cwV 1 hT (gV_in mw_367 mw_780 mw_365 mw_366 mw_3) rfl rfl rfl (by decide +kernel) ⟨Nat.le_of_ble_eq_true rfl, Nat.le_of_ble_eq_true rfl⟩) (kRecvX (q0 := 5) (ci := 8) hK hP hD hN hXS hS hA rfl rfl [5, 6] rfl (by decide +kernel)) rfl rfl hl.1 rfl (lv_room (Nat.le_of_ble_eq_true rfl)) dX0_canRead_52 ⟨Nat.le_of_ble_eq_true rfl, Nat.le_of_ble_eq_true rfl⟩) hP hD hS hA [5, 6] [0, 1, 2, 3, 4] rfl rfl (by decide +kernel) (by decide +kernel) ?_
      clear hP hD hS
      intro r_19 u_21 H locs w_20 hP hD hS
      replace hP : va_P D vwCl [(k, .inr (0, [.ref k0, .ref k1, .ref k2, .ref k3, .ref k4, .int c5])), (k0, .inl (cI, 41, .inl c0)), (k1, .inl (cI, 41, .inl c1)), (o, .inr (9, [.ref o0, .ref o1, .ref o2, .ref o3, .ref o4, .ref o5, .int d6, .int d7, .int d8])), (o45, .inl (cI, 60, .inl d45)), (o4, .inr (8, [.ref o40, .ref o41, .ref o42, .ref o43, .ref o44, .ref o45, .ref o46, .ref o47, .ref o48, .int d49])), (o41, .inl (cI, 60, .inl d41))] H := hP
      replace hD : va_D A [(k, .inr (0, [.ref k0, .ref k1, .ref k2, .ref k3, .ref k4, .int c5])), (k0, .inl (cI, 41, .inl c0)), (k1, .inl (cI, 41, .inl c1)), (o, .inr (9, [.ref o0, .ref o1, .ref o2, .ref o3, .ref o4, .ref o5, .int d6, .int d7, .int d8])), (o45, .inl (cI, 60, .inl d45)), (o4, .inr (8, [.ref o40, .ref o41, .ref o42, .ref o43, .ref o44, .ref o45, .ref o46, .ref o47, .ref o48, .int d49])), (o41, .inl (cI, 60, .inl d41))] := hD
      have lo_r_19 := k_lo r_19
      have hi_r_19 := k_hi r_19
      refine va_mmax hx hb (hml.trans hl.1.symm) hown (hT _ mw_774) (hT _ mw_426) (hT _ mw_13) (hT _ mw_427) (Nat.le_of_ble_eq_true rfl) (Nat.le_of_ble_eq_true rfl) (Nat.le_of_ble_eq_true rfl) (Nat.le_of_ble_eq_true rfl) dX0_canRead_55 ?_
      refine lv_topi (fun v_22 ev_22 => ?_)
      have lo_v_22 := k_lo v_22
      have hi_v_22 := k_hi v_22
      have tv_22 : v_22.toInt = k_max r_16.toInt r_19.toInt := by rw [ev_22]; exact k_mmax rfl rfl
      have sv_22 := k_max_spec (r_16.toInt) (r_19.toInt)
      refine lv_istore (lv' := [(6, .int v_22), (5, .int v_15), (4, .ref o4), (0, .ref k), (1, .ref o), (2, .int a1), (3, .int a2)]) hx hb dX0_canRead_58 hl (by decide +kernel) rfl ?_
      clear hl
      intro ls hl
      refine lv_iload hx hb dX0_canRead_60 (lv_at hl 1 rfl) ?_
      refine lv_iload hx hb dX0_canRead_62 (lv_at hl 0 rfl) ?_
      refine b_icmp_ne hx hb rfl rfl (tgt := 69) dX0_canRead_64 (by decide +kernel) (fun c_23 => ?_) (fun c_23 => ?_)
      · refine lv_iload hx hb dX0_canRead_69 (lv_at hl 1 rfl) ?_
        refine kJi (wr := [(k, .inr (0, [.ref k0, .ref k1, .ref k2, .ref k3, .ref k4, .int c5])), (k0, .inl (cI, 41, .inl c0)), (k1, .inl (cI, 41, .inl c1)), (o, .inr (9, [.ref o0, .ref o1, .ref o2, .ref o3, .ref o4, .ref o5, .int d6, .int d7, .int d8])), (o45, .inl (cI, 60, .inl d45)), (o4, .inr (8, [.ref o40, .ref o41, .ref o42, .ref o43, .ref o44, .ref o45, .ref o46, .ref o47, .ref o48, .int d49])), (o41, .inl (cI, 60, .inl d41))]) (va_runSN (As := [.int v_15]) (rest := []) ⟨hx, hb, hml, hown, hT⟩ (c_X10_isMileG l D cI aK aV H.size v_15) ⟨va_cnB 1 hT (gW_in mw_346) rfl rfl rfl (hN _ mw_782) (hT _ mw_1) (by decide +kernel) ⟨Nat.le_of_ble_eq_true rfl, Nat.le_of_ble_eq_true rfl⟩, hT _ mw_345, trivial⟩ (kStatX hK hP hD hN hXS hS hA [] rfl (by decide +kernel)) rfl rfl hl.1 rfl (lv_room (Nat.le_of_ble_eq_true rfl)) dX0_canRead_71 ⟨Nat.le_of_ble_eq_true rfl, Nat.le_of_ble_eq_true rfl⟩) hP hD hS hA [] [0, 1, 2, 3, 4, 5, 6] rfl rfl (by decide +kernel) (by decide +kernel) ?_
        clear hP hD hS
        intro r_24 u_26 H locs w_25 hP hD hS
        replace hP : va_P D vwCl [(k, .inr (0, [.ref k0, .ref k1, .ref k2, .ref k3, .ref k4, .int c5])), (k0, .inl (cI, 41, .inl c0)), (k1, .inl (cI, 41, .inl c1)), (o, .inr (9, [.ref o0, .ref o1, .ref o2, .ref o3, .ref o4, .ref o5, .int d6, .int d7, .int d8])), (o45, .inl (cI, 60, .inl d45)), (o4, .inr (8, [.ref o40, .ref o41, .ref o42, .ref o43, .ref o44, .ref o45, .ref o46, .ref o47, .ref o48, .int d49])), (o41, .inl (cI, 60, .inl d41))] H := hP
        replace hD : va_D A [(k, .inr (0, [.ref k0, .ref k1, .ref k2, .ref k3, .ref k4, .int c5])), (k0, .inl (cI, 41, .inl c0)), (k1, .inl (cI, 41, .inl c1)), (o, .inr (9, [.ref o0, .ref o1, .ref o2, .ref o3, .ref o4, .ref o5, .int d6, .int d7, .int d8])), (o45, .inl (cI, 60, .inl d45)), (o4, .inr (8, [.ref o40, .ref o41, .ref o42, .ref o43, .ref o44, .ref o45, .ref o46, .ref o47, .ref o48, .int d49])), (o41, .inl (cI, 60, .inl d41))] := hD
        rcases w_25 with ⟨hr_24, h_27, h_28⟩ | ⟨hr_24, h_29⟩
        · have h_27 : 0 ≤ v_15.toInt := h_27
          have h_28 : v_15.toInt ≤ 39 := h_28
          obtain rfl : r_24 = 1 := hr_24.trans (by decide +kernel)
          refine b_if_eq hx hb zl_1 (tgt := 89) dX0_canRead_74 (by decide +kernel) (fun c_30 => by exfalso; omega) (fun c_30 => ?_)
          refine lv_iload hx hb dX0_canRead_77 (lv_at hl 0 rfl) ?_
          refine kJi (wr := [(k, .inr (0, [.ref k0, .ref k1, .ref k2, .ref k3, .ref k4, .int c5])), (k0, .inl (cI, 41, .inl c0)), (k1, .inl (cI, 41, .inl c1)), (o, .inr (9, [.ref o0, .ref o1, .ref o2, .ref o3, .ref o4, .ref o5, .int d6, .int d7, .int d8])), (o45, .inl (cI, 60, .inl d45)), (o4, .inr (8, [.ref o40, .ref o41, .ref o42, .ref o43, .ref o44, .ref o45, .ref o46, .ref o47, .ref o48, .int d49])), (o41, .inl (cI, 60, .inl d41))]) (va_runSN (As := [.int v_22]) (rest := []) ⟨hx, hb, hml, hown, hT⟩ (c_X10_isMileG l D cI aK aV H.size v_22) ⟨va_cnB 1 hT (gW_in mw_346) rfl rfl rfl (hN _ mw_782) (hT _ mw_1) (by decide +kernel) ⟨Nat.le_of_ble_eq_true rfl, Nat.le_of_ble_eq_true rfl⟩, hT _ mw_345, trivial⟩ (kStatX hK hP hD hN hXS hS hA [] rfl (by decide +kernel)) rfl rfl hl.1 rfl (lv_room (Nat.le_of_ble_eq_true rfl)) dX0_canRead_79 ⟨Nat.le_of_ble_eq_true rfl, Nat.le_of_ble_eq_true rfl⟩) hP hD hS hA [] [0, 1, 2, 3, 4, 5, 6] rfl rfl (by decide +kernel) (by decide +kernel) ?_
          clear hP hD hS
          intro r_31 u_33 H locs w_32 hP hD hS
          replace hP : va_P D vwCl [(k, .inr (0, [.ref k0, .ref k1, .ref k2, .ref k3, .ref k4, .int c5])), (k0, .inl (cI, 41, .inl c0)), (k1, .inl (cI, 41, .inl c1)), (o, .inr (9, [.ref o0, .ref o1, .ref o2, .ref o3, .ref o4, .ref o5, .int d6, .int d7, .int d8])), (o45, .inl (cI, 60, .inl d45)), (o4, .inr (8, [.ref o40, .ref o41, .ref o42, .ref o43, .ref o44, .ref o45, .ref o46, .ref o47, .ref o48, .int d49])), (o41, .inl (cI, 60, .inl d41))] H := hP
          replace hD : va_D A [(k, .inr (0, [.ref k0, .ref k1, .ref k2, .ref k3, .ref k4, .int c5])), (k0, .inl (cI, 41, .inl c0)), (k1, .inl (cI, 41, .inl c1)), (o, .inr (9, [.ref o0, .ref o1, .ref o2, .ref o3, .ref o4, .ref o5, .int d6, .int d7, .int d8])), (o45, .inl (cI, 60, .inl d45)), (o4, .inr (8, [.ref o40, .ref o41, .ref o42, .ref o43, .ref o44, .ref o45, .ref o46, .ref o47, .ref o48, .int d49])), (o41, .inl (cI, 60, .inl d41))] := hD
          rcases w_32 with ⟨hr_31, h_34, h_35⟩ | ⟨hr_31, h_36⟩
          · have h_34 : 0 ≤ v_22.toInt := h_34
            have h_35 : v_22.toInt ≤ 39 := h_35
            obtain rfl : r_31 = 1 := hr_31.trans (by decide +kernel)
            refine b_if_eq hx hb zl_1 (tgt := 89) dX0_canRead_82 (by decide +kernel) (fun c_37 => by exfalso; omega) (fun c_37 => ?_)
            refine lv_iconst (v := 1) hx hb dX0_canRead_85 (by decide +kernel) ?_
            refine lv_goto (tgt := 90) hx hb dX0_canRead_86 (by decide +kernel) ?_
            refine lv_istore (lv' := [(7, .int 1), (6, .int v_22), (5, .int v_15), (4, .ref o4), (0, .ref k), (1, .ref o), (2, .int a1), (3, .int a2)]) hx hb dX0_canRead_90 hl (by decide +kernel) rfl ?_
            clear hl
            intro ls hl
            refine lv_iload hx hb dX0_canRead_92 (lv_at hl 0 rfl) ?_
            refine b_if_eq hx hb zl_1 (tgt := 144) dX0_canRead_94 (by decide +kernel) (fun c_38 => by exfalso; omega) (fun c_38 => ?_)
            refine lv_aload_n hx hb dX0_canRead_97 rfl (lv_at hl 4 rfl) ?_
            refine va_get (D := D) (ci := 0) (v := .ref k1) (C := RX0) (T := TX0) (N := 6) hx hb hT giX0 hown hK hP 0 rfl rfl 1 (by decide +kernel) (hT (Cond.fieldLink RX0 15 "DesertWire$Hands" "gaps" "[I") mw_200) (fun _ h9 => h9) rfl dX0_canRead_98 ?_
            refine lv_iload hx hb dX0_canRead_101 (lv_at hl 1 rfl) ?_
            refine lv_iconst (v := 1) hx hb dX0_canRead_103 (by decide +kernel) ?_
            refine lv_iadd hx hb dX0_canRead_104 ?_
            refine lv_topi (fun v_39 ev_39 => ?_)
            have tv_39 : v_39.toInt = v_22.toInt + 1 := by rw [ev_39]; exact k_addv rfl zl_1 (by omega) (by omega)
            refine k_iald (v := (c1 v_39.toNatClampNeg)) hx hb hK hP 2 0 rfl rfl (k_in (by omega) (by omega)) rfl dX0_canRead_105 ?_
            refine lv_topi (fun v_40 ev_40 => ?_)
            have lo_v_40 := k_lo v_40
            have hi_v_40 := k_hi v_40
            have tv_40 : v_40.toInt = (c1 v_39.toNatClampNeg).toInt := by rw [ev_40]
            refine lv_aload_n hx hb dX0_canRead_106 rfl (lv_at hl 4 rfl) ?_
            refine va_get (D := D) (ci := 0) (v := .ref k1) (C := RX0) (T := TX0) (N := 6) hx hb hT giX0 hown hK hP 0 rfl rfl 1 (by decide +kernel) (hT (Cond.fieldLink RX0 15 "DesertWire$Hands" "gaps" "[I") mw_200) (fun _ h9 => h9) rfl dX0_canRead_107 ?_
            refine lv_iload hx hb dX0_canRead_110 (lv_at hl 2 rfl) ?_
            refine k_iald (v := (c1 v_15.toNatClampNeg)) hx hb hK hP 2 0 rfl rfl (k_in (by omega) (by omega)) rfl dX0_canRead_112 ?_
            refine lv_topi (fun v_41 ev_41 => ?_)
            have lo_v_41 := k_lo v_41
            have hi_v_41 := k_hi v_41
            have tv_41 : v_41.toInt = (c1 v_15.toNatClampNeg).toInt := by rw [ev_41]
            refine b_icmp_ne hx hb rfl rfl (tgt := 144) dX0_canRead_113 (by decide +kernel) (fun c_42 => ?_) (fun c_42 => ?_)
            · refine lv_iconst (v := 0) hx hb dX0_canRead_144 (by decide +kernel) ?_
              exact hRet () [0, 1, 2, 3, 5, 6, 4] trivial hP hD (by decide +kernel) rfl hS rfl dX0_canRead_145
            · refine lv_aload_n hx hb dX0_canRead_116 rfl (lv_at hl 4 rfl) ?_
              refine va_get (D := D) (ci := 0) (v := .ref k0) (C := RX0) (T := TX0) (N := 6) hx hb hT giX0 hown hK hP 0 rfl rfl 0 (by decide +kernel) (hT (Cond.fieldLink RX0 9 "DesertWire$Hands" "leaks" "[I") mw_199) (fun _ h9 => h9) rfl dX0_canRead_117 ?_
              refine lv_iload hx hb dX0_canRead_120 (lv_at hl 1 rfl) ?_
              refine k_iald (v := (c0 v_22.toNatClampNeg)) hx hb hK hP 1 0 rfl rfl (k_in (by omega) (by omega)) rfl dX0_canRead_122 ?_
              refine lv_topi (fun v_43 ev_43 => ?_)
              have lo_v_43 := k_lo v_43
              have hi_v_43 := k_hi v_43
              have tv_43 : v_43.toInt = (c0 v_22.toNatClampNeg).toInt := by rw [ev_43]
              refine lv_aload_n hx hb dX0_canRead_123 rfl (lv_at hl 4 rfl) ?_
              refine va_get (D := D) (ci := 0) (v := .ref k0) (C := RX0) (T := TX0) (N := 6) hx hb hT giX0 hown hK hP 0 rfl rfl 0 (by decide +kernel) (hT (Cond.fieldLink RX0 9 "DesertWire$Hands" "leaks" "[I") mw_199) (fun _ h9 => h9) rfl dX0_canRead_124 ?_
              refine lv_iload hx hb dX0_canRead_127 (lv_at hl 2 rfl) ?_
              refine lv_iconst (v := 1) hx hb dX0_canRead_129 (by decide +kernel) ?_
              refine lv_iadd hx hb dX0_canRead_130 ?_
              refine lv_topi (fun v_44 ev_44 => ?_)
              have tv_44 : v_44.toInt = v_15.toInt + 1 := by rw [ev_44]; exact k_addv rfl zl_1 (by omega) (by omega)
              refine k_iald (v := (c0 v_44.toNatClampNeg)) hx hb hK hP 1 0 rfl rfl (k_in (by omega) (by omega)) rfl dX0_canRead_131 ?_
              refine lv_topi (fun v_45 ev_45 => ?_)
              have lo_v_45 := k_lo v_45
              have hi_v_45 := k_hi v_45
              have tv_45 : v_45.toInt = (c0 v_44.toNatClampNeg).toInt := by rw [ev_45]
              refine lv_isub hx hb dX0_canRead_132 ?_
              refine lv_topi (fun v_46 ev_46 => ?_)
              have lo_v_46 := k_lo v_46
              have hi_v_46 := k_hi v_46
              refine lv_aload_n hx hb dX0_canRead_133 rfl (lv_at hl 5 rfl) ?_
              refine va_get (D := D) (ci := 9) (v := .int d7) (C := RX9) (T := TX9) (N := 9) hx hb hT giX9 hown hK hP 3 rfl rfl 7 (by decide +kernel) (hT (Cond.fieldLink RX0 62 "DesertWire$World" "reach" "I") mw_106) (fun _ h9 => h9) rfl dX0_canRead_134 ?_
              refine b_icmp_gt hx hb rfl rfl (tgt := 144) dX0_canRead_137 (by decide +kernel) (fun c_47 => ?_) (fun c_47 => ?_)
              · refine lv_iconst (v := 0) hx hb dX0_canRead_144 (by decide +kernel) ?_
                exact hRet () [0, 1, 2, 3, 5, 6, 4] trivial hP hD (by decide +kernel) rfl hS rfl dX0_canRead_145
              · refine lv_iconst (v := 1) hx hb dX0_canRead_140 (by decide +kernel) ?_
                refine lv_goto (tgt := 145) hx hb dX0_canRead_141 (by decide +kernel) ?_
                exact hRet () [0, 1, 2, 3, 5, 6, 4] trivial hP hD (by decide +kernel) rfl hS rfl dX0_canRead_145
          · have h_36 : v_22.toInt < 0 ∨ 39 < v_22.toInt := h_36
            obtain rfl : r_31 = 0 := hr_31.trans (by decide +kernel)
            refine b_if_eq hx hb zl_0 (tgt := 89) dX0_canRead_82 (by decide +kernel) (fun c_48 => ?_) (fun c_48 => by exfalso; omega)
            refine lv_iconst (v := 0) hx hb dX0_canRead_89 (by decide +kernel) ?_
            refine lv_istore (lv' := [(7, .int 0), (6, .int v_22), (5, .int v_15), (4, .ref o4), (0, .ref k), (1, .ref o), (2, .int a1), (3, .int a2)]) hx hb dX0_canRead_90 hl (by decide +kernel) rfl ?_
            clear hl
            intro ls hl
            refine lv_iload hx hb dX0_canRead_92 (lv_at hl 0 rfl) ?_
            refine b_if_eq hx hb zl_0 (tgt := 144) dX0_canRead_94 (by decide +kernel) (fun c_49 => ?_) (fun c_49 => by exfalso; omega)
            refine lv_iconst (v := 0) hx hb dX0_canRead_144 (by decide +kernel) ?_
            exact hRet () [0, 1, 2, 3, 5, 6, 4] trivial hP hD (by decide +kernel) rfl hS rfl dX0_canRead_145
        · have h_29 : v_15.toInt < 0 ∨ 39 < v_15.toInt := h_29
          obtain rfl : r_24 = 0 := hr_24.trans (by decide +kernel)
          refine b_if_eq hx hb zl_0 (tgt := 89) dX0_canRead_74 (by decide +kernel) (fun c_50 => ?_) (fun c_50 => by exfalso; omega)
          refine lv_iconst (v := 0) hx hb dX0_canRead_89 (by decide +kernel) ?_
          refine lv_istore (lv' := [(7, .int 0), (6, .int v_22), (5, .int v_15), (4, .ref o4), (0, .ref k), (1, .ref o), (2, .int a1), (3, .int a2)]) hx hb dX0_canRead_90 hl (by decide +kernel) rfl ?_
          clear hl
          intro ls hl
          refine lv_iload hx hb dX0_canRead_92 (lv_at hl 0 rfl) ?_
          refine b_if_eq hx hb zl_0 (tgt := 144) dX0_canRead_94 (by decide +kernel) (fun c_51 => ?_) (fun c_51 => by exfalso; omega)
          refine lv_iconst (v := 0) hx hb dX0_canRead_144 (by decide +kernel) ?_
          exact hRet () [0, 1, 2, 3, 5, 6, 4] trivial hP hD (by decide +kernel) rfl hS rfl dX0_canRead_145
      · refine lv_iconst (v := 1) hx hb dX0_canRead_67 (by decide +kernel) ?_
        exact hRet () [0, 1, 2, 3, 5, 6, 4] trivial hP hD (by decide +kernel) rfl hS rfl dX0_canRead_68
    · refine lv_iconst (v := 0) hx hb dX0_canRead_24 (by decide +kernel) ?_
      exact hRet () [0, 1, 2, 3, 5, 4, 6] trivial hP hD (by decide +kernel) rfl hS rfl dX0_canRead_25
theorem bn_cX0_distanceOf_0 : BN cX0_distanceOf 0 0xad0201402a81787026015a8ac1a01518f4221c09805381c := by
  unfold BN; decide +kernel
theorem dX0_distanceOf_0 : decode cX0_distanceOf 0 = .ok (.iload_n 1, 1) := dR0 (k := 0) (i := 0) bn_cX0_distanceOf_0 dop_27 (by decide +kernel)
theorem dX0_distanceOf_1 : decode cX0_distanceOf 1 = .ok (.ifCond .lt 18, 3) := dR2s (f := Instr.ifCond .lt) (k := 0) (i := 1) bn_cX0_distanceOf_0 dop_155 18 18 (by decide +kernel)
theorem dX0_distanceOf_4 : decode cX0_distanceOf 4 = .ok (.iload_n 1, 1) := dR0 (k := 0) (i := 4) bn_cX0_distanceOf_0 dop_27 (by decide +kernel)
theorem dX0_distanceOf_5 : decode cX0_distanceOf 5 = .ok (.bipush 60, 2) := dR1s (f := Instr.bipush) (k := 0) (i := 5) bn_cX0_distanceOf_0 dop_16 60 60 (by decide +kernel)
theorem dX0_distanceOf_7 : decode cX0_distanceOf 7 = .ok (.if_icmp .ge 12, 3) := dR2s (f := Instr.if_icmp .ge) (k := 0) (i := 7) bn_cX0_distanceOf_0 dop_162 12 12 (by decide +kernel)
theorem dX0_distanceOf_10 : decode cX0_distanceOf 10 = .ok (.aload_n 0, 1) := dR0 (k := 0) (i := 10) bn_cX0_distanceOf_0 dop_42 (by decide +kernel)
theorem dX0_distanceOf_11 : decode cX0_distanceOf 11 = .ok (.getfield 18, 3) := dR2 (f := Instr.getfield) (k := 0) (i := 11) bn_cX0_distanceOf_0 dop_180 18 (by decide +kernel)
theorem dX0_distanceOf_14 : decode cX0_distanceOf 14 = .ok (.iload_n 1, 1) := dR0 (k := 0) (i := 14) bn_cX0_distanceOf_0 dop_27 (by decide +kernel)
theorem dX0_distanceOf_15 : decode cX0_distanceOf 15 = .ok (.iaload, 1) := dR0 (k := 0) (i := 15) bn_cX0_distanceOf_0 dop_46 (by decide +kernel)
theorem dX0_distanceOf_16 : decode cX0_distanceOf 16 = .ok (.goto 4, 3) := dR2s (f := Instr.goto) (k := 0) (i := 16) bn_cX0_distanceOf_0 dop_167 4 4 (by decide +kernel)
theorem dX0_distanceOf_19 : decode cX0_distanceOf 19 = .ok (.iconst 0, 1) := dR0 (k := 0) (i := 19) bn_cX0_distanceOf_0 dop_3 (by decide +kernel)
theorem dX0_distanceOf_20 : decode cX0_distanceOf 20 = .ok (.ireturn, 1) := dR0 (k := 0) (i := 20) bn_cX0_distanceOf_0 dop_172 (by decide +kernel)
set_option maxHeartbeats 4000000 in
set_option maxRecDepth 100000 in
theorem c_X0_distanceOfG (l : Launch) (D : va_G) (cI : ClassId) (aK aV : Nat → Nat) (k k0 k1 k2 k3 k4 : Nat) (sz : Nat) (c5 : Int32) (c2 : Nat → Int32) (a0 : Int32) : Met l yX0_distanceOf (gW yX0_distanceOf cX0_distanceOf 2 (some .int)) ({ frames := 0, cells := 0, slots := 0, locals := 0 } : Room) (kPreX D cI aK aV [.ref k, .int a0] [(k, .inr (0, [.ref k0, .ref k1, .ref k2, .ref k3, .ref k4, .int c5])), (k2, .inl (cI, 60, .inl c2))] sz) (va_Qi (fun (r : Int32) (u : Unit) => True) (fun u t => kWd D cI (va_A [(k, .inr (0, [.ref k0, .ref k1, .ref k2, .ref k3, .ref k4, .int c5])), (k2, .inl (cI, 60, .inl c2))] sz) [(k, .inr (0, [.ref k0, .ref k1, .ref k2, .ref k3, .ref k4, .int c5])), (k2, .inl (cI, 60, .inl c2))] t) (va_A [(k, .inr (0, [.ref k0, .ref k1, .ref k2, .ref k3, .ref k4, .int c5])), (k2, .inl (cI, 60, .inl c2))] sz)) 0 0 (va_A [(k, .inr (0, [.ref k0, .ref k1, .ref k2, .ref k3, .ref k4, .int c5])), (k2, .inl (cI, 60, .inl c2))] sz) := by
  refine kMetIX (own := RX0) (by decide +kernel) rfl (Nat.le_of_ble_eq_true rfl) ?_
  intro p e s m args below meth c hx hb hT hown hname hml A Q hK hP hD hS hA hN hXS hRet ls hl
  have hl : lv_has ls 2 [(0, .ref k), (1, .int a0)] := hl
  have lo_a0 := k_lo a0
  have hi_a0 := k_hi a0
  refine lv_iload_n hx hb dX0_distanceOf_0 rfl (lv_at hl 1 rfl) ?_
  refine b_if_lt hx hb rfl (tgt := 19) dX0_distanceOf_1 (by decide +kernel) (fun c_1 => ?_) (fun c_1 => ?_)
  · refine lv_iconst (v := 0) hx hb dX0_distanceOf_19 (by decide +kernel) ?_
    exact hRet () [0, 1] trivial hP hD (by decide +kernel) rfl hS rfl dX0_distanceOf_20
  · refine lv_iload_n hx hb dX0_distanceOf_4 rfl (lv_at hl 1 rfl) ?_
    refine lv_bipush (v := 60) hx hb dX0_distanceOf_5 (by decide +kernel) ?_
    refine b_icmp_ge hx hb rfl zl_60 (tgt := 19) dX0_distanceOf_7 (by decide +kernel) (fun c_2 => ?_) (fun c_2 => ?_)
    · refine lv_iconst (v := 0) hx hb dX0_distanceOf_19 (by decide +kernel) ?_
      exact hRet () [0, 1] trivial hP hD (by decide +kernel) rfl hS rfl dX0_distanceOf_20
    · refine lv_aload_n hx hb dX0_distanceOf_10 rfl (lv_at hl 0 rfl) ?_
      refine va_get (D := D) (ci := 0) (v := .ref k2) (C := RX0) (T := TX0) (N := 6) hx hb hT giX0 hown hK hP 0 rfl rfl 2 (by decide +kernel) (hT (Cond.fieldLink RX0 18 "DesertWire$Hands" "far" "[I") mw_201) (fun _ h9 => h9) rfl dX0_distanceOf_11 ?_
      refine lv_iload_n hx hb dX0_distanceOf_14 rfl (lv_at hl 1 rfl) ?_
      refine k_iald (v := (c2 a0.toNatClampNeg)) hx hb hK hP 1 0 rfl rfl (k_in (by omega) (by omega)) rfl dX0_distanceOf_15 ?_
      refine lv_topi (fun v_3 ev_3 => ?_)
      have lo_v_3 := k_lo v_3
      have hi_v_3 := k_hi v_3
      have tv_3 : v_3.toInt = (c2 a0.toNatClampNeg).toInt := by rw [ev_3]
      refine lv_goto (tgt := 20) hx hb dX0_distanceOf_16 (by decide +kernel) ?_
      exact hRet () [0, 1] trivial hP hD (by decide +kernel) rfl hS rfl dX0_distanceOf_20
theorem bn_cX0_isRead_0 : BN cX0_isRead 0 0x568100a015401410014d16c02b70f074582b0900542072c0056e1e160056a2c := by
  unfold BN; decide +kernel
theorem dX0_isRead_0 : decode cX0_isRead 0 = .ok (.aload_n 1, 1) := dR0 (k := 0) (i := 0) bn_cX0_isRead_0 dop_43 (by decide +kernel)
theorem dX0_isRead_1 : decode cX0_isRead 1 = .ok (.getfield 43, 3) := dR2 (f := Instr.getfield) (k := 0) (i := 1) bn_cX0_isRead_0 dop_180 43 (by decide +kernel)
theorem dX0_isRead_4 : decode cX0_isRead 4 = .ok (.iload_n 3, 1) := dR0 (k := 0) (i := 4) bn_cX0_isRead_0 dop_29 (by decide +kernel)
theorem dX0_isRead_5 : decode cX0_isRead 5 = .ok (.invokevirtual 87, 3) := dR2 (f := Instr.invokevirtual) (k := 0) (i := 5) bn_cX0_isRead_0 dop_182 87 (by decide +kernel)
theorem dX0_isRead_8 : decode cX0_isRead 8 = .ok (.iconst 3, 1) := dR0 (k := 0) (i := 8) bn_cX0_isRead_0 dop_6 (by decide +kernel)
theorem dX0_isRead_9 : decode cX0_isRead 9 = .ok (.if_icmp .ne 17, 3) := dR2s (f := Instr.if_icmp .ne) (k := 0) (i := 9) bn_cX0_isRead_0 dop_160 17 17 (by decide +kernel)
theorem dX0_isRead_12 : decode cX0_isRead 12 = .ok (.aload_n 0, 1) := dR0 (k := 0) (i := 12) bn_cX0_isRead_0 dop_42 (by decide +kernel)
theorem dX0_isRead_13 : decode cX0_isRead 13 = .ok (.aload_n 1, 1) := dR0 (k := 0) (i := 13) bn_cX0_isRead_0 dop_43 (by decide +kernel)
theorem dX0_isRead_14 : decode cX0_isRead 14 = .ok (.iload_n 2, 1) := dR0 (k := 0) (i := 14) bn_cX0_isRead_0 dop_28 (by decide +kernel)
theorem dX0_isRead_15 : decode cX0_isRead 15 = .ok (.iload_n 3, 1) := dR0 (k := 0) (i := 15) bn_cX0_isRead_0 dop_29 (by decide +kernel)
theorem dX0_isRead_16 : decode cX0_isRead 16 = .ok (.invokevirtual 90, 3) := dR2 (f := Instr.invokevirtual) (k := 0) (i := 16) bn_cX0_isRead_0 dop_182 90 (by decide +kernel)
theorem dX0_isRead_19 : decode cX0_isRead 19 = .ok (.ifCond .eq 7, 3) := dR2s (f := Instr.ifCond .eq) (k := 0) (i := 19) bn_cX0_isRead_0 dop_153 7 7 (by decide +kernel)
theorem dX0_isRead_22 : decode cX0_isRead 22 = .ok (.iconst 1, 1) := dR0 (k := 0) (i := 22) bn_cX0_isRead_0 dop_4 (by decide +kernel)
theorem dX0_isRead_23 : decode cX0_isRead 23 = .ok (.goto 4, 3) := dR2s (f := Instr.goto) (k := 0) (i := 23) bn_cX0_isRead_0 dop_167 4 4 (by decide +kernel)
theorem dX0_isRead_26 : decode cX0_isRead 26 = .ok (.iconst 0, 1) := dR0 (k := 0) (i := 26) bn_cX0_isRead_0 dop_3 (by decide +kernel)
theorem dX0_isRead_27 : decode cX0_isRead 27 = .ok (.ireturn, 1) := dR0 (k := 0) (i := 27) bn_cX0_isRead_0 dop_172 (by decide +kernel)
set_option maxHeartbeats 4000000 in
set_option maxRecDepth 100000 in
theorem c_X0_isReadG (l : Launch) (D : va_G) (cI : ClassId) (aK aV : Nat → Nat) (k o k0 k1 k2 k3 k4 o0 o1 o2 o3 o4 o5 o40 o41 o42 o43 o44 o45 o46 o47 o48 : Nat) (sz : Nat) (c5 : Int32) (c0 : Nat → Int32) (c1 : Nat → Int32) (d6 : Int32) (d7 : Int32) (d8 : Int32) (d49 : Int32) (d40 : Nat → Int32) (d41 : Nat → Int32) (d45 : Nat → Int32) (a1 : Int32) (a2 : Int32) : Met l yX0_isRead (gW yX0_isRead cX0_isRead 4 (some .boolean)) ({ frames := 3, cells := 0, slots := 0, locals := 69 } : Room) (kPreX D cI aK aV [.ref k, .ref o, .int a1, .int a2] [(k, .inr (0, [.ref k0, .ref k1, .ref k2, .ref k3, .ref k4, .int c5])), (k0, .inl (cI, 41, .inl c0)), (k1, .inl (cI, 41, .inl c1)), (o, .inr (9, [.ref o0, .ref o1, .ref o2, .ref o3, .ref o4, .ref o5, .int d6, .int d7, .int d8])), (o4, .inr (8, [.ref o40, .ref o41, .ref o42, .ref o43, .ref o44, .ref o45, .ref o46, .ref o47, .ref o48, .int d49])), (o40, .inl (cI, 60, .inl d40)), (o41, .inl (cI, 60, .inl d41)), (o45, .inl (cI, 60, .inl d45))] sz) (va_Qi (fun (r : Int32) (u : Unit) => True) (fun u t => kWd D cI (va_A [(k, .inr (0, [.ref k0, .ref k1, .ref k2, .ref k3, .ref k4, .int c5])), (k0, .inl (cI, 41, .inl c0)), (k1, .inl (cI, 41, .inl c1)), (o, .inr (9, [.ref o0, .ref o1, .ref o2, .ref o3, .ref o4, .ref o5, .int d6, .int d7, .int d8])), (o4, .inr (8, [.ref o40, .ref o41, .ref o42, .ref o43, .ref o44, .ref o45, .ref o46, .ref o47, .ref o48, .int d49])), (o40, .inl (cI, 60, .inl d40)), (o41, .inl (cI, 60, .inl d41)), (o45, .inl (cI, 60, .inl d45))] sz) [(k, .inr (0, [.ref k0, .ref k1, .ref k2, .ref k3, .ref k4, .int c5])), (k0, .inl (cI, 41, .inl c0)), (k1, .inl (cI, 41, .inl c1)), (o, .inr (9, [.ref o0, .ref o1, .ref o2, .ref o3, .ref o4, .ref o5, .int d6, .int d7, .int d8])), (o4, .inr (8, [.ref o40, .ref o41, .ref o42, .ref o43, .ref o44, .ref o45, .ref o46, .ref o47, .ref o48, .int d49])), (o40, .inl (cI, 60, .inl d40)), (o41, .inl (cI, 60, .inl d41)), (o45, .inl (cI, 60, .inl d45))] t) (va_A [(k, .inr (0, [.ref k0, .ref k1, .ref k2, .ref k3, .ref k4, .int c5])), (k0, .inl (cI, 41, .inl c0)), (k1, .inl (cI, 41, .inl c1)), (o, .inr (9, [.ref o0, .ref o1, .ref o2, .ref o3, .ref o4, .ref o5, .int d6, .int d7, .int d8])), (o4, .inr (8, [.ref o40, .ref o41, .ref o42, .ref o43, .ref o44, .ref o45, .ref o46, .ref o47, .ref o48, .int d49])), (o40, .inl (cI, 60, .inl d40)), (o41, .inl (cI, 60, .inl d41)), (o45, .inl (cI, 60, .inl d45))] sz)) 0 0 (va_A [(k, .inr (0, [.ref k0, .ref k1, .ref k2, .ref k3, .ref k4, .int c5])), (k0, .inl (cI, 41, .inl c0)), (k1, .inl (cI, 41, .inl c1)), (o, .inr (9, [.ref o0, .ref o1, .ref o2, .ref o3, .ref o4, .ref o5, .int d6, .int d7, .int d8])), (o4, .inr (8, [.ref o40, .ref o41, .ref o42, .ref o43, .ref o44, .ref o45, .ref o46, .ref o47, .ref o48, .int d49])), (o40, .inl (cI, 60, .inl d40)), (o41, .inl (cI, 60, .inl d41)), (o45, .inl (cI, 60, .inl d45))] sz) := by
  refine kMetIX (own := RX0) (by decide +kernel) rfl (Nat.le_of_ble_eq_true rfl) ?_
  intro p e s m args below meth c hx hb hT hown hname hml A Q hK hP hD hS hA hN hXS hRet ls hl
  have hl : lv_has ls 4 [(0, .ref k), (1, .ref o), (2, .int a1), (3, .int a2)] := hl
  have lo_a1 := k_lo a1
  have hi_a1 := k_hi a1
  have lo_a2 := k_lo a2
  have hi_a2 := k_hi a2
  refine lv_aload_n hx hb dX0_isRead_0 rfl (lv_at hl 1 rfl) ?_
  refine va_get (D := D) (ci := 9) (v := .ref o4) (C := RX9) (T := TX9) (N := 9) hx hb hT giX9 hown hK hP 3 rfl rfl 4 (by decide +kernel) (hT (Cond.fieldLink RX0 43 "DesertWire$World" "works" "LDesertWire$Works;") mw_98) (fun _ h9 => h9) rfl dX0_isRead_1 ?_
  refine lv_iload_n hx hb dX0_isRead_4 rfl (lv_at hl 3 rfl) ?_
  refine kJi (wr := [(k, .inr (0, [.ref k0, .ref k1, .ref k2, .ref k3, .ref k4, .int c5])), (k0, .inl (cI, 41, .inl c0)), (k1, .inl (cI, 41, .inl c1)), (o, .inr (9, [.ref o0, .ref o1, .ref o2, .ref o3, .ref o4, .ref o5, .int d6, .int d7, .int d8])), (o41, .inl (cI, 60, .inl d41)), (o45, .inl (cI, 60, .inl d45))]) (va_runV (As := [.int a2]) (rest := []) ⟨hx, hb, hml, hown, hT⟩ (c_X8_kindOfG l D cI aK aV o4 o40 o41 o42 o43 o44 o45 o46 o47 o48 s.heap.size d49 d40 a2) (cwV 1 hT (gV_in mw_384 mw_801 mw_382 mw_383 mw_3) rfl rfl rfl (by decide +kernel) ⟨Nat.le_of_ble_eq_true rfl, Nat.le_of_ble_eq_true rfl⟩) (kRecvX (q0 := 4) (ci := 8) hK hP hD hN hXS hS hA rfl rfl [4, 5] rfl (by decide +kernel)) rfl rfl hl.1 rfl (lv_room (Nat.le_of_ble_eq_true rfl)) dX0_isRead_5 ⟨Nat.le_of_ble_eq_true rfl, Nat.le_of_ble_eq_true rfl⟩) hP hD hS hA [4, 5] [0, 1, 2, 3, 6, 7] rfl rfl (by decide +kernel) (by decide +kernel) ?_
  clear hP hD hS
  intro r_1 u_3 H locs w_2 hP hD hS
  replace hP : va_P D vwCl [(k, .inr (0, [.ref k0, .ref k1, .ref k2, .ref k3, .ref k4, .int c5])), (k0, .inl (cI, 41, .inl c0)), (k1, .inl (cI, 41, .inl c1)), (o, .inr (9, [.ref o0, .ref o1, .ref o2, .ref o3, .ref o4, .ref o5, .int d6, .int d7, .int d8])), (o41, .inl (cI, 60, .inl d41)), (o45, .inl (cI, 60, .inl d45)), (o4, .inr (8, [.ref o40, .ref o41, .ref o42, .ref o43, .ref o44, .ref o45, .ref o46, .ref o47, .ref o48, .int d49])), (o40, .inl (cI, 60, .inl d40))] H := hP
  replace hD : va_D A [(k, .inr (0, [.ref k0, .ref k1, .ref k2, .ref k3, .ref k4, .int c5])), (k0, .inl (cI, 41, .inl c0)), (k1, .inl (cI, 41, .inl c1)), (o, .inr (9, [.ref o0, .ref o1, .ref o2, .ref o3, .ref o4, .ref o5, .int d6, .int d7, .int d8])), (o41, .inl (cI, 60, .inl d41)), (o45, .inl (cI, 60, .inl d45)), (o4, .inr (8, [.ref o40, .ref o41, .ref o42, .ref o43, .ref o44, .ref o45, .ref o46, .ref o47, .ref o48, .int d49])), (o40, .inl (cI, 60, .inl d40))] := hD
  have lo_r_1 := k_lo r_1
  have hi_r_1 := k_hi r_1
  refine lv_iconst (v := 3) hx hb dX0_isRead_8 (by decide +kernel) ?_
  refine b_icmp_ne hx hb rfl zl_3 (tgt := 26) dX0_isRead_9 (by decide +kernel) (fun c_4 => ?_) (fun c_4 => ?_)
  · refine lv_iconst (v := 0) hx hb dX0_isRead_26 (by decide +kernel) ?_
    exact hRet () [0, 1, 2, 3, 6, 7, 4, 5] trivial hP hD (by decide +kernel) rfl hS rfl dX0_isRead_27
  · refine lv_aload_n hx hb dX0_isRead_12 rfl (lv_at hl 0 rfl) ?_
    refine lv_aload_n hx hb dX0_isRead_13 rfl (lv_at hl 1 rfl) ?_
    refine lv_iload_n hx hb dX0_isRead_14 rfl (lv_at hl 2 rfl) ?_
    refine lv_iload_n hx hb dX0_isRead_15 rfl (lv_at hl 3 rfl) ?_
    refine kJi (wr := [(o40, .inl (cI, 60, .inl d40))]) (va_runV (As := [.ref o, .int a1, .int a2]) (rest := []) ⟨hx, hb, hml, hown, hT⟩ (c_X0_canReadG l D cI aK aV k o k0 k1 k2 k3 k4 o0 o1 o2 o3 o4 o5 o40 o41 o42 o43 o44 o45 o46 o47 o48 H.size c5 c0 c1 d6 d7 d8 d49 d41 d45 a1 a2) (cwV 3 hT (gV_in mw_778 mw_802 mw_776 mw_777 mw_7) rfl rfl rfl (by decide +kernel) ⟨Nat.le_of_ble_eq_true rfl, Nat.le_of_ble_eq_true rfl⟩) (kRecvX (q0 := 0) (ci := 0) hK hP hD hN hXS hS hA rfl rfl [0, 1, 2, 3, 6, 4, 5] rfl (by decide +kernel)) rfl rfl hl.1 rfl (lv_room (Nat.le_of_ble_eq_true rfl)) dX0_isRead_16 ⟨Nat.le_of_ble_eq_true rfl, Nat.le_of_ble_eq_true rfl⟩) hP hD hS hA [0, 1, 2, 3, 6, 4, 5] [7] rfl rfl (by decide +kernel) (by decide +kernel) ?_
    clear hP hD hS
    intro r_5 u_7 H locs w_6 hP hD hS
    replace hP : va_P D vwCl [(o40, .inl (cI, 60, .inl d40)), (k, .inr (0, [.ref k0, .ref k1, .ref k2, .ref k3, .ref k4, .int c5])), (k0, .inl (cI, 41, .inl c0)), (k1, .inl (cI, 41, .inl c1)), (o, .inr (9, [.ref o0, .ref o1, .ref o2, .ref o3, .ref o4, .ref o5, .int d6, .int d7, .int d8])), (o4, .inr (8, [.ref o40, .ref o41, .ref o42, .ref o43, .ref o44, .ref o45, .ref o46, .ref o47, .ref o48, .int d49])), (o41, .inl (cI, 60, .inl d41)), (o45, .inl (cI, 60, .inl d45))] H := hP
    replace hD : va_D A [(o40, .inl (cI, 60, .inl d40)), (k, .inr (0, [.ref k0, .ref k1, .ref k2, .ref k3, .ref k4, .int c5])), (k0, .inl (cI, 41, .inl c0)), (k1, .inl (cI, 41, .inl c1)), (o, .inr (9, [.ref o0, .ref o1, .ref o2, .ref o3, .ref o4, .ref o5, .int d6, .int d7, .int d8])), (o4, .inr (8, [.ref o40, .ref o41, .ref o42, .ref o43, .ref o44, .ref o45, .ref o46, .ref o47, .ref o48, .int d49])), (o41, .inl (cI, 60, .inl d41)), (o45, .inl (cI, 60, .inl d45))] := hD
    have lo_r_5 := k_lo r_5
    have hi_r_5 := k_hi r_5
    refine b_if_eq hx hb rfl (tgt := 26) dX0_isRead_19 (by decide +kernel) (fun c_8 => ?_) (fun c_8 => ?_)
    · refine lv_iconst (v := 0) hx hb dX0_isRead_26 (by decide +kernel) ?_
      exact hRet () [1, 2, 3, 4, 5, 0, 6, 7] trivial hP hD (by decide +kernel) rfl hS rfl dX0_isRead_27
    · refine lv_iconst (v := 1) hx hb dX0_isRead_22 (by decide +kernel) ?_
      refine lv_goto (tgt := 27) hx hb dX0_isRead_23 (by decide +kernel) ?_
      exact hRet () [1, 2, 3, 4, 5, 0, 6, 7] trivial hP hD (by decide +kernel) rfl hS rfl dX0_isRead_27
theorem bn_cX0_nextHand_0 : BN cX0_nextHand 0 0x2b43ade802a0040542ab40a1603805345100adc0a160e8b0561200a843c2f0285826015a8ac4601518f422050b0146e04 := by
  unfold BN; decide +kernel
theorem dX0_nextHand_0 : decode cX0_nextHand 0 = .ok (.iconst 0, 1) := dR0 (k := 0) (i := 0) bn_cX0_nextHand_0 dop_3 (by decide +kernel)
theorem dX0_nextHand_1 : decode cX0_nextHand 1 = .ok (.istore 4, 2) := dR1 (f := Instr.istore) (k := 0) (i := 1) bn_cX0_nextHand_0 dop_54 4 (by decide +kernel)
theorem dX0_nextHand_3 : decode cX0_nextHand 3 = .ok (.iload 4, 2) := dR1 (f := Instr.iload) (k := 0) (i := 3) bn_cX0_nextHand_0 dop_21 4 (by decide +kernel)
theorem dX0_nextHand_5 : decode cX0_nextHand 5 = .ok (.bipush 60, 2) := dR1s (f := Instr.bipush) (k := 0) (i := 5) bn_cX0_nextHand_0 dop_16 60 60 (by decide +kernel)
theorem dX0_nextHand_7 : decode cX0_nextHand 7 = .ok (.if_icmp .ge 34, 3) := dR2s (f := Instr.if_icmp .ge) (k := 0) (i := 7) bn_cX0_nextHand_0 dop_162 34 34 (by decide +kernel)
theorem dX0_nextHand_10 : decode cX0_nextHand 10 = .ok (.aload_n 0, 1) := dR0 (k := 0) (i := 10) bn_cX0_nextHand_0 dop_42 (by decide +kernel)
theorem dX0_nextHand_11 : decode cX0_nextHand 11 = .ok (.getfield 18, 3) := dR2 (f := Instr.getfield) (k := 0) (i := 11) bn_cX0_nextHand_0 dop_180 18 (by decide +kernel)
theorem dX0_nextHand_14 : decode cX0_nextHand 14 = .ok (.iload 4, 2) := dR1 (f := Instr.iload) (k := 0) (i := 14) bn_cX0_nextHand_0 dop_21 4 (by decide +kernel)
theorem dX0_nextHand_16 : decode cX0_nextHand 16 = .ok (.iaload, 1) := dR0 (k := 0) (i := 16) bn_cX0_nextHand_0 dop_46 (by decide +kernel)
theorem dX0_nextHand_17 : decode cX0_nextHand 17 = .ok (.iload_n 3, 1) := dR0 (k := 0) (i := 17) bn_cX0_nextHand_0 dop_29 (by decide +kernel)
theorem dX0_nextHand_18 : decode cX0_nextHand 18 = .ok (.if_icmp .ne 17, 3) := dR2s (f := Instr.if_icmp .ne) (k := 0) (i := 18) bn_cX0_nextHand_0 dop_160 17 17 (by decide +kernel)
theorem dX0_nextHand_21 : decode cX0_nextHand 21 = .ok (.aload_n 0, 1) := dR0 (k := 0) (i := 21) bn_cX0_nextHand_0 dop_42 (by decide +kernel)
theorem dX0_nextHand_22 : decode cX0_nextHand 22 = .ok (.aload_n 1, 1) := dR0 (k := 0) (i := 22) bn_cX0_nextHand_0 dop_43 (by decide +kernel)
theorem dX0_nextHand_23 : decode cX0_nextHand 23 = .ok (.iload_n 2, 1) := dR0 (k := 0) (i := 23) bn_cX0_nextHand_0 dop_28 (by decide +kernel)
theorem dX0_nextHand_24 : decode cX0_nextHand 24 = .ok (.iload 4, 2) := dR1 (f := Instr.iload) (k := 0) (i := 24) bn_cX0_nextHand_0 dop_21 4 (by decide +kernel)
theorem dX0_nextHand_26 : decode cX0_nextHand 26 = .ok (.invokevirtual 80, 3) := dR2 (f := Instr.invokevirtual) (k := 0) (i := 26) bn_cX0_nextHand_0 dop_182 80 (by decide +kernel)
theorem dX0_nextHand_29 : decode cX0_nextHand 29 = .ok (.ifCond .eq 6, 3) := dR2s (f := Instr.ifCond .eq) (k := 0) (i := 29) bn_cX0_nextHand_0 dop_153 6 6 (by decide +kernel)
theorem dX0_nextHand_32 : decode cX0_nextHand 32 = .ok (.iload 4, 2) := dR1 (f := Instr.iload) (k := 0) (i := 32) bn_cX0_nextHand_0 dop_21 4 (by decide +kernel)
theorem dX0_nextHand_34 : decode cX0_nextHand 34 = .ok (.ireturn, 1) := dR0 (k := 0) (i := 34) bn_cX0_nextHand_0 dop_172 (by decide +kernel)
theorem dX0_nextHand_35 : decode cX0_nextHand 35 = .ok (.iinc 4 1, 3) := dRii (f := Instr.iinc) (k := 0) (i := 35) bn_cX0_nextHand_0 dop_132 4 1 1 (by decide +kernel)
theorem dX0_nextHand_38 : decode cX0_nextHand 38 = .ok (.goto (-35), 3) := dR2s (f := Instr.goto) (k := 0) (i := 38) bn_cX0_nextHand_0 dop_167 65501 (-35) (by decide +kernel)
theorem dX0_nextHand_41 : decode cX0_nextHand 41 = .ok (.iload_n 2, 1) := dR0 (k := 0) (i := 41) bn_cX0_nextHand_0 dop_28 (by decide +kernel)
theorem dX0_nextHand_42 : decode cX0_nextHand 42 = .ok (.ireturn, 1) := dR0 (k := 0) (i := 42) bn_cX0_nextHand_0 dop_172 (by decide +kernel)
set_option maxHeartbeats 4000000 in
set_option maxRecDepth 100000 in
theorem c_X0_nextHandG (l : Launch) (D : va_G) (cI : ClassId) (aK aV : Nat → Nat) (k o k0 k1 k2 k3 k4 o0 o1 o2 o3 o4 o5 o40 o41 o42 o43 o44 o45 o46 o47 o48 : Nat) (sz : Nat) (c5 : Int32) (c0 : Nat → Int32) (c1 : Nat → Int32) (c2 : Nat → Int32) (d6 : Int32) (d7 : Int32) (d8 : Int32) (d49 : Int32) (d40 : Nat → Int32) (d41 : Nat → Int32) (d45 : Nat → Int32) (a1 : Int32) (a2 : Int32) : Met l yX0_nextHand (gW yX0_nextHand cX0_nextHand 5 (some .int)) ({ frames := 4, cells := 0, slots := 0, locals := 92 } : Room) (kPreX D cI aK aV [.ref k, .ref o, .int a1, .int a2] [(k, .inr (0, [.ref k0, .ref k1, .ref k2, .ref k3, .ref k4, .int c5])), (k0, .inl (cI, 41, .inl c0)), (k1, .inl (cI, 41, .inl c1)), (k2, .inl (cI, 60, .inl c2)), (o, .inr (9, [.ref o0, .ref o1, .ref o2, .ref o3, .ref o4, .ref o5, .int d6, .int d7, .int d8])), (o4, .inr (8, [.ref o40, .ref o41, .ref o42, .ref o43, .ref o44, .ref o45, .ref o46, .ref o47, .ref o48, .int d49])), (o40, .inl (cI, 60, .inl d40)), (o41, .inl (cI, 60, .inl d41)), (o45, .inl (cI, 60, .inl d45))] sz) (va_Qi (fun (r : Int32) (u : Unit) => True) (fun u t => kWd D cI (va_A [(k, .inr (0, [.ref k0, .ref k1, .ref k2, .ref k3, .ref k4, .int c5])), (k0, .inl (cI, 41, .inl c0)), (k1, .inl (cI, 41, .inl c1)), (k2, .inl (cI, 60, .inl c2)), (o, .inr (9, [.ref o0, .ref o1, .ref o2, .ref o3, .ref o4, .ref o5, .int d6, .int d7, .int d8])), (o4, .inr (8, [.ref o40, .ref o41, .ref o42, .ref o43, .ref o44, .ref o45, .ref o46, .ref o47, .ref o48, .int d49])), (o40, .inl (cI, 60, .inl d40)), (o41, .inl (cI, 60, .inl d41)), (o45, .inl (cI, 60, .inl d45))] sz) [(k, .inr (0, [.ref k0, .ref k1, .ref k2, .ref k3, .ref k4, .int c5])), (k0, .inl (cI, 41, .inl c0)), (k1, .inl (cI, 41, .inl c1)), (k2, .inl (cI, 60, .inl c2)), (o, .inr (9, [.ref o0, .ref o1, .ref o2, .ref o3, .ref o4, .ref o5, .int d6, .int d7, .int d8])), (o4, .inr (8, [.ref o40, .ref o41, .ref o42, .ref o43, .ref o44, .ref o45, .ref o46, .ref o47, .ref o48, .int d49])), (o40, .inl (cI, 60, .inl d40)), (o41, .inl (cI, 60, .inl d41)), (o45, .inl (cI, 60, .inl d45))] t) (va_A [(k, .inr (0, [.ref k0, .ref k1, .ref k2, .ref k3, .ref k4, .int c5])), (k0, .inl (cI, 41, .inl c0)), (k1, .inl (cI, 41, .inl c1)), (k2, .inl (cI, 60, .inl c2)), (o, .inr (9, [.ref o0, .ref o1, .ref o2, .ref o3, .ref o4, .ref o5, .int d6, .int d7, .int d8])), (o4, .inr (8, [.ref o40, .ref o41, .ref o42, .ref o43, .ref o44, .ref o45, .ref o46, .ref o47, .ref o48, .int d49])), (o40, .inl (cI, 60, .inl d40)), (o41, .inl (cI, 60, .inl d41)), (o45, .inl (cI, 60, .inl d45))] sz)) 0 0 (va_A [(k, .inr (0, [.ref k0, .ref k1, .ref k2, .ref k3, .ref k4, .int c5])), (k0, .inl (cI, 41, .inl c0)), (k1, .inl (cI, 41, .inl c1)), (k2, .inl (cI, 60, .inl c2)), (o, .inr (9, [.ref o0, .ref o1, .ref o2, .ref o3, .ref o4, .ref o5, .int d6, .int d7, .int d8])), (o4, .inr (8, [.ref o40, .ref o41, .ref o42, .ref o43, .ref o44, .ref o45, .ref o46, .ref o47, .ref o48, .int d49])), (o40, .inl (cI, 60, .inl d40)), (o41, .inl (cI, 60, .inl d41)), (o45, .inl (cI, 60, .inl d45))] sz) := by
  refine kMetIX (own := RX0) (by decide +kernel) rfl (Nat.le_of_ble_eq_true rfl) ?_
  intro p e s m args below meth c hx hb hT hown hname hml A Q hK hP hD hS hA hN hXS hRet ls hl
  have hl : lv_has ls 5 [(0, .ref k), (1, .ref o), (2, .int a1), (3, .int a2)] := hl
  have lo_a1 := k_lo a1
  have hi_a1 := k_hi a1
  have lo_a2 := k_lo a2
  have hi_a2 := k_hi a2
  refine lv_iconst (v := 0) hx hb dX0_nextHand_0 (by decide +kernel) ?_
  refine lv_istore (lv' := [(4, .int 0), (0, .ref k), (1, .ref o), (2, .int a1), (3, .int a2)]) hx hb dX0_nextHand_1 hl (by decide +kernel) rfl ?_
  clear hl
  intro ls hl
  have hloop_3 : ∀ (fu_ : Nat) (l3_4 : Int32), 0 ≤ l3_4.toInt → (60 - l3_4.toInt).toNat < fu_ → ∀ (ls : Array Slot) (H : Heap) (locs : List Loc), lv_has ls 5 [(4, .int l3_4), (0, .ref k), (1, .ref o), (2, .int a1), (3, .int a2)] → va_P D vwCl [(k, .inr (0, [.ref k0, .ref k1, .ref k2, .ref k3, .ref k4, .int c5])), (k0, .inl (cI, 41, .inl c0)), (k1, .inl (cI, 41, .inl c1)), (k2, .inl (cI, 60, .inl c2)), (o, .inr (9, [.ref o0, .ref o1, .ref o2, .ref o3, .ref o4, .ref o5, .int d6, .int d7, .int d8])), (o4, .inr (8, [.ref o40, .ref o41, .ref o42, .ref o43, .ref o44, .ref o45, .ref o46, .ref o47, .ref o48, .int d49])), (o40, .inl (cI, 60, .inl d40)), (o41, .inl (cI, 60, .inl d41)), (o45, .inl (cI, 60, .inl d45))] H → va_D A [(k, .inr (0, [.ref k0, .ref k1, .ref k2, .ref k3, .ref k4, .int c5])), (k0, .inl (cI, 41, .inl c0)), (k1, .inl (cI, 41, .inl c1)), (k2, .inl (cI, 60, .inl c2)), (o, .inr (9, [.ref o0, .ref o1, .ref o2, .ref o3, .ref o4, .ref o5, .int d6, .int d7, .int d8])), (o4, .inr (8, [.ref o40, .ref o41, .ref o42, .ref o43, .ref o44, .ref o45, .ref o46, .ref o47, .ref o48, .int d49])), (o40, .inl (cI, 60, .inl d40)), (o41, .inl (cI, 60, .inl d41)), (o45, .inl (cI, 60, .inl d45))] → va_S A s.heap H locs → W p l e ({ frames := 4, cells := 0, slots := 0, locals := 92 } : Room) s m args below meth c H locs 0 0 Q (F0 m 3 ls []) := by
    intro fu_; induction fu_ with
    | zero => intro l3_4 i3_0 hm; exact absurd hm (by omega)
    | succ fu_ ih3 =>
        intro l3_4 i3_0 hm ls H locs hl hP hD hS
        have lo_l3_4 := k_lo l3_4
        have hi_l3_4 := k_hi l3_4
        refine lv_iload hx hb dX0_nextHand_3 (lv_at hl 0 rfl) ?_
        refine lv_bipush (v := 60) hx hb dX0_nextHand_5 (by decide +kernel) ?_
        refine b_icmp_ge hx hb rfl zl_60 (tgt := 41) dX0_nextHand_7 (by decide +kernel) (fun c_1 => ?_) (fun c_1 => ?_)
        · refine lv_iload_n hx hb dX0_nextHand_41 rfl (lv_at hl 3 rfl) ?_
          exact hRet () [0, 1, 2, 3, 4, 5, 6, 7, 8] trivial hP hD (by decide +kernel) rfl hS rfl dX0_nextHand_42
        · refine lv_aload_n hx hb dX0_nextHand_10 rfl (lv_at hl 1 rfl) ?_
          refine va_get (D := D) (ci := 0) (v := .ref k2) (C := RX0) (T := TX0) (N := 6) hx hb hT giX0 hown hK hP 0 rfl rfl 2 (by decide +kernel) (hT (Cond.fieldLink RX0 18 "DesertWire$Hands" "far" "[I") mw_201) (fun _ h9 => h9) rfl dX0_nextHand_11 ?_
          refine lv_iload hx hb dX0_nextHand_14 (lv_at hl 0 rfl) ?_
          refine k_iald (v := (c2 l3_4.toNatClampNeg)) hx hb hK hP 3 0 rfl rfl (k_in (by omega) (by omega)) rfl dX0_nextHand_16 ?_
          refine lv_topi (fun v_2 ev_2 => ?_)
          have lo_v_2 := k_lo v_2
          have hi_v_2 := k_hi v_2
          have tv_2 : v_2.toInt = (c2 l3_4.toNatClampNeg).toInt := by rw [ev_2]
          refine lv_iload_n hx hb dX0_nextHand_17 rfl (lv_at hl 4 rfl) ?_
          refine b_icmp_ne hx hb rfl rfl (tgt := 35) dX0_nextHand_18 (by decide +kernel) (fun c_3 => ?_) (fun c_3 => ?_)
          · obtain ⟨v_4, ev_4⟩ : ∃ y : Int32, y = l3_4 + 1 := ⟨_, rfl⟩
            have tv_4 : v_4.toInt = l3_4.toInt + 1 := by rw [ev_4]; exact k_addv rfl zl_1 (by omega) (by omega)
            refine lv_iinc (v := v_4) (lv' := [(4, .int v_4), (0, .ref k), (1, .ref o), (2, .int a1), (3, .int a2)]) hx hb dX0_nextHand_35 hl (k := 0) rfl (by rw [ev_4]; rfl) (by decide +kernel) rfl ?_
            clear hl
            intro ls hl
            refine lv_goto (tgt := 3) hx hb dX0_nextHand_38 (by decide +kernel) ?_
            exact ih3 v_4 (by first | omega | decide | assumption | rfl) (by omega) ls _ _ (lv_sub hl [0, 1, 2, 3, 4] rfl) (hP.sub [0, 1, 2, 3, 4, 5, 6, 7, 8] rfl) (hD.sub [0, 1, 2, 3, 4, 5, 6, 7, 8] (by decide +kernel) rfl) hS
          · refine lv_aload_n hx hb dX0_nextHand_21 rfl (lv_at hl 1 rfl) ?_
            refine lv_aload_n hx hb dX0_nextHand_22 rfl (lv_at hl 2 rfl) ?_
            refine lv_iload_n hx hb dX0_nextHand_23 rfl (lv_at hl 3 rfl) ?_
            refine lv_iload hx hb dX0_nextHand_24 (lv_at hl 0 rfl) ?_
            refine kJi (wr := [(k2, .inl (cI, 60, .inl c2))]) (va_runV (As := [.ref o, .int a1, .int l3_4]) (rest := []) ⟨hx, hb, hml, hown, hT⟩ (c_X0_isReadG l D cI aK aV k o k0 k1 k2 k3 k4 o0 o1 o2 o3 o4 o5 o40 o41 o42 o43 o44 o45 o46 o47 o48 H.size c5 c0 c1 d6 d7 d8 d49 d40 d41 d45 a1 l3_4) (cwV 3 hT (gV_in mw_800 mw_797 mw_799 mw_p2_4 mw_7) rfl rfl rfl (by decide +kernel) ⟨Nat.le_of_ble_eq_true rfl, Nat.le_of_ble_eq_true rfl⟩) (kRecvX (q0 := 0) (ci := 0) hK hP hD hN hXS hS hA rfl rfl [0, 1, 2, 4, 5, 6, 7, 8] rfl (by decide +kernel)) rfl rfl hl.1 rfl (lv_room (Nat.le_of_ble_eq_true rfl)) dX0_nextHand_26 ⟨Nat.le_of_ble_eq_true rfl, Nat.le_of_ble_eq_true rfl⟩) hP hD hS hA [0, 1, 2, 4, 5, 6, 7, 8] [3] rfl rfl (by decide +kernel) (by decide +kernel) ?_
            clear hP hD hS
            intro r_5 u_7 H locs w_6 hP hD hS
            replace hP : va_P D vwCl [(k2, .inl (cI, 60, .inl c2)), (k, .inr (0, [.ref k0, .ref k1, .ref k2, .ref k3, .ref k4, .int c5])), (k0, .inl (cI, 41, .inl c0)), (k1, .inl (cI, 41, .inl c1)), (o, .inr (9, [.ref o0, .ref o1, .ref o2, .ref o3, .ref o4, .ref o5, .int d6, .int d7, .int d8])), (o4, .inr (8, [.ref o40, .ref o41, .ref o42, .ref o43, .ref o44, .ref o45, .ref o46, .ref o47, .ref o48, .int d49])), (o40, .inl (cI, 60, .inl d40)), (o41, .inl (cI, 60, .inl d41)), (o45, .inl (cI, 60, .inl d45))] H := hP
            replace hD : va_D A [(k2, .inl (cI, 60, .inl c2)), (k, .inr (0, [.ref k0, .ref k1, .ref k2, .ref k3, .ref k4, .int c5])), (k0, .inl (cI, 41, .inl c0)), (k1, .inl (cI, 41, .inl c1)), (o, .inr (9, [.ref o0, .ref o1, .ref o2, .ref o3, .ref o4, .ref o5, .int d6, .int d7, .int d8])), (o4, .inr (8, [.ref o40, .ref o41, .ref o42, .ref o43, .ref o44, .ref o45, .ref o46, .ref o47, .ref o48, .int d49])), (o40, .inl (cI, 60, .inl d40)), (o41, .inl (cI, 60, .inl d41)), (o45, .inl (cI, 60, .inl d45))] := hD
            have lo_r_5 := k_lo r_5
            have hi_r_5 := k_hi r_5
            refine b_if_eq hx hb rfl (tgt := 35) dX0_nextHand_29 (by decide +kernel) (fun c_8 => ?_) (fun c_8 => ?_)
            · obtain ⟨v_9, ev_9⟩ : ∃ y : Int32, y = l3_4 + 1 := ⟨_, rfl⟩
              have tv_9 : v_9.toInt = l3_4.toInt + 1 := by rw [ev_9]; exact k_addv rfl zl_1 (by omega) (by omega)
              refine lv_iinc (v := v_9) (lv' := [(4, .int v_9), (0, .ref k), (1, .ref o), (2, .int a1), (3, .int a2)]) hx hb dX0_nextHand_35 hl (k := 0) rfl (by rw [ev_9]; rfl) (by decide +kernel) rfl ?_
              clear hl
              intro ls hl
              refine lv_goto (tgt := 3) hx hb dX0_nextHand_38 (by decide +kernel) ?_
              exact ih3 v_9 (by first | omega | decide | assumption | rfl) (by omega) ls _ _ (lv_sub hl [0, 1, 2, 3, 4] rfl) (hP.sub [1, 2, 3, 0, 4, 5, 6, 7, 8] rfl) (hD.sub [1, 2, 3, 0, 4, 5, 6, 7, 8] (by decide +kernel) rfl) hS
            · refine lv_iload hx hb dX0_nextHand_32 (lv_at hl 0 rfl) ?_
              exact hRet () [1, 2, 3, 0, 4, 5, 6, 7, 8] trivial hP hD (by decide +kernel) rfl hS rfl dX0_nextHand_34
  exact hloop_3 _ 0 (by first | omega | (simp only [zl_0]; first | done | omega) | decide | assumption | rfl) (Nat.lt_succ_self _) ls _ _ (lv_sub hl [0, 1, 2, 3, 4] rfl) hP hD hS
theorem bn_cX0_measure_0 : BN cX0_measure 0 0x429400e160f05802b515940c2052a8056e060b0ac0e16098056a2b0f005345100adc0e1603058582b15005362f0385826015a8ac7401518f4221e20005463d0881c2c071b8100c37178142c1600ad4565900a8c7a1102858c001518780a16028dc083f029403a040b0056a2b280143a1300ad456b202805364a00adc3a2c00ad458f1802a0040442940081e098056a2b08805463d088787e04 := by
  unfold BN; decide +kernel
theorem dX0_measure_0 : decode cX0_measure 0 = .ok (.iconst 0, 1) := dR0 (k := 0) (i := 0) bn_cX0_measure_0 dop_3 (by decide +kernel)
theorem dX0_measure_1 : decode cX0_measure 1 = .ok (.istore_n 3, 1) := dR0 (k := 0) (i := 1) bn_cX0_measure_0 dop_62 (by decide +kernel)
theorem dX0_measure_2 : decode cX0_measure 2 = .ok (.iload_n 3, 1) := dR0 (k := 0) (i := 2) bn_cX0_measure_0 dop_29 (by decide +kernel)
theorem dX0_measure_3 : decode cX0_measure 3 = .ok (.bipush 60, 2) := dR1s (f := Instr.bipush) (k := 0) (i := 3) bn_cX0_measure_0 dop_16 60 60 (by decide +kernel)
theorem dX0_measure_5 : decode cX0_measure 5 = .ok (.if_icmp .ge 16, 3) := dR2s (f := Instr.if_icmp .ge) (k := 0) (i := 5) bn_cX0_measure_0 dop_162 16 16 (by decide +kernel)
theorem dX0_measure_8 : decode cX0_measure 8 = .ok (.aload_n 0, 1) := dR0 (k := 0) (i := 8) bn_cX0_measure_0 dop_42 (by decide +kernel)
theorem dX0_measure_9 : decode cX0_measure 9 = .ok (.getfield 18, 3) := dR2 (f := Instr.getfield) (k := 0) (i := 9) bn_cX0_measure_0 dop_180 18 (by decide +kernel)
theorem dX0_measure_12 : decode cX0_measure 12 = .ok (.iload_n 3, 1) := dR0 (k := 0) (i := 12) bn_cX0_measure_0 dop_29 (by decide +kernel)
theorem dX0_measure_13 : decode cX0_measure 13 = .ok (.iconst 0, 1) := dR0 (k := 0) (i := 13) bn_cX0_measure_0 dop_3 (by decide +kernel)
theorem dX0_measure_14 : decode cX0_measure 14 = .ok (.iastore, 1) := dR0 (k := 0) (i := 14) bn_cX0_measure_0 dop_79 (by decide +kernel)
theorem dX0_measure_15 : decode cX0_measure 15 = .ok (.iinc 3 1, 3) := dRii (f := Instr.iinc) (k := 0) (i := 15) bn_cX0_measure_0 dop_132 3 1 1 (by decide +kernel)
theorem dX0_measure_18 : decode cX0_measure 18 = .ok (.goto (-16), 3) := dR2s (f := Instr.goto) (k := 0) (i := 18) bn_cX0_measure_0 dop_167 65520 (-16) (by decide +kernel)
theorem dX0_measure_21 : decode cX0_measure 21 = .ok (.aload_n 1, 1) := dR0 (k := 0) (i := 21) bn_cX0_measure_0 dop_43 (by decide +kernel)
theorem dX0_measure_22 : decode cX0_measure 22 = .ok (.getfield 43, 3) := dR2 (f := Instr.getfield) (k := 0) (i := 22) bn_cX0_measure_0 dop_180 43 (by decide +kernel)
theorem dX0_measure_25 : decode cX0_measure 25 = .ok (.iload_n 2, 1) := dR0 (k := 0) (i := 25) bn_cX0_measure_0 dop_28 (by decide +kernel)
theorem dX0_measure_26 : decode cX0_measure 26 = .ok (.invokevirtual 73, 3) := dR2 (f := Instr.invokevirtual) (k := 0) (i := 26) bn_cX0_measure_0 dop_182 73 (by decide +kernel)
theorem dX0_measure_29 : decode cX0_measure 29 = .ok (.ifCond .ne 4, 3) := dR2s (f := Instr.ifCond .ne) (k := 0) (i := 29) bn_cX0_measure_0 dop_154 4 4 (by decide +kernel)
theorem dX0_measure_32 : decode cX0_measure 32 = .ok (.return_, 1) := dR0 (k := 0) (i := 32) bn_cX0_measure_0 dop_177 (by decide +kernel)
theorem dX0_measure_33 : decode cX0_measure 33 = .ok (.aload_n 0, 1) := dR0 (k := 0) (i := 33) bn_cX0_measure_0 dop_42 (by decide +kernel)
theorem dX0_measure_34 : decode cX0_measure 34 = .ok (.getfield 18, 3) := dR2 (f := Instr.getfield) (k := 0) (i := 34) bn_cX0_measure_0 dop_180 18 (by decide +kernel)
theorem dX0_measure_37 : decode cX0_measure 37 = .ok (.iload_n 2, 1) := dR0 (k := 0) (i := 37) bn_cX0_measure_0 dop_28 (by decide +kernel)
theorem dX0_measure_38 : decode cX0_measure 38 = .ok (.iconst 1, 1) := dR0 (k := 0) (i := 38) bn_cX0_measure_0 dop_4 (by decide +kernel)
theorem dX0_measure_39 : decode cX0_measure 39 = .ok (.iastore, 1) := dR0 (k := 0) (i := 39) bn_cX0_measure_0 dop_79 (by decide +kernel)
theorem dX0_measure_40 : decode cX0_measure 40 = .ok (.aload_n 0, 1) := dR0 (k := 0) (i := 40) bn_cX0_measure_0 dop_42 (by decide +kernel)
theorem dX0_measure_41 : decode cX0_measure 41 = .ok (.getfield 21, 3) := dR2 (f := Instr.getfield) (k := 0) (i := 41) bn_cX0_measure_0 dop_180 21 (by decide +kernel)
theorem dX0_measure_44 : decode cX0_measure 44 = .ok (.iconst 0, 1) := dR0 (k := 0) (i := 44) bn_cX0_measure_0 dop_3 (by decide +kernel)
theorem dX0_measure_45 : decode cX0_measure 45 = .ok (.iload_n 2, 1) := dR0 (k := 0) (i := 45) bn_cX0_measure_0 dop_28 (by decide +kernel)
theorem dX0_measure_46 : decode cX0_measure 46 = .ok (.iastore, 1) := dR0 (k := 0) (i := 46) bn_cX0_measure_0 dop_79 (by decide +kernel)
theorem dX0_measure_47 : decode cX0_measure 47 = .ok (.iconst 1, 1) := dR0 (k := 0) (i := 47) bn_cX0_measure_0 dop_4 (by decide +kernel)
theorem dX0_measure_48 : decode cX0_measure 48 = .ok (.istore_n 3, 1) := dR0 (k := 0) (i := 48) bn_cX0_measure_0 dop_62 (by decide +kernel)
theorem dX0_measure_49 : decode cX0_measure 49 = .ok (.iconst 0, 1) := dR0 (k := 0) (i := 49) bn_cX0_measure_0 dop_3 (by decide +kernel)
theorem dX0_measure_50 : decode cX0_measure 50 = .ok (.istore 4, 2) := dR1 (f := Instr.istore) (k := 0) (i := 50) bn_cX0_measure_0 dop_54 4 (by decide +kernel)
theorem dX0_measure_52 : decode cX0_measure 52 = .ok (.iload 4, 2) := dR1 (f := Instr.iload) (k := 0) (i := 52) bn_cX0_measure_0 dop_21 4 (by decide +kernel)
theorem dX0_measure_54 : decode cX0_measure 54 = .ok (.iload_n 3, 1) := dR0 (k := 0) (i := 54) bn_cX0_measure_0 dop_29 (by decide +kernel)
theorem dX0_measure_55 : decode cX0_measure 55 = .ok (.if_icmp .ge 95, 3) := dR2s (f := Instr.if_icmp .ge) (k := 0) (i := 55) bn_cX0_measure_0 dop_162 95 95 (by decide +kernel)
theorem dX0_measure_58 : decode cX0_measure 58 = .ok (.iload 4, 2) := dR1 (f := Instr.iload) (k := 0) (i := 58) bn_cX0_measure_0 dop_21 4 (by decide +kernel)
theorem dX0_measure_60 : decode cX0_measure 60 = .ok (.bipush 60, 2) := dR1s (f := Instr.bipush) (k := 0) (i := 60) bn_cX0_measure_0 dop_16 60 60 (by decide +kernel)
theorem dX0_measure_62 : decode cX0_measure 62 = .ok (.if_icmp .ge 88, 3) := dR2s (f := Instr.if_icmp .ge) (k := 0) (i := 62) bn_cX0_measure_0 dop_162 88 88 (by decide +kernel)
theorem dX0_measure_65 : decode cX0_measure 65 = .ok (.aload_n 0, 1) := dR0 (k := 0) (i := 65) bn_cX0_measure_0 dop_42 (by decide +kernel)
theorem dX0_measure_66 : decode cX0_measure 66 = .ok (.getfield 21, 3) := dR2 (f := Instr.getfield) (k := 0) (i := 66) bn_cX0_measure_0 dop_180 21 (by decide +kernel)
theorem dX0_measure_69 : decode cX0_measure 69 = .ok (.iload 4, 2) := dR1 (f := Instr.iload) (k := 0) (i := 69) bn_cX0_measure_0 dop_21 4 (by decide +kernel)
theorem dX0_measure_71 : decode cX0_measure 71 = .ok (.iaload, 1) := dR0 (k := 0) (i := 71) bn_cX0_measure_0 dop_46 (by decide +kernel)
theorem dX0_measure_72 : decode cX0_measure 72 = .ok (.istore 5, 2) := dR1 (f := Instr.istore) (k := 0) (i := 72) bn_cX0_measure_0 dop_54 5 (by decide +kernel)
theorem dX0_measure_74 : decode cX0_measure 74 = .ok (.iconst 0, 1) := dR0 (k := 0) (i := 74) bn_cX0_measure_0 dop_3 (by decide +kernel)
theorem dX0_measure_75 : decode cX0_measure 75 = .ok (.istore 6, 2) := dR1 (f := Instr.istore) (k := 0) (i := 75) bn_cX0_measure_0 dop_54 6 (by decide +kernel)
theorem dX0_measure_77 : decode cX0_measure 77 = .ok (.iload 6, 2) := dR1 (f := Instr.iload) (k := 0) (i := 77) bn_cX0_measure_0 dop_21 6 (by decide +kernel)
theorem dX0_measure_79 : decode cX0_measure 79 = .ok (.bipush 60, 2) := dR1s (f := Instr.bipush) (k := 0) (i := 79) bn_cX0_measure_0 dop_16 60 60 (by decide +kernel)
theorem dX0_measure_81 : decode cX0_measure 81 = .ok (.if_icmp .ge 63, 3) := dR2s (f := Instr.if_icmp .ge) (k := 0) (i := 81) bn_cX0_measure_0 dop_162 63 63 (by decide +kernel)
theorem dX0_measure_84 : decode cX0_measure 84 = .ok (.iload_n 3, 1) := dR0 (k := 0) (i := 84) bn_cX0_measure_0 dop_29 (by decide +kernel)
theorem dX0_measure_85 : decode cX0_measure 85 = .ok (.bipush 60, 2) := dR1s (f := Instr.bipush) (k := 0) (i := 85) bn_cX0_measure_0 dop_16 60 60 (by decide +kernel)
theorem dX0_measure_87 : decode cX0_measure 87 = .ok (.if_icmp .ge 57, 3) := dR2s (f := Instr.if_icmp .ge) (k := 0) (i := 87) bn_cX0_measure_0 dop_162 57 57 (by decide +kernel)
theorem dX0_measure_90 : decode cX0_measure 90 = .ok (.aload_n 0, 1) := dR0 (k := 0) (i := 90) bn_cX0_measure_0 dop_42 (by decide +kernel)
theorem dX0_measure_91 : decode cX0_measure 91 = .ok (.getfield 18, 3) := dR2 (f := Instr.getfield) (k := 0) (i := 91) bn_cX0_measure_0 dop_180 18 (by decide +kernel)
theorem dX0_measure_94 : decode cX0_measure 94 = .ok (.iload 6, 2) := dR1 (f := Instr.iload) (k := 0) (i := 94) bn_cX0_measure_0 dop_21 6 (by decide +kernel)
theorem dX0_measure_96 : decode cX0_measure 96 = .ok (.iaload, 1) := dR0 (k := 0) (i := 96) bn_cX0_measure_0 dop_46 (by decide +kernel)
theorem dX0_measure_97 : decode cX0_measure 97 = .ok (.ifCond .ne 41, 3) := dR2s (f := Instr.ifCond .ne) (k := 0) (i := 97) bn_cX0_measure_0 dop_154 41 41 (by decide +kernel)
theorem dX0_measure_100 : decode cX0_measure 100 = .ok (.aload_n 0, 1) := dR0 (k := 0) (i := 100) bn_cX0_measure_0 dop_42 (by decide +kernel)
theorem dX0_measure_101 : decode cX0_measure 101 = .ok (.aload_n 1, 1) := dR0 (k := 0) (i := 101) bn_cX0_measure_0 dop_43 (by decide +kernel)
theorem dX0_measure_102 : decode cX0_measure 102 = .ok (.iload 5, 2) := dR1 (f := Instr.iload) (k := 0) (i := 102) bn_cX0_measure_0 dop_21 5 (by decide +kernel)
theorem dX0_measure_104 : decode cX0_measure 104 = .ok (.iload 6, 2) := dR1 (f := Instr.iload) (k := 0) (i := 104) bn_cX0_measure_0 dop_21 6 (by decide +kernel)
theorem dX0_measure_106 : decode cX0_measure 106 = .ok (.invokevirtual 80, 3) := dR2 (f := Instr.invokevirtual) (k := 0) (i := 106) bn_cX0_measure_0 dop_182 80 (by decide +kernel)
theorem dX0_measure_109 : decode cX0_measure 109 = .ok (.ifCond .eq 29, 3) := dR2s (f := Instr.ifCond .eq) (k := 0) (i := 109) bn_cX0_measure_0 dop_153 29 29 (by decide +kernel)
theorem dX0_measure_112 : decode cX0_measure 112 = .ok (.aload_n 0, 1) := dR0 (k := 0) (i := 112) bn_cX0_measure_0 dop_42 (by decide +kernel)
theorem dX0_measure_113 : decode cX0_measure 113 = .ok (.getfield 18, 3) := dR2 (f := Instr.getfield) (k := 0) (i := 113) bn_cX0_measure_0 dop_180 18 (by decide +kernel)
theorem dX0_measure_116 : decode cX0_measure 116 = .ok (.iload 6, 2) := dR1 (f := Instr.iload) (k := 0) (i := 116) bn_cX0_measure_0 dop_21 6 (by decide +kernel)
theorem dX0_measure_118 : decode cX0_measure 118 = .ok (.aload_n 0, 1) := dR0 (k := 0) (i := 118) bn_cX0_measure_0 dop_42 (by decide +kernel)
theorem dX0_measure_119 : decode cX0_measure 119 = .ok (.iload 5, 2) := dR1 (f := Instr.iload) (k := 0) (i := 119) bn_cX0_measure_0 dop_21 5 (by decide +kernel)
theorem dX0_measure_121 : decode cX0_measure 121 = .ok (.invokevirtual 84, 3) := dR2 (f := Instr.invokevirtual) (k := 0) (i := 121) bn_cX0_measure_0 dop_182 84 (by decide +kernel)
theorem dX0_measure_124 : decode cX0_measure 124 = .ok (.iconst 1, 1) := dR0 (k := 0) (i := 124) bn_cX0_measure_0 dop_4 (by decide +kernel)
theorem dX0_measure_125 : decode cX0_measure 125 = .ok (.iadd, 1) := dR0 (k := 0) (i := 125) bn_cX0_measure_0 dop_96 (by decide +kernel)
theorem dX0_measure_126 : decode cX0_measure 126 = .ok (.iastore, 1) := dR0 (k := 0) (i := 126) bn_cX0_measure_0 dop_79 (by decide +kernel)
theorem dX0_measure_127 : decode cX0_measure 127 = .ok (.aload_n 0, 1) := dR0 (k := 0) (i := 127) bn_cX0_measure_0 dop_42 (by decide +kernel)
theorem bn_cX0_measure_128 : BN cX0_measure 128 0x2c94500540080a8560c01500203a140404429400e160f05802b5 := by
  unfold BN; decide +kernel
theorem dX0_measure_128 : decode cX0_measure 128 = .ok (.getfield 21, 3) := dR2 (f := Instr.getfield) (k := 128) (i := 0) bn_cX0_measure_128 dop_180 21 (by decide +kernel)
theorem dX0_measure_131 : decode cX0_measure 131 = .ok (.iload_n 3, 1) := dR0 (k := 128) (i := 3) bn_cX0_measure_128 dop_29 (by decide +kernel)
theorem dX0_measure_132 : decode cX0_measure 132 = .ok (.iload 6, 2) := dR1 (f := Instr.iload) (k := 128) (i := 4) bn_cX0_measure_128 dop_21 6 (by decide +kernel)
theorem dX0_measure_134 : decode cX0_measure 134 = .ok (.iastore, 1) := dR0 (k := 128) (i := 6) bn_cX0_measure_128 dop_79 (by decide +kernel)
theorem dX0_measure_135 : decode cX0_measure 135 = .ok (.iinc 3 1, 3) := dRii (f := Instr.iinc) (k := 128) (i := 7) bn_cX0_measure_128 dop_132 3 1 1 (by decide +kernel)
theorem dX0_measure_138 : decode cX0_measure 138 = .ok (.iinc 6 1, 3) := dRii (f := Instr.iinc) (k := 128) (i := 10) bn_cX0_measure_128 dop_132 6 1 1 (by decide +kernel)
theorem dX0_measure_141 : decode cX0_measure 141 = .ok (.goto (-64), 3) := dR2s (f := Instr.goto) (k := 128) (i := 13) bn_cX0_measure_128 dop_167 65472 (-64) (by decide +kernel)
theorem dX0_measure_144 : decode cX0_measure 144 = .ok (.iinc 4 1, 3) := dRii (f := Instr.iinc) (k := 128) (i := 16) bn_cX0_measure_128 dop_132 4 1 1 (by decide +kernel)
theorem dX0_measure_147 : decode cX0_measure 147 = .ok (.goto (-95), 3) := dR2s (f := Instr.goto) (k := 128) (i := 19) bn_cX0_measure_128 dop_167 65441 (-95) (by decide +kernel)
theorem dX0_measure_150 : decode cX0_measure 150 = .ok (.return_, 1) := dR0 (k := 128) (i := 22) bn_cX0_measure_128 dop_177 (by decide +kernel)
set_option maxHeartbeats 4000000 in
set_option maxRecDepth 100000 in
theorem c_X0_measureG (l : Launch) (D : va_G) (cI : ClassId) (aK aV : Nat → Nat) (k o k0 k1 k2 k3 k4 o0 o1 o2 o3 o4 o5 o40 o41 o42 o43 o44 o45 o46 o47 o48 : Nat) (sz : Nat) (c5 : Int32) (c0 : Nat → Int32) (c1 : Nat → Int32) (c2 : Nat → Int32) (c3 : Nat → Int32) (d6 : Int32) (d7 : Int32) (d8 : Int32) (d49 : Int32) (d40 : Nat → Int32) (d41 : Nat → Int32) (d45 : Nat → Int32) (a1 : Int32) : Met l yX0_measure (gW yX0_measure cX0_measure 7 none) ({ frames := 4, cells := 0, slots := 0, locals := 92 } : Room) (kPreX D cI aK aV [.ref k, .ref o, .int a1] [(k, .inr (0, [.ref k0, .ref k1, .ref k2, .ref k3, .ref k4, .int c5])), (k0, .inl (cI, 41, .inl c0)), (k1, .inl (cI, 41, .inl c1)), (k2, .inl (cI, 60, .inl c2)), (k3, .inl (cI, 60, .inl c3)), (o, .inr (9, [.ref o0, .ref o1, .ref o2, .ref o3, .ref o4, .ref o5, .int d6, .int d7, .int d8])), (o4, .inr (8, [.ref o40, .ref o41, .ref o42, .ref o43, .ref o44, .ref o45, .ref o46, .ref o47, .ref o48, .int d49])), (o40, .inl (cI, 60, .inl d40)), (o41, .inl (cI, 60, .inl d41)), (o45, .inl (cI, 60, .inl d45))] sz) (va_Qv (fun (u : (Nat → Int32) × (Nat → Int32)) => True) (fun u t => kWd D cI (va_A [(k, .inr (0, [.ref k0, .ref k1, .ref k2, .ref k3, .ref k4, .int c5])), (k0, .inl (cI, 41, .inl c0)), (k1, .inl (cI, 41, .inl c1)), (k2, .inl (cI, 60, .inl c2)), (k3, .inl (cI, 60, .inl c3)), (o, .inr (9, [.ref o0, .ref o1, .ref o2, .ref o3, .ref o4, .ref o5, .int d6, .int d7, .int d8])), (o4, .inr (8, [.ref o40, .ref o41, .ref o42, .ref o43, .ref o44, .ref o45, .ref o46, .ref o47, .ref o48, .int d49])), (o40, .inl (cI, 60, .inl d40)), (o41, .inl (cI, 60, .inl d41)), (o45, .inl (cI, 60, .inl d45))] sz) [(k, .inr (0, [.ref k0, .ref k1, .ref k2, .ref k3, .ref k4, .int c5])), (k0, .inl (cI, 41, .inl c0)), (k1, .inl (cI, 41, .inl c1)), (k2, .inl (cI, 60, .inl u.1)), (k3, .inl (cI, 60, .inl u.2)), (o, .inr (9, [.ref o0, .ref o1, .ref o2, .ref o3, .ref o4, .ref o5, .int d6, .int d7, .int d8])), (o4, .inr (8, [.ref o40, .ref o41, .ref o42, .ref o43, .ref o44, .ref o45, .ref o46, .ref o47, .ref o48, .int d49])), (o40, .inl (cI, 60, .inl d40)), (o41, .inl (cI, 60, .inl d41)), (o45, .inl (cI, 60, .inl d45))] t) (va_A [(k, .inr (0, [.ref k0, .ref k1, .ref k2, .ref k3, .ref k4, .int c5])), (k0, .inl (cI, 41, .inl c0)), (k1, .inl (cI, 41, .inl c1)), (k2, .inl (cI, 60, .inl c2)), (k3, .inl (cI, 60, .inl c3)), (o, .inr (9, [.ref o0, .ref o1, .ref o2, .ref o3, .ref o4, .ref o5, .int d6, .int d7, .int d8])), (o4, .inr (8, [.ref o40, .ref o41, .ref o42, .ref o43, .ref o44, .ref o45, .ref o46, .ref o47, .ref o48, .int d49])), (o40, .inl (cI, 60, .inl d40)), (o41, .inl (cI, 60, .inl d41)), (o45, .inl (cI, 60, .inl d45))] sz)) 0 0 (va_A [(k, .inr (0, [.ref k0, .ref k1, .ref k2, .ref k3, .ref k4, .int c5])), (k0, .inl (cI, 41, .inl c0)), (k1, .inl (cI, 41, .inl c1)), (k2, .inl (cI, 60, .inl c2)), (k3, .inl (cI, 60, .inl c3)), (o, .inr (9, [.ref o0, .ref o1, .ref o2, .ref o3, .ref o4, .ref o5, .int d6, .int d7, .int d8])), (o4, .inr (8, [.ref o40, .ref o41, .ref o42, .ref o43, .ref o44, .ref o45, .ref o46, .ref o47, .ref o48, .int d49])), (o40, .inl (cI, 60, .inl d40)), (o41, .inl (cI, 60, .inl d41)), (o45, .inl (cI, 60, .inl d45))] sz) := by
  refine kMetVX (own := RX0) (by decide +kernel) rfl (Nat.le_of_ble_eq_true rfl) ?_
  intro p e s m args below meth c hx hb hT hown hname hml A Q hK hP hD hS hA hN hXS hRet ls hl
  have hl : lv_has ls 7 [(0, .ref k), (1, .ref o), (2, .int a1)] := hl
  have lo_a1 := k_lo a1
  have hi_a1 := k_hi a1
  have lo_d49 := k_lo d49
  have hi_d49 := k_hi d49
  refine lv_iconst (v := 0) hx hb dX0_measure_0 (by decide +kernel) ?_
  refine lv_istore_n (lv' := [(3, .int 0), (0, .ref k), (1, .ref o), (2, .int a1)]) hx hb dX0_measure_1 rfl hl (by decide +kernel) rfl ?_
  clear hl
  intro ls hl
  have hloop_2 : ∀ (fu_ : Nat) (l2_3 : Int32) (g2_k2 : Nat → Int32), 0 ≤ l2_3.toInt → (60 - l2_3.toInt).toNat < fu_ → ∀ (ls : Array Slot) (H : Heap) (locs : List Loc), lv_has ls 7 [(3, .int l2_3), (0, .ref k), (1, .ref o), (2, .int a1)] → va_P D vwCl [(k, .inr (0, [.ref k0, .ref k1, .ref k2, .ref k3, .ref k4, .int c5])), (k0, .inl (cI, 41, .inl c0)), (k1, .inl (cI, 41, .inl c1)), (k2, .inl (cI, 60, .inl g2_k2)), (k3, .inl (cI, 60, .inl c3)), (o, .inr (9, [.ref o0, .ref o1, .ref o2, .ref o3, .ref o4, .ref o5, .int d6, .int d7, .int d8])), (o4, .inr (8, [.ref o40, .ref o41, .ref o42, .ref o43, .ref o44, .ref o45, .ref o46, .ref o47, .ref o48, .int d49])), (o40, .inl (cI, 60, .inl d40)), (o41, .inl (cI, 60, .inl d41)), (o45, .inl (cI, 60, .inl d45))] H → va_D A [(k, .inr (0, [.ref k0, .ref k1, .ref k2, .ref k3, .ref k4, .int c5])), (k0, .inl (cI, 41, .inl c0)), (k1, .inl (cI, 41, .inl c1)), (k2, .inl (cI, 60, .inl g2_k2)), (k3, .inl (cI, 60, .inl c3)), (o, .inr (9, [.ref o0, .ref o1, .ref o2, .ref o3, .ref o4, .ref o5, .int d6, .int d7, .int d8])), (o4, .inr (8, [.ref o40, .ref o41, .ref o42, .ref o43, .ref o44, .ref o45, .ref o46, .ref o47, .ref o48, .int d49])), (o40, .inl (cI, 60, .inl d40)), (o41, .inl (cI, 60, .inl d41)), (o45, .inl (cI, 60, .inl d45))] → va_S A s.heap H locs → W p l e ({ frames := 4, cells := 0, slots := 0, locals := 92 } : Room) s m args below meth c H locs 0 0 Q (F0 m 2 ls []) := by
    intro fu_; induction fu_ with
    | zero => intro l2_3 g2_k2 i2_0 hm; exact absurd hm (by omega)
    | succ fu_ ih2 =>
        intro l2_3 g2_k2 i2_0 hm ls H locs hl hP hD hS
        have lo_l2_3 := k_lo l2_3
        have hi_l2_3 := k_hi l2_3
        refine lv_iload_n hx hb dX0_measure_2 rfl (lv_at hl 0 rfl) ?_
        refine lv_bipush (v := 60) hx hb dX0_measure_3 (by decide +kernel) ?_
        refine b_icmp_ge hx hb rfl zl_60 (tgt := 21) dX0_measure_5 (by decide +kernel) (fun c_1 => ?_) (fun c_1 => ?_)
        · refine lv_aload_n hx hb dX0_measure_21 rfl (lv_at hl 2 rfl) ?_
          refine va_get (D := D) (ci := 9) (v := .ref o4) (C := RX9) (T := TX9) (N := 9) hx hb hT giX9 hown hK hP 5 rfl rfl 4 (by decide +kernel) (hT (Cond.fieldLink RX0 43 "DesertWire$World" "works" "LDesertWire$Works;") mw_98) (fun _ h9 => h9) rfl dX0_measure_22 ?_
          refine lv_iload_n hx hb dX0_measure_25 rfl (lv_at hl 3 rfl) ?_
          refine kJi (wr := [(k, .inr (0, [.ref k0, .ref k1, .ref k2, .ref k3, .ref k4, .int c5])), (k0, .inl (cI, 41, .inl c0)), (k1, .inl (cI, 41, .inl c1)), (k2, .inl (cI, 60, .inl g2_k2)), (k3, .inl (cI, 60, .inl c3)), (o, .inr (9, [.ref o0, .ref o1, .ref o2, .ref o3, .ref o4, .ref o5, .int d6, .int d7, .int d8])), (o40, .inl (cI, 60, .inl d40)), (o41, .inl (cI, 60, .inl d41)), (o45, .inl (cI, 60, .inl d45))]) (va_runV (As := [.int a1]) (rest := []) ⟨hx, hb, hml, hown, hT⟩ (c_X8_hasG l D cI aK aV o4 o40 o41 o42 o43 o44 o45 o46 o47 o48 H.size d49 a1) (cwV 1 hT (gV_in mw_371 mw_796 mw_369 mw_370 mw_3) rfl rfl rfl (by decide +kernel) ⟨Nat.le_of_ble_eq_true rfl, Nat.le_of_ble_eq_true rfl⟩) (kRecvX (q0 := 6) (ci := 8) hK hP hD hN hXS hS hA rfl rfl [6] rfl (by decide +kernel)) rfl rfl hl.1 rfl (lv_room (Nat.le_of_ble_eq_true rfl)) dX0_measure_26 ⟨Nat.le_of_ble_eq_true rfl, Nat.le_of_ble_eq_true rfl⟩) hP hD hS hA [6] [0, 1, 2, 3, 4, 5, 7, 8, 9] rfl rfl (by decide +kernel) (by decide +kernel) ?_
          clear hP hD hS
          intro r_2 u_4 H locs w_3 hP hD hS
          replace hP : va_P D vwCl [(k, .inr (0, [.ref k0, .ref k1, .ref k2, .ref k3, .ref k4, .int c5])), (k0, .inl (cI, 41, .inl c0)), (k1, .inl (cI, 41, .inl c1)), (k2, .inl (cI, 60, .inl g2_k2)), (k3, .inl (cI, 60, .inl c3)), (o, .inr (9, [.ref o0, .ref o1, .ref o2, .ref o3, .ref o4, .ref o5, .int d6, .int d7, .int d8])), (o40, .inl (cI, 60, .inl d40)), (o41, .inl (cI, 60, .inl d41)), (o45, .inl (cI, 60, .inl d45)), (o4, .inr (8, [.ref o40, .ref o41, .ref o42, .ref o43, .ref o44, .ref o45, .ref o46, .ref o47, .ref o48, .int d49]))] H := hP
          replace hD : va_D A [(k, .inr (0, [.ref k0, .ref k1, .ref k2, .ref k3, .ref k4, .int c5])), (k0, .inl (cI, 41, .inl c0)), (k1, .inl (cI, 41, .inl c1)), (k2, .inl (cI, 60, .inl g2_k2)), (k3, .inl (cI, 60, .inl c3)), (o, .inr (9, [.ref o0, .ref o1, .ref o2, .ref o3, .ref o4, .ref o5, .int d6, .int d7, .int d8])), (o40, .inl (cI, 60, .inl d40)), (o41, .inl (cI, 60, .inl d41)), (o45, .inl (cI, 60, .inl d45)), (o4, .inr (8, [.ref o40, .ref o41, .ref o42, .ref o43, .ref o44, .ref o45, .ref o46, .ref o47, .ref o48, .int d49]))] := hD
          rcases w_3 with ⟨hr_2, h_5, h_6, h_7⟩ | ⟨hr_2, h_8⟩
          · have h_5 : 0 ≤ a1.toInt := h_5
            have h_6 : a1.toInt < d49.toInt := h_6
            have h_7 : a1.toInt < 60 := h_7
            obtain rfl : r_2 = 1 := hr_2.trans (by decide +kernel)
            refine b_if_ne hx hb zl_1 (tgt := 33) dX0_measure_29 (by decide +kernel) (fun c_9 => ?_) (fun c_9 => by exfalso; omega)
            refine lv_aload_n hx hb dX0_measure_33 rfl (lv_at hl 1 rfl) ?_
            refine va_get (D := D) (ci := 0) (v := .ref k2) (C := RX0) (T := TX0) (N := 6) hx hb hT giX0 hown hK hP 0 rfl rfl 2 (by decide +kernel) (hT (Cond.fieldLink RX0 18 "DesertWire$Hands" "far" "[I") mw_201) (fun _ h9 => h9) rfl dX0_measure_34 ?_
            refine lv_iload_n hx hb dX0_measure_37 rfl (lv_at hl 3 rfl) ?_
            refine lv_iconst (v := 1) hx hb dX0_measure_38 (by decide +kernel) ?_
            refine va_iast hx hb hK hP hD hS 3 0 rfl rfl (k_in (by omega) (by omega)) dX0_measure_39 ?_
            clear hP hD hS
            intro H locs hP hD hS
            replace hP : va_P D vwCl [(k, .inr (0, [.ref k0, .ref k1, .ref k2, .ref k3, .ref k4, .int c5])), (k0, .inl (cI, 41, .inl c0)), (k1, .inl (cI, 41, .inl c1)), (k2, .inl (cI, 60, .inl (upd g2_k2 a1.toNatClampNeg 1))), (k3, .inl (cI, 60, .inl c3)), (o, .inr (9, [.ref o0, .ref o1, .ref o2, .ref o3, .ref o4, .ref o5, .int d6, .int d7, .int d8])), (o40, .inl (cI, 60, .inl d40)), (o41, .inl (cI, 60, .inl d41)), (o45, .inl (cI, 60, .inl d45)), (o4, .inr (8, [.ref o40, .ref o41, .ref o42, .ref o43, .ref o44, .ref o45, .ref o46, .ref o47, .ref o48, .int d49]))] H := hP
            replace hD : va_D A [(k, .inr (0, [.ref k0, .ref k1, .ref k2, .ref k3, .ref k4, .int c5])), (k0, .inl (cI, 41, .inl c0)), (k1, .inl (cI, 41, .inl c1)), (k2, .inl (cI, 60, .inl (upd g2_k2 a1.toNatClampNeg 1))), (k3, .inl (cI, 60, .inl c3)), (o, .inr (9, [.ref o0, .ref o1, .ref o2, .ref o3, .ref o4, .ref o5, .int d6, .int d7, .int d8])), (o40, .inl (cI, 60, .inl d40)), (o41, .inl (cI, 60, .inl d41)), (o45, .inl (cI, 60, .inl d45)), (o4, .inr (8, [.ref o40, .ref o41, .ref o42, .ref o43, .ref o44, .ref o45, .ref o46, .ref o47, .ref o48, .int d49]))] := hD
            obtain ⟨f_10, ef_10⟩ : ∃ g : Nat → Int32, g = upd g2_k2 a1.toNatClampNeg 1 := ⟨_, rfl⟩
            rw [← ef_10] at hP hD
            refine lv_aload_n hx hb dX0_measure_40 rfl (lv_at hl 1 rfl) ?_
            refine va_get (D := D) (ci := 0) (v := .ref k3) (C := RX0) (T := TX0) (N := 6) hx hb hT giX0 hown hK hP 0 rfl rfl 3 (by decide +kernel) (hT (Cond.fieldLink RX0 21 "DesertWire$Hands" "queue" "[I") mw_202) (fun _ h9 => h9) rfl dX0_measure_41 ?_
            refine lv_iconst (v := 0) hx hb dX0_measure_44 (by decide +kernel) ?_
            refine lv_iload_n hx hb dX0_measure_45 rfl (lv_at hl 3 rfl) ?_
            refine va_iast hx hb hK hP hD hS 4 0 rfl rfl (k_inl (by decide +kernel)) dX0_measure_46 ?_
            clear hP hD hS
            intro H locs hP hD hS
            replace hP : va_P D vwCl [(k, .inr (0, [.ref k0, .ref k1, .ref k2, .ref k3, .ref k4, .int c5])), (k0, .inl (cI, 41, .inl c0)), (k1, .inl (cI, 41, .inl c1)), (k2, .inl (cI, 60, .inl f_10)), (k3, .inl (cI, 60, .inl (upd c3 0 a1))), (o, .inr (9, [.ref o0, .ref o1, .ref o2, .ref o3, .ref o4, .ref o5, .int d6, .int d7, .int d8])), (o40, .inl (cI, 60, .inl d40)), (o41, .inl (cI, 60, .inl d41)), (o45, .inl (cI, 60, .inl d45)), (o4, .inr (8, [.ref o40, .ref o41, .ref o42, .ref o43, .ref o44, .ref o45, .ref o46, .ref o47, .ref o48, .int d49]))] H := hP
            replace hD : va_D A [(k, .inr (0, [.ref k0, .ref k1, .ref k2, .ref k3, .ref k4, .int c5])), (k0, .inl (cI, 41, .inl c0)), (k1, .inl (cI, 41, .inl c1)), (k2, .inl (cI, 60, .inl f_10)), (k3, .inl (cI, 60, .inl (upd c3 0 a1))), (o, .inr (9, [.ref o0, .ref o1, .ref o2, .ref o3, .ref o4, .ref o5, .int d6, .int d7, .int d8])), (o40, .inl (cI, 60, .inl d40)), (o41, .inl (cI, 60, .inl d41)), (o45, .inl (cI, 60, .inl d45)), (o4, .inr (8, [.ref o40, .ref o41, .ref o42, .ref o43, .ref o44, .ref o45, .ref o46, .ref o47, .ref o48, .int d49]))] := hD
            obtain ⟨f_11, ef_11⟩ : ∃ g : Nat → Int32, g = upd c3 0 a1 := ⟨_, rfl⟩
            rw [← ef_11] at hP hD
            refine lv_iconst (v := 1) hx hb dX0_measure_47 (by decide +kernel) ?_
            refine lv_istore_n (lv' := [(3, .int 1), (0, .ref k), (1, .ref o), (2, .int a1)]) hx hb dX0_measure_48 rfl hl (by decide +kernel) rfl ?_
            clear hl
            intro ls hl
            refine lv_iconst (v := 0) hx hb dX0_measure_49 (by decide +kernel) ?_
            refine lv_istore (lv' := [(4, .int 0), (3, .int 1), (0, .ref k), (1, .ref o), (2, .int a1)]) hx hb dX0_measure_50 hl (by decide +kernel) rfl ?_
            clear hl
            intro ls hl
            have hloop_52 : ∀ (fu_ : Nat) (l52_3 : Int32) (l52_4 : Int32) (g52_k2 : Nat → Int32) (g52_k3 : Nat → Int32), 1 ≤ l52_3.toInt → 0 ≤ l52_4.toInt → (60 - l52_4.toInt).toNat < fu_ → ∀ (ls : Array Slot) (H : Heap) (locs : List Loc), lv_has ls 7 [(4, .int l52_4), (3, .int l52_3), (0, .ref k), (1, .ref o), (2, .int a1)] → va_P D vwCl [(k, .inr (0, [.ref k0, .ref k1, .ref k2, .ref k3, .ref k4, .int c5])), (k0, .inl (cI, 41, .inl c0)), (k1, .inl (cI, 41, .inl c1)), (k2, .inl (cI, 60, .inl g52_k2)), (k3, .inl (cI, 60, .inl g52_k3)), (o, .inr (9, [.ref o0, .ref o1, .ref o2, .ref o3, .ref o4, .ref o5, .int d6, .int d7, .int d8])), (o40, .inl (cI, 60, .inl d40)), (o41, .inl (cI, 60, .inl d41)), (o45, .inl (cI, 60, .inl d45)), (o4, .inr (8, [.ref o40, .ref o41, .ref o42, .ref o43, .ref o44, .ref o45, .ref o46, .ref o47, .ref o48, .int d49]))] H → va_D A [(k, .inr (0, [.ref k0, .ref k1, .ref k2, .ref k3, .ref k4, .int c5])), (k0, .inl (cI, 41, .inl c0)), (k1, .inl (cI, 41, .inl c1)), (k2, .inl (cI, 60, .inl g52_k2)), (k3, .inl (cI, 60, .inl g52_k3)), (o, .inr (9, [.ref o0, .ref o1, .ref o2, .ref o3, .ref o4, .ref o5, .int d6, .int d7, .int d8])), (o40, .inl (cI, 60, .inl d40)), (o41, .inl (cI, 60, .inl d41)), (o45, .inl (cI, 60, .inl d45)), (o4, .inr (8, [.ref o40, .ref o41, .ref o42, .ref o43, .ref o44, .ref o45, .ref o46, .ref o47, .ref o48, .int d49]))] → va_S A s.heap H locs → W p l e ({ frames := 4, cells := 0, slots := 0, locals := 92 } : Room) s m args below meth c H locs 0 0 Q (F0 m 52 ls []) := by
              intro fu_; induction fu_ with
              | zero => intro l52_3 l52_4 g52_k2 g52_k3 i52_0 i52_1 hm; exact absurd hm (by omega)
              | succ fu_ ih52 =>
                  intro l52_3 l52_4 g52_k2 g52_k3 i52_0 i52_1 hm ls H locs hl hP hD hS
                  have lo_l52_3 := k_lo l52_3
                  have hi_l52_3 := k_hi l52_3
                  have lo_l52_4 := k_lo l52_4
                  have hi_l52_4 := k_hi l52_4
                  refine lv_iload hx hb dX0_measure_52 (lv_at hl 0 rfl) ?_
                  refine lv_iload_n hx hb dX0_measure_54 rfl (lv_at hl 1 rfl) ?_
                  refine b_icmp_ge hx hb rfl rfl (tgt := 150) dX0_measure_55 (by decide +kernel) (fun c_12 => ?_) (fun c_12 => ?_)
                  · exact hRet (g52_k2, g52_k3) [0, 1, 2, 3, 4, 5, 9, 6, 7, 8] trivial hP hD (by decide +kernel) rfl hS dX0_measure_150
                  · refine lv_iload hx hb dX0_measure_58 (lv_at hl 0 rfl) ?_
                    refine lv_bipush (v := 60) hx hb dX0_measure_60 (by decide +kernel) ?_
                    refine b_icmp_ge hx hb rfl zl_60 (tgt := 150) dX0_measure_62 (by decide +kernel) (fun c_13 => ?_) (fun c_13 => ?_)
                    · exact hRet (g52_k2, g52_k3) [0, 1, 2, 3, 4, 5, 9, 6, 7, 8] trivial hP hD (by decide +kernel) rfl hS dX0_measure_150
                    · refine lv_aload_n hx hb dX0_measure_65 rfl (lv_at hl 2 rfl) ?_
                      refine va_get (D := D) (ci := 0) (v := .ref k3) (C := RX0) (T := TX0) (N := 6) hx hb hT giX0 hown hK hP 0 rfl rfl 3 (by decide +kernel) (hT (Cond.fieldLink RX0 21 "DesertWire$Hands" "queue" "[I") mw_202) (fun _ h9 => h9) rfl dX0_measure_66 ?_
                      refine lv_iload hx hb dX0_measure_69 (lv_at hl 0 rfl) ?_
                      refine k_iald (v := (g52_k3 l52_4.toNatClampNeg)) hx hb hK hP 4 0 rfl rfl (k_in (by omega) (by omega)) rfl dX0_measure_71 ?_
                      refine lv_topi (fun v_14 ev_14 => ?_)
                      have lo_v_14 := k_lo v_14
                      have hi_v_14 := k_hi v_14
                      have tv_14 : v_14.toInt = (g52_k3 l52_4.toNatClampNeg).toInt := by rw [ev_14]
                      refine lv_istore (lv' := [(5, .int v_14), (4, .int l52_4), (3, .int l52_3), (0, .ref k), (1, .ref o), (2, .int a1)]) hx hb dX0_measure_72 hl (by decide +kernel) rfl ?_
                      clear hl
                      intro ls hl
                      refine lv_iconst (v := 0) hx hb dX0_measure_74 (by decide +kernel) ?_
                      refine lv_istore (lv' := [(6, .int 0), (5, .int v_14), (4, .int l52_4), (3, .int l52_3), (0, .ref k), (1, .ref o), (2, .int a1)]) hx hb dX0_measure_75 hl (by decide +kernel) rfl ?_
                      clear hl
                      intro ls hl
                      have hloop_77 : ∀ (fu_ : Nat) (l77_3 : Int32) (l77_6 : Int32) (g77_k2 : Nat → Int32) (g77_k3 : Nat → Int32), l52_3.toInt ≤ l77_3.toInt → 0 ≤ l77_6.toInt → (60 - l77_6.toInt).toNat < fu_ → ∀ (ls : Array Slot) (H : Heap) (locs : List Loc), lv_has ls 7 [(6, .int l77_6), (5, .int v_14), (4, .int l52_4), (3, .int l77_3), (0, .ref k), (1, .ref o), (2, .int a1)] → va_P D vwCl [(k, .inr (0, [.ref k0, .ref k1, .ref k2, .ref k3, .ref k4, .int c5])), (k0, .inl (cI, 41, .inl c0)), (k1, .inl (cI, 41, .inl c1)), (k2, .inl (cI, 60, .inl g77_k2)), (k3, .inl (cI, 60, .inl g77_k3)), (o, .inr (9, [.ref o0, .ref o1, .ref o2, .ref o3, .ref o4, .ref o5, .int d6, .int d7, .int d8])), (o40, .inl (cI, 60, .inl d40)), (o41, .inl (cI, 60, .inl d41)), (o45, .inl (cI, 60, .inl d45)), (o4, .inr (8, [.ref o40, .ref o41, .ref o42, .ref o43, .ref o44, .ref o45, .ref o46, .ref o47, .ref o48, .int d49]))] H → va_D A [(k, .inr (0, [.ref k0, .ref k1, .ref k2, .ref k3, .ref k4, .int c5])), (k0, .inl (cI, 41, .inl c0)), (k1, .inl (cI, 41, .inl c1)), (k2, .inl (cI, 60, .inl g77_k2)), (k3, .inl (cI, 60, .inl g77_k3)), (o, .inr (9, [.ref o0, .ref o1, .ref o2, .ref o3, .ref o4, .ref o5, .int d6, .int d7, .int d8])), (o40, .inl (cI, 60, .inl d40)), (o41, .inl (cI, 60, .inl d41)), (o45, .inl (cI, 60, .inl d45)), (o4, .inr (8, [.ref o40, .ref o41, .ref o42, .ref o43, .ref o44, .ref o45, .ref o46, .ref o47, .ref o48, .int d49]))] → va_S A s.heap H locs → W p l e ({ frames := 4, cells := 0, slots := 0, locals := 92 } : Room) s m args below meth c H locs 0 0 Q (F0 m 77 ls []) := by
                        intro fu_; induction fu_ with
                        | zero => intro l77_3 l77_6 g77_k2 g77_k3 i77_0 i77_1 hm; exact absurd hm (by omega)
                        | succ fu_ ih77 =>
                            intro l77_3 l77_6 g77_k2 g77_k3 i77_0 i77_1 hm ls H locs hl hP hD hS
                            have lo_l77_3 := k_lo l77_3
                            have hi_l77_3 := k_hi l77_3
                            have lo_l77_6 := k_lo l77_6
                            have hi_l77_6 := k_hi l77_6
                            refine lv_iload hx hb dX0_measure_77 (lv_at hl 0 rfl) ?_
                            refine lv_bipush (v := 60) hx hb dX0_measure_79 (by decide +kernel) ?_
                            refine b_icmp_ge hx hb rfl zl_60 (tgt := 144) dX0_measure_81 (by decide +kernel) (fun c_15 => ?_) (fun c_15 => ?_)
                            · obtain ⟨v_16, ev_16⟩ : ∃ y : Int32, y = l52_4 + 1 := ⟨_, rfl⟩
                              have tv_16 : v_16.toInt = l52_4.toInt + 1 := by rw [ev_16]; exact k_addv rfl zl_1 (by omega) (by omega)
                              refine lv_iinc (v := v_16) (lv' := [(4, .int v_16), (6, .int l77_6), (5, .int v_14), (3, .int l77_3), (0, .ref k), (1, .ref o), (2, .int a1)]) hx hb dX0_measure_144 hl (k := 2) rfl (by rw [ev_16]; rfl) (by decide +kernel) rfl ?_
                              clear hl
                              intro ls hl
                              refine lv_goto (tgt := 52) hx hb dX0_measure_147 (by decide +kernel) ?_
                              exact ih52 l77_3 v_16 g77_k2 g77_k3 (by first | omega | decide | assumption | rfl) (by first | omega | decide | assumption | rfl) (by omega) ls _ _ (lv_sub hl [0, 3, 4, 5, 6] rfl) (hP.sub [0, 1, 2, 3, 4, 5, 6, 7, 8, 9] rfl) (hD.sub [0, 1, 2, 3, 4, 5, 6, 7, 8, 9] (by decide +kernel) rfl) hS
                            · refine lv_iload_n hx hb dX0_measure_84 rfl (lv_at hl 3 rfl) ?_
                              refine lv_bipush (v := 60) hx hb dX0_measure_85 (by decide +kernel) ?_
                              refine b_icmp_ge hx hb rfl zl_60 (tgt := 144) dX0_measure_87 (by decide +kernel) (fun c_17 => ?_) (fun c_17 => ?_)
                              · obtain ⟨v_18, ev_18⟩ : ∃ y : Int32, y = l52_4 + 1 := ⟨_, rfl⟩
                                have tv_18 : v_18.toInt = l52_4.toInt + 1 := by rw [ev_18]; exact k_addv rfl zl_1 (by omega) (by omega)
                                refine lv_iinc (v := v_18) (lv' := [(4, .int v_18), (6, .int l77_6), (5, .int v_14), (3, .int l77_3), (0, .ref k), (1, .ref o), (2, .int a1)]) hx hb dX0_measure_144 hl (k := 2) rfl (by rw [ev_18]; rfl) (by decide +kernel) rfl ?_
                                clear hl
                                intro ls hl
                                refine lv_goto (tgt := 52) hx hb dX0_measure_147 (by decide +kernel) ?_
                                exact ih52 l77_3 v_18 g77_k2 g77_k3 (by first | omega | decide | assumption | rfl) (by first | omega | decide | assumption | rfl) (by omega) ls _ _ (lv_sub hl [0, 3, 4, 5, 6] rfl) (hP.sub [0, 1, 2, 3, 4, 5, 6, 7, 8, 9] rfl) (hD.sub [0, 1, 2, 3, 4, 5, 6, 7, 8, 9] (by decide +kernel) rfl) hS
                              · refine lv_aload_n hx hb dX0_measure_90 rfl (lv_at hl 4 rfl) ?_
                                refine va_get (D := D) (ci := 0) (v := .ref k2) (C := RX0) (T := TX0) (N := 6) hx hb hT giX0 hown hK hP 0 rfl rfl 2 (by decide +kernel) (hT (Cond.fieldLink RX0 18 "DesertWire$Hands" "far" "[I") mw_201) (fun _ h9 => h9) rfl dX0_measure_91 ?_
                                refine lv_iload hx hb dX0_measure_94 (lv_at hl 0 rfl) ?_
                                refine k_iald (v := (g77_k2 l77_6.toNatClampNeg)) hx hb hK hP 3 0 rfl rfl (k_in (by omega) (by omega)) rfl dX0_measure_96 ?_
                                refine lv_topi (fun v_19 ev_19 => ?_)
                                have lo_v_19 := k_lo v_19
                                have hi_v_19 := k_hi v_19
                                have tv_19 : v_19.toInt = (g77_k2 l77_6.toNatClampNeg).toInt := by rw [ev_19]
                                refine b_if_ne hx hb rfl (tgt := 138) dX0_measure_97 (by decide +kernel) (fun c_20 => ?_) (fun c_20 => ?_)
                                · obtain ⟨v_21, ev_21⟩ : ∃ y : Int32, y = l77_6 + 1 := ⟨_, rfl⟩
                                  have tv_21 : v_21.toInt = l77_6.toInt + 1 := by rw [ev_21]; exact k_addv rfl zl_1 (by omega) (by omega)
                                  refine lv_iinc (v := v_21) (lv' := [(6, .int v_21), (5, .int v_14), (4, .int l52_4), (3, .int l77_3), (0, .ref k), (1, .ref o), (2, .int a1)]) hx hb dX0_measure_138 hl (k := 0) rfl (by rw [ev_21]; rfl) (by decide +kernel) rfl ?_
                                  clear hl
                                  intro ls hl
                                  refine lv_goto (tgt := 77) hx hb dX0_measure_141 (by decide +kernel) ?_
                                  exact ih77 l77_3 v_21 g77_k2 g77_k3 (by first | omega | decide | assumption | rfl) (by first | omega | decide | assumption | rfl) (by omega) ls _ _ (lv_sub hl [0, 1, 2, 3, 4, 5, 6] rfl) (hP.sub [0, 1, 2, 3, 4, 5, 6, 7, 8, 9] rfl) (hD.sub [0, 1, 2, 3, 4, 5, 6, 7, 8, 9] (by decide +kernel) rfl) hS
                                · refine lv_aload_n hx hb dX0_measure_100 rfl (lv_at hl 4 rfl) ?_
                                  refine lv_aload_n hx hb dX0_measure_101 rfl (lv_at hl 5 rfl) ?_
                                  refine lv_iload hx hb dX0_measure_102 (lv_at hl 1 rfl) ?_
                                  refine lv_iload hx hb dX0_measure_104 (lv_at hl 0 rfl) ?_
                                  refine kJi (wr := [(k2, .inl (cI, 60, .inl g77_k2)), (k3, .inl (cI, 60, .inl g77_k3))]) (va_runV (As := [.ref o, .int v_14, .int l77_6]) (rest := []) ⟨hx, hb, hml, hown, hT⟩ (c_X0_isReadG l D cI aK aV k o k0 k1 k2 k3 k4 o0 o1 o2 o3 o4 o5 o40 o41 o42 o43 o44 o45 o46 o47 o48 H.size c5 c0 c1 d6 d7 d8 d49 d40 d41 d45 v_14 l77_6) (cwV 3 hT (gV_in mw_800 mw_797 mw_799 mw_p2_4 mw_7) rfl rfl rfl (by decide +kernel) ⟨Nat.le_of_ble_eq_true rfl, Nat.le_of_ble_eq_true rfl⟩) (kRecvX (q0 := 0) (ci := 0) hK hP hD hN hXS hS hA rfl rfl [0, 1, 2, 5, 9, 6, 7, 8] rfl (by decide +kernel)) rfl rfl hl.1 rfl (lv_room (Nat.le_of_ble_eq_true rfl)) dX0_measure_106 ⟨Nat.le_of_ble_eq_true rfl, Nat.le_of_ble_eq_true rfl⟩) hP hD hS hA [0, 1, 2, 5, 9, 6, 7, 8] [3, 4] rfl rfl (by decide +kernel) (by decide +kernel) ?_
                                  clear hP hD hS
                                  intro r_22 u_24 H locs w_23 hP hD hS
                                  replace hP : va_P D vwCl [(k2, .inl (cI, 60, .inl g77_k2)), (k3, .inl (cI, 60, .inl g77_k3)), (k, .inr (0, [.ref k0, .ref k1, .ref k2, .ref k3, .ref k4, .int c5])), (k0, .inl (cI, 41, .inl c0)), (k1, .inl (cI, 41, .inl c1)), (o, .inr (9, [.ref o0, .ref o1, .ref o2, .ref o3, .ref o4, .ref o5, .int d6, .int d7, .int d8])), (o4, .inr (8, [.ref o40, .ref o41, .ref o42, .ref o43, .ref o44, .ref o45, .ref o46, .ref o47, .ref o48, .int d49])), (o40, .inl (cI, 60, .inl d40)), (o41, .inl (cI, 60, .inl d41)), (o45, .inl (cI, 60, .inl d45))] H := hP
                                  replace hD : va_D A [(k2, .inl (cI, 60, .inl g77_k2)), (k3, .inl (cI, 60, .inl g77_k3)), (k, .inr (0, [.ref k0, .ref k1, .ref k2, .ref k3, .ref k4, .int c5])), (k0, .inl (cI, 41, .inl c0)), (k1, .inl (cI, 41, .inl c1)), (o, .inr (9, [.ref o0, .ref o1, .ref o2, .ref o3, .ref o4, .ref o5, .int d6, .int d7, .int d8])), (o4, .inr (8, [.ref o40, .ref o41, .ref o42, .ref o43, .ref o44, .ref o45, .ref o46, .ref o47, .ref o48, .int d49])), (o40, .inl (cI, 60, .inl d40)), (o41, .inl (cI, 60, .inl d41)), (o45, .inl (cI, 60, .inl d45))] := hD
                                  have lo_r_22 := k_lo r_22
                                  have hi_r_22 := k_hi r_22
                                  refine b_if_eq hx hb rfl (tgt := 138) dX0_measure_109 (by decide +kernel) (fun c_25 => ?_) (fun c_25 => ?_)
                                  · obtain ⟨v_26, ev_26⟩ : ∃ y : Int32, y = l77_6 + 1 := ⟨_, rfl⟩
                                    have tv_26 : v_26.toInt = l77_6.toInt + 1 := by rw [ev_26]; exact k_addv rfl zl_1 (by omega) (by omega)
                                    refine lv_iinc (v := v_26) (lv' := [(6, .int v_26), (5, .int v_14), (4, .int l52_4), (3, .int l77_3), (0, .ref k), (1, .ref o), (2, .int a1)]) hx hb dX0_measure_138 hl (k := 0) rfl (by rw [ev_26]; rfl) (by decide +kernel) rfl ?_
                                    clear hl
                                    intro ls hl
                                    refine lv_goto (tgt := 77) hx hb dX0_measure_141 (by decide +kernel) ?_
                                    exact ih77 l77_3 v_26 g77_k2 g77_k3 (by first | omega | decide | assumption | rfl) (by first | omega | decide | assumption | rfl) (by omega) ls _ _ (lv_sub hl [0, 1, 2, 3, 4, 5, 6] rfl) (hP.sub [2, 3, 4, 0, 1, 5, 7, 8, 9, 6] rfl) (hD.sub [2, 3, 4, 0, 1, 5, 7, 8, 9, 6] (by decide +kernel) rfl) hS
                                  · refine lv_aload_n hx hb dX0_measure_112 rfl (lv_at hl 4 rfl) ?_
                                    refine va_get (D := D) (ci := 0) (v := .ref k2) (C := RX0) (T := TX0) (N := 6) hx hb hT giX0 hown hK hP 2 rfl rfl 2 (by decide +kernel) (hT (Cond.fieldLink RX0 18 "DesertWire$Hands" "far" "[I") mw_201) (fun _ h9 => h9) rfl dX0_measure_113 ?_
                                    refine lv_iload hx hb dX0_measure_116 (lv_at hl 0 rfl) ?_
                                    refine lv_aload_n hx hb dX0_measure_118 rfl (lv_at hl 4 rfl) ?_
                                    refine lv_iload hx hb dX0_measure_119 (lv_at hl 1 rfl) ?_
                                    refine kJi (wr := [(k3, .inl (cI, 60, .inl g77_k3)), (k0, .inl (cI, 41, .inl c0)), (k1, .inl (cI, 41, .inl c1)), (o, .inr (9, [.ref o0, .ref o1, .ref o2, .ref o3, .ref o4, .ref o5, .int d6, .int d7, .int d8])), (o4, .inr (8, [.ref o40, .ref o41, .ref o42, .ref o43, .ref o44, .ref o45, .ref o46, .ref o47, .ref o48, .int d49])), (o40, .inl (cI, 60, .inl d40)), (o41, .inl (cI, 60, .inl d41)), (o45, .inl (cI, 60, .inl d45))]) (va_runV (As := [.int v_14]) (rest := [.int l77_6, .ref k2]) ⟨hx, hb, hml, hown, hT⟩ (c_X0_distanceOfG l D cI aK aV k k0 k1 k2 k3 k4 H.size c5 g77_k2 v_14) (cwV 1 hT (gV_in mw_806 mw_803 mw_805 mw_p2_5 mw_7) rfl rfl rfl (by decide +kernel) ⟨Nat.le_of_ble_eq_true rfl, Nat.le_of_ble_eq_true rfl⟩) (kRecvX (q0 := 2) (ci := 0) hK hP hD hN hXS hS hA rfl rfl [2, 0] rfl (by decide +kernel)) rfl rfl hl.1 rfl (lv_room (Nat.le_of_ble_eq_true rfl)) dX0_measure_121 ⟨Nat.le_of_ble_eq_true rfl, Nat.le_of_ble_eq_true rfl⟩) hP hD hS hA [2, 0] [1, 3, 4, 5, 6, 7, 8, 9] rfl rfl (by decide +kernel) (by decide +kernel) ?_
                                    clear hP hD hS
                                    intro r_27 u_29 H locs w_28 hP hD hS
                                    replace hP : va_P D vwCl [(k3, .inl (cI, 60, .inl g77_k3)), (k0, .inl (cI, 41, .inl c0)), (k1, .inl (cI, 41, .inl c1)), (o, .inr (9, [.ref o0, .ref o1, .ref o2, .ref o3, .ref o4, .ref o5, .int d6, .int d7, .int d8])), (o4, .inr (8, [.ref o40, .ref o41, .ref o42, .ref o43, .ref o44, .ref o45, .ref o46, .ref o47, .ref o48, .int d49])), (o40, .inl (cI, 60, .inl d40)), (o41, .inl (cI, 60, .inl d41)), (o45, .inl (cI, 60, .inl d45)), (k, .inr (0, [.ref k0, .ref k1, .ref k2, .ref k3, .ref k4, .int c5])), (k2, .inl (cI, 60, .inl g77_k2))] H := hP
                                    replace hD : va_D A [(k3, .inl (cI, 60, .inl g77_k3)), (k0, .inl (cI, 41, .inl c0)), (k1, .inl (cI, 41, .inl c1)), (o, .inr (9, [.ref o0, .ref o1, .ref o2, .ref o3, .ref o4, .ref o5, .int d6, .int d7, .int d8])), (o4, .inr (8, [.ref o40, .ref o41, .ref o42, .ref o43, .ref o44, .ref o45, .ref o46, .ref o47, .ref o48, .int d49])), (o40, .inl (cI, 60, .inl d40)), (o41, .inl (cI, 60, .inl d41)), (o45, .inl (cI, 60, .inl d45)), (k, .inr (0, [.ref k0, .ref k1, .ref k2, .ref k3, .ref k4, .int c5])), (k2, .inl (cI, 60, .inl g77_k2))] := hD
                                    have lo_r_27 := k_lo r_27
                                    have hi_r_27 := k_hi r_27
                                    refine lv_iconst (v := 1) hx hb dX0_measure_124 (by decide +kernel) ?_
                                    refine lv_iadd hx hb dX0_measure_125 ?_
                                    refine lv_topi (fun v_30 ev_30 => ?_)
                                    have lo_v_30 := k_lo v_30
                                    have hi_v_30 := k_hi v_30
                                    refine va_iast hx hb hK hP hD hS 9 0 rfl rfl (k_in (by omega) (by omega)) dX0_measure_126 ?_
                                    clear hP hD hS
                                    intro H locs hP hD hS
                                    replace hP : va_P D vwCl [(k3, .inl (cI, 60, .inl g77_k3)), (k0, .inl (cI, 41, .inl c0)), (k1, .inl (cI, 41, .inl c1)), (o, .inr (9, [.ref o0, .ref o1, .ref o2, .ref o3, .ref o4, .ref o5, .int d6, .int d7, .int d8])), (o4, .inr (8, [.ref o40, .ref o41, .ref o42, .ref o43, .ref o44, .ref o45, .ref o46, .ref o47, .ref o48, .int d49])), (o40, .inl (cI, 60, .inl d40)), (o41, .inl (cI, 60, .inl d41)), (o45, .inl (cI, 60, .inl d45)), (k, .inr (0, [.ref k0, .ref k1, .ref k2, .ref k3, .ref k4, .int c5])), (k2, .inl (cI, 60, .inl (upd g77_k2 l77_6.toNatClampNeg v_30)))] H := hP
                                    replace hD : va_D A [(k3, .inl (cI, 60, .inl g77_k3)), (k0, .inl (cI, 41, .inl c0)), (k1, .inl (cI, 41, .inl c1)), (o, .inr (9, [.ref o0, .ref o1, .ref o2, .ref o3, .ref o4, .ref o5, .int d6, .int d7, .int d8])), (o4, .inr (8, [.ref o40, .ref o41, .ref o42, .ref o43, .ref o44, .ref o45, .ref o46, .ref o47, .ref o48, .int d49])), (o40, .inl (cI, 60, .inl d40)), (o41, .inl (cI, 60, .inl d41)), (o45, .inl (cI, 60, .inl d45)), (k, .inr (0, [.ref k0, .ref k1, .ref k2, .ref k3, .ref k4, .int c5])), (k2, .inl (cI, 60, .inl (upd g77_k2 l77_6.toNatClampNeg v_30)))] := hD
                                    obtain ⟨f_31, ef_31⟩ : ∃ g : Nat → Int32, g = upd g77_k2 l77_6.toNatClampNeg v_30 := ⟨_, rfl⟩
                                    rw [← ef_31] at hP hD
                                    refine lv_aload_n hx hb dX0_measure_127 rfl (lv_at hl 4 rfl) ?_
                                    refine va_get (D := D) (ci := 0) (v := .ref k3) (C := RX0) (T := TX0) (N := 6) hx hb hT giX0 hown hK hP 8 rfl rfl 3 (by decide +kernel) (hT (Cond.fieldLink RX0 21 "DesertWire$Hands" "queue" "[I") mw_202) (fun _ h9 => h9) rfl dX0_measure_128 ?_
                                    refine lv_iload_n hx hb dX0_measure_131 rfl (lv_at hl 3 rfl) ?_
                                    refine lv_iload hx hb dX0_measure_132 (lv_at hl 0 rfl) ?_
                                    refine va_iast hx hb hK hP hD hS 0 0 rfl rfl (k_in (by omega) (by omega)) dX0_measure_134 ?_
                                    clear hP hD hS
                                    intro H locs hP hD hS
                                    replace hP : va_P D vwCl [(k3, .inl (cI, 60, .inl (upd g77_k3 l77_3.toNatClampNeg l77_6))), (k0, .inl (cI, 41, .inl c0)), (k1, .inl (cI, 41, .inl c1)), (o, .inr (9, [.ref o0, .ref o1, .ref o2, .ref o3, .ref o4, .ref o5, .int d6, .int d7, .int d8])), (o4, .inr (8, [.ref o40, .ref o41, .ref o42, .ref o43, .ref o44, .ref o45, .ref o46, .ref o47, .ref o48, .int d49])), (o40, .inl (cI, 60, .inl d40)), (o41, .inl (cI, 60, .inl d41)), (o45, .inl (cI, 60, .inl d45)), (k, .inr (0, [.ref k0, .ref k1, .ref k2, .ref k3, .ref k4, .int c5])), (k2, .inl (cI, 60, .inl f_31))] H := hP
                                    replace hD : va_D A [(k3, .inl (cI, 60, .inl (upd g77_k3 l77_3.toNatClampNeg l77_6))), (k0, .inl (cI, 41, .inl c0)), (k1, .inl (cI, 41, .inl c1)), (o, .inr (9, [.ref o0, .ref o1, .ref o2, .ref o3, .ref o4, .ref o5, .int d6, .int d7, .int d8])), (o4, .inr (8, [.ref o40, .ref o41, .ref o42, .ref o43, .ref o44, .ref o45, .ref o46, .ref o47, .ref o48, .int d49])), (o40, .inl (cI, 60, .inl d40)), (o41, .inl (cI, 60, .inl d41)), (o45, .inl (cI, 60, .inl d45)), (k, .inr (0, [.ref k0, .ref k1, .ref k2, .ref k3, .ref k4, .int c5])), (k2, .inl (cI, 60, .inl f_31))] := hD
                                    obtain ⟨f_32, ef_32⟩ : ∃ g : Nat → Int32, g = upd g77_k3 l77_3.toNatClampNeg l77_6 := ⟨_, rfl⟩
                                    rw [← ef_32] at hP hD
                                    obtain ⟨v_33, ev_33⟩ : ∃ y : Int32, y = l77_3 + 1 := ⟨_, rfl⟩
                                    have tv_33 : v_33.toInt = l77_3.toInt + 1 := by rw [ev_33]; exact k_addv rfl zl_1 (by omega) (by omega)
                                    refine lv_iinc (v := v_33) (lv' := [(3, .int v_33), (6, .int l77_6), (5, .int v_14), (4, .int l52_4), (0, .ref k), (1, .ref o), (2, .int a1)]) hx hb dX0_measure_135 hl (k := 3) rfl (by rw [ev_33]; rfl) (by decide +kernel) rfl ?_
                                    clear hl
                                    intro ls hl
                                    obtain ⟨v_34, ev_34⟩ : ∃ y : Int32, y = l77_6 + 1 := ⟨_, rfl⟩
                                    have tv_34 : v_34.toInt = l77_6.toInt + 1 := by rw [ev_34]; exact k_addv rfl zl_1 (by omega) (by omega)
                                    refine lv_iinc (v := v_34) (lv' := [(6, .int v_34), (3, .int v_33), (5, .int v_14), (4, .int l52_4), (0, .ref k), (1, .ref o), (2, .int a1)]) hx hb dX0_measure_138 hl (k := 1) rfl (by rw [ev_34]; rfl) (by decide +kernel) rfl ?_
                                    clear hl
                                    intro ls hl
                                    refine lv_goto (tgt := 77) hx hb dX0_measure_141 (by decide +kernel) ?_
                                    exact ih77 v_33 v_34 f_31 f_32 (by first | omega | decide | assumption | rfl) (by first | omega | decide | assumption | rfl) (by omega) ls _ _ (lv_sub hl [0, 2, 3, 1, 4, 5, 6] rfl) (hP.sub [8, 1, 2, 9, 0, 3, 5, 6, 7, 4] rfl) (hD.sub [8, 1, 2, 9, 0, 3, 5, 6, 7, 4] (by decide +kernel) rfl) hS
                      exact hloop_77 _ l52_3 0 g52_k2 g52_k3 (by first | omega | (simp only [zl_0]; first | done | omega) | decide | assumption | rfl) (by first | omega | (simp only [zl_0]; first | done | omega) | decide | assumption | rfl) (Nat.lt_succ_self _) ls _ _ (lv_sub hl [0, 1, 2, 3, 4, 5, 6] rfl) hP hD hS
            exact hloop_52 _ 1 0 f_10 f_11 (by first | omega | (simp only [zl_0, zl_1]; first | done | omega) | decide | assumption | rfl) (by first | omega | (simp only [zl_0, zl_1]; first | done | omega) | decide | assumption | rfl) (Nat.lt_succ_self _) ls _ _ (lv_sub hl [0, 1, 2, 3, 4] rfl) hP hD hS
          · have h_8 : a1.toInt < 0 ∨ d49.toInt ≤ a1.toInt ∨ 60 ≤ a1.toInt := h_8
            obtain rfl : r_2 = 0 := hr_2.trans (by decide +kernel)
            refine b_if_ne hx hb zl_0 (tgt := 33) dX0_measure_29 (by decide +kernel) (fun c_35 => by exfalso; omega) (fun c_35 => ?_)
            exact hRet (g2_k2, c3) [0, 1, 2, 3, 4, 5, 9, 6, 7, 8] trivial hP hD (by decide +kernel) rfl hS dX0_measure_32
        · refine lv_aload_n hx hb dX0_measure_8 rfl (lv_at hl 1 rfl) ?_
          refine va_get (D := D) (ci := 0) (v := .ref k2) (C := RX0) (T := TX0) (N := 6) hx hb hT giX0 hown hK hP 0 rfl rfl 2 (by decide +kernel) (hT (Cond.fieldLink RX0 18 "DesertWire$Hands" "far" "[I") mw_201) (fun _ h9 => h9) rfl dX0_measure_9 ?_
          refine lv_iload_n hx hb dX0_measure_12 rfl (lv_at hl 0 rfl) ?_
          refine lv_iconst (v := 0) hx hb dX0_measure_13 (by decide +kernel) ?_
          refine va_iast hx hb hK hP hD hS 3 0 rfl rfl (k_in (by omega) (by omega)) dX0_measure_14 ?_
          clear hP hD hS
          intro H locs hP hD hS
          replace hP : va_P D vwCl [(k, .inr (0, [.ref k0, .ref k1, .ref k2, .ref k3, .ref k4, .int c5])), (k0, .inl (cI, 41, .inl c0)), (k1, .inl (cI, 41, .inl c1)), (k2, .inl (cI, 60, .inl (upd g2_k2 l2_3.toNatClampNeg 0))), (k3, .inl (cI, 60, .inl c3)), (o, .inr (9, [.ref o0, .ref o1, .ref o2, .ref o3, .ref o4, .ref o5, .int d6, .int d7, .int d8])), (o4, .inr (8, [.ref o40, .ref o41, .ref o42, .ref o43, .ref o44, .ref o45, .ref o46, .ref o47, .ref o48, .int d49])), (o40, .inl (cI, 60, .inl d40)), (o41, .inl (cI, 60, .inl d41)), (o45, .inl (cI, 60, .inl d45))] H := hP
          replace hD : va_D A [(k, .inr (0, [.ref k0, .ref k1, .ref k2, .ref k3, .ref k4, .int c5])), (k0, .inl (cI, 41, .inl c0)), (k1, .inl (cI, 41, .inl c1)), (k2, .inl (cI, 60, .inl (upd g2_k2 l2_3.toNatClampNeg 0))), (k3, .inl (cI, 60, .inl c3)), (o, .inr (9, [.ref o0, .ref o1, .ref o2, .ref o3, .ref o4, .ref o5, .int d6, .int d7, .int d8])), (o4, .inr (8, [.ref o40, .ref o41, .ref o42, .ref o43, .ref o44, .ref o45, .ref o46, .ref o47, .ref o48, .int d49])), (o40, .inl (cI, 60, .inl d40)), (o41, .inl (cI, 60, .inl d41)), (o45, .inl (cI, 60, .inl d45))] := hD
          obtain ⟨f_36, ef_36⟩ : ∃ g : Nat → Int32, g = upd g2_k2 l2_3.toNatClampNeg 0 := ⟨_, rfl⟩
          rw [← ef_36] at hP hD
          obtain ⟨v_37, ev_37⟩ : ∃ y : Int32, y = l2_3 + 1 := ⟨_, rfl⟩
          have tv_37 : v_37.toInt = l2_3.toInt + 1 := by rw [ev_37]; exact k_addv rfl zl_1 (by omega) (by omega)
          refine lv_iinc (v := v_37) (lv' := [(3, .int v_37), (0, .ref k), (1, .ref o), (2, .int a1)]) hx hb dX0_measure_15 hl (k := 0) rfl (by rw [ev_37]; rfl) (by decide +kernel) rfl ?_
          clear hl
          intro ls hl
          refine lv_goto (tgt := 2) hx hb dX0_measure_18 (by decide +kernel) ?_
          exact ih2 v_37 f_36 (by first | omega | decide | assumption | rfl) (by omega) ls _ _ (lv_sub hl [0, 1, 2, 3] rfl) (hP.sub [0, 1, 2, 3, 4, 5, 6, 7, 8, 9] rfl) (hD.sub [0, 1, 2, 3, 4, 5, 6, 7, 8, 9] (by decide +kernel) rfl) hS
  exact hloop_2 _ 0 c2 (by first | omega | (simp only [zl_0]; first | done | omega) | decide | assumption | rfl) (Nat.lt_succ_self _) ls _ _ (lv_sub hl [0, 1, 2, 3] rfl) hP hD hS
theorem bn_cX0_find_0 : BN cX0_find 0 0x5687002b515b4200a8800190a1c00ad8c2050e0056a5a159400a160e0056a2b0c8056a2b028dc9a015b8182c050b0b0562a00a8c7a110e0056a2b198053e060b0186e65028bc3a1300ad4561c00ad80a2b28074081900ad456051b8755a0403005362f0e84c02b515834029a250056e1d160056a2c230056e1e160ac84015b8b0561c00ad8082b := by
  unfold BN; decide +kernel
theorem dX0_find_0 : decode cX0_find 0 = .ok (.aload_n 0, 1) := dR0 (k := 0) (i := 0) bn_cX0_find_0 dop_42 (by decide +kernel)
theorem dX0_find_1 : decode cX0_find 1 = .ok (.iconst 0, 1) := dR0 (k := 0) (i := 1) bn_cX0_find_0 dop_3 (by decide +kernel)
theorem dX0_find_2 : decode cX0_find 2 = .ok (.putfield 27, 3) := dR2 (f := Instr.putfield) (k := 0) (i := 2) bn_cX0_find_0 dop_181 27 (by decide +kernel)
theorem dX0_find_5 : decode cX0_find 5 = .ok (.aload_n 0, 1) := dR0 (k := 0) (i := 5) bn_cX0_find_0 dop_42 (by decide +kernel)
theorem dX0_find_6 : decode cX0_find 6 = .ok (.aload_n 1, 1) := dR0 (k := 0) (i := 6) bn_cX0_find_0 dop_43 (by decide +kernel)
theorem dX0_find_7 : decode cX0_find 7 = .ok (.invokevirtual 65, 3) := dR2 (f := Instr.invokevirtual) (k := 0) (i := 7) bn_cX0_find_0 dop_182 65 (by decide +kernel)
theorem dX0_find_10 : decode cX0_find 10 = .ok (.aload_n 0, 1) := dR0 (k := 0) (i := 10) bn_cX0_find_0 dop_42 (by decide +kernel)
theorem dX0_find_11 : decode cX0_find 11 = .ok (.aload_n 1, 1) := dR0 (k := 0) (i := 11) bn_cX0_find_0 dop_43 (by decide +kernel)
theorem dX0_find_12 : decode cX0_find 12 = .ok (.iload_n 3, 1) := dR0 (k := 0) (i := 12) bn_cX0_find_0 dop_29 (by decide +kernel)
theorem dX0_find_13 : decode cX0_find 13 = .ok (.invokevirtual 69, 3) := dR2 (f := Instr.invokevirtual) (k := 0) (i := 13) bn_cX0_find_0 dop_182 69 (by decide +kernel)
theorem dX0_find_16 : decode cX0_find 16 = .ok (.aload_n 1, 1) := dR0 (k := 0) (i := 16) bn_cX0_find_0 dop_43 (by decide +kernel)
theorem dX0_find_17 : decode cX0_find 17 = .ok (.getfield 43, 3) := dR2 (f := Instr.getfield) (k := 0) (i := 17) bn_cX0_find_0 dop_180 43 (by decide +kernel)
theorem dX0_find_20 : decode cX0_find 20 = .ok (.iload_n 2, 1) := dR0 (k := 0) (i := 20) bn_cX0_find_0 dop_28 (by decide +kernel)
theorem dX0_find_21 : decode cX0_find 21 = .ok (.invokevirtual 73, 3) := dR2 (f := Instr.invokevirtual) (k := 0) (i := 21) bn_cX0_find_0 dop_182 73 (by decide +kernel)
theorem dX0_find_24 : decode cX0_find 24 = .ok (.ifCond .eq 12, 3) := dR2s (f := Instr.ifCond .eq) (k := 0) (i := 24) bn_cX0_find_0 dop_153 12 12 (by decide +kernel)
theorem dX0_find_27 : decode cX0_find 27 = .ok (.aload_n 0, 1) := dR0 (k := 0) (i := 27) bn_cX0_find_0 dop_42 (by decide +kernel)
theorem dX0_find_28 : decode cX0_find 28 = .ok (.getfield 18, 3) := dR2 (f := Instr.getfield) (k := 0) (i := 28) bn_cX0_find_0 dop_180 18 (by decide +kernel)
theorem dX0_find_31 : decode cX0_find 31 = .ok (.iload_n 2, 1) := dR0 (k := 0) (i := 31) bn_cX0_find_0 dop_28 (by decide +kernel)
theorem dX0_find_32 : decode cX0_find 32 = .ok (.iaload, 1) := dR0 (k := 0) (i := 32) bn_cX0_find_0 dop_46 (by decide +kernel)
theorem dX0_find_33 : decode cX0_find 33 = .ok (.ifCond .ne 5, 3) := dR2s (f := Instr.ifCond .ne) (k := 0) (i := 33) bn_cX0_find_0 dop_154 5 5 (by decide +kernel)
theorem dX0_find_36 : decode cX0_find 36 = .ok (.iconst 0, 1) := dR0 (k := 0) (i := 36) bn_cX0_find_0 dop_3 (by decide +kernel)
theorem dX0_find_37 : decode cX0_find 37 = .ok (.ireturn, 1) := dR0 (k := 0) (i := 37) bn_cX0_find_0 dop_172 (by decide +kernel)
theorem dX0_find_38 : decode cX0_find 38 = .ok (.iload_n 2, 1) := dR0 (k := 0) (i := 38) bn_cX0_find_0 dop_28 (by decide +kernel)
theorem dX0_find_39 : decode cX0_find 39 = .ok (.istore 4, 2) := dR1 (f := Instr.istore) (k := 0) (i := 39) bn_cX0_find_0 dop_54 4 (by decide +kernel)
theorem dX0_find_41 : decode cX0_find 41 = .ok (.aload_n 0, 1) := dR0 (k := 0) (i := 41) bn_cX0_find_0 dop_42 (by decide +kernel)
theorem dX0_find_42 : decode cX0_find 42 = .ok (.getfield 24, 3) := dR2 (f := Instr.getfield) (k := 0) (i := 42) bn_cX0_find_0 dop_180 24 (by decide +kernel)
theorem dX0_find_45 : decode cX0_find 45 = .ok (.iconst 0, 1) := dR0 (k := 0) (i := 45) bn_cX0_find_0 dop_3 (by decide +kernel)
theorem dX0_find_46 : decode cX0_find 46 = .ok (.iload_n 2, 1) := dR0 (k := 0) (i := 46) bn_cX0_find_0 dop_28 (by decide +kernel)
theorem dX0_find_47 : decode cX0_find 47 = .ok (.iastore, 1) := dR0 (k := 0) (i := 47) bn_cX0_find_0 dop_79 (by decide +kernel)
theorem dX0_find_48 : decode cX0_find 48 = .ok (.aload_n 0, 1) := dR0 (k := 0) (i := 48) bn_cX0_find_0 dop_42 (by decide +kernel)
theorem dX0_find_49 : decode cX0_find 49 = .ok (.iconst 1, 1) := dR0 (k := 0) (i := 49) bn_cX0_find_0 dop_4 (by decide +kernel)
theorem dX0_find_50 : decode cX0_find 50 = .ok (.putfield 27, 3) := dR2 (f := Instr.putfield) (k := 0) (i := 50) bn_cX0_find_0 dop_181 27 (by decide +kernel)
theorem dX0_find_53 : decode cX0_find 53 = .ok (.aload_n 0, 1) := dR0 (k := 0) (i := 53) bn_cX0_find_0 dop_42 (by decide +kernel)
theorem dX0_find_54 : decode cX0_find 54 = .ok (.getfield 18, 3) := dR2 (f := Instr.getfield) (k := 0) (i := 54) bn_cX0_find_0 dop_180 18 (by decide +kernel)
theorem dX0_find_57 : decode cX0_find 57 = .ok (.iload_n 2, 1) := dR0 (k := 0) (i := 57) bn_cX0_find_0 dop_28 (by decide +kernel)
theorem dX0_find_58 : decode cX0_find 58 = .ok (.iaload, 1) := dR0 (k := 0) (i := 58) bn_cX0_find_0 dop_46 (by decide +kernel)
theorem dX0_find_59 : decode cX0_find 59 = .ok (.iconst 1, 1) := dR0 (k := 0) (i := 59) bn_cX0_find_0 dop_4 (by decide +kernel)
theorem dX0_find_60 : decode cX0_find 60 = .ok (.isub, 1) := dR0 (k := 0) (i := 60) bn_cX0_find_0 dop_100 (by decide +kernel)
theorem dX0_find_61 : decode cX0_find 61 = .ok (.istore 5, 2) := dR1 (f := Instr.istore) (k := 0) (i := 61) bn_cX0_find_0 dop_54 5 (by decide +kernel)
theorem dX0_find_63 : decode cX0_find 63 = .ok (.iload 5, 2) := dR1 (f := Instr.iload) (k := 0) (i := 63) bn_cX0_find_0 dop_21 5 (by decide +kernel)
theorem dX0_find_65 : decode cX0_find 65 = .ok (.ifCond .le 50, 3) := dR2s (f := Instr.ifCond .le) (k := 0) (i := 65) bn_cX0_find_0 dop_158 50 50 (by decide +kernel)
theorem dX0_find_68 : decode cX0_find 68 = .ok (.aload_n 0, 1) := dR0 (k := 0) (i := 68) bn_cX0_find_0 dop_42 (by decide +kernel)
theorem dX0_find_69 : decode cX0_find 69 = .ok (.getfield 27, 3) := dR2 (f := Instr.getfield) (k := 0) (i := 69) bn_cX0_find_0 dop_180 27 (by decide +kernel)
theorem dX0_find_72 : decode cX0_find 72 = .ok (.bipush 60, 2) := dR1s (f := Instr.bipush) (k := 0) (i := 72) bn_cX0_find_0 dop_16 60 60 (by decide +kernel)
theorem dX0_find_74 : decode cX0_find 74 = .ok (.if_icmp .ge 41, 3) := dR2s (f := Instr.if_icmp .ge) (k := 0) (i := 74) bn_cX0_find_0 dop_162 41 41 (by decide +kernel)
theorem dX0_find_77 : decode cX0_find 77 = .ok (.aload_n 0, 1) := dR0 (k := 0) (i := 77) bn_cX0_find_0 dop_42 (by decide +kernel)
theorem dX0_find_78 : decode cX0_find 78 = .ok (.aload_n 1, 1) := dR0 (k := 0) (i := 78) bn_cX0_find_0 dop_43 (by decide +kernel)
theorem dX0_find_79 : decode cX0_find 79 = .ok (.iload 4, 2) := dR1 (f := Instr.iload) (k := 0) (i := 79) bn_cX0_find_0 dop_21 4 (by decide +kernel)
theorem dX0_find_81 : decode cX0_find 81 = .ok (.iload 5, 2) := dR1 (f := Instr.iload) (k := 0) (i := 81) bn_cX0_find_0 dop_21 5 (by decide +kernel)
theorem dX0_find_83 : decode cX0_find 83 = .ok (.invokevirtual 76, 3) := dR2 (f := Instr.invokevirtual) (k := 0) (i := 83) bn_cX0_find_0 dop_182 76 (by decide +kernel)
theorem dX0_find_86 : decode cX0_find 86 = .ok (.istore 4, 2) := dR1 (f := Instr.istore) (k := 0) (i := 86) bn_cX0_find_0 dop_54 4 (by decide +kernel)
theorem dX0_find_88 : decode cX0_find 88 = .ok (.aload_n 0, 1) := dR0 (k := 0) (i := 88) bn_cX0_find_0 dop_42 (by decide +kernel)
theorem dX0_find_89 : decode cX0_find 89 = .ok (.getfield 24, 3) := dR2 (f := Instr.getfield) (k := 0) (i := 89) bn_cX0_find_0 dop_180 24 (by decide +kernel)
theorem dX0_find_92 : decode cX0_find 92 = .ok (.aload_n 0, 1) := dR0 (k := 0) (i := 92) bn_cX0_find_0 dop_42 (by decide +kernel)
theorem dX0_find_93 : decode cX0_find 93 = .ok (.getfield 27, 3) := dR2 (f := Instr.getfield) (k := 0) (i := 93) bn_cX0_find_0 dop_180 27 (by decide +kernel)
theorem dX0_find_96 : decode cX0_find 96 = .ok (.iload 4, 2) := dR1 (f := Instr.iload) (k := 0) (i := 96) bn_cX0_find_0 dop_21 4 (by decide +kernel)
theorem dX0_find_98 : decode cX0_find 98 = .ok (.iastore, 1) := dR0 (k := 0) (i := 98) bn_cX0_find_0 dop_79 (by decide +kernel)
theorem dX0_find_99 : decode cX0_find 99 = .ok (.aload_n 0, 1) := dR0 (k := 0) (i := 99) bn_cX0_find_0 dop_42 (by decide +kernel)
theorem dX0_find_100 : decode cX0_find 100 = .ok (.dup, 1) := dR0 (k := 0) (i := 100) bn_cX0_find_0 dop_89 (by decide +kernel)
theorem dX0_find_101 : decode cX0_find 101 = .ok (.getfield 27, 3) := dR2 (f := Instr.getfield) (k := 0) (i := 101) bn_cX0_find_0 dop_180 27 (by decide +kernel)
theorem dX0_find_104 : decode cX0_find 104 = .ok (.iconst 1, 1) := dR0 (k := 0) (i := 104) bn_cX0_find_0 dop_4 (by decide +kernel)
theorem dX0_find_105 : decode cX0_find 105 = .ok (.iadd, 1) := dR0 (k := 0) (i := 105) bn_cX0_find_0 dop_96 (by decide +kernel)
theorem dX0_find_106 : decode cX0_find 106 = .ok (.putfield 27, 3) := dR2 (f := Instr.putfield) (k := 0) (i := 106) bn_cX0_find_0 dop_181 27 (by decide +kernel)
theorem dX0_find_109 : decode cX0_find 109 = .ok (.iinc 5 (-1), 3) := dRii (f := Instr.iinc) (k := 0) (i := 109) bn_cX0_find_0 dop_132 5 255 (-1) (by decide +kernel)
theorem dX0_find_112 : decode cX0_find 112 = .ok (.goto (-49), 3) := dR2s (f := Instr.goto) (k := 0) (i := 112) bn_cX0_find_0 dop_167 65487 (-49) (by decide +kernel)
theorem dX0_find_115 : decode cX0_find 115 = .ok (.aload_n 0, 1) := dR0 (k := 0) (i := 115) bn_cX0_find_0 dop_42 (by decide +kernel)
theorem dX0_find_116 : decode cX0_find 116 = .ok (.getfield 27, 3) := dR2 (f := Instr.getfield) (k := 0) (i := 116) bn_cX0_find_0 dop_180 27 (by decide +kernel)
theorem dX0_find_119 : decode cX0_find 119 = .ok (.ireturn, 1) := dR0 (k := 0) (i := 119) bn_cX0_find_0 dop_172 (by decide +kernel)
set_option maxHeartbeats 4000000 in
set_option maxRecDepth 100000 in
theorem c_X0_findG (l : Launch) (D : va_G) (cI : ClassId) (aK aV : Nat → Nat) (k o k0 k1 k2 k3 k4 o0 o1 o2 o3 o4 o5 o40 o41 o42 o43 o44 o45 o46 o47 o48 : Nat) (sz : Nat) (c5 : Int32) (c0 : Nat → Int32) (c1 : Nat → Int32) (c2 : Nat → Int32) (c3 : Nat → Int32) (c4 : Nat → Int32) (d6 : Int32) (d7 : Int32) (d8 : Int32) (d0 : Nat → Int32) (d49 : Int32) (d40 : Nat → Int32) (d41 : Nat → Int32) (d43 : Nat → Int32) (d45 : Nat → Int32) (d46 : Nat → Int32) (a1 : Int32) (a2 : Int32) : Met l yX0_find (gW yX0_find cX0_find 6 (some .int)) ({ frames := 5, cells := 0, slots := 0, locals := 118 } : Room) (kPreX D cI aK aV [.ref k, .ref o, .int a1, .int a2] [(k, .inr (0, [.ref k0, .ref k1, .ref k2, .ref k3, .ref k4, .int c5])), (k0, .inl (cI, 41, .inl c0)), (k1, .inl (cI, 41, .inl c1)), (k2, .inl (cI, 60, .inl c2)), (k3, .inl (cI, 60, .inl c3)), (k4, .inl (cI, 60, .inl c4)), (o, .inr (9, [.ref o0, .ref o1, .ref o2, .ref o3, .ref o4, .ref o5, .int d6, .int d7, .int d8])), (o0, .inl (cI, 12, .inl d0)), (o4, .inr (8, [.ref o40, .ref o41, .ref o42, .ref o43, .ref o44, .ref o45, .ref o46, .ref o47, .ref o48, .int d49])), (o40, .inl (cI, 60, .inl d40)), (o41, .inl (cI, 60, .inl d41)), (o43, .inl (cI, 60, .inl d43)), (o45, .inl (cI, 60, .inl d45)), (o46, .inl (cI, 40, .inl d46))] sz) (va_Qi (fun (r : Int32) (u : Int32 × (Nat → Int32) × (Nat → Int32) × (Nat → Int32) × (Nat → Int32) × (Nat → Int32)) => True) (fun u t => kWd D cI (va_A [(k, .inr (0, [.ref k0, .ref k1, .ref k2, .ref k3, .ref k4, .int c5])), (k0, .inl (cI, 41, .inl c0)), (k1, .inl (cI, 41, .inl c1)), (k2, .inl (cI, 60, .inl c2)), (k3, .inl (cI, 60, .inl c3)), (k4, .inl (cI, 60, .inl c4)), (o, .inr (9, [.ref o0, .ref o1, .ref o2, .ref o3, .ref o4, .ref o5, .int d6, .int d7, .int d8])), (o0, .inl (cI, 12, .inl d0)), (o4, .inr (8, [.ref o40, .ref o41, .ref o42, .ref o43, .ref o44, .ref o45, .ref o46, .ref o47, .ref o48, .int d49])), (o40, .inl (cI, 60, .inl d40)), (o41, .inl (cI, 60, .inl d41)), (o43, .inl (cI, 60, .inl d43)), (o45, .inl (cI, 60, .inl d45)), (o46, .inl (cI, 40, .inl d46))] sz) [(k, .inr (0, [.ref k0, .ref k1, .ref k2, .ref k3, .ref k4, .int u.1])), (k0, .inl (cI, 41, .inl u.2.1)), (k1, .inl (cI, 41, .inl u.2.2.1)), (k2, .inl (cI, 60, .inl u.2.2.2.1)), (k3, .inl (cI, 60, .inl u.2.2.2.2.1)), (k4, .inl (cI, 60, .inl u.2.2.2.2.2)), (o, .inr (9, [.ref o0, .ref o1, .ref o2, .ref o3, .ref o4, .ref o5, .int d6, .int d7, .int d8])), (o0, .inl (cI, 12, .inl d0)), (o4, .inr (8, [.ref o40, .ref o41, .ref o42, .ref o43, .ref o44, .ref o45, .ref o46, .ref o47, .ref o48, .int d49])), (o40, .inl (cI, 60, .inl d40)), (o41, .inl (cI, 60, .inl d41)), (o43, .inl (cI, 60, .inl d43)), (o45, .inl (cI, 60, .inl d45)), (o46, .inl (cI, 40, .inl d46))] t) (va_A [(k, .inr (0, [.ref k0, .ref k1, .ref k2, .ref k3, .ref k4, .int c5])), (k0, .inl (cI, 41, .inl c0)), (k1, .inl (cI, 41, .inl c1)), (k2, .inl (cI, 60, .inl c2)), (k3, .inl (cI, 60, .inl c3)), (k4, .inl (cI, 60, .inl c4)), (o, .inr (9, [.ref o0, .ref o1, .ref o2, .ref o3, .ref o4, .ref o5, .int d6, .int d7, .int d8])), (o0, .inl (cI, 12, .inl d0)), (o4, .inr (8, [.ref o40, .ref o41, .ref o42, .ref o43, .ref o44, .ref o45, .ref o46, .ref o47, .ref o48, .int d49])), (o40, .inl (cI, 60, .inl d40)), (o41, .inl (cI, 60, .inl d41)), (o43, .inl (cI, 60, .inl d43)), (o45, .inl (cI, 60, .inl d45)), (o46, .inl (cI, 40, .inl d46))] sz)) 0 0 (va_A [(k, .inr (0, [.ref k0, .ref k1, .ref k2, .ref k3, .ref k4, .int c5])), (k0, .inl (cI, 41, .inl c0)), (k1, .inl (cI, 41, .inl c1)), (k2, .inl (cI, 60, .inl c2)), (k3, .inl (cI, 60, .inl c3)), (k4, .inl (cI, 60, .inl c4)), (o, .inr (9, [.ref o0, .ref o1, .ref o2, .ref o3, .ref o4, .ref o5, .int d6, .int d7, .int d8])), (o0, .inl (cI, 12, .inl d0)), (o4, .inr (8, [.ref o40, .ref o41, .ref o42, .ref o43, .ref o44, .ref o45, .ref o46, .ref o47, .ref o48, .int d49])), (o40, .inl (cI, 60, .inl d40)), (o41, .inl (cI, 60, .inl d41)), (o43, .inl (cI, 60, .inl d43)), (o45, .inl (cI, 60, .inl d45)), (o46, .inl (cI, 40, .inl d46))] sz) := by
  refine kMetIX (own := RX0) (by decide +kernel) rfl (Nat.le_of_ble_eq_true rfl) ?_
  intro p e s m args below meth c hx hb hT hown hname hml A Q hK hP hD hS hA hN hXS hRet ls hl
  have hl : lv_has ls 6 [(0, .ref k), (1, .ref o), (2, .int a1), (3, .int a2)] := hl
  have lo_a1 := k_lo a1
  have hi_a1 := k_hi a1
  have lo_a2 := k_lo a2
  have hi_a2 := k_hi a2
  have lo_d49 := k_lo d49
  have hi_d49 := k_hi d49
  refine lv_aload_n hx hb dX0_find_0 rfl (lv_at hl 0 rfl) ?_
  refine lv_iconst (v := 0) hx hb dX0_find_1 (by decide +kernel) ?_
  refine va_put (D := D) (ci := 0) (v := .int 0) (ty := .int) (C := RX0) (T := TX0) (N := 6) hx hb hT giX0 tyX0 tyX0_ok nmX0 hown hK hP hD hS 0 rfl rfl 5 (by decide +kernel) (hT (Cond.fieldLink RX0 27 "DesertWire$Hands" "length" "I") mw_204) (fun _ h9 => h9) rfl (by decide +kernel) rfl rfl (Nat.le_of_ble_eq_true rfl) dX0_find_2 ?_
  clear hP hD hS
  intro H locs hP hD hS
  replace hP : va_P D vwCl [(k, .inr (0, [.ref k0, .ref k1, .ref k2, .ref k3, .ref k4, .int 0])), (k0, .inl (cI, 41, .inl c0)), (k1, .inl (cI, 41, .inl c1)), (k2, .inl (cI, 60, .inl c2)), (k3, .inl (cI, 60, .inl c3)), (k4, .inl (cI, 60, .inl c4)), (o, .inr (9, [.ref o0, .ref o1, .ref o2, .ref o3, .ref o4, .ref o5, .int d6, .int d7, .int d8])), (o0, .inl (cI, 12, .inl d0)), (o4, .inr (8, [.ref o40, .ref o41, .ref o42, .ref o43, .ref o44, .ref o45, .ref o46, .ref o47, .ref o48, .int d49])), (o40, .inl (cI, 60, .inl d40)), (o41, .inl (cI, 60, .inl d41)), (o43, .inl (cI, 60, .inl d43)), (o45, .inl (cI, 60, .inl d45)), (o46, .inl (cI, 40, .inl d46))] H := hP
  replace hD : va_D A [(k, .inr (0, [.ref k0, .ref k1, .ref k2, .ref k3, .ref k4, .int 0])), (k0, .inl (cI, 41, .inl c0)), (k1, .inl (cI, 41, .inl c1)), (k2, .inl (cI, 60, .inl c2)), (k3, .inl (cI, 60, .inl c3)), (k4, .inl (cI, 60, .inl c4)), (o, .inr (9, [.ref o0, .ref o1, .ref o2, .ref o3, .ref o4, .ref o5, .int d6, .int d7, .int d8])), (o0, .inl (cI, 12, .inl d0)), (o4, .inr (8, [.ref o40, .ref o41, .ref o42, .ref o43, .ref o44, .ref o45, .ref o46, .ref o47, .ref o48, .int d49])), (o40, .inl (cI, 60, .inl d40)), (o41, .inl (cI, 60, .inl d41)), (o43, .inl (cI, 60, .inl d43)), (o45, .inl (cI, 60, .inl d45)), (o46, .inl (cI, 40, .inl d46))] := hD
  refine lv_aload_n hx hb dX0_find_5 rfl (lv_at hl 0 rfl) ?_
  refine lv_aload_n hx hb dX0_find_6 rfl (lv_at hl 1 rfl) ?_
  refine kJv (wr := [(k2, .inl (cI, 60, .inl c2)), (k3, .inl (cI, 60, .inl c3)), (k4, .inl (cI, 60, .inl c4))]) (va_runV (As := [.ref o]) (rest := []) ⟨hx, hb, hml, hown, hT⟩ (c_X0_surveyG l D cI aK aV k o k0 k1 k2 k3 k4 o0 o1 o2 o3 o4 o5 o40 o41 o42 o43 o44 o45 o46 o47 o48 H.size 0 c0 c1 d6 d7 d8 d0 d49 d40 d41 d43 d45 d46) (cwV 1 hT (gV_in mw_772 mw_791 mw_770 mw_771 mw_7) rfl rfl rfl (by decide +kernel) ⟨Nat.le_of_ble_eq_true rfl, Nat.le_of_ble_eq_true rfl⟩) (kRecvX (q0 := 0) (ci := 0) hK hP hD hN hXS hS hA rfl rfl [0, 1, 2, 6, 7, 8, 9, 10, 11, 12, 13] rfl (by decide +kernel)) rfl rfl hl.1 rfl (lv_room (Nat.le_of_ble_eq_true rfl)) dX0_find_7 ⟨Nat.le_of_ble_eq_true rfl, Nat.le_of_ble_eq_true rfl⟩) hP hD hS hA [0, 1, 2, 6, 7, 8, 9, 10, 11, 12, 13] [3, 4, 5] rfl rfl (by decide +kernel) (by decide +kernel) ?_
  clear hP hD hS
  intro u_5 H locs w_2 hP hD hS
  obtain ⟨sc0_3, sc1_4⟩ := u_5
  replace hP : va_P D vwCl [(k2, .inl (cI, 60, .inl c2)), (k3, .inl (cI, 60, .inl c3)), (k4, .inl (cI, 60, .inl c4)), (k, .inr (0, [.ref k0, .ref k1, .ref k2, .ref k3, .ref k4, .int 0])), (k0, .inl (cI, 41, .inl sc0_3)), (k1, .inl (cI, 41, .inl sc1_4)), (o, .inr (9, [.ref o0, .ref o1, .ref o2, .ref o3, .ref o4, .ref o5, .int d6, .int d7, .int d8])), (o0, .inl (cI, 12, .inl d0)), (o4, .inr (8, [.ref o40, .ref o41, .ref o42, .ref o43, .ref o44, .ref o45, .ref o46, .ref o47, .ref o48, .int d49])), (o40, .inl (cI, 60, .inl d40)), (o41, .inl (cI, 60, .inl d41)), (o43, .inl (cI, 60, .inl d43)), (o45, .inl (cI, 60, .inl d45)), (o46, .inl (cI, 40, .inl d46))] H := hP
  replace hD : va_D A [(k2, .inl (cI, 60, .inl c2)), (k3, .inl (cI, 60, .inl c3)), (k4, .inl (cI, 60, .inl c4)), (k, .inr (0, [.ref k0, .ref k1, .ref k2, .ref k3, .ref k4, .int 0])), (k0, .inl (cI, 41, .inl sc0_3)), (k1, .inl (cI, 41, .inl sc1_4)), (o, .inr (9, [.ref o0, .ref o1, .ref o2, .ref o3, .ref o4, .ref o5, .int d6, .int d7, .int d8])), (o0, .inl (cI, 12, .inl d0)), (o4, .inr (8, [.ref o40, .ref o41, .ref o42, .ref o43, .ref o44, .ref o45, .ref o46, .ref o47, .ref o48, .int d49])), (o40, .inl (cI, 60, .inl d40)), (o41, .inl (cI, 60, .inl d41)), (o43, .inl (cI, 60, .inl d43)), (o45, .inl (cI, 60, .inl d45)), (o46, .inl (cI, 40, .inl d46))] := hD
  refine lv_aload_n hx hb dX0_find_10 rfl (lv_at hl 0 rfl) ?_
  refine lv_aload_n hx hb dX0_find_11 rfl (lv_at hl 1 rfl) ?_
  refine lv_iload_n hx hb dX0_find_12 rfl (lv_at hl 3 rfl) ?_
  refine kJv (wr := [(k4, .inl (cI, 60, .inl c4)), (o0, .inl (cI, 12, .inl d0)), (o43, .inl (cI, 60, .inl d43)), (o46, .inl (cI, 40, .inl d46))]) (va_runV (As := [.ref o, .int a2]) (rest := []) ⟨hx, hb, hml, hown, hT⟩ (c_X0_measureG l D cI aK aV k o k0 k1 k2 k3 k4 o0 o1 o2 o3 o4 o5 o40 o41 o42 o43 o44 o45 o46 o47 o48 H.size 0 sc0_3 sc1_4 c2 c3 d6 d7 d8 d49 d40 d41 d45 a2) (cwV 2 hT (gV_in mw_795 mw_792 mw_794 mw_p2_3 mw_7) rfl rfl rfl (by decide +kernel) ⟨Nat.le_of_ble_eq_true rfl, Nat.le_of_ble_eq_true rfl⟩) (kRecvX (q0 := 3) (ci := 0) hK hP hD hN hXS hS hA rfl rfl [3, 4, 5, 0, 1, 6, 8, 9, 10, 12] rfl (by decide +kernel)) rfl rfl hl.1 rfl (lv_room (Nat.le_of_ble_eq_true rfl)) dX0_find_13 ⟨Nat.le_of_ble_eq_true rfl, Nat.le_of_ble_eq_true rfl⟩) hP hD hS hA [3, 4, 5, 0, 1, 6, 8, 9, 10, 12] [2, 7, 11, 13] rfl rfl (by decide +kernel) (by decide +kernel) ?_
  clear hP hD hS
  intro u_10 H locs w_7 hP hD hS
  obtain ⟨sc2_8, sc3_9⟩ := u_10
  replace hP : va_P D vwCl [(k4, .inl (cI, 60, .inl c4)), (o0, .inl (cI, 12, .inl d0)), (o43, .inl (cI, 60, .inl d43)), (o46, .inl (cI, 40, .inl d46)), (k, .inr (0, [.ref k0, .ref k1, .ref k2, .ref k3, .ref k4, .int 0])), (k0, .inl (cI, 41, .inl sc0_3)), (k1, .inl (cI, 41, .inl sc1_4)), (k2, .inl (cI, 60, .inl sc2_8)), (k3, .inl (cI, 60, .inl sc3_9)), (o, .inr (9, [.ref o0, .ref o1, .ref o2, .ref o3, .ref o4, .ref o5, .int d6, .int d7, .int d8])), (o4, .inr (8, [.ref o40, .ref o41, .ref o42, .ref o43, .ref o44, .ref o45, .ref o46, .ref o47, .ref o48, .int d49])), (o40, .inl (cI, 60, .inl d40)), (o41, .inl (cI, 60, .inl d41)), (o45, .inl (cI, 60, .inl d45))] H := hP
  replace hD : va_D A [(k4, .inl (cI, 60, .inl c4)), (o0, .inl (cI, 12, .inl d0)), (o43, .inl (cI, 60, .inl d43)), (o46, .inl (cI, 40, .inl d46)), (k, .inr (0, [.ref k0, .ref k1, .ref k2, .ref k3, .ref k4, .int 0])), (k0, .inl (cI, 41, .inl sc0_3)), (k1, .inl (cI, 41, .inl sc1_4)), (k2, .inl (cI, 60, .inl sc2_8)), (k3, .inl (cI, 60, .inl sc3_9)), (o, .inr (9, [.ref o0, .ref o1, .ref o2, .ref o3, .ref o4, .ref o5, .int d6, .int d7, .int d8])), (o4, .inr (8, [.ref o40, .ref o41, .ref o42, .ref o43, .ref o44, .ref o45, .ref o46, .ref o47, .ref o48, .int d49])), (o40, .inl (cI, 60, .inl d40)), (o41, .inl (cI, 60, .inl d41)), (o45, .inl (cI, 60, .inl d45))] := hD
  refine lv_aload_n hx hb dX0_find_16 rfl (lv_at hl 1 rfl) ?_
  refine va_get (D := D) (ci := 9) (v := .ref o4) (C := RX9) (T := TX9) (N := 9) hx hb hT giX9 hown hK hP 9 rfl rfl 4 (by decide +kernel) (hT (Cond.fieldLink RX0 43 "DesertWire$World" "works" "LDesertWire$Works;") mw_98) (fun _ h9 => h9) rfl dX0_find_17 ?_
  refine lv_iload_n hx hb dX0_find_20 rfl (lv_at hl 2 rfl) ?_
  refine kJi (wr := [(k4, .inl (cI, 60, .inl c4)), (o0, .inl (cI, 12, .inl d0)), (o43, .inl (cI, 60, .inl d43)), (o46, .inl (cI, 40, .inl d46)), (k, .inr (0, [.ref k0, .ref k1, .ref k2, .ref k3, .ref k4, .int 0])), (k0, .inl (cI, 41, .inl sc0_3)), (k1, .inl (cI, 41, .inl sc1_4)), (k2, .inl (cI, 60, .inl sc2_8)), (k3, .inl (cI, 60, .inl sc3_9)), (o, .inr (9, [.ref o0, .ref o1, .ref o2, .ref o3, .ref o4, .ref o5, .int d6, .int d7, .int d8])), (o40, .inl (cI, 60, .inl d40)), (o41, .inl (cI, 60, .inl d41)), (o45, .inl (cI, 60, .inl d45))]) (va_runV (As := [.int a1]) (rest := []) ⟨hx, hb, hml, hown, hT⟩ (c_X8_hasG l D cI aK aV o4 o40 o41 o42 o43 o44 o45 o46 o47 o48 H.size d49 a1) (cwV 1 hT (gV_in mw_371 mw_796 mw_369 mw_370 mw_3) rfl rfl rfl (by decide +kernel) ⟨Nat.le_of_ble_eq_true rfl, Nat.le_of_ble_eq_true rfl⟩) (kRecvX (q0 := 10) (ci := 8) hK hP hD hN hXS hS hA rfl rfl [10] rfl (by decide +kernel)) rfl rfl hl.1 rfl (lv_room (Nat.le_of_ble_eq_true rfl)) dX0_find_21 ⟨Nat.le_of_ble_eq_true rfl, Nat.le_of_ble_eq_true rfl⟩) hP hD hS hA [10] [0, 1, 2, 3, 4, 5, 6, 7, 8, 9, 11, 12, 13] rfl rfl (by decide +kernel) (by decide +kernel) ?_
  clear hP hD hS
  intro r_11 u_13 H locs w_12 hP hD hS
  replace hP : va_P D vwCl [(k4, .inl (cI, 60, .inl c4)), (o0, .inl (cI, 12, .inl d0)), (o43, .inl (cI, 60, .inl d43)), (o46, .inl (cI, 40, .inl d46)), (k, .inr (0, [.ref k0, .ref k1, .ref k2, .ref k3, .ref k4, .int 0])), (k0, .inl (cI, 41, .inl sc0_3)), (k1, .inl (cI, 41, .inl sc1_4)), (k2, .inl (cI, 60, .inl sc2_8)), (k3, .inl (cI, 60, .inl sc3_9)), (o, .inr (9, [.ref o0, .ref o1, .ref o2, .ref o3, .ref o4, .ref o5, .int d6, .int d7, .int d8])), (o40, .inl (cI, 60, .inl d40)), (o41, .inl (cI, 60, .inl d41)), (o45, .inl (cI, 60, .inl d45)), (o4, .inr (8, [.ref o40, .ref o41, .ref o42, .ref o43, .ref o44, .ref o45, .ref o46, .ref o47, .ref o48, .int d49]))] H := hP
  replace hD : va_D A [(k4, .inl (cI, 60, .inl c4)), (o0, .inl (cI, 12, .inl d0)), (o43, .inl (cI, 60, .inl d43)), (o46, .inl (cI, 40, .inl d46)), (k, .inr (0, [.ref k0, .ref k1, .ref k2, .ref k3, .ref k4, .int 0])), (k0, .inl (cI, 41, .inl sc0_3)), (k1, .inl (cI, 41, .inl sc1_4)), (k2, .inl (cI, 60, .inl sc2_8)), (k3, .inl (cI, 60, .inl sc3_9)), (o, .inr (9, [.ref o0, .ref o1, .ref o2, .ref o3, .ref o4, .ref o5, .int d6, .int d7, .int d8])), (o40, .inl (cI, 60, .inl d40)), (o41, .inl (cI, 60, .inl d41)), (o45, .inl (cI, 60, .inl d45)), (o4, .inr (8, [.ref o40, .ref o41, .ref o42, .ref o43, .ref o44, .ref o45, .ref o46, .ref o47, .ref o48, .int d49]))] := hD
  rcases w_12 with ⟨hr_11, h_14, h_15, h_16⟩ | ⟨hr_11, h_17⟩
  · have h_14 : 0 ≤ a1.toInt := h_14
    have h_15 : a1.toInt < d49.toInt := h_15
    have h_16 : a1.toInt < 60 := h_16
    obtain rfl : r_11 = 1 := hr_11.trans (by decide +kernel)
    refine b_if_eq hx hb zl_1 (tgt := 36) dX0_find_24 (by decide +kernel) (fun c_18 => by exfalso; omega) (fun c_18 => ?_)
    refine lv_aload_n hx hb dX0_find_27 rfl (lv_at hl 0 rfl) ?_
    refine va_get (D := D) (ci := 0) (v := .ref k2) (C := RX0) (T := TX0) (N := 6) hx hb hT giX0 hown hK hP 4 rfl rfl 2 (by decide +kernel) (hT (Cond.fieldLink RX0 18 "DesertWire$Hands" "far" "[I") mw_201) (fun _ h9 => h9) rfl dX0_find_28 ?_
    refine lv_iload_n hx hb dX0_find_31 rfl (lv_at hl 2 rfl) ?_
    refine k_iald (v := (sc2_8 a1.toNatClampNeg)) hx hb hK hP 7 0 rfl rfl (k_in (by omega) (by omega)) rfl dX0_find_32 ?_
    refine lv_topi (fun v_19 ev_19 => ?_)
    have lo_v_19 := k_lo v_19
    have hi_v_19 := k_hi v_19
    have tv_19 : v_19.toInt = (sc2_8 a1.toNatClampNeg).toInt := by rw [ev_19]
    refine b_if_ne hx hb rfl (tgt := 38) dX0_find_33 (by decide +kernel) (fun c_20 => ?_) (fun c_20 => ?_)
    · refine lv_iload_n hx hb dX0_find_38 rfl (lv_at hl 2 rfl) ?_
      refine lv_istore (lv' := [(4, .int a1), (0, .ref k), (1, .ref o), (2, .int a1), (3, .int a2)]) hx hb dX0_find_39 hl (by decide +kernel) rfl ?_
      clear hl
      intro ls hl
      refine lv_aload_n hx hb dX0_find_41 rfl (lv_at hl 1 rfl) ?_
      refine va_get (D := D) (ci := 0) (v := .ref k4) (C := RX0) (T := TX0) (N := 6) hx hb hT giX0 hown hK hP 4 rfl rfl 4 (by decide +kernel) (hT (Cond.fieldLink RX0 24 "DesertWire$Hands" "stations" "[I") mw_203) (fun _ h9 => h9) rfl dX0_find_42 ?_
      refine lv_iconst (v := 0) hx hb dX0_find_45 (by decide +kernel) ?_
      refine lv_iload_n hx hb dX0_find_46 rfl (lv_at hl 3 rfl) ?_
      refine va_iast hx hb hK hP hD hS 0 0 rfl rfl (k_inl (by decide +kernel)) dX0_find_47 ?_
      clear hP hD hS
      intro H locs hP hD hS
      replace hP : va_P D vwCl [(k4, .inl (cI, 60, .inl (upd c4 0 a1))), (o0, .inl (cI, 12, .inl d0)), (o43, .inl (cI, 60, .inl d43)), (o46, .inl (cI, 40, .inl d46)), (k, .inr (0, [.ref k0, .ref k1, .ref k2, .ref k3, .ref k4, .int 0])), (k0, .inl (cI, 41, .inl sc0_3)), (k1, .inl (cI, 41, .inl sc1_4)), (k2, .inl (cI, 60, .inl sc2_8)), (k3, .inl (cI, 60, .inl sc3_9)), (o, .inr (9, [.ref o0, .ref o1, .ref o2, .ref o3, .ref o4, .ref o5, .int d6, .int d7, .int d8])), (o40, .inl (cI, 60, .inl d40)), (o41, .inl (cI, 60, .inl d41)), (o45, .inl (cI, 60, .inl d45)), (o4, .inr (8, [.ref o40, .ref o41, .ref o42, .ref o43, .ref o44, .ref o45, .ref o46, .ref o47, .ref o48, .int d49]))] H := hP
      replace hD : va_D A [(k4, .inl (cI, 60, .inl (upd c4 0 a1))), (o0, .inl (cI, 12, .inl d0)), (o43, .inl (cI, 60, .inl d43)), (o46, .inl (cI, 40, .inl d46)), (k, .inr (0, [.ref k0, .ref k1, .ref k2, .ref k3, .ref k4, .int 0])), (k0, .inl (cI, 41, .inl sc0_3)), (k1, .inl (cI, 41, .inl sc1_4)), (k2, .inl (cI, 60, .inl sc2_8)), (k3, .inl (cI, 60, .inl sc3_9)), (o, .inr (9, [.ref o0, .ref o1, .ref o2, .ref o3, .ref o4, .ref o5, .int d6, .int d7, .int d8])), (o40, .inl (cI, 60, .inl d40)), (o41, .inl (cI, 60, .inl d41)), (o45, .inl (cI, 60, .inl d45)), (o4, .inr (8, [.ref o40, .ref o41, .ref o42, .ref o43, .ref o44, .ref o45, .ref o46, .ref o47, .ref o48, .int d49]))] := hD
      obtain ⟨f_21, ef_21⟩ : ∃ g : Nat → Int32, g = upd c4 0 a1 := ⟨_, rfl⟩
      rw [← ef_21] at hP hD
      refine lv_aload_n hx hb dX0_find_48 rfl (lv_at hl 1 rfl) ?_
      refine lv_iconst (v := 1) hx hb dX0_find_49 (by decide +kernel) ?_
      refine va_put (D := D) (ci := 0) (v := .int 1) (ty := .int) (C := RX0) (T := TX0) (N := 6) hx hb hT giX0 tyX0 tyX0_ok nmX0 hown hK hP hD hS 4 rfl rfl 5 (by decide +kernel) (hT (Cond.fieldLink RX0 27 "DesertWire$Hands" "length" "I") mw_204) (fun _ h9 => h9) rfl (by decide +kernel) rfl rfl (Nat.le_of_ble_eq_true rfl) dX0_find_50 ?_
      clear hP hD hS
      intro H locs hP hD hS
      replace hP : va_P D vwCl [(k4, .inl (cI, 60, .inl f_21)), (o0, .inl (cI, 12, .inl d0)), (o43, .inl (cI, 60, .inl d43)), (o46, .inl (cI, 40, .inl d46)), (k, .inr (0, [.ref k0, .ref k1, .ref k2, .ref k3, .ref k4, .int 1])), (k0, .inl (cI, 41, .inl sc0_3)), (k1, .inl (cI, 41, .inl sc1_4)), (k2, .inl (cI, 60, .inl sc2_8)), (k3, .inl (cI, 60, .inl sc3_9)), (o, .inr (9, [.ref o0, .ref o1, .ref o2, .ref o3, .ref o4, .ref o5, .int d6, .int d7, .int d8])), (o40, .inl (cI, 60, .inl d40)), (o41, .inl (cI, 60, .inl d41)), (o45, .inl (cI, 60, .inl d45)), (o4, .inr (8, [.ref o40, .ref o41, .ref o42, .ref o43, .ref o44, .ref o45, .ref o46, .ref o47, .ref o48, .int d49]))] H := hP
      replace hD : va_D A [(k4, .inl (cI, 60, .inl f_21)), (o0, .inl (cI, 12, .inl d0)), (o43, .inl (cI, 60, .inl d43)), (o46, .inl (cI, 40, .inl d46)), (k, .inr (0, [.ref k0, .ref k1, .ref k2, .ref k3, .ref k4, .int 1])), (k0, .inl (cI, 41, .inl sc0_3)), (k1, .inl (cI, 41, .inl sc1_4)), (k2, .inl (cI, 60, .inl sc2_8)), (k3, .inl (cI, 60, .inl sc3_9)), (o, .inr (9, [.ref o0, .ref o1, .ref o2, .ref o3, .ref o4, .ref o5, .int d6, .int d7, .int d8])), (o40, .inl (cI, 60, .inl d40)), (o41, .inl (cI, 60, .inl d41)), (o45, .inl (cI, 60, .inl d45)), (o4, .inr (8, [.ref o40, .ref o41, .ref o42, .ref o43, .ref o44, .ref o45, .ref o46, .ref o47, .ref o48, .int d49]))] := hD
      refine lv_aload_n hx hb dX0_find_53 rfl (lv_at hl 1 rfl) ?_
      refine va_get (D := D) (ci := 0) (v := .ref k2) (C := RX0) (T := TX0) (N := 6) hx hb hT giX0 hown hK hP 4 rfl rfl 2 (by decide +kernel) (hT (Cond.fieldLink RX0 18 "DesertWire$Hands" "far" "[I") mw_201) (fun _ h9 => h9) rfl dX0_find_54 ?_
      refine lv_iload_n hx hb dX0_find_57 rfl (lv_at hl 3 rfl) ?_
      refine k_iald (v := (sc2_8 a1.toNatClampNeg)) hx hb hK hP 7 0 rfl rfl (k_in (by omega) (by omega)) rfl dX0_find_58 ?_
      refine lv_topi (fun v_22 ev_22 => ?_)
      have lo_v_22 := k_lo v_22
      have hi_v_22 := k_hi v_22
      have tv_22 : v_22.toInt = (sc2_8 a1.toNatClampNeg).toInt := by rw [ev_22]
      refine lv_iconst (v := 1) hx hb dX0_find_59 (by decide +kernel) ?_
      refine lv_isub hx hb dX0_find_60 ?_
      refine lv_topi (fun v_23 ev_23 => ?_)
      have lo_v_23 := k_lo v_23
      have hi_v_23 := k_hi v_23
      refine lv_istore (lv' := [(5, .int v_23), (4, .int a1), (0, .ref k), (1, .ref o), (2, .int a1), (3, .int a2)]) hx hb dX0_find_61 hl (by decide +kernel) rfl ?_
      clear hl
      intro ls hl
      have hloop_63 : ∀ (fu_ : Nat) (l63_4 : Int32) (l63_5 : Int32) (f63_k5 : Int32) (g63_k4 : Nat → Int32), l63_5.toInt ≤ v_23.toInt → 1 ≤ f63_k5.toInt → (l63_5.toInt - 0).toNat < fu_ → ∀ (ls : Array Slot) (H : Heap) (locs : List Loc), lv_has ls 6 [(5, .int l63_5), (4, .int l63_4), (0, .ref k), (1, .ref o), (2, .int a1), (3, .int a2)] → va_P D vwCl [(k4, .inl (cI, 60, .inl g63_k4)), (o0, .inl (cI, 12, .inl d0)), (o43, .inl (cI, 60, .inl d43)), (o46, .inl (cI, 40, .inl d46)), (k, .inr (0, [.ref k0, .ref k1, .ref k2, .ref k3, .ref k4, .int f63_k5])), (k0, .inl (cI, 41, .inl sc0_3)), (k1, .inl (cI, 41, .inl sc1_4)), (k2, .inl (cI, 60, .inl sc2_8)), (k3, .inl (cI, 60, .inl sc3_9)), (o, .inr (9, [.ref o0, .ref o1, .ref o2, .ref o3, .ref o4, .ref o5, .int d6, .int d7, .int d8])), (o40, .inl (cI, 60, .inl d40)), (o41, .inl (cI, 60, .inl d41)), (o45, .inl (cI, 60, .inl d45)), (o4, .inr (8, [.ref o40, .ref o41, .ref o42, .ref o43, .ref o44, .ref o45, .ref o46, .ref o47, .ref o48, .int d49]))] H → va_D A [(k4, .inl (cI, 60, .inl g63_k4)), (o0, .inl (cI, 12, .inl d0)), (o43, .inl (cI, 60, .inl d43)), (o46, .inl (cI, 40, .inl d46)), (k, .inr (0, [.ref k0, .ref k1, .ref k2, .ref k3, .ref k4, .int f63_k5])), (k0, .inl (cI, 41, .inl sc0_3)), (k1, .inl (cI, 41, .inl sc1_4)), (k2, .inl (cI, 60, .inl sc2_8)), (k3, .inl (cI, 60, .inl sc3_9)), (o, .inr (9, [.ref o0, .ref o1, .ref o2, .ref o3, .ref o4, .ref o5, .int d6, .int d7, .int d8])), (o40, .inl (cI, 60, .inl d40)), (o41, .inl (cI, 60, .inl d41)), (o45, .inl (cI, 60, .inl d45)), (o4, .inr (8, [.ref o40, .ref o41, .ref o42, .ref o43, .ref o44, .ref o45, .ref o46, .ref o47, .ref o48, .int d49]))] → va_S A s.heap H locs → W p l e ({ frames := 5, cells := 0, slots := 0, locals := 118 } : Room) s m args below meth c H locs 0 0 Q (F0 m 63 ls []) := by
        intro fu_; induction fu_ with
        | zero => intro l63_4 l63_5 f63_k5 g63_k4 i63_0 i63_1 hm; exact absurd hm (by omega)
        | succ fu_ ih63 =>
            intro l63_4 l63_5 f63_k5 g63_k4 i63_0 i63_1 hm ls H locs hl hP hD hS
            have lo_l63_4 := k_lo l63_4
            have hi_l63_4 := k_hi l63_4
            have lo_l63_5 := k_lo l63_5
            have hi_l63_5 := k_hi l63_5
            have lo_f63_k5 := k_lo f63_k5
            have hi_f63_k5 := k_hi f63_k5
            refine lv_iload hx hb dX0_find_63 (lv_at hl 0 rfl) ?_
            refine b_if_le hx hb rfl (tgt := 115) dX0_find_65 (by decide +kernel) (fun c_24 => ?_) (fun c_24 => ?_)
            · refine lv_aload_n hx hb dX0_find_115 rfl (lv_at hl 2 rfl) ?_
              refine va_get (D := D) (ci := 0) (v := .int f63_k5) (C := RX0) (T := TX0) (N := 6) hx hb hT giX0 hown hK hP 4 rfl rfl 5 (by decide +kernel) (hT (Cond.fieldLink RX0 27 "DesertWire$Hands" "length" "I") mw_204) (fun _ h9 => h9) rfl dX0_find_116 ?_
              exact hRet (f63_k5, sc0_3, sc1_4, sc2_8, sc3_9, g63_k4) [4, 5, 6, 7, 8, 0, 9, 1, 13, 10, 11, 2, 12, 3] trivial hP hD (by decide +kernel) rfl hS rfl dX0_find_119
            · refine lv_aload_n hx hb dX0_find_68 rfl (lv_at hl 2 rfl) ?_
              refine va_get (D := D) (ci := 0) (v := .int f63_k5) (C := RX0) (T := TX0) (N := 6) hx hb hT giX0 hown hK hP 4 rfl rfl 5 (by decide +kernel) (hT (Cond.fieldLink RX0 27 "DesertWire$Hands" "length" "I") mw_204) (fun _ h9 => h9) rfl dX0_find_69 ?_
              refine lv_bipush (v := 60) hx hb dX0_find_72 (by decide +kernel) ?_
              refine b_icmp_ge hx hb rfl zl_60 (tgt := 115) dX0_find_74 (by decide +kernel) (fun c_25 => ?_) (fun c_25 => ?_)
              · refine lv_aload_n hx hb dX0_find_115 rfl (lv_at hl 2 rfl) ?_
                refine va_get (D := D) (ci := 0) (v := .int f63_k5) (C := RX0) (T := TX0) (N := 6) hx hb hT giX0 hown hK hP 4 rfl rfl 5 (by decide +kernel) (hT (Cond.fieldLink RX0 27 "DesertWire$Hands" "length" "I") mw_204) (fun _ h9 => h9) rfl dX0_find_116 ?_
                exact hRet (f63_k5, sc0_3, sc1_4, sc2_8, sc3_9, g63_k4) [4, 5, 6, 7, 8, 0, 9, 1, 13, 10, 11, 2, 12, 3] trivial hP hD (by decide +kernel) rfl hS rfl dX0_find_119
              · refine lv_aload_n hx hb dX0_find_77 rfl (lv_at hl 2 rfl) ?_
                refine lv_aload_n hx hb dX0_find_78 rfl (lv_at hl 3 rfl) ?_
                refine lv_iload hx hb dX0_find_79 (lv_at hl 1 rfl) ?_
                refine lv_iload hx hb dX0_find_81 (lv_at hl 0 rfl) ?_
                refine kJi (wr := [(k4, .inl (cI, 60, .inl g63_k4)), (o0, .inl (cI, 12, .inl d0)), (o43, .inl (cI, 60, .inl d43)), (o46, .inl (cI, 40, .inl d46)), (k3, .inl (cI, 60, .inl sc3_9))]) (va_runV (As := [.ref o, .int l63_4, .int l63_5]) (rest := []) ⟨hx, hb, hml, hown, hT⟩ (c_X0_nextHandG l D cI aK aV k o k0 k1 k2 k3 k4 o0 o1 o2 o3 o4 o5 o40 o41 o42 o43 o44 o45 o46 o47 o48 H.size f63_k5 sc0_3 sc1_4 sc2_8 d6 d7 d8 d49 d40 d41 d45 l63_4 l63_5) (cwV 3 hT (gV_in mw_810 mw_807 mw_809 mw_p2_6 mw_7) rfl rfl rfl (by decide +kernel) ⟨Nat.le_of_ble_eq_true rfl, Nat.le_of_ble_eq_true rfl⟩) (kRecvX (q0 := 4) (ci := 0) hK hP hD hN hXS hS hA rfl rfl [4, 5, 6, 7, 9, 13, 10, 11, 12] rfl (by decide +kernel)) rfl rfl hl.1 rfl (lv_room (Nat.le_of_ble_eq_true rfl)) dX0_find_83 ⟨Nat.le_of_ble_eq_true rfl, Nat.le_of_ble_eq_true rfl⟩) hP hD hS hA [4, 5, 6, 7, 9, 13, 10, 11, 12] [0, 1, 2, 3, 8] rfl rfl (by decide +kernel) (by decide +kernel) ?_
                clear hP hD hS
                intro r_26 u_28 H locs w_27 hP hD hS
                replace hP : va_P D vwCl [(k4, .inl (cI, 60, .inl g63_k4)), (o0, .inl (cI, 12, .inl d0)), (o43, .inl (cI, 60, .inl d43)), (o46, .inl (cI, 40, .inl d46)), (k3, .inl (cI, 60, .inl sc3_9)), (k, .inr (0, [.ref k0, .ref k1, .ref k2, .ref k3, .ref k4, .int f63_k5])), (k0, .inl (cI, 41, .inl sc0_3)), (k1, .inl (cI, 41, .inl sc1_4)), (k2, .inl (cI, 60, .inl sc2_8)), (o, .inr (9, [.ref o0, .ref o1, .ref o2, .ref o3, .ref o4, .ref o5, .int d6, .int d7, .int d8])), (o4, .inr (8, [.ref o40, .ref o41, .ref o42, .ref o43, .ref o44, .ref o45, .ref o46, .ref o47, .ref o48, .int d49])), (o40, .inl (cI, 60, .inl d40)), (o41, .inl (cI, 60, .inl d41)), (o45, .inl (cI, 60, .inl d45))] H := hP
                replace hD : va_D A [(k4, .inl (cI, 60, .inl g63_k4)), (o0, .inl (cI, 12, .inl d0)), (o43, .inl (cI, 60, .inl d43)), (o46, .inl (cI, 40, .inl d46)), (k3, .inl (cI, 60, .inl sc3_9)), (k, .inr (0, [.ref k0, .ref k1, .ref k2, .ref k3, .ref k4, .int f63_k5])), (k0, .inl (cI, 41, .inl sc0_3)), (k1, .inl (cI, 41, .inl sc1_4)), (k2, .inl (cI, 60, .inl sc2_8)), (o, .inr (9, [.ref o0, .ref o1, .ref o2, .ref o3, .ref o4, .ref o5, .int d6, .int d7, .int d8])), (o4, .inr (8, [.ref o40, .ref o41, .ref o42, .ref o43, .ref o44, .ref o45, .ref o46, .ref o47, .ref o48, .int d49])), (o40, .inl (cI, 60, .inl d40)), (o41, .inl (cI, 60, .inl d41)), (o45, .inl (cI, 60, .inl d45))] := hD
                have lo_r_26 := k_lo r_26
                have hi_r_26 := k_hi r_26
                refine lv_istore (lv' := [(4, .int r_26), (5, .int l63_5), (0, .ref k), (1, .ref o), (2, .int a1), (3, .int a2)]) hx hb dX0_find_86 hl (by decide +kernel) rfl ?_
                clear hl
                intro ls hl
                refine lv_aload_n hx hb dX0_find_88 rfl (lv_at hl 2 rfl) ?_
                refine va_get (D := D) (ci := 0) (v := .ref k4) (C := RX0) (T := TX0) (N := 6) hx hb hT giX0 hown hK hP 5 rfl rfl 4 (by decide +kernel) (hT (Cond.fieldLink RX0 24 "DesertWire$Hands" "stations" "[I") mw_203) (fun _ h9 => h9) rfl dX0_find_89 ?_
                refine lv_aload_n hx hb dX0_find_92 rfl (lv_at hl 2 rfl) ?_
                refine va_get (D := D) (ci := 0) (v := .int f63_k5) (C := RX0) (T := TX0) (N := 6) hx hb hT giX0 hown hK hP 5 rfl rfl 5 (by decide +kernel) (hT (Cond.fieldLink RX0 27 "DesertWire$Hands" "length" "I") mw_204) (fun _ h9 => h9) rfl dX0_find_93 ?_
                refine lv_iload hx hb dX0_find_96 (lv_at hl 0 rfl) ?_
                refine va_iast hx hb hK hP hD hS 0 0 rfl rfl (k_in (by omega) (by omega)) dX0_find_98 ?_
                clear hP hD hS
                intro H locs hP hD hS
                replace hP : va_P D vwCl [(k4, .inl (cI, 60, .inl (upd g63_k4 f63_k5.toNatClampNeg r_26))), (o0, .inl (cI, 12, .inl d0)), (o43, .inl (cI, 60, .inl d43)), (o46, .inl (cI, 40, .inl d46)), (k3, .inl (cI, 60, .inl sc3_9)), (k, .inr (0, [.ref k0, .ref k1, .ref k2, .ref k3, .ref k4, .int f63_k5])), (k0, .inl (cI, 41, .inl sc0_3)), (k1, .inl (cI, 41, .inl sc1_4)), (k2, .inl (cI, 60, .inl sc2_8)), (o, .inr (9, [.ref o0, .ref o1, .ref o2, .ref o3, .ref o4, .ref o5, .int d6, .int d7, .int d8])), (o4, .inr (8, [.ref o40, .ref o41, .ref o42, .ref o43, .ref o44, .ref o45, .ref o46, .ref o47, .ref o48, .int d49])), (o40, .inl (cI, 60, .inl d40)), (o41, .inl (cI, 60, .inl d41)), (o45, .inl (cI, 60, .inl d45))] H := hP
                replace hD : va_D A [(k4, .inl (cI, 60, .inl (upd g63_k4 f63_k5.toNatClampNeg r_26))), (o0, .inl (cI, 12, .inl d0)), (o43, .inl (cI, 60, .inl d43)), (o46, .inl (cI, 40, .inl d46)), (k3, .inl (cI, 60, .inl sc3_9)), (k, .inr (0, [.ref k0, .ref k1, .ref k2, .ref k3, .ref k4, .int f63_k5])), (k0, .inl (cI, 41, .inl sc0_3)), (k1, .inl (cI, 41, .inl sc1_4)), (k2, .inl (cI, 60, .inl sc2_8)), (o, .inr (9, [.ref o0, .ref o1, .ref o2, .ref o3, .ref o4, .ref o5, .int d6, .int d7, .int d8])), (o4, .inr (8, [.ref o40, .ref o41, .ref o42, .ref o43, .ref o44, .ref o45, .ref o46, .ref o47, .ref o48, .int d49])), (o40, .inl (cI, 60, .inl d40)), (o41, .inl (cI, 60, .inl d41)), (o45, .inl (cI, 60, .inl d45))] := hD
                obtain ⟨f_29, ef_29⟩ : ∃ g : Nat → Int32, g = upd g63_k4 f63_k5.toNatClampNeg r_26 := ⟨_, rfl⟩
                rw [← ef_29] at hP hD
                refine lv_aload_n hx hb dX0_find_99 rfl (lv_at hl 2 rfl) ?_
                refine lv_dup hx hb dX0_find_100 rfl ?_
                refine va_get (D := D) (ci := 0) (v := .int f63_k5) (C := RX0) (T := TX0) (N := 6) hx hb hT giX0 hown hK hP 5 rfl rfl 5 (by decide +kernel) (hT (Cond.fieldLink RX0 27 "DesertWire$Hands" "length" "I") mw_204) (fun _ h9 => h9) rfl dX0_find_101 ?_
                refine lv_iconst (v := 1) hx hb dX0_find_104 (by decide +kernel) ?_
                refine lv_iadd hx hb dX0_find_105 ?_
                refine lv_topi (fun v_30 ev_30 => ?_)
                have tv_30 : v_30.toInt = f63_k5.toInt + 1 := by rw [ev_30]; exact k_addv rfl zl_1 (by omega) (by omega)
                refine va_put (D := D) (ci := 0) (v := .int v_30) (ty := .int) (C := RX0) (T := TX0) (N := 6) hx hb hT giX0 tyX0 tyX0_ok nmX0 hown hK hP hD hS 5 rfl rfl 5 (by decide +kernel) (hT (Cond.fieldLink RX0 27 "DesertWire$Hands" "length" "I") mw_204) (fun _ h9 => h9) rfl (by decide +kernel) rfl rfl (Nat.le_of_ble_eq_true rfl) dX0_find_106 ?_
                clear hP hD hS
                intro H locs hP hD hS
                replace hP : va_P D vwCl [(k4, .inl (cI, 60, .inl f_29)), (o0, .inl (cI, 12, .inl d0)), (o43, .inl (cI, 60, .inl d43)), (o46, .inl (cI, 40, .inl d46)), (k3, .inl (cI, 60, .inl sc3_9)), (k, .inr (0, [.ref k0, .ref k1, .ref k2, .ref k3, .ref k4, .int v_30])), (k0, .inl (cI, 41, .inl sc0_3)), (k1, .inl (cI, 41, .inl sc1_4)), (k2, .inl (cI, 60, .inl sc2_8)), (o, .inr (9, [.ref o0, .ref o1, .ref o2, .ref o3, .ref o4, .ref o5, .int d6, .int d7, .int d8])), (o4, .inr (8, [.ref o40, .ref o41, .ref o42, .ref o43, .ref o44, .ref o45, .ref o46, .ref o47, .ref o48, .int d49])), (o40, .inl (cI, 60, .inl d40)), (o41, .inl (cI, 60, .inl d41)), (o45, .inl (cI, 60, .inl d45))] H := hP
                replace hD : va_D A [(k4, .inl (cI, 60, .inl f_29)), (o0, .inl (cI, 12, .inl d0)), (o43, .inl (cI, 60, .inl d43)), (o46, .inl (cI, 40, .inl d46)), (k3, .inl (cI, 60, .inl sc3_9)), (k, .inr (0, [.ref k0, .ref k1, .ref k2, .ref k3, .ref k4, .int v_30])), (k0, .inl (cI, 41, .inl sc0_3)), (k1, .inl (cI, 41, .inl sc1_4)), (k2, .inl (cI, 60, .inl sc2_8)), (o, .inr (9, [.ref o0, .ref o1, .ref o2, .ref o3, .ref o4, .ref o5, .int d6, .int d7, .int d8])), (o4, .inr (8, [.ref o40, .ref o41, .ref o42, .ref o43, .ref o44, .ref o45, .ref o46, .ref o47, .ref o48, .int d49])), (o40, .inl (cI, 60, .inl d40)), (o41, .inl (cI, 60, .inl d41)), (o45, .inl (cI, 60, .inl d45))] := hD
                obtain ⟨v_31, ev_31⟩ : ∃ y : Int32, y = l63_5 + (-1) := ⟨_, rfl⟩
                have tv_31 : v_31.toInt = l63_5.toInt + (-1) := by rw [ev_31]; exact k_addv rfl zl_m1 (by omega) (by omega)
                refine lv_iinc (v := v_31) (lv' := [(5, .int v_31), (4, .int r_26), (0, .ref k), (1, .ref o), (2, .int a1), (3, .int a2)]) hx hb dX0_find_109 hl (k := 1) rfl (by rw [ev_31]; rfl) (by decide +kernel) rfl ?_
                clear hl
                intro ls hl
                refine lv_goto (tgt := 63) hx hb dX0_find_112 (by decide +kernel) ?_
                exact ih63 r_26 v_31 v_30 f_29 (by first | omega | decide | assumption | rfl) (by first | omega | decide | assumption | rfl) (by omega) ls _ _ (lv_sub hl [0, 1, 2, 3, 4, 5] rfl) (hP.sub [0, 1, 2, 3, 5, 6, 7, 8, 4, 9, 11, 12, 13, 10] rfl) (hD.sub [0, 1, 2, 3, 5, 6, 7, 8, 4, 9, 11, 12, 13, 10] (by decide +kernel) rfl) hS
      exact hloop_63 _ a1 v_23 1 f_21 (by first | omega | (simp only [zl_1]; first | done | omega) | decide | assumption | rfl) (by first | omega | (simp only [zl_1]; first | done | omega) | decide | assumption | rfl) (Nat.lt_succ_self _) ls _ _ (lv_sub hl [0, 1, 2, 3, 4, 5] rfl) hP hD hS
    · refine lv_iconst (v := 0) hx hb dX0_find_36 (by decide +kernel) ?_
      exact hRet (0, sc0_3, sc1_4, sc2_8, sc3_9, c4) [4, 5, 6, 7, 8, 0, 9, 1, 13, 10, 11, 2, 12, 3] trivial hP hD (by decide +kernel) rfl hS rfl dX0_find_37
  · have h_17 : a1.toInt < 0 ∨ d49.toInt ≤ a1.toInt ∨ 60 ≤ a1.toInt := h_17
    obtain rfl : r_11 = 0 := hr_11.trans (by decide +kernel)
    refine b_if_eq hx hb zl_0 (tgt := 36) dX0_find_24 (by decide +kernel) (fun c_32 => ?_) (fun c_32 => by exfalso; omega)
    refine lv_iconst (v := 0) hx hb dX0_find_36 (by decide +kernel) ?_
    exact hRet (0, sc0_3, sc1_4, sc2_8, sc3_9, c4) [4, 5, 6, 7, 8, 0, 9, 1, 13, 10, 11, 2, 12, 3] trivial hP hD (by decide +kernel) rfl hS rfl dX0_find_37
theorem bn_cX0_stationAt_0 : BN cX0_stationAt 0 0xad0201402a81787032015a8ac1a01518f4221c09805461c00ad4561c0d805381c := by
  unfold BN; decide +kernel
theorem dX0_stationAt_0 : decode cX0_stationAt 0 = .ok (.iload_n 1, 1) := dR0 (k := 0) (i := 0) bn_cX0_stationAt_0 dop_27 (by decide +kernel)
theorem dX0_stationAt_1 : decode cX0_stationAt 1 = .ok (.ifCond .lt 26, 3) := dR2s (f := Instr.ifCond .lt) (k := 0) (i := 1) bn_cX0_stationAt_0 dop_155 26 26 (by decide +kernel)
theorem dX0_stationAt_4 : decode cX0_stationAt 4 = .ok (.iload_n 1, 1) := dR0 (k := 0) (i := 4) bn_cX0_stationAt_0 dop_27 (by decide +kernel)
theorem dX0_stationAt_5 : decode cX0_stationAt 5 = .ok (.aload_n 0, 1) := dR0 (k := 0) (i := 5) bn_cX0_stationAt_0 dop_42 (by decide +kernel)
theorem dX0_stationAt_6 : decode cX0_stationAt 6 = .ok (.getfield 27, 3) := dR2 (f := Instr.getfield) (k := 0) (i := 6) bn_cX0_stationAt_0 dop_180 27 (by decide +kernel)
theorem dX0_stationAt_9 : decode cX0_stationAt 9 = .ok (.if_icmp .ge 18, 3) := dR2s (f := Instr.if_icmp .ge) (k := 0) (i := 9) bn_cX0_stationAt_0 dop_162 18 18 (by decide +kernel)
theorem dX0_stationAt_12 : decode cX0_stationAt 12 = .ok (.iload_n 1, 1) := dR0 (k := 0) (i := 12) bn_cX0_stationAt_0 dop_27 (by decide +kernel)
theorem dX0_stationAt_13 : decode cX0_stationAt 13 = .ok (.bipush 60, 2) := dR1s (f := Instr.bipush) (k := 0) (i := 13) bn_cX0_stationAt_0 dop_16 60 60 (by decide +kernel)
theorem dX0_stationAt_15 : decode cX0_stationAt 15 = .ok (.if_icmp .ge 12, 3) := dR2s (f := Instr.if_icmp .ge) (k := 0) (i := 15) bn_cX0_stationAt_0 dop_162 12 12 (by decide +kernel)
theorem dX0_stationAt_18 : decode cX0_stationAt 18 = .ok (.aload_n 0, 1) := dR0 (k := 0) (i := 18) bn_cX0_stationAt_0 dop_42 (by decide +kernel)
theorem dX0_stationAt_19 : decode cX0_stationAt 19 = .ok (.getfield 24, 3) := dR2 (f := Instr.getfield) (k := 0) (i := 19) bn_cX0_stationAt_0 dop_180 24 (by decide +kernel)
theorem dX0_stationAt_22 : decode cX0_stationAt 22 = .ok (.iload_n 1, 1) := dR0 (k := 0) (i := 22) bn_cX0_stationAt_0 dop_27 (by decide +kernel)
theorem dX0_stationAt_23 : decode cX0_stationAt 23 = .ok (.iaload, 1) := dR0 (k := 0) (i := 23) bn_cX0_stationAt_0 dop_46 (by decide +kernel)
theorem dX0_stationAt_24 : decode cX0_stationAt 24 = .ok (.goto 4, 3) := dR2s (f := Instr.goto) (k := 0) (i := 24) bn_cX0_stationAt_0 dop_167 4 4 (by decide +kernel)
theorem dX0_stationAt_27 : decode cX0_stationAt 27 = .ok (.iconst 0, 1) := dR0 (k := 0) (i := 27) bn_cX0_stationAt_0 dop_3 (by decide +kernel)
theorem dX0_stationAt_28 : decode cX0_stationAt 28 = .ok (.ireturn, 1) := dR0 (k := 0) (i := 28) bn_cX0_stationAt_0 dop_172 (by decide +kernel)
set_option maxHeartbeats 4000000 in
set_option maxRecDepth 100000 in
theorem c_X0_stationAtG (l : Launch) (D : va_G) (cI : ClassId) (aK aV : Nat → Nat) (k k0 k1 k2 k3 k4 : Nat) (sz : Nat) (c5 : Int32) (c4 : Nat → Int32) (a0 : Int32) : Met l yX0_stationAt (gW yX0_stationAt cX0_stationAt 2 (some .int)) ({ frames := 0, cells := 0, slots := 0, locals := 0 } : Room) (kPreX D cI aK aV [.ref k, .int a0] [(k, .inr (0, [.ref k0, .ref k1, .ref k2, .ref k3, .ref k4, .int c5])), (k4, .inl (cI, 60, .inl c4))] sz) (va_Qi (fun (r : Int32) (u : Unit) => True) (fun u t => kWd D cI (va_A [(k, .inr (0, [.ref k0, .ref k1, .ref k2, .ref k3, .ref k4, .int c5])), (k4, .inl (cI, 60, .inl c4))] sz) [(k, .inr (0, [.ref k0, .ref k1, .ref k2, .ref k3, .ref k4, .int c5])), (k4, .inl (cI, 60, .inl c4))] t) (va_A [(k, .inr (0, [.ref k0, .ref k1, .ref k2, .ref k3, .ref k4, .int c5])), (k4, .inl (cI, 60, .inl c4))] sz)) 0 0 (va_A [(k, .inr (0, [.ref k0, .ref k1, .ref k2, .ref k3, .ref k4, .int c5])), (k4, .inl (cI, 60, .inl c4))] sz) := by
  refine kMetIX (own := RX0) (by decide +kernel) rfl (Nat.le_of_ble_eq_true rfl) ?_
  intro p e s m args below meth c hx hb hT hown hname hml A Q hK hP hD hS hA hN hXS hRet ls hl
  have hl : lv_has ls 2 [(0, .ref k), (1, .int a0)] := hl
  have lo_a0 := k_lo a0
  have hi_a0 := k_hi a0
  have lo_c5 := k_lo c5
  have hi_c5 := k_hi c5
  refine lv_iload_n hx hb dX0_stationAt_0 rfl (lv_at hl 1 rfl) ?_
  refine b_if_lt hx hb rfl (tgt := 27) dX0_stationAt_1 (by decide +kernel) (fun c_1 => ?_) (fun c_1 => ?_)
  · refine lv_iconst (v := 0) hx hb dX0_stationAt_27 (by decide +kernel) ?_
    exact hRet () [0, 1] trivial hP hD (by decide +kernel) rfl hS rfl dX0_stationAt_28
  · refine lv_iload_n hx hb dX0_stationAt_4 rfl (lv_at hl 1 rfl) ?_
    refine lv_aload_n hx hb dX0_stationAt_5 rfl (lv_at hl 0 rfl) ?_
    refine va_get (D := D) (ci := 0) (v := .int c5) (C := RX0) (T := TX0) (N := 6) hx hb hT giX0 hown hK hP 0 rfl rfl 5 (by decide +kernel) (hT (Cond.fieldLink RX0 27 "DesertWire$Hands" "length" "I") mw_204) (fun _ h9 => h9) rfl dX0_stationAt_6 ?_
    refine b_icmp_ge hx hb rfl rfl (tgt := 27) dX0_stationAt_9 (by decide +kernel) (fun c_2 => ?_) (fun c_2 => ?_)
    · refine lv_iconst (v := 0) hx hb dX0_stationAt_27 (by decide +kernel) ?_
      exact hRet () [0, 1] trivial hP hD (by decide +kernel) rfl hS rfl dX0_stationAt_28
    · refine lv_iload_n hx hb dX0_stationAt_12 rfl (lv_at hl 1 rfl) ?_
      refine lv_bipush (v := 60) hx hb dX0_stationAt_13 (by decide +kernel) ?_
      refine b_icmp_ge hx hb rfl zl_60 (tgt := 27) dX0_stationAt_15 (by decide +kernel) (fun c_3 => ?_) (fun c_3 => ?_)
      · refine lv_iconst (v := 0) hx hb dX0_stationAt_27 (by decide +kernel) ?_
        exact hRet () [0, 1] trivial hP hD (by decide +kernel) rfl hS rfl dX0_stationAt_28
      · refine lv_aload_n hx hb dX0_stationAt_18 rfl (lv_at hl 0 rfl) ?_
        refine va_get (D := D) (ci := 0) (v := .ref k4) (C := RX0) (T := TX0) (N := 6) hx hb hT giX0 hown hK hP 0 rfl rfl 4 (by decide +kernel) (hT (Cond.fieldLink RX0 24 "DesertWire$Hands" "stations" "[I") mw_203) (fun _ h9 => h9) rfl dX0_stationAt_19 ?_
        refine lv_iload_n hx hb dX0_stationAt_22 rfl (lv_at hl 1 rfl) ?_
        refine k_iald (v := (c4 a0.toNatClampNeg)) hx hb hK hP 1 0 rfl rfl (k_in (by omega) (by omega)) rfl dX0_stationAt_23 ?_
        refine lv_topi (fun v_4 ev_4 => ?_)
        have lo_v_4 := k_lo v_4
        have hi_v_4 := k_hi v_4
        have tv_4 : v_4.toInt = (c4 a0.toNatClampNeg).toInt := by rw [ev_4]
        refine lv_goto (tgt := 28) hx hb dX0_stationAt_24 (by decide +kernel) ?_
        exact hRet () [0, 1] trivial hP hD (by decide +kernel) rfl hS rfl dX0_stationAt_28
