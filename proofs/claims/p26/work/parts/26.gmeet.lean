theorem bn_cX2_daysOf_0 : BN cX2_daysOf 0 0x568100a01541b4386502984381b070053e1c := by
  unfold BN; decide +kernel
theorem dX2_daysOf_0 : decode cX2_daysOf 0 = .ok (.iload_n 1, 1) := dR0 (k := 0) (i := 0) bn_cX2_daysOf_0 dop_27 (by decide +kernel)
theorem dX2_daysOf_1 : decode cX2_daysOf 1 = .ok (.ifCond .le 13, 3) := dR2s (f := Instr.ifCond .le) (k := 0) (i := 1) bn_cX2_daysOf_0 dop_158 13 13 (by decide +kernel)
theorem dX2_daysOf_4 : decode cX2_daysOf 4 = .ok (.iload_n 0, 1) := dR0 (k := 0) (i := 4) bn_cX2_daysOf_0 dop_26 (by decide +kernel)
theorem dX2_daysOf_5 : decode cX2_daysOf 5 = .ok (.iload_n 1, 1) := dR0 (k := 0) (i := 5) bn_cX2_daysOf_0 dop_27 (by decide +kernel)
theorem dX2_daysOf_6 : decode cX2_daysOf 6 = .ok (.iadd, 1) := dR0 (k := 0) (i := 6) bn_cX2_daysOf_0 dop_96 (by decide +kernel)
theorem dX2_daysOf_7 : decode cX2_daysOf 7 = .ok (.iconst 1, 1) := dR0 (k := 0) (i := 7) bn_cX2_daysOf_0 dop_4 (by decide +kernel)
theorem dX2_daysOf_8 : decode cX2_daysOf 8 = .ok (.isub, 1) := dR0 (k := 0) (i := 8) bn_cX2_daysOf_0 dop_100 (by decide +kernel)
theorem dX2_daysOf_9 : decode cX2_daysOf 9 = .ok (.iload_n 1, 1) := dR0 (k := 0) (i := 9) bn_cX2_daysOf_0 dop_27 (by decide +kernel)
theorem dX2_daysOf_10 : decode cX2_daysOf 10 = .ok (.idiv, 1) := dR0 (k := 0) (i := 10) bn_cX2_daysOf_0 dop_108 (by decide +kernel)
theorem dX2_daysOf_11 : decode cX2_daysOf 11 = .ok (.goto 4, 3) := dR2s (f := Instr.goto) (k := 0) (i := 11) bn_cX2_daysOf_0 dop_167 4 4 (by decide +kernel)
theorem dX2_daysOf_14 : decode cX2_daysOf 14 = .ok (.iconst 0, 1) := dR0 (k := 0) (i := 14) bn_cX2_daysOf_0 dop_3 (by decide +kernel)
theorem dX2_daysOf_15 : decode cX2_daysOf 15 = .ok (.ireturn, 1) := dR0 (k := 0) (i := 15) bn_cX2_daysOf_0 dop_172 (by decide +kernel)
set_option maxHeartbeats 4000000 in
set_option maxRecDepth 100000 in
theorem c_X2_daysOfG (l : Launch) (D : va_G) (cI : ClassId) (aK aV : Nat → Nat) (sz : Nat) (a0 : Int32) (a1 : Int32) : Met l yX2_daysOf (gW yX2_daysOf cX2_daysOf 2 (some .int)) ({ frames := 0, cells := 0, slots := 0, locals := 0 } : Room) (kPreX D cI aK aV [.int a0, .int a1] [] sz) (va_Qi (fun (r : Int32) (u : Unit) => True) (fun u t => kWd D cI (va_A [] sz) [] t) (va_A [] sz)) 0 0 (va_A [] sz) := by
  refine kMetIX (own := RX2) (by decide +kernel) rfl (Nat.le_of_ble_eq_true rfl) ?_
  intro p e s m args below meth c hx hb hT hown hname hml A Q hK hP hD hS hA hN hXS hRet ls hl
  have hl : lv_has ls 2 [(0, .int a0), (1, .int a1)] := hl
  refine lv_iload_n hx hb dX2_daysOf_0 rfl (lv_at hl 1 rfl) ?_
  refine b_if_le hx hb rfl (tgt := 14) dX2_daysOf_1 (by decide +kernel) (fun c_1 => ?_) (fun c_1 => ?_)
  · refine lv_iconst (v := 0) hx hb dX2_daysOf_14 (by decide +kernel) ?_
    exact hRet () [] trivial hP hD (by decide +kernel) rfl hS rfl dX2_daysOf_15
  · refine lv_iload_n hx hb dX2_daysOf_4 rfl (lv_at hl 0 rfl) ?_
    refine lv_iload_n hx hb dX2_daysOf_5 rfl (lv_at hl 1 rfl) ?_
    refine lv_iadd hx hb dX2_daysOf_6 ?_
    refine lv_topi (fun v_2 ev_2 => ?_)
    have lo_v_2 := k_lo v_2
    have hi_v_2 := k_hi v_2
    refine lv_iconst (v := 1) hx hb dX2_daysOf_7 (by decide +kernel) ?_
    refine lv_isub hx hb dX2_daysOf_8 ?_
    refine lv_topi (fun v_3 ev_3 => ?_)
    have lo_v_3 := k_lo v_3
    have hi_v_3 := k_hi v_3
    refine lv_iload_n hx hb dX2_daysOf_9 rfl (lv_at hl 1 rfl) ?_
    refine lv_idiv hx hb dX2_daysOf_10 (k_ne0 (by omega)) ?_
    refine lv_topi (fun v_4 ev_4 => ?_)
    have lo_v_4 := k_lo v_4
    have hi_v_4 := k_hi v_4
    refine lv_goto (tgt := 15) hx hb dX2_daysOf_11 (by decide +kernel) ?_
    exact hRet () [] trivial hP hD (by decide +kernel) rfl hS rfl dX2_daysOf_15
theorem bn_cX2_worstAt_0 : BN cX2_worstAt 0 0x15a0402805502f0e04002b515834029a14805721c := by
  unfold BN; decide +kernel
theorem dX2_worstAt_0 : decode cX2_worstAt 0 = .ok (.iload_n 1, 1) := dR0 (k := 0) (i := 0) bn_cX2_worstAt_0 dop_27 (by decide +kernel)
theorem dX2_worstAt_1 : decode cX2_worstAt 1 = .ok (.invokestatic 40, 3) := dR2 (f := Instr.invokestatic) (k := 0) (i := 1) bn_cX2_worstAt_0 dop_184 40 (by decide +kernel)
theorem dX2_worstAt_4 : decode cX2_worstAt 4 = .ok (.ifCond .eq 12, 3) := dR2s (f := Instr.ifCond .eq) (k := 0) (i := 4) bn_cX2_worstAt_0 dop_153 12 12 (by decide +kernel)
theorem dX2_worstAt_7 : decode cX2_worstAt 7 = .ok (.aload_n 0, 1) := dR0 (k := 0) (i := 7) bn_cX2_worstAt_0 dop_42 (by decide +kernel)
theorem dX2_worstAt_8 : decode cX2_worstAt 8 = .ok (.getfield 15, 3) := dR2 (f := Instr.getfield) (k := 0) (i := 8) bn_cX2_worstAt_0 dop_180 15 (by decide +kernel)
theorem dX2_worstAt_11 : decode cX2_worstAt 11 = .ok (.iload_n 1, 1) := dR0 (k := 0) (i := 11) bn_cX2_worstAt_0 dop_27 (by decide +kernel)
theorem dX2_worstAt_12 : decode cX2_worstAt 12 = .ok (.iaload, 1) := dR0 (k := 0) (i := 12) bn_cX2_worstAt_0 dop_46 (by decide +kernel)
theorem dX2_worstAt_13 : decode cX2_worstAt 13 = .ok (.goto 4, 3) := dR2s (f := Instr.goto) (k := 0) (i := 13) bn_cX2_worstAt_0 dop_167 4 4 (by decide +kernel)
theorem dX2_worstAt_16 : decode cX2_worstAt 16 = .ok (.iconst 0, 1) := dR0 (k := 0) (i := 16) bn_cX2_worstAt_0 dop_3 (by decide +kernel)
theorem dX2_worstAt_17 : decode cX2_worstAt 17 = .ok (.ireturn, 1) := dR0 (k := 0) (i := 17) bn_cX2_worstAt_0 dop_172 (by decide +kernel)
set_option maxHeartbeats 4000000 in
set_option maxRecDepth 100000 in
theorem c_X2_worstAtG (l : Launch) (D : va_G) (cI : ClassId) (aK aV : Nat → Nat) (k k0 k1 : Nat) (sz : Nat) (c1 : Nat → Int32) (a0 : Int32) : Met l yX2_worstAt (gW yX2_worstAt cX2_worstAt 2 (some .int)) ({ frames := 1, cells := 0, slots := 0, locals := 20 } : Room) (kPreX D cI aK aV [.ref k, .int a0] [(k, .inr (2, [.ref k0, .ref k1])), (k1, .inl (cI, 40, .inl c1))] sz) (va_Qi (fun (r : Int32) (u : Unit) => True) (fun u t => kWd D cI (va_A [(k, .inr (2, [.ref k0, .ref k1])), (k1, .inl (cI, 40, .inl c1))] sz) [(k, .inr (2, [.ref k0, .ref k1])), (k1, .inl (cI, 40, .inl c1))] t) (va_A [(k, .inr (2, [.ref k0, .ref k1])), (k1, .inl (cI, 40, .inl c1))] sz)) 0 0 (va_A [(k, .inr (2, [.ref k0, .ref k1])), (k1, .inl (cI, 40, .inl c1))] sz) := by
  refine kMetIX (own := RX2) (by decide +kernel) rfl (Nat.le_of_ble_eq_true rfl) ?_
  intro p e s m args below meth c hx hb hT hown hname hml A Q hK hP hD hS hA hN hXS hRet ls hl
  have hl : lv_has ls 2 [(0, .ref k), (1, .int a0)] := hl
  have lo_a0 := k_lo a0
  have hi_a0 := k_hi a0
  refine lv_iload_n hx hb dX2_worstAt_0 rfl (lv_at hl 1 rfl) ?_
  refine kJi (wr := [(k, .inr (2, [.ref k0, .ref k1])), (k1, .inl (cI, 40, .inl c1))]) (va_runSN (As := [.int a0]) (rest := []) ⟨hx, hb, hml, hown, hT⟩ (c_X10_isMileG l D cI aK aV s.heap.size a0) ⟨va_cnB 1 hT (gW_in mw_346) rfl rfl rfl (hN _ mw_938) (hT _ mw_1) (by decide +kernel) ⟨Nat.le_of_ble_eq_true rfl, Nat.le_of_ble_eq_true rfl⟩, hT _ mw_345, trivial⟩ (kStatX hK hP hD hN hXS hS hA [] rfl (by decide +kernel)) rfl rfl hl.1 rfl (lv_room (Nat.le_of_ble_eq_true rfl)) dX2_worstAt_1 ⟨Nat.le_of_ble_eq_true rfl, Nat.le_of_ble_eq_true rfl⟩) hP hD hS hA [] [0, 1] rfl rfl (by decide +kernel) (by decide +kernel) ?_
  clear hP hD hS
  intro r_1 u_3 H locs w_2 hP hD hS
  replace hP : va_P D vwCl [(k, .inr (2, [.ref k0, .ref k1])), (k1, .inl (cI, 40, .inl c1))] H := hP
  replace hD : va_D A [(k, .inr (2, [.ref k0, .ref k1])), (k1, .inl (cI, 40, .inl c1))] := hD
  rcases w_2 with ⟨hr_1, h_4, h_5⟩ | ⟨hr_1, h_6⟩
  · have h_4 : 0 ≤ a0.toInt := h_4
    have h_5 : a0.toInt ≤ 39 := h_5
    obtain rfl : r_1 = 1 := hr_1.trans (by decide +kernel)
    refine b_if_eq hx hb zl_1 (tgt := 16) dX2_worstAt_4 (by decide +kernel) (fun c_7 => by exfalso; omega) (fun c_7 => ?_)
    refine lv_aload_n hx hb dX2_worstAt_7 rfl (lv_at hl 0 rfl) ?_
    refine va_get (D := D) (ci := 2) (v := .ref k1) (C := RX2) (T := TX2) (N := 2) hx hb hT giX2 hown hK hP 0 rfl rfl 1 (by decide +kernel) (hT (Cond.fieldLink RX2 15 "DesertWire$Meetings" "worst" "[I") mw_246) (fun _ h9 => h9) rfl dX2_worstAt_8 ?_
    refine lv_iload_n hx hb dX2_worstAt_11 rfl (lv_at hl 1 rfl) ?_
    refine k_iald (v := (c1 a0.toNatClampNeg)) hx hb hK hP 1 0 rfl rfl (k_in (by omega) (by omega)) rfl dX2_worstAt_12 ?_
    refine lv_topi (fun v_8 ev_8 => ?_)
    have lo_v_8 := k_lo v_8
    have hi_v_8 := k_hi v_8
    have tv_8 : v_8.toInt = (c1 a0.toNatClampNeg).toInt := by rw [ev_8]
    refine lv_goto (tgt := 17) hx hb dX2_worstAt_13 (by decide +kernel) ?_
    exact hRet () [0, 1] trivial hP hD (by decide +kernel) rfl hS rfl dX2_worstAt_17
  · have h_6 : a0.toInt < 0 ∨ 39 < a0.toInt := h_6
    obtain rfl : r_1 = 0 := hr_1.trans (by decide +kernel)
    refine b_if_eq hx hb zl_0 (tgt := 16) dX2_worstAt_4 (by decide +kernel) (fun c_9 => ?_) (fun c_9 => by exfalso; omega)
    refine lv_iconst (v := 0) hx hb dX2_worstAt_16 (by decide +kernel) ?_
    exact hRet () [0, 1] trivial hP hD (by decide +kernel) rfl hS rfl dX2_worstAt_17
theorem bn_cX2_best_0 : BN cX2_best 0 0x15a1e73c01500202a147e050b01c02a3228056e1e1591402b702858561b00a8c3a050b0146e61028707e1c := by
  unfold BN; decide +kernel
theorem dX2_best_0 : decode cX2_best 0 = .ok (.iload_n 1, 1) := dR0 (k := 0) (i := 0) bn_cX2_best_0 dop_27 (by decide +kernel)
theorem dX2_best_1 : decode cX2_best 1 = .ok (.istore_n 3, 1) := dR0 (k := 0) (i := 1) bn_cX2_best_0 dop_62 (by decide +kernel)
theorem dX2_best_2 : decode cX2_best 2 = .ok (.iload_n 1, 1) := dR0 (k := 0) (i := 2) bn_cX2_best_0 dop_27 (by decide +kernel)
theorem dX2_best_3 : decode cX2_best 3 = .ok (.iconst 1, 1) := dR0 (k := 0) (i := 3) bn_cX2_best_0 dop_4 (by decide +kernel)
theorem dX2_best_4 : decode cX2_best 4 = .ok (.iadd, 1) := dR0 (k := 0) (i := 4) bn_cX2_best_0 dop_96 (by decide +kernel)
theorem dX2_best_5 : decode cX2_best 5 = .ok (.istore 4, 2) := dR1 (f := Instr.istore) (k := 0) (i := 5) bn_cX2_best_0 dop_54 4 (by decide +kernel)
theorem dX2_best_7 : decode cX2_best 7 = .ok (.iload 4, 2) := dR1 (f := Instr.iload) (k := 0) (i := 7) bn_cX2_best_0 dop_21 4 (by decide +kernel)
theorem dX2_best_9 : decode cX2_best 9 = .ok (.iload_n 2, 1) := dR0 (k := 0) (i := 9) bn_cX2_best_0 dop_28 (by decide +kernel)
theorem dX2_best_10 : decode cX2_best 10 = .ok (.if_icmp .ge 26, 3) := dR2s (f := Instr.if_icmp .ge) (k := 0) (i := 10) bn_cX2_best_0 dop_162 26 26 (by decide +kernel)
theorem dX2_best_13 : decode cX2_best 13 = .ok (.aload_n 0, 1) := dR0 (k := 0) (i := 13) bn_cX2_best_0 dop_42 (by decide +kernel)
theorem dX2_best_14 : decode cX2_best 14 = .ok (.iload 4, 2) := dR1 (f := Instr.iload) (k := 0) (i := 14) bn_cX2_best_0 dop_21 4 (by decide +kernel)
theorem dX2_best_16 : decode cX2_best 16 = .ok (.invokevirtual 68, 3) := dR2 (f := Instr.invokevirtual) (k := 0) (i := 16) bn_cX2_best_0 dop_182 68 (by decide +kernel)
theorem dX2_best_19 : decode cX2_best 19 = .ok (.aload_n 0, 1) := dR0 (k := 0) (i := 19) bn_cX2_best_0 dop_42 (by decide +kernel)
theorem dX2_best_20 : decode cX2_best 20 = .ok (.iload_n 3, 1) := dR0 (k := 0) (i := 20) bn_cX2_best_0 dop_29 (by decide +kernel)
theorem dX2_best_21 : decode cX2_best 21 = .ok (.invokevirtual 68, 3) := dR2 (f := Instr.invokevirtual) (k := 0) (i := 21) bn_cX2_best_0 dop_182 68 (by decide +kernel)
theorem dX2_best_24 : decode cX2_best 24 = .ok (.if_icmp .ge 6, 3) := dR2s (f := Instr.if_icmp .ge) (k := 0) (i := 24) bn_cX2_best_0 dop_162 6 6 (by decide +kernel)
theorem dX2_best_27 : decode cX2_best 27 = .ok (.iload 4, 2) := dR1 (f := Instr.iload) (k := 0) (i := 27) bn_cX2_best_0 dop_21 4 (by decide +kernel)
theorem dX2_best_29 : decode cX2_best 29 = .ok (.istore_n 3, 1) := dR0 (k := 0) (i := 29) bn_cX2_best_0 dop_62 (by decide +kernel)
theorem dX2_best_30 : decode cX2_best 30 = .ok (.iinc 4 1, 3) := dRii (f := Instr.iinc) (k := 0) (i := 30) bn_cX2_best_0 dop_132 4 1 1 (by decide +kernel)
theorem dX2_best_33 : decode cX2_best 33 = .ok (.goto (-26), 3) := dR2s (f := Instr.goto) (k := 0) (i := 33) bn_cX2_best_0 dop_167 65510 (-26) (by decide +kernel)
theorem dX2_best_36 : decode cX2_best 36 = .ok (.iload_n 3, 1) := dR0 (k := 0) (i := 36) bn_cX2_best_0 dop_29 (by decide +kernel)
theorem dX2_best_37 : decode cX2_best 37 = .ok (.ireturn, 1) := dR0 (k := 0) (i := 37) bn_cX2_best_0 dop_172 (by decide +kernel)
set_option maxHeartbeats 4000000 in
set_option maxRecDepth 100000 in
theorem c_X2_bestG (l : Launch) (D : va_G) (cI : ClassId) (aK aV : Nat → Nat) (k k0 k1 : Nat) (sz : Nat) (c1 : Nat → Int32) (a0 : Int32) (a1 : Int32) : Met l yX2_best (gW yX2_best cX2_best 5 (some .int)) ({ frames := 2, cells := 0, slots := 0, locals := 41 } : Room) (kPreX D cI aK aV [.ref k, .int a0, .int a1] [(k, .inr (2, [.ref k0, .ref k1])), (k1, .inl (cI, 40, .inl c1))] sz) (va_Qi (fun (r : Int32) (u : Unit) => True) (fun u t => kWd D cI (va_A [(k, .inr (2, [.ref k0, .ref k1])), (k1, .inl (cI, 40, .inl c1))] sz) [(k, .inr (2, [.ref k0, .ref k1])), (k1, .inl (cI, 40, .inl c1))] t) (va_A [(k, .inr (2, [.ref k0, .ref k1])), (k1, .inl (cI, 40, .inl c1))] sz)) 0 0 (va_A [(k, .inr (2, [.ref k0, .ref k1])), (k1, .inl (cI, 40, .inl c1))] sz) := by
  refine kMetIX (own := RX2) (by decide +kernel) rfl (Nat.le_of_ble_eq_true rfl) ?_
  intro p e s m args below meth c hx hb hT hown hname hml A Q hK hP hD hS hA hN hXS hRet ls hl
  have hl : lv_has ls 5 [(0, .ref k), (1, .int a0), (2, .int a1)] := hl
  have lo_a0 := k_lo a0
  have hi_a0 := k_hi a0
  have lo_a1 := k_lo a1
  have hi_a1 := k_hi a1
  refine lv_iload_n hx hb dX2_best_0 rfl (lv_at hl 1 rfl) ?_
  refine lv_istore_n (lv' := [(3, .int a0), (0, .ref k), (1, .int a0), (2, .int a1)]) hx hb dX2_best_1 rfl hl (by decide +kernel) rfl ?_
  clear hl
  intro ls hl
  refine lv_iload_n hx hb dX2_best_2 rfl (lv_at hl 2 rfl) ?_
  refine lv_iconst (v := 1) hx hb dX2_best_3 (by decide +kernel) ?_
  refine lv_iadd hx hb dX2_best_4 ?_
  refine lv_topi (fun v_1 ev_1 => ?_)
  have lo_v_1 := k_lo v_1
  have hi_v_1 := k_hi v_1
  refine lv_istore (lv' := [(4, .int v_1), (3, .int a0), (0, .ref k), (1, .int a0), (2, .int a1)]) hx hb dX2_best_5 hl (by decide +kernel) rfl ?_
  clear hl
  intro ls hl
  have hloop_7 : ∀ (fu_ : Nat) (l7_3 : Int32) (l7_4 : Int32), v_1.toInt ≤ l7_4.toInt → (a1.toInt - l7_4.toInt).toNat < fu_ → ∀ (ls : Array Slot) (H : Heap) (locs : List Loc), lv_has ls 5 [(4, .int l7_4), (3, .int l7_3), (0, .ref k), (1, .int a0), (2, .int a1)] → va_P D vwCl [(k, .inr (2, [.ref k0, .ref k1])), (k1, .inl (cI, 40, .inl c1))] H → va_D A [(k, .inr (2, [.ref k0, .ref k1])), (k1, .inl (cI, 40, .inl c1))] → va_S A s.heap H locs → W p l e ({ frames := 2, cells := 0, slots := 0, locals := 41 } : Room) s m args below meth c H locs 0 0 Q (F0 m 7 ls []) := by
    intro fu_; induction fu_ with
    | zero => intro l7_3 l7_4 i7_0 hm; exact absurd hm (by omega)
    | succ fu_ ih7 =>
        intro l7_3 l7_4 i7_0 hm ls H locs hl hP hD hS
        have lo_l7_3 := k_lo l7_3
        have hi_l7_3 := k_hi l7_3
        have lo_l7_4 := k_lo l7_4
        have hi_l7_4 := k_hi l7_4
        refine lv_iload hx hb dX2_best_7 (lv_at hl 0 rfl) ?_
        refine lv_iload_n hx hb dX2_best_9 rfl (lv_at hl 4 rfl) ?_
        refine b_icmp_ge hx hb rfl rfl (tgt := 36) dX2_best_10 (by decide +kernel) (fun c_2 => ?_) (fun c_2 => ?_)
        · refine lv_iload_n hx hb dX2_best_36 rfl (lv_at hl 1 rfl) ?_
          exact hRet () [0, 1] trivial hP hD (by decide +kernel) rfl hS rfl dX2_best_37
        · refine lv_aload_n hx hb dX2_best_13 rfl (lv_at hl 2 rfl) ?_
          refine lv_iload hx hb dX2_best_14 (lv_at hl 0 rfl) ?_
          refine kJi (wr := []) (va_runV (As := [.int l7_4]) (rest := []) ⟨hx, hb, hml, hown, hT⟩ (c_X2_worstAtG l D cI aK aV k k0 k1 H.size c1 l7_4) (cwV 1 hT (gV_in mw_954 mw_951 mw_952 mw_953 mw_9) rfl rfl rfl (by decide +kernel) ⟨Nat.le_of_ble_eq_true rfl, Nat.le_of_ble_eq_true rfl⟩) (kRecvX (q0 := 0) (ci := 2) hK hP hD hN hXS hS hA rfl rfl [0, 1] rfl (by decide +kernel)) rfl rfl hl.1 rfl (lv_room (Nat.le_of_ble_eq_true rfl)) dX2_best_16 ⟨Nat.le_of_ble_eq_true rfl, Nat.le_of_ble_eq_true rfl⟩) hP hD hS hA [0, 1] [] rfl rfl (by decide +kernel) (by decide +kernel) ?_
          clear hP hD hS
          intro r_3 u_5 H locs w_4 hP hD hS
          replace hP : va_P D vwCl [(k, .inr (2, [.ref k0, .ref k1])), (k1, .inl (cI, 40, .inl c1))] H := hP
          replace hD : va_D A [(k, .inr (2, [.ref k0, .ref k1])), (k1, .inl (cI, 40, .inl c1))] := hD
          have lo_r_3 := k_lo r_3
          have hi_r_3 := k_hi r_3
          refine lv_aload_n hx hb dX2_best_19 rfl (lv_at hl 2 rfl) ?_
          refine lv_iload_n hx hb dX2_best_20 rfl (lv_at hl 1 rfl) ?_
          refine kJi (wr := []) (va_runV (As := [.int l7_3]) (rest := [.int r_3]) ⟨hx, hb, hml, hown, hT⟩ (c_X2_worstAtG l D cI aK aV k k0 k1 H.size c1 l7_3) (cwV 1 hT (gV_in mw_954 mw_951 mw_952 mw_953 mw_9) rfl rfl rfl (by decide +kernel) ⟨Nat.le_of_ble_eq_true rfl, Nat.le_of_ble_eq_true rfl⟩) (kRecvX (q0 := 0) (ci := 2) hK hP hD hN hXS hS hA rfl rfl [0, 1] rfl (by decide +kernel)) rfl rfl hl.1 rfl (lv_room (Nat.le_of_ble_eq_true rfl)) dX2_best_21 ⟨Nat.le_of_ble_eq_true rfl, Nat.le_of_ble_eq_true rfl⟩) hP hD hS hA [0, 1] [] rfl rfl (by decide +kernel) (by decide +kernel) ?_
          clear hP hD hS
          intro r_6 u_8 H locs w_7 hP hD hS
          replace hP : va_P D vwCl [(k, .inr (2, [.ref k0, .ref k1])), (k1, .inl (cI, 40, .inl c1))] H := hP
          replace hD : va_D A [(k, .inr (2, [.ref k0, .ref k1])), (k1, .inl (cI, 40, .inl c1))] := hD
          have lo_r_6 := k_lo r_6
          have hi_r_6 := k_hi r_6
          refine b_icmp_ge hx hb rfl rfl (tgt := 30) dX2_best_24 (by decide +kernel) (fun c_9 => ?_) (fun c_9 => ?_)
          · obtain ⟨v_10, ev_10⟩ : ∃ y : Int32, y = l7_4 + 1 := ⟨_, rfl⟩
            have tv_10 : v_10.toInt = l7_4.toInt + 1 := by rw [ev_10]; exact k_addv rfl zl_1 (by omega) (by omega)
            refine lv_iinc (v := v_10) (lv' := [(4, .int v_10), (3, .int l7_3), (0, .ref k), (1, .int a0), (2, .int a1)]) hx hb dX2_best_30 hl (k := 0) rfl (by rw [ev_10]; rfl) (by decide +kernel) rfl ?_
            clear hl
            intro ls hl
            refine lv_goto (tgt := 7) hx hb dX2_best_33 (by decide +kernel) ?_
            exact ih7 l7_3 v_10 (by first | omega | decide | assumption | rfl) (by omega) ls _ _ (lv_sub hl [0, 1, 2, 3, 4] rfl) (hP.sub [0, 1] rfl) (hD.sub [0, 1] (by decide +kernel) rfl) hS
          · refine lv_iload hx hb dX2_best_27 (lv_at hl 0 rfl) ?_
            refine lv_istore_n (lv' := [(3, .int l7_4), (4, .int l7_4), (0, .ref k), (1, .int a0), (2, .int a1)]) hx hb dX2_best_29 rfl hl (by decide +kernel) rfl ?_
            clear hl
            intro ls hl
            obtain ⟨v_11, ev_11⟩ : ∃ y : Int32, y = l7_4 + 1 := ⟨_, rfl⟩
            have tv_11 : v_11.toInt = l7_4.toInt + 1 := by rw [ev_11]; exact k_addv rfl zl_1 (by omega) (by omega)
            refine lv_iinc (v := v_11) (lv' := [(4, .int v_11), (3, .int l7_4), (0, .ref k), (1, .int a0), (2, .int a1)]) hx hb dX2_best_30 hl (k := 1) rfl (by rw [ev_11]; rfl) (by decide +kernel) rfl ?_
            clear hl
            intro ls hl
            refine lv_goto (tgt := 7) hx hb dX2_best_33 (by decide +kernel) ?_
            exact ih7 l7_4 v_11 (by first | omega | decide | assumption | rfl) (by omega) ls _ _ (lv_sub hl [0, 1, 2, 3, 4] rfl) (hP.sub [0, 1] rfl) (hD.sub [0, 1] (by decide +kernel) rfl) hS
  exact hloop_7 _ a0 v_1 (by first | omega | decide | assumption | rfl) (Nat.lt_succ_self _) ls _ _ (lv_sub hl [0, 1, 2, 3, 4] rfl) hP hD hS
theorem bn_cX2_weighRow_0 : BN cX2_weighRow 0 0x328141216058dc080a1b88c02b70301c2c1d00ad458ba802a0040c4280816852802c2c0c0b02802b51582c6e611e805720a0b0e802b9068586e015b8302c2c058581a371a0056e61188057261058585a015a8b00a160f0b47e014d0a402b9060588e01518242c0c0b0306e080b02c6e04050dc46015b8180c160e8056a2c048dc46015b8100e160e8056a2c040dc46015b8100c160e8056a2c := by
  unfold BN; decide +kernel
theorem dX2_weighRow_0 : decode cX2_weighRow 0 = .ok (.aload_n 1, 1) := dR0 (k := 0) (i := 0) bn_cX2_weighRow_0 dop_43 (by decide +kernel)
theorem dX2_weighRow_1 : decode cX2_weighRow 1 = .ok (.getfield 28, 3) := dR2 (f := Instr.getfield) (k := 0) (i := 1) bn_cX2_weighRow_0 dop_180 28 (by decide +kernel)
theorem dX2_weighRow_4 : decode cX2_weighRow 4 = .ok (.iload 5, 2) := dR1 (f := Instr.iload) (k := 0) (i := 4) bn_cX2_weighRow_0 dop_21 5 (by decide +kernel)
theorem dX2_weighRow_6 : decode cX2_weighRow 6 = .ok (.iconst 0, 1) := dR0 (k := 0) (i := 6) bn_cX2_weighRow_0 dop_3 (by decide +kernel)
theorem dX2_weighRow_7 : decode cX2_weighRow 7 = .ok (.invokevirtual 34, 3) := dR2 (f := Instr.invokevirtual) (k := 0) (i := 7) bn_cX2_weighRow_0 dop_182 34 (by decide +kernel)
theorem dX2_weighRow_10 : decode cX2_weighRow 10 = .ok (.istore 7, 2) := dR1 (f := Instr.istore) (k := 0) (i := 10) bn_cX2_weighRow_0 dop_54 7 (by decide +kernel)
theorem dX2_weighRow_12 : decode cX2_weighRow 12 = .ok (.aload_n 1, 1) := dR0 (k := 0) (i := 12) bn_cX2_weighRow_0 dop_43 (by decide +kernel)
theorem dX2_weighRow_13 : decode cX2_weighRow 13 = .ok (.getfield 28, 3) := dR2 (f := Instr.getfield) (k := 0) (i := 13) bn_cX2_weighRow_0 dop_180 28 (by decide +kernel)
theorem dX2_weighRow_16 : decode cX2_weighRow 16 = .ok (.iload 6, 2) := dR1 (f := Instr.iload) (k := 0) (i := 16) bn_cX2_weighRow_0 dop_21 6 (by decide +kernel)
theorem dX2_weighRow_18 : decode cX2_weighRow 18 = .ok (.iconst 0, 1) := dR0 (k := 0) (i := 18) bn_cX2_weighRow_0 dop_3 (by decide +kernel)
theorem dX2_weighRow_19 : decode cX2_weighRow 19 = .ok (.invokevirtual 34, 3) := dR2 (f := Instr.invokevirtual) (k := 0) (i := 19) bn_cX2_weighRow_0 dop_182 34 (by decide +kernel)
theorem dX2_weighRow_22 : decode cX2_weighRow 22 = .ok (.istore 8, 2) := dR1 (f := Instr.istore) (k := 0) (i := 22) bn_cX2_weighRow_0 dop_54 8 (by decide +kernel)
theorem dX2_weighRow_24 : decode cX2_weighRow 24 = .ok (.aload_n 1, 1) := dR0 (k := 0) (i := 24) bn_cX2_weighRow_0 dop_43 (by decide +kernel)
theorem dX2_weighRow_25 : decode cX2_weighRow 25 = .ok (.getfield 28, 3) := dR2 (f := Instr.getfield) (k := 0) (i := 25) bn_cX2_weighRow_0 dop_180 28 (by decide +kernel)
theorem dX2_weighRow_28 : decode cX2_weighRow 28 = .ok (.iload 5, 2) := dR1 (f := Instr.iload) (k := 0) (i := 28) bn_cX2_weighRow_0 dop_21 5 (by decide +kernel)
theorem dX2_weighRow_30 : decode cX2_weighRow 30 = .ok (.iconst 2, 1) := dR0 (k := 0) (i := 30) bn_cX2_weighRow_0 dop_5 (by decide +kernel)
theorem dX2_weighRow_31 : decode cX2_weighRow 31 = .ok (.invokevirtual 34, 3) := dR2 (f := Instr.invokevirtual) (k := 0) (i := 31) bn_cX2_weighRow_0 dop_182 34 (by decide +kernel)
theorem dX2_weighRow_34 : decode cX2_weighRow 34 = .ok (.istore 9, 2) := dR1 (f := Instr.istore) (k := 0) (i := 34) bn_cX2_weighRow_0 dop_54 9 (by decide +kernel)
theorem dX2_weighRow_36 : decode cX2_weighRow 36 = .ok (.iconst 0, 1) := dR0 (k := 0) (i := 36) bn_cX2_weighRow_0 dop_3 (by decide +kernel)
theorem dX2_weighRow_37 : decode cX2_weighRow 37 = .ok (.istore 10, 2) := dR1 (f := Instr.istore) (k := 0) (i := 37) bn_cX2_weighRow_0 dop_54 10 (by decide +kernel)
theorem dX2_weighRow_39 : decode cX2_weighRow 39 = .ok (.iload 7, 2) := dR1 (f := Instr.iload) (k := 0) (i := 39) bn_cX2_weighRow_0 dop_21 7 (by decide +kernel)
theorem dX2_weighRow_41 : decode cX2_weighRow 41 = .ok (.istore 11, 2) := dR1 (f := Instr.istore) (k := 0) (i := 41) bn_cX2_weighRow_0 dop_54 11 (by decide +kernel)
theorem dX2_weighRow_43 : decode cX2_weighRow 43 = .ok (.iload 11, 2) := dR1 (f := Instr.iload) (k := 0) (i := 43) bn_cX2_weighRow_0 dop_21 11 (by decide +kernel)
theorem dX2_weighRow_45 : decode cX2_weighRow 45 = .ok (.iload 8, 2) := dR1 (f := Instr.iload) (k := 0) (i := 45) bn_cX2_weighRow_0 dop_21 8 (by decide +kernel)
theorem dX2_weighRow_47 : decode cX2_weighRow 47 = .ok (.if_icmp .ge 70, 3) := dR2s (f := Instr.if_icmp .ge) (k := 0) (i := 47) bn_cX2_weighRow_0 dop_162 70 70 (by decide +kernel)
theorem dX2_weighRow_50 : decode cX2_weighRow 50 = .ok (.iload 11, 2) := dR1 (f := Instr.iload) (k := 0) (i := 50) bn_cX2_weighRow_0 dop_21 11 (by decide +kernel)
theorem dX2_weighRow_52 : decode cX2_weighRow 52 = .ok (.invokestatic 40, 3) := dR2 (f := Instr.invokestatic) (k := 0) (i := 52) bn_cX2_weighRow_0 dop_184 40 (by decide +kernel)
theorem dX2_weighRow_55 : decode cX2_weighRow 55 = .ok (.ifCond .eq 62, 3) := dR2s (f := Instr.ifCond .eq) (k := 0) (i := 55) bn_cX2_weighRow_0 dop_153 62 62 (by decide +kernel)
theorem dX2_weighRow_58 : decode cX2_weighRow 58 = .ok (.aload_n 2, 1) := dR0 (k := 0) (i := 58) bn_cX2_weighRow_0 dop_44 (by decide +kernel)
theorem dX2_weighRow_59 : decode cX2_weighRow 59 = .ok (.iload_n 3, 1) := dR0 (k := 0) (i := 59) bn_cX2_weighRow_0 dop_29 (by decide +kernel)
theorem dX2_weighRow_60 : decode cX2_weighRow 60 = .ok (.iload 4, 2) := dR1 (f := Instr.iload) (k := 0) (i := 60) bn_cX2_weighRow_0 dop_21 4 (by decide +kernel)
theorem dX2_weighRow_62 : decode cX2_weighRow 62 = .ok (.aload_n 1, 1) := dR0 (k := 0) (i := 62) bn_cX2_weighRow_0 dop_43 (by decide +kernel)
theorem dX2_weighRow_63 : decode cX2_weighRow 63 = .ok (.getfield 44, 3) := dR2 (f := Instr.getfield) (k := 0) (i := 63) bn_cX2_weighRow_0 dop_180 44 (by decide +kernel)
theorem dX2_weighRow_66 : decode cX2_weighRow 66 = .ok (.iload 10, 2) := dR1 (f := Instr.iload) (k := 0) (i := 66) bn_cX2_weighRow_0 dop_21 10 (by decide +kernel)
theorem dX2_weighRow_68 : decode cX2_weighRow 68 = .ok (.iadd, 1) := dR0 (k := 0) (i := 68) bn_cX2_weighRow_0 dop_96 (by decide +kernel)
theorem dX2_weighRow_69 : decode cX2_weighRow 69 = .ok (.invokestatic 48, 3) := dR2 (f := Instr.invokestatic) (k := 0) (i := 69) bn_cX2_weighRow_0 dop_184 48 (by decide +kernel)
theorem dX2_weighRow_72 : decode cX2_weighRow 72 = .ok (.iadd, 1) := dR0 (k := 0) (i := 72) bn_cX2_weighRow_0 dop_96 (by decide +kernel)
theorem dX2_weighRow_73 : decode cX2_weighRow 73 = .ok (.invokevirtual 51, 3) := dR2 (f := Instr.invokevirtual) (k := 0) (i := 73) bn_cX2_weighRow_0 dop_182 51 (by decide +kernel)
theorem dX2_weighRow_76 : decode cX2_weighRow 76 = .ok (.istore 12, 2) := dR1 (f := Instr.istore) (k := 0) (i := 76) bn_cX2_weighRow_0 dop_54 12 (by decide +kernel)
theorem dX2_weighRow_78 : decode cX2_weighRow 78 = .ok (.iload 10, 2) := dR1 (f := Instr.iload) (k := 0) (i := 78) bn_cX2_weighRow_0 dop_21 10 (by decide +kernel)
theorem dX2_weighRow_80 : decode cX2_weighRow 80 = .ok (.aload_n 1, 1) := dR0 (k := 0) (i := 80) bn_cX2_weighRow_0 dop_43 (by decide +kernel)
theorem dX2_weighRow_81 : decode cX2_weighRow 81 = .ok (.iload 11, 2) := dR1 (f := Instr.iload) (k := 0) (i := 81) bn_cX2_weighRow_0 dop_21 11 (by decide +kernel)
theorem dX2_weighRow_83 : decode cX2_weighRow 83 = .ok (.invokevirtual 54, 3) := dR2 (f := Instr.invokevirtual) (k := 0) (i := 83) bn_cX2_weighRow_0 dop_182 54 (by decide +kernel)
theorem dX2_weighRow_86 : decode cX2_weighRow 86 = .ok (.iload 12, 2) := dR1 (f := Instr.iload) (k := 0) (i := 86) bn_cX2_weighRow_0 dop_21 12 (by decide +kernel)
theorem dX2_weighRow_88 : decode cX2_weighRow 88 = .ok (.invokestatic 57, 3) := dR2 (f := Instr.invokestatic) (k := 0) (i := 88) bn_cX2_weighRow_0 dop_184 57 (by decide +kernel)
theorem dX2_weighRow_91 : decode cX2_weighRow 91 = .ok (.iload 9, 2) := dR1 (f := Instr.iload) (k := 0) (i := 91) bn_cX2_weighRow_0 dop_21 9 (by decide +kernel)
theorem dX2_weighRow_93 : decode cX2_weighRow 93 = .ok (.invokestatic 60, 3) := dR2 (f := Instr.invokestatic) (k := 0) (i := 93) bn_cX2_weighRow_0 dop_184 60 (by decide +kernel)
theorem dX2_weighRow_96 : decode cX2_weighRow 96 = .ok (.iadd, 1) := dR0 (k := 0) (i := 96) bn_cX2_weighRow_0 dop_96 (by decide +kernel)
theorem dX2_weighRow_97 : decode cX2_weighRow 97 = .ok (.istore 10, 2) := dR1 (f := Instr.istore) (k := 0) (i := 97) bn_cX2_weighRow_0 dop_54 10 (by decide +kernel)
theorem dX2_weighRow_99 : decode cX2_weighRow 99 = .ok (.aload_n 0, 1) := dR0 (k := 0) (i := 99) bn_cX2_weighRow_0 dop_42 (by decide +kernel)
theorem dX2_weighRow_100 : decode cX2_weighRow 100 = .ok (.getfield 9, 3) := dR2 (f := Instr.getfield) (k := 0) (i := 100) bn_cX2_weighRow_0 dop_180 9 (by decide +kernel)
theorem dX2_weighRow_103 : decode cX2_weighRow 103 = .ok (.iload 11, 2) := dR1 (f := Instr.iload) (k := 0) (i := 103) bn_cX2_weighRow_0 dop_21 11 (by decide +kernel)
theorem dX2_weighRow_105 : decode cX2_weighRow 105 = .ok (.iload 10, 2) := dR1 (f := Instr.iload) (k := 0) (i := 105) bn_cX2_weighRow_0 dop_21 10 (by decide +kernel)
theorem dX2_weighRow_107 : decode cX2_weighRow 107 = .ok (.iastore, 1) := dR0 (k := 0) (i := 107) bn_cX2_weighRow_0 dop_79 (by decide +kernel)
theorem dX2_weighRow_108 : decode cX2_weighRow 108 = .ok (.iinc 10 1, 3) := dRii (f := Instr.iinc) (k := 0) (i := 108) bn_cX2_weighRow_0 dop_132 10 1 1 (by decide +kernel)
theorem dX2_weighRow_111 : decode cX2_weighRow 111 = .ok (.iinc 11 1, 3) := dRii (f := Instr.iinc) (k := 0) (i := 111) bn_cX2_weighRow_0 dop_132 11 1 1 (by decide +kernel)
theorem dX2_weighRow_114 : decode cX2_weighRow 114 = .ok (.goto (-71), 3) := dR2s (f := Instr.goto) (k := 0) (i := 114) bn_cX2_weighRow_0 dop_167 65465 (-71) (by decide +kernel)
theorem dX2_weighRow_117 : decode cX2_weighRow 117 = .ok (.aload_n 1, 1) := dR0 (k := 0) (i := 117) bn_cX2_weighRow_0 dop_43 (by decide +kernel)
theorem dX2_weighRow_118 : decode cX2_weighRow 118 = .ok (.getfield 28, 3) := dR2 (f := Instr.getfield) (k := 0) (i := 118) bn_cX2_weighRow_0 dop_180 28 (by decide +kernel)
theorem dX2_weighRow_121 : decode cX2_weighRow 121 = .ok (.iload 6, 2) := dR1 (f := Instr.iload) (k := 0) (i := 121) bn_cX2_weighRow_0 dop_21 6 (by decide +kernel)
theorem dX2_weighRow_123 : decode cX2_weighRow 123 = .ok (.iconst 2, 1) := dR0 (k := 0) (i := 123) bn_cX2_weighRow_0 dop_5 (by decide +kernel)
theorem dX2_weighRow_124 : decode cX2_weighRow 124 = .ok (.invokevirtual 34, 3) := dR2 (f := Instr.invokevirtual) (k := 0) (i := 124) bn_cX2_weighRow_0 dop_182 34 (by decide +kernel)
theorem dX2_weighRow_127 : decode cX2_weighRow 127 = .ok (.istore 9, 2) := dR1 (f := Instr.istore) (k := 0) (i := 127) bn_cX2_weighRow_0 dop_54 9 (by decide +kernel)
theorem bn_cX2_weighRow_128 : BN cX2_weighRow 128 0x2c949005440018850102d0a5020005724000ae41616178302c0a00ad4562f0605820015a8ac1816080056a2b058dcc23d00ae414161d005720d0b0dc02b73081418161602c2c0d1b8d002b7308c402b93082c2c2d00ad458050b0785a5500a6852015c8302c5d00a881016060581837328141216058dc080a := by
  unfold BN; decide +kernel
theorem dX2_weighRow_129 : decode cX2_weighRow 129 = .ok (.iconst 0, 1) := dR0 (k := 128) (i := 1) bn_cX2_weighRow_128 dop_3 (by decide +kernel)
theorem dX2_weighRow_130 : decode cX2_weighRow 130 = .ok (.istore 10, 2) := dR1 (f := Instr.istore) (k := 128) (i := 2) bn_cX2_weighRow_128 dop_54 10 (by decide +kernel)
theorem dX2_weighRow_132 : decode cX2_weighRow 132 = .ok (.iload 8, 2) := dR1 (f := Instr.iload) (k := 128) (i := 4) bn_cX2_weighRow_128 dop_21 8 (by decide +kernel)
theorem dX2_weighRow_134 : decode cX2_weighRow 134 = .ok (.iconst 1, 1) := dR0 (k := 128) (i := 6) bn_cX2_weighRow_128 dop_4 (by decide +kernel)
theorem dX2_weighRow_135 : decode cX2_weighRow 135 = .ok (.isub, 1) := dR0 (k := 128) (i := 7) bn_cX2_weighRow_128 dop_100 (by decide +kernel)
theorem dX2_weighRow_136 : decode cX2_weighRow 136 = .ok (.istore 11, 2) := dR1 (f := Instr.istore) (k := 128) (i := 8) bn_cX2_weighRow_128 dop_54 11 (by decide +kernel)
theorem dX2_weighRow_138 : decode cX2_weighRow 138 = .ok (.iload 11, 2) := dR1 (f := Instr.iload) (k := 128) (i := 10) bn_cX2_weighRow_128 dop_21 11 (by decide +kernel)
theorem dX2_weighRow_140 : decode cX2_weighRow 140 = .ok (.iload 7, 2) := dR1 (f := Instr.iload) (k := 128) (i := 12) bn_cX2_weighRow_128 dop_21 7 (by decide +kernel)
theorem dX2_weighRow_142 : decode cX2_weighRow 142 = .ok (.if_icmp .lt 92, 3) := dR2s (f := Instr.if_icmp .lt) (k := 128) (i := 14) bn_cX2_weighRow_128 dop_161 92 92 (by decide +kernel)
theorem dX2_weighRow_145 : decode cX2_weighRow 145 = .ok (.iload 11, 2) := dR1 (f := Instr.iload) (k := 128) (i := 17) bn_cX2_weighRow_128 dop_21 11 (by decide +kernel)
theorem dX2_weighRow_147 : decode cX2_weighRow 147 = .ok (.invokestatic 40, 3) := dR2 (f := Instr.invokestatic) (k := 128) (i := 19) bn_cX2_weighRow_128 dop_184 40 (by decide +kernel)
theorem dX2_weighRow_150 : decode cX2_weighRow 150 = .ok (.ifCond .eq 84, 3) := dR2s (f := Instr.ifCond .eq) (k := 128) (i := 22) bn_cX2_weighRow_128 dop_153 84 84 (by decide +kernel)
theorem dX2_weighRow_153 : decode cX2_weighRow 153 = .ok (.aload_n 2, 1) := dR0 (k := 128) (i := 25) bn_cX2_weighRow_128 dop_44 (by decide +kernel)
theorem dX2_weighRow_154 : decode cX2_weighRow 154 = .ok (.iload_n 3, 1) := dR0 (k := 128) (i := 26) bn_cX2_weighRow_128 dop_29 (by decide +kernel)
theorem dX2_weighRow_155 : decode cX2_weighRow 155 = .ok (.iload 4, 2) := dR1 (f := Instr.iload) (k := 128) (i := 27) bn_cX2_weighRow_128 dop_21 4 (by decide +kernel)
theorem dX2_weighRow_157 : decode cX2_weighRow 157 = .ok (.aload_n 1, 1) := dR0 (k := 128) (i := 29) bn_cX2_weighRow_128 dop_43 (by decide +kernel)
theorem dX2_weighRow_158 : decode cX2_weighRow 158 = .ok (.getfield 44, 3) := dR2 (f := Instr.getfield) (k := 128) (i := 30) bn_cX2_weighRow_128 dop_180 44 (by decide +kernel)
theorem dX2_weighRow_161 : decode cX2_weighRow 161 = .ok (.iload 10, 2) := dR1 (f := Instr.iload) (k := 128) (i := 33) bn_cX2_weighRow_128 dop_21 10 (by decide +kernel)
theorem dX2_weighRow_163 : decode cX2_weighRow 163 = .ok (.iadd, 1) := dR0 (k := 128) (i := 35) bn_cX2_weighRow_128 dop_96 (by decide +kernel)
theorem dX2_weighRow_164 : decode cX2_weighRow 164 = .ok (.invokestatic 48, 3) := dR2 (f := Instr.invokestatic) (k := 128) (i := 36) bn_cX2_weighRow_128 dop_184 48 (by decide +kernel)
theorem dX2_weighRow_167 : decode cX2_weighRow 167 = .ok (.iadd, 1) := dR0 (k := 128) (i := 39) bn_cX2_weighRow_128 dop_96 (by decide +kernel)
theorem dX2_weighRow_168 : decode cX2_weighRow 168 = .ok (.invokevirtual 51, 3) := dR2 (f := Instr.invokevirtual) (k := 128) (i := 40) bn_cX2_weighRow_128 dop_182 51 (by decide +kernel)
theorem dX2_weighRow_171 : decode cX2_weighRow 171 = .ok (.istore 12, 2) := dR1 (f := Instr.istore) (k := 128) (i := 43) bn_cX2_weighRow_128 dop_54 12 (by decide +kernel)
theorem dX2_weighRow_173 : decode cX2_weighRow 173 = .ok (.iload 10, 2) := dR1 (f := Instr.iload) (k := 128) (i := 45) bn_cX2_weighRow_128 dop_21 10 (by decide +kernel)
theorem dX2_weighRow_175 : decode cX2_weighRow 175 = .ok (.aload_n 1, 1) := dR0 (k := 128) (i := 47) bn_cX2_weighRow_128 dop_43 (by decide +kernel)
theorem dX2_weighRow_176 : decode cX2_weighRow 176 = .ok (.iload 11, 2) := dR1 (f := Instr.iload) (k := 128) (i := 48) bn_cX2_weighRow_128 dop_21 11 (by decide +kernel)
theorem dX2_weighRow_178 : decode cX2_weighRow 178 = .ok (.iconst 1, 1) := dR0 (k := 128) (i := 50) bn_cX2_weighRow_128 dop_4 (by decide +kernel)
theorem dX2_weighRow_179 : decode cX2_weighRow 179 = .ok (.iadd, 1) := dR0 (k := 128) (i := 51) bn_cX2_weighRow_128 dop_96 (by decide +kernel)
theorem dX2_weighRow_180 : decode cX2_weighRow 180 = .ok (.invokevirtual 54, 3) := dR2 (f := Instr.invokevirtual) (k := 128) (i := 52) bn_cX2_weighRow_128 dop_182 54 (by decide +kernel)
theorem dX2_weighRow_183 : decode cX2_weighRow 183 = .ok (.iload 12, 2) := dR1 (f := Instr.iload) (k := 128) (i := 55) bn_cX2_weighRow_128 dop_21 12 (by decide +kernel)
theorem dX2_weighRow_185 : decode cX2_weighRow 185 = .ok (.invokestatic 57, 3) := dR2 (f := Instr.invokestatic) (k := 128) (i := 57) bn_cX2_weighRow_128 dop_184 57 (by decide +kernel)
theorem dX2_weighRow_188 : decode cX2_weighRow 188 = .ok (.iload 9, 2) := dR1 (f := Instr.iload) (k := 128) (i := 60) bn_cX2_weighRow_128 dop_21 9 (by decide +kernel)
theorem dX2_weighRow_190 : decode cX2_weighRow 190 = .ok (.invokestatic 60, 3) := dR2 (f := Instr.invokestatic) (k := 128) (i := 62) bn_cX2_weighRow_128 dop_184 60 (by decide +kernel)
theorem dX2_weighRow_193 : decode cX2_weighRow 193 = .ok (.iadd, 1) := dR0 (k := 128) (i := 65) bn_cX2_weighRow_128 dop_96 (by decide +kernel)
theorem dX2_weighRow_194 : decode cX2_weighRow 194 = .ok (.istore 10, 2) := dR1 (f := Instr.istore) (k := 128) (i := 66) bn_cX2_weighRow_128 dop_54 10 (by decide +kernel)
theorem dX2_weighRow_196 : decode cX2_weighRow 196 = .ok (.aload_n 0, 1) := dR0 (k := 128) (i := 68) bn_cX2_weighRow_128 dop_42 (by decide +kernel)
theorem dX2_weighRow_197 : decode cX2_weighRow 197 = .ok (.getfield 15, 3) := dR2 (f := Instr.getfield) (k := 128) (i := 69) bn_cX2_weighRow_128 dop_180 15 (by decide +kernel)
theorem dX2_weighRow_200 : decode cX2_weighRow 200 = .ok (.iload 11, 2) := dR1 (f := Instr.iload) (k := 128) (i := 72) bn_cX2_weighRow_128 dop_21 11 (by decide +kernel)
theorem dX2_weighRow_202 : decode cX2_weighRow 202 = .ok (.aload_n 0, 1) := dR0 (k := 128) (i := 74) bn_cX2_weighRow_128 dop_42 (by decide +kernel)
theorem dX2_weighRow_203 : decode cX2_weighRow 203 = .ok (.getfield 15, 3) := dR2 (f := Instr.getfield) (k := 128) (i := 75) bn_cX2_weighRow_128 dop_180 15 (by decide +kernel)
theorem dX2_weighRow_206 : decode cX2_weighRow 206 = .ok (.iload 11, 2) := dR1 (f := Instr.iload) (k := 128) (i := 78) bn_cX2_weighRow_128 dop_21 11 (by decide +kernel)
theorem dX2_weighRow_208 : decode cX2_weighRow 208 = .ok (.iaload, 1) := dR0 (k := 128) (i := 80) bn_cX2_weighRow_128 dop_46 (by decide +kernel)
theorem dX2_weighRow_209 : decode cX2_weighRow 209 = .ok (.aload_n 0, 1) := dR0 (k := 128) (i := 81) bn_cX2_weighRow_128 dop_42 (by decide +kernel)
theorem dX2_weighRow_210 : decode cX2_weighRow 210 = .ok (.getfield 9, 3) := dR2 (f := Instr.getfield) (k := 128) (i := 82) bn_cX2_weighRow_128 dop_180 9 (by decide +kernel)
theorem dX2_weighRow_213 : decode cX2_weighRow 213 = .ok (.iload 11, 2) := dR1 (f := Instr.iload) (k := 128) (i := 85) bn_cX2_weighRow_128 dop_21 11 (by decide +kernel)
theorem dX2_weighRow_215 : decode cX2_weighRow 215 = .ok (.iaload, 1) := dR0 (k := 128) (i := 87) bn_cX2_weighRow_128 dop_46 (by decide +kernel)
theorem dX2_weighRow_216 : decode cX2_weighRow 216 = .ok (.iload 10, 2) := dR1 (f := Instr.iload) (k := 128) (i := 88) bn_cX2_weighRow_128 dop_21 10 (by decide +kernel)
theorem dX2_weighRow_218 : decode cX2_weighRow 218 = .ok (.invokestatic 63, 3) := dR2 (f := Instr.invokestatic) (k := 128) (i := 90) bn_cX2_weighRow_128 dop_184 63 (by decide +kernel)
theorem dX2_weighRow_221 : decode cX2_weighRow 221 = .ok (.invokestatic 63, 3) := dR2 (f := Instr.invokestatic) (k := 128) (i := 93) bn_cX2_weighRow_128 dop_184 63 (by decide +kernel)
theorem dX2_weighRow_224 : decode cX2_weighRow 224 = .ok (.iastore, 1) := dR0 (k := 128) (i := 96) bn_cX2_weighRow_128 dop_79 (by decide +kernel)
theorem dX2_weighRow_225 : decode cX2_weighRow 225 = .ok (.iinc 10 1, 3) := dRii (f := Instr.iinc) (k := 128) (i := 97) bn_cX2_weighRow_128 dop_132 10 1 1 (by decide +kernel)
theorem dX2_weighRow_228 : decode cX2_weighRow 228 = .ok (.iinc 11 (-1), 3) := dRii (f := Instr.iinc) (k := 128) (i := 100) bn_cX2_weighRow_128 dop_132 11 255 (-1) (by decide +kernel)
theorem dX2_weighRow_231 : decode cX2_weighRow 231 = .ok (.goto (-93), 3) := dR2s (f := Instr.goto) (k := 128) (i := 103) bn_cX2_weighRow_128 dop_167 65443 (-93) (by decide +kernel)
theorem dX2_weighRow_234 : decode cX2_weighRow 234 = .ok (.return_, 1) := dR0 (k := 128) (i := 106) bn_cX2_weighRow_128 dop_177 (by decide +kernel)
set_option maxHeartbeats 4000000 in
set_option maxRecDepth 100000 in
theorem c_X2_weighRowG (l : Launch) (D : va_G) (cI : ClassId) (aK aV : Nat → Nat) (k o y k0 k1 o0 o1 o2 o3 o4 o5 o50 y0 y1 y2 : Nat) (sz : Nat) (c0 : Nat → Int32) (c1 : Nat → Int32) (d6 : Int32) (d7 : Int32) (d8 : Int32) (d1 : Nat → Int32) (d51 : Int32) (d50 : Nat → Int32) (e1 : Nat → Int32) (e2 : Nat → Int32) (a2 : Int32) (a3 : Int32) (a4 : Int32) (a5 : Int32) (pre0 : ∀ k : Nat, k < 4 → 0 ≤ (e1 k).toInt ∧ (e1 k).toInt ≤ 36) : Met l yX2_weighRow (gW yX2_weighRow cX2_weighRow 13 none) ({ frames := 4, cells := 0, slots := 0, locals := 85 } : Room) (kPreX D cI aK aV [.ref k, .ref o, .ref y, .int a2, .int a3, .int a4, .int a5] [(k, .inr (2, [.ref k0, .ref k1])), (k0, .inl (cI, 40, .inl c0)), (k1, .inl (cI, 40, .inl c1)), (o, .inr (9, [.ref o0, .ref o1, .ref o2, .ref o3, .ref o4, .ref o5, .int d6, .int d7, .int d8])), (o1, .inl (cI, 40, .inl d1)), (o5, .inr (3, [.ref o50, .int d51])), (o50, .inl (cI, 36, .inl d50)), (y, .inr (6, [.ref y0, .ref y1, .ref y2])), (y1, .inl (cI, 4, .inl e1)), (y2, .inl (cI, 144, .inl e2))] sz) (va_Qv (fun (u : (Nat → Int32) × (Nat → Int32)) => True) (fun u t => kWd D cI (va_A [(k, .inr (2, [.ref k0, .ref k1])), (k0, .inl (cI, 40, .inl c0)), (k1, .inl (cI, 40, .inl c1)), (o, .inr (9, [.ref o0, .ref o1, .ref o2, .ref o3, .ref o4, .ref o5, .int d6, .int d7, .int d8])), (o1, .inl (cI, 40, .inl d1)), (o5, .inr (3, [.ref o50, .int d51])), (o50, .inl (cI, 36, .inl d50)), (y, .inr (6, [.ref y0, .ref y1, .ref y2])), (y1, .inl (cI, 4, .inl e1)), (y2, .inl (cI, 144, .inl e2))] sz) [(k, .inr (2, [.ref k0, .ref k1])), (k0, .inl (cI, 40, .inl u.1)), (k1, .inl (cI, 40, .inl u.2)), (o, .inr (9, [.ref o0, .ref o1, .ref o2, .ref o3, .ref o4, .ref o5, .int d6, .int d7, .int d8])), (o1, .inl (cI, 40, .inl d1)), (o5, .inr (3, [.ref o50, .int d51])), (o50, .inl (cI, 36, .inl d50)), (y, .inr (6, [.ref y0, .ref y1, .ref y2])), (y1, .inl (cI, 4, .inl e1)), (y2, .inl (cI, 144, .inl e2))] t) (va_A [(k, .inr (2, [.ref k0, .ref k1])), (k0, .inl (cI, 40, .inl c0)), (k1, .inl (cI, 40, .inl c1)), (o, .inr (9, [.ref o0, .ref o1, .ref o2, .ref o3, .ref o4, .ref o5, .int d6, .int d7, .int d8])), (o1, .inl (cI, 40, .inl d1)), (o5, .inr (3, [.ref o50, .int d51])), (o50, .inl (cI, 36, .inl d50)), (y, .inr (6, [.ref y0, .ref y1, .ref y2])), (y1, .inl (cI, 4, .inl e1)), (y2, .inl (cI, 144, .inl e2))] sz)) 0 0 (va_A [(k, .inr (2, [.ref k0, .ref k1])), (k0, .inl (cI, 40, .inl c0)), (k1, .inl (cI, 40, .inl c1)), (o, .inr (9, [.ref o0, .ref o1, .ref o2, .ref o3, .ref o4, .ref o5, .int d6, .int d7, .int d8])), (o1, .inl (cI, 40, .inl d1)), (o5, .inr (3, [.ref o50, .int d51])), (o50, .inl (cI, 36, .inl d50)), (y, .inr (6, [.ref y0, .ref y1, .ref y2])), (y1, .inl (cI, 4, .inl e1)), (y2, .inl (cI, 144, .inl e2))] sz) := by
  refine kMetVX (own := RX2) (by decide +kernel) rfl (Nat.le_of_ble_eq_true rfl) ?_
  intro p e s m args below meth c hx hb hT hown hname hml A Q hK hP hD hS hA hN hXS hRet ls hl
  have hl : lv_has ls 13 [(0, .ref k), (1, .ref o), (2, .ref y), (3, .int a2), (4, .int a3), (5, .int a4), (6, .int a5)] := hl
  have lo_a2 := k_lo a2
  have hi_a2 := k_hi a2
  have lo_a3 := k_lo a3
  have hi_a3 := k_hi a3
  have lo_a4 := k_lo a4
  have hi_a4 := k_hi a4
  have lo_a5 := k_lo a5
  have hi_a5 := k_hi a5
  have lo_d8 := k_lo d8
  have hi_d8 := k_hi d8
  refine lv_aload_n hx hb dX2_weighRow_0 rfl (lv_at hl 1 rfl) ?_
  refine va_get (D := D) (ci := 9) (v := .ref o5) (C := RX9) (T := TX9) (N := 9) hx hb hT giX9 hown hK hP 3 rfl rfl 5 (by decide +kernel) (hT (Cond.fieldLink RX2 28 "DesertWire$World" "parties" "LDesertWire$Parties;") mw_101) (fun _ h9 => h9) rfl dX2_weighRow_1 ?_
  refine lv_iload hx hb dX2_weighRow_4 (lv_at hl 5 rfl) ?_
  refine lv_iconst (v := 0) hx hb dX2_weighRow_6 (by decide +kernel) ?_
  refine kJi (wr := [(k, .inr (2, [.ref k0, .ref k1])), (k0, .inl (cI, 40, .inl c0)), (k1, .inl (cI, 40, .inl c1)), (o, .inr (9, [.ref o0, .ref o1, .ref o2, .ref o3, .ref o4, .ref o5, .int d6, .int d7, .int d8])), (o1, .inl (cI, 40, .inl d1)), (y, .inr (6, [.ref y0, .ref y1, .ref y2])), (y1, .inl (cI, 4, .inl e1)), (y2, .inl (cI, 144, .inl e2))]) (va_runV (As := [.int a4, .int 0]) (rest := []) ⟨hx, hb, hml, hown, hT⟩ (c_X3_getG l D cI aK aV o5 o50 s.heap.size d51 d50 a4 0) (cwV 2 hT (gV_in mw_726 mw_937 mw_724 mw_725 mw_4) rfl rfl rfl (by decide +kernel) ⟨Nat.le_of_ble_eq_true rfl, Nat.le_of_ble_eq_true rfl⟩) (kRecvX (q0 := 5) (ci := 3) hK hP hD hN hXS hS hA rfl rfl [5, 6] rfl (by decide +kernel)) rfl rfl hl.1 rfl (lv_room (Nat.le_of_ble_eq_true rfl)) dX2_weighRow_7 ⟨Nat.le_of_ble_eq_true rfl, Nat.le_of_ble_eq_true rfl⟩) hP hD hS hA [5, 6] [0, 1, 2, 3, 4, 7, 8, 9] rfl rfl (by decide +kernel) (by decide +kernel) ?_
  clear hP hD hS
  intro r_1 u_3 H locs w_2 hP hD hS
  replace hP : va_P D vwCl [(k, .inr (2, [.ref k0, .ref k1])), (k0, .inl (cI, 40, .inl c0)), (k1, .inl (cI, 40, .inl c1)), (o, .inr (9, [.ref o0, .ref o1, .ref o2, .ref o3, .ref o4, .ref o5, .int d6, .int d7, .int d8])), (o1, .inl (cI, 40, .inl d1)), (y, .inr (6, [.ref y0, .ref y1, .ref y2])), (y1, .inl (cI, 4, .inl e1)), (y2, .inl (cI, 144, .inl e2)), (o5, .inr (3, [.ref o50, .int d51])), (o50, .inl (cI, 36, .inl d50))] H := hP
  replace hD : va_D A [(k, .inr (2, [.ref k0, .ref k1])), (k0, .inl (cI, 40, .inl c0)), (k1, .inl (cI, 40, .inl c1)), (o, .inr (9, [.ref o0, .ref o1, .ref o2, .ref o3, .ref o4, .ref o5, .int d6, .int d7, .int d8])), (o1, .inl (cI, 40, .inl d1)), (y, .inr (6, [.ref y0, .ref y1, .ref y2])), (y1, .inl (cI, 4, .inl e1)), (y2, .inl (cI, 144, .inl e2)), (o5, .inr (3, [.ref o50, .int d51])), (o50, .inl (cI, 36, .inl d50))] := hD
  have lo_r_1 := k_lo r_1
  have hi_r_1 := k_hi r_1
  refine lv_istore (lv' := [(7, .int r_1), (0, .ref k), (1, .ref o), (2, .ref y), (3, .int a2), (4, .int a3), (5, .int a4), (6, .int a5)]) hx hb dX2_weighRow_10 hl (by decide +kernel) rfl ?_
  clear hl
  intro ls hl
  refine lv_aload_n hx hb dX2_weighRow_12 rfl (lv_at hl 2 rfl) ?_
  refine va_get (D := D) (ci := 9) (v := .ref o5) (C := RX9) (T := TX9) (N := 9) hx hb hT giX9 hown hK hP 3 rfl rfl 5 (by decide +kernel) (hT (Cond.fieldLink RX2 28 "DesertWire$World" "parties" "LDesertWire$Parties;") mw_101) (fun _ h9 => h9) rfl dX2_weighRow_13 ?_
  refine lv_iload hx hb dX2_weighRow_16 (lv_at hl 7 rfl) ?_
  refine lv_iconst (v := 0) hx hb dX2_weighRow_18 (by decide +kernel) ?_
  refine kJi (wr := [(k, .inr (2, [.ref k0, .ref k1])), (k0, .inl (cI, 40, .inl c0)), (k1, .inl (cI, 40, .inl c1)), (o, .inr (9, [.ref o0, .ref o1, .ref o2, .ref o3, .ref o4, .ref o5, .int d6, .int d7, .int d8])), (o1, .inl (cI, 40, .inl d1)), (y, .inr (6, [.ref y0, .ref y1, .ref y2])), (y1, .inl (cI, 4, .inl e1)), (y2, .inl (cI, 144, .inl e2))]) (va_runV (As := [.int a5, .int 0]) (rest := []) ⟨hx, hb, hml, hown, hT⟩ (c_X3_getG l D cI aK aV o5 o50 H.size d51 d50 a5 0) (cwV 2 hT (gV_in mw_726 mw_937 mw_724 mw_725 mw_4) rfl rfl rfl (by decide +kernel) ⟨Nat.le_of_ble_eq_true rfl, Nat.le_of_ble_eq_true rfl⟩) (kRecvX (q0 := 8) (ci := 3) hK hP hD hN hXS hS hA rfl rfl [8, 9] rfl (by decide +kernel)) rfl rfl hl.1 rfl (lv_room (Nat.le_of_ble_eq_true rfl)) dX2_weighRow_19 ⟨Nat.le_of_ble_eq_true rfl, Nat.le_of_ble_eq_true rfl⟩) hP hD hS hA [8, 9] [0, 1, 2, 3, 4, 5, 6, 7] rfl rfl (by decide +kernel) (by decide +kernel) ?_
  clear hP hD hS
  intro r_4 u_6 H locs w_5 hP hD hS
  replace hP : va_P D vwCl [(k, .inr (2, [.ref k0, .ref k1])), (k0, .inl (cI, 40, .inl c0)), (k1, .inl (cI, 40, .inl c1)), (o, .inr (9, [.ref o0, .ref o1, .ref o2, .ref o3, .ref o4, .ref o5, .int d6, .int d7, .int d8])), (o1, .inl (cI, 40, .inl d1)), (y, .inr (6, [.ref y0, .ref y1, .ref y2])), (y1, .inl (cI, 4, .inl e1)), (y2, .inl (cI, 144, .inl e2)), (o5, .inr (3, [.ref o50, .int d51])), (o50, .inl (cI, 36, .inl d50))] H := hP
  replace hD : va_D A [(k, .inr (2, [.ref k0, .ref k1])), (k0, .inl (cI, 40, .inl c0)), (k1, .inl (cI, 40, .inl c1)), (o, .inr (9, [.ref o0, .ref o1, .ref o2, .ref o3, .ref o4, .ref o5, .int d6, .int d7, .int d8])), (o1, .inl (cI, 40, .inl d1)), (y, .inr (6, [.ref y0, .ref y1, .ref y2])), (y1, .inl (cI, 4, .inl e1)), (y2, .inl (cI, 144, .inl e2)), (o5, .inr (3, [.ref o50, .int d51])), (o50, .inl (cI, 36, .inl d50))] := hD
  have lo_r_4 := k_lo r_4
  have hi_r_4 := k_hi r_4
  refine lv_istore (lv' := [(8, .int r_4), (7, .int r_1), (0, .ref k), (1, .ref o), (2, .ref y), (3, .int a2), (4, .int a3), (5, .int a4), (6, .int a5)]) hx hb dX2_weighRow_22 hl (by decide +kernel) rfl ?_
  clear hl
  intro ls hl
  refine lv_aload_n hx hb dX2_weighRow_24 rfl (lv_at hl 3 rfl) ?_
  refine va_get (D := D) (ci := 9) (v := .ref o5) (C := RX9) (T := TX9) (N := 9) hx hb hT giX9 hown hK hP 3 rfl rfl 5 (by decide +kernel) (hT (Cond.fieldLink RX2 28 "DesertWire$World" "parties" "LDesertWire$Parties;") mw_101) (fun _ h9 => h9) rfl dX2_weighRow_25 ?_
  refine lv_iload hx hb dX2_weighRow_28 (lv_at hl 7 rfl) ?_
  refine lv_iconst (v := 2) hx hb dX2_weighRow_30 (by decide +kernel) ?_
  refine kJi (wr := [(k, .inr (2, [.ref k0, .ref k1])), (k0, .inl (cI, 40, .inl c0)), (k1, .inl (cI, 40, .inl c1)), (o, .inr (9, [.ref o0, .ref o1, .ref o2, .ref o3, .ref o4, .ref o5, .int d6, .int d7, .int d8])), (o1, .inl (cI, 40, .inl d1)), (y, .inr (6, [.ref y0, .ref y1, .ref y2])), (y1, .inl (cI, 4, .inl e1)), (y2, .inl (cI, 144, .inl e2))]) (va_runV (As := [.int a4, .int 2]) (rest := []) ⟨hx, hb, hml, hown, hT⟩ (c_X3_getG l D cI aK aV o5 o50 H.size d51 d50 a4 2) (cwV 2 hT (gV_in mw_726 mw_937 mw_724 mw_725 mw_4) rfl rfl rfl (by decide +kernel) ⟨Nat.le_of_ble_eq_true rfl, Nat.le_of_ble_eq_true rfl⟩) (kRecvX (q0 := 8) (ci := 3) hK hP hD hN hXS hS hA rfl rfl [8, 9] rfl (by decide +kernel)) rfl rfl hl.1 rfl (lv_room (Nat.le_of_ble_eq_true rfl)) dX2_weighRow_31 ⟨Nat.le_of_ble_eq_true rfl, Nat.le_of_ble_eq_true rfl⟩) hP hD hS hA [8, 9] [0, 1, 2, 3, 4, 5, 6, 7] rfl rfl (by decide +kernel) (by decide +kernel) ?_
  clear hP hD hS
  intro r_7 u_9 H locs w_8 hP hD hS
  replace hP : va_P D vwCl [(k, .inr (2, [.ref k0, .ref k1])), (k0, .inl (cI, 40, .inl c0)), (k1, .inl (cI, 40, .inl c1)), (o, .inr (9, [.ref o0, .ref o1, .ref o2, .ref o3, .ref o4, .ref o5, .int d6, .int d7, .int d8])), (o1, .inl (cI, 40, .inl d1)), (y, .inr (6, [.ref y0, .ref y1, .ref y2])), (y1, .inl (cI, 4, .inl e1)), (y2, .inl (cI, 144, .inl e2)), (o5, .inr (3, [.ref o50, .int d51])), (o50, .inl (cI, 36, .inl d50))] H := hP
  replace hD : va_D A [(k, .inr (2, [.ref k0, .ref k1])), (k0, .inl (cI, 40, .inl c0)), (k1, .inl (cI, 40, .inl c1)), (o, .inr (9, [.ref o0, .ref o1, .ref o2, .ref o3, .ref o4, .ref o5, .int d6, .int d7, .int d8])), (o1, .inl (cI, 40, .inl d1)), (y, .inr (6, [.ref y0, .ref y1, .ref y2])), (y1, .inl (cI, 4, .inl e1)), (y2, .inl (cI, 144, .inl e2)), (o5, .inr (3, [.ref o50, .int d51])), (o50, .inl (cI, 36, .inl d50))] := hD
  have lo_r_7 := k_lo r_7
  have hi_r_7 := k_hi r_7
  refine lv_istore (lv' := [(9, .int r_7), (8, .int r_4), (7, .int r_1), (0, .ref k), (1, .ref o), (2, .ref y), (3, .int a2), (4, .int a3), (5, .int a4), (6, .int a5)]) hx hb dX2_weighRow_34 hl (by decide +kernel) rfl ?_
  clear hl
  intro ls hl
  refine lv_iconst (v := 0) hx hb dX2_weighRow_36 (by decide +kernel) ?_
  refine lv_istore (lv' := [(10, .int 0), (9, .int r_7), (8, .int r_4), (7, .int r_1), (0, .ref k), (1, .ref o), (2, .ref y), (3, .int a2), (4, .int a3), (5, .int a4), (6, .int a5)]) hx hb dX2_weighRow_37 hl (by decide +kernel) rfl ?_
  clear hl
  intro ls hl
  refine lv_iload hx hb dX2_weighRow_39 (lv_at hl 3 rfl) ?_
  refine lv_istore (lv' := [(11, .int r_1), (10, .int 0), (9, .int r_7), (8, .int r_4), (7, .int r_1), (0, .ref k), (1, .ref o), (2, .ref y), (3, .int a2), (4, .int a3), (5, .int a4), (6, .int a5)]) hx hb dX2_weighRow_41 hl (by decide +kernel) rfl ?_
  clear hl
  intro ls hl
  have hloop_43 : ∀ (fu_ : Nat) (l43_10 : Int32) (l43_11 : Int32) (g43_k0 : Nat → Int32), r_1.toInt ≤ l43_11.toInt → (r_4.toInt - l43_11.toInt).toNat < fu_ → ∀ (ls : Array Slot) (H : Heap) (locs : List Loc), lv_has ls 13 [(11, .int l43_11), (10, .int l43_10), (9, .int r_7), (8, .int r_4), (7, .int r_1), (0, .ref k), (1, .ref o), (2, .ref y), (3, .int a2), (4, .int a3), (5, .int a4), (6, .int a5)] → va_P D vwCl [(k, .inr (2, [.ref k0, .ref k1])), (k0, .inl (cI, 40, .inl g43_k0)), (k1, .inl (cI, 40, .inl c1)), (o, .inr (9, [.ref o0, .ref o1, .ref o2, .ref o3, .ref o4, .ref o5, .int d6, .int d7, .int d8])), (o1, .inl (cI, 40, .inl d1)), (y, .inr (6, [.ref y0, .ref y1, .ref y2])), (y1, .inl (cI, 4, .inl e1)), (y2, .inl (cI, 144, .inl e2)), (o5, .inr (3, [.ref o50, .int d51])), (o50, .inl (cI, 36, .inl d50))] H → va_D A [(k, .inr (2, [.ref k0, .ref k1])), (k0, .inl (cI, 40, .inl g43_k0)), (k1, .inl (cI, 40, .inl c1)), (o, .inr (9, [.ref o0, .ref o1, .ref o2, .ref o3, .ref o4, .ref o5, .int d6, .int d7, .int d8])), (o1, .inl (cI, 40, .inl d1)), (y, .inr (6, [.ref y0, .ref y1, .ref y2])), (y1, .inl (cI, 4, .inl e1)), (y2, .inl (cI, 144, .inl e2)), (o5, .inr (3, [.ref o50, .int d51])), (o50, .inl (cI, 36, .inl d50))] → va_S A s.heap H locs → W p l e ({ frames := 4, cells := 0, slots := 0, locals := 85 } : Room) s m args below meth c H locs 0 0 Q (F0 m 43 ls []) := by
    intro fu_; induction fu_ with
    | zero => intro l43_10 l43_11 g43_k0 i43_0 hm; exact absurd hm (by omega)
    | succ fu_ ih43 =>
        intro l43_10 l43_11 g43_k0 i43_0 hm ls H locs hl hP hD hS
        have lo_l43_10 := k_lo l43_10
        have hi_l43_10 := k_hi l43_10
        have lo_l43_11 := k_lo l43_11
        have hi_l43_11 := k_hi l43_11
        refine lv_iload hx hb dX2_weighRow_43 (lv_at hl 0 rfl) ?_
        refine lv_iload hx hb dX2_weighRow_45 (lv_at hl 3 rfl) ?_
        refine b_icmp_ge hx hb rfl rfl (tgt := 117) dX2_weighRow_47 (by decide +kernel) (fun c_10 => ?_) (fun c_10 => ?_)
        · refine lv_aload_n hx hb dX2_weighRow_117 rfl (lv_at hl 6 rfl) ?_
          refine va_get (D := D) (ci := 9) (v := .ref o5) (C := RX9) (T := TX9) (N := 9) hx hb hT giX9 hown hK hP 3 rfl rfl 5 (by decide +kernel) (hT (Cond.fieldLink RX2 28 "DesertWire$World" "parties" "LDesertWire$Parties;") mw_101) (fun _ h9 => h9) rfl dX2_weighRow_118 ?_
          refine lv_iload hx hb dX2_weighRow_121 (lv_at hl 11 rfl) ?_
          refine lv_iconst (v := 2) hx hb dX2_weighRow_123 (by decide +kernel) ?_
          refine kJi (wr := [(k, .inr (2, [.ref k0, .ref k1])), (k0, .inl (cI, 40, .inl g43_k0)), (k1, .inl (cI, 40, .inl c1)), (o, .inr (9, [.ref o0, .ref o1, .ref o2, .ref o3, .ref o4, .ref o5, .int d6, .int d7, .int d8])), (o1, .inl (cI, 40, .inl d1)), (y, .inr (6, [.ref y0, .ref y1, .ref y2])), (y1, .inl (cI, 4, .inl e1)), (y2, .inl (cI, 144, .inl e2))]) (va_runV (As := [.int a5, .int 2]) (rest := []) ⟨hx, hb, hml, hown, hT⟩ (c_X3_getG l D cI aK aV o5 o50 H.size d51 d50 a5 2) (cwV 2 hT (gV_in mw_726 mw_937 mw_724 mw_725 mw_4) rfl rfl rfl (by decide +kernel) ⟨Nat.le_of_ble_eq_true rfl, Nat.le_of_ble_eq_true rfl⟩) (kRecvX (q0 := 8) (ci := 3) hK hP hD hN hXS hS hA rfl rfl [8, 9] rfl (by decide +kernel)) rfl rfl hl.1 rfl (lv_room (Nat.le_of_ble_eq_true rfl)) dX2_weighRow_124 ⟨Nat.le_of_ble_eq_true rfl, Nat.le_of_ble_eq_true rfl⟩) hP hD hS hA [8, 9] [0, 1, 2, 3, 4, 5, 6, 7] rfl rfl (by decide +kernel) (by decide +kernel) ?_
          clear hP hD hS
          intro r_11 u_13 H locs w_12 hP hD hS
          replace hP : va_P D vwCl [(k, .inr (2, [.ref k0, .ref k1])), (k0, .inl (cI, 40, .inl g43_k0)), (k1, .inl (cI, 40, .inl c1)), (o, .inr (9, [.ref o0, .ref o1, .ref o2, .ref o3, .ref o4, .ref o5, .int d6, .int d7, .int d8])), (o1, .inl (cI, 40, .inl d1)), (y, .inr (6, [.ref y0, .ref y1, .ref y2])), (y1, .inl (cI, 4, .inl e1)), (y2, .inl (cI, 144, .inl e2)), (o5, .inr (3, [.ref o50, .int d51])), (o50, .inl (cI, 36, .inl d50))] H := hP
          replace hD : va_D A [(k, .inr (2, [.ref k0, .ref k1])), (k0, .inl (cI, 40, .inl g43_k0)), (k1, .inl (cI, 40, .inl c1)), (o, .inr (9, [.ref o0, .ref o1, .ref o2, .ref o3, .ref o4, .ref o5, .int d6, .int d7, .int d8])), (o1, .inl (cI, 40, .inl d1)), (y, .inr (6, [.ref y0, .ref y1, .ref y2])), (y1, .inl (cI, 4, .inl e1)), (y2, .inl (cI, 144, .inl e2)), (o5, .inr (3, [.ref o50, .int d51])), (o50, .inl (cI, 36, .inl d50))] := hD
          have lo_r_11 := k_lo r_11
          have hi_r_11 := k_hi r_11
          refine lv_istore (lv' := [(9, .int r_11), (11, .int l43_11), (10, .int l43_10), (8, .int r_4), (7, .int r_1), (0, .ref k), (1, .ref o), (2, .ref y), (3, .int a2), (4, .int a3), (5, .int a4), (6, .int a5)]) hx hb dX2_weighRow_127 hl (by decide +kernel) rfl ?_
          clear hl
          intro ls hl
          refine lv_iconst (v := 0) hx hb dX2_weighRow_129 (by decide +kernel) ?_
          refine lv_istore (lv' := [(10, .int 0), (9, .int r_11), (11, .int l43_11), (8, .int r_4), (7, .int r_1), (0, .ref k), (1, .ref o), (2, .ref y), (3, .int a2), (4, .int a3), (5, .int a4), (6, .int a5)]) hx hb dX2_weighRow_130 hl (by decide +kernel) rfl ?_
          clear hl
          intro ls hl
          refine lv_iload hx hb dX2_weighRow_132 (lv_at hl 3 rfl) ?_
          refine lv_iconst (v := 1) hx hb dX2_weighRow_134 (by decide +kernel) ?_
          refine lv_isub hx hb dX2_weighRow_135 ?_
          refine lv_topi (fun v_14 ev_14 => ?_)
          have lo_v_14 := k_lo v_14
          have hi_v_14 := k_hi v_14
          refine lv_istore (lv' := [(11, .int v_14), (10, .int 0), (9, .int r_11), (8, .int r_4), (7, .int r_1), (0, .ref k), (1, .ref o), (2, .ref y), (3, .int a2), (4, .int a3), (5, .int a4), (6, .int a5)]) hx hb dX2_weighRow_136 hl (by decide +kernel) rfl ?_
          clear hl
          intro ls hl
          have hloop_138 : ∀ (fu_ : Nat) (l138_10 : Int32) (l138_11 : Int32) (g138_k1 : Nat → Int32), l138_11.toInt ≤ v_14.toInt → (l138_11.toInt + 1 - r_1.toInt).toNat < fu_ → ∀ (ls : Array Slot) (H : Heap) (locs : List Loc), lv_has ls 13 [(11, .int l138_11), (10, .int l138_10), (9, .int r_11), (8, .int r_4), (7, .int r_1), (0, .ref k), (1, .ref o), (2, .ref y), (3, .int a2), (4, .int a3), (5, .int a4), (6, .int a5)] → va_P D vwCl [(k, .inr (2, [.ref k0, .ref k1])), (k0, .inl (cI, 40, .inl g43_k0)), (k1, .inl (cI, 40, .inl g138_k1)), (o, .inr (9, [.ref o0, .ref o1, .ref o2, .ref o3, .ref o4, .ref o5, .int d6, .int d7, .int d8])), (o1, .inl (cI, 40, .inl d1)), (y, .inr (6, [.ref y0, .ref y1, .ref y2])), (y1, .inl (cI, 4, .inl e1)), (y2, .inl (cI, 144, .inl e2)), (o5, .inr (3, [.ref o50, .int d51])), (o50, .inl (cI, 36, .inl d50))] H → va_D A [(k, .inr (2, [.ref k0, .ref k1])), (k0, .inl (cI, 40, .inl g43_k0)), (k1, .inl (cI, 40, .inl g138_k1)), (o, .inr (9, [.ref o0, .ref o1, .ref o2, .ref o3, .ref o4, .ref o5, .int d6, .int d7, .int d8])), (o1, .inl (cI, 40, .inl d1)), (y, .inr (6, [.ref y0, .ref y1, .ref y2])), (y1, .inl (cI, 4, .inl e1)), (y2, .inl (cI, 144, .inl e2)), (o5, .inr (3, [.ref o50, .int d51])), (o50, .inl (cI, 36, .inl d50))] → va_S A s.heap H locs → W p l e ({ frames := 4, cells := 0, slots := 0, locals := 85 } : Room) s m args below meth c H locs 0 0 Q (F0 m 138 ls []) := by
            intro fu_; induction fu_ with
            | zero => intro l138_10 l138_11 g138_k1 i138_0 hm; exact absurd hm (by omega)
            | succ fu_ ih138 =>
                intro l138_10 l138_11 g138_k1 i138_0 hm ls H locs hl hP hD hS
                have lo_l138_10 := k_lo l138_10
                have hi_l138_10 := k_hi l138_10
                have lo_l138_11 := k_lo l138_11
                have hi_l138_11 := k_hi l138_11
                refine lv_iload hx hb dX2_weighRow_138 (lv_at hl 0 rfl) ?_
                refine lv_iload hx hb dX2_weighRow_140 (lv_at hl 4 rfl) ?_
                refine b_icmp_lt hx hb rfl rfl (tgt := 234) dX2_weighRow_142 (by decide +kernel) (fun c_15 => ?_) (fun c_15 => ?_)
                · exact hRet (g43_k0, g138_k1) [0, 1, 2, 3, 4, 8, 9, 5, 6, 7] trivial hP hD (by decide +kernel) rfl hS dX2_weighRow_234
                · refine lv_iload hx hb dX2_weighRow_145 (lv_at hl 0 rfl) ?_
                  refine kJi (wr := [(k, .inr (2, [.ref k0, .ref k1])), (k0, .inl (cI, 40, .inl g43_k0)), (k1, .inl (cI, 40, .inl g138_k1)), (o, .inr (9, [.ref o0, .ref o1, .ref o2, .ref o3, .ref o4, .ref o5, .int d6, .int d7, .int d8])), (o1, .inl (cI, 40, .inl d1)), (y, .inr (6, [.ref y0, .ref y1, .ref y2])), (y1, .inl (cI, 4, .inl e1)), (y2, .inl (cI, 144, .inl e2)), (o5, .inr (3, [.ref o50, .int d51])), (o50, .inl (cI, 36, .inl d50))]) (va_runSN (As := [.int l138_11]) (rest := []) ⟨hx, hb, hml, hown, hT⟩ (c_X10_isMileG l D cI aK aV H.size l138_11) ⟨va_cnB 1 hT (gW_in mw_346) rfl rfl rfl (hN _ mw_938) (hT _ mw_1) (by decide +kernel) ⟨Nat.le_of_ble_eq_true rfl, Nat.le_of_ble_eq_true rfl⟩, hT _ mw_345, trivial⟩ (kStatX hK hP hD hN hXS hS hA [] rfl (by decide +kernel)) rfl rfl hl.1 rfl (lv_room (Nat.le_of_ble_eq_true rfl)) dX2_weighRow_147 ⟨Nat.le_of_ble_eq_true rfl, Nat.le_of_ble_eq_true rfl⟩) hP hD hS hA [] [0, 1, 2, 3, 4, 5, 6, 7, 8, 9] rfl rfl (by decide +kernel) (by decide +kernel) ?_
                  clear hP hD hS
                  intro r_16 u_18 H locs w_17 hP hD hS
                  replace hP : va_P D vwCl [(k, .inr (2, [.ref k0, .ref k1])), (k0, .inl (cI, 40, .inl g43_k0)), (k1, .inl (cI, 40, .inl g138_k1)), (o, .inr (9, [.ref o0, .ref o1, .ref o2, .ref o3, .ref o4, .ref o5, .int d6, .int d7, .int d8])), (o1, .inl (cI, 40, .inl d1)), (y, .inr (6, [.ref y0, .ref y1, .ref y2])), (y1, .inl (cI, 4, .inl e1)), (y2, .inl (cI, 144, .inl e2)), (o5, .inr (3, [.ref o50, .int d51])), (o50, .inl (cI, 36, .inl d50))] H := hP
                  replace hD : va_D A [(k, .inr (2, [.ref k0, .ref k1])), (k0, .inl (cI, 40, .inl g43_k0)), (k1, .inl (cI, 40, .inl g138_k1)), (o, .inr (9, [.ref o0, .ref o1, .ref o2, .ref o3, .ref o4, .ref o5, .int d6, .int d7, .int d8])), (o1, .inl (cI, 40, .inl d1)), (y, .inr (6, [.ref y0, .ref y1, .ref y2])), (y1, .inl (cI, 4, .inl e1)), (y2, .inl (cI, 144, .inl e2)), (o5, .inr (3, [.ref o50, .int d51])), (o50, .inl (cI, 36, .inl d50))] := hD
                  rcases w_17 with ⟨hr_16, h_19, h_20⟩ | ⟨hr_16, h_21⟩
                  · have h_19 : 0 ≤ l138_11.toInt := h_19
                    have h_20 : l138_11.toInt ≤ 39 := h_20
                    obtain rfl : r_16 = 1 := hr_16.trans (by decide +kernel)
                    refine b_if_eq hx hb zl_1 (tgt := 234) dX2_weighRow_150 (by decide +kernel) (fun c_22 => by exfalso; omega) (fun c_22 => ?_)
                    refine lv_aload_n hx hb dX2_weighRow_153 rfl (lv_at hl 7 rfl) ?_
                    refine lv_iload_n hx hb dX2_weighRow_154 rfl (lv_at hl 8 rfl) ?_
                    refine lv_iload hx hb dX2_weighRow_155 (lv_at hl 9 rfl) ?_
                    refine lv_aload_n hx hb dX2_weighRow_157 rfl (lv_at hl 6 rfl) ?_
                    refine va_get (D := D) (ci := 9) (v := .int d8) (C := RX9) (T := TX9) (N := 9) hx hb hT giX9 hown hK hP 3 rfl rfl 8 (by decide +kernel) (hT (Cond.fieldLink RX2 44 "DesertWire$World" "day" "I") mw_109) (fun _ h9 => h9) rfl dX2_weighRow_158 ?_
                    refine lv_iload hx hb dX2_weighRow_161 (lv_at hl 1 rfl) ?_
                    refine lv_iadd hx hb dX2_weighRow_163 ?_
                    refine lv_topi (fun v_23 ev_23 => ?_)
                    have lo_v_23 := k_lo v_23
                    have hi_v_23 := k_hi v_23
                    refine kJi (wr := [(k, .inr (2, [.ref k0, .ref k1])), (k0, .inl (cI, 40, .inl g43_k0)), (k1, .inl (cI, 40, .inl g138_k1)), (o, .inr (9, [.ref o0, .ref o1, .ref o2, .ref o3, .ref o4, .ref o5, .int d6, .int d7, .int d8])), (o1, .inl (cI, 40, .inl d1)), (y, .inr (6, [.ref y0, .ref y1, .ref y2])), (y1, .inl (cI, 4, .inl e1)), (y2, .inl (cI, 144, .inl e2)), (o5, .inr (3, [.ref o50, .int d51])), (o50, .inl (cI, 36, .inl d50))]) (va_runSN (As := [.int v_23]) (rest := [.int a3, .int a2, .ref y]) ⟨hx, hb, hml, hown, hT⟩ (c_X10_monthOfG l D cI aK aV H.size v_23) ⟨va_cnB 1 hT (gW_in mw_636) rfl rfl rfl (hN _ mw_939) (hT _ mw_1) (by decide +kernel) ⟨Nat.le_of_ble_eq_true rfl, Nat.le_of_ble_eq_true rfl⟩, hT _ mw_635, trivial⟩ (kStatX hK hP hD hN hXS hS hA [] rfl (by decide +kernel)) rfl rfl hl.1 rfl (lv_room (Nat.le_of_ble_eq_true rfl)) dX2_weighRow_164 ⟨Nat.le_of_ble_eq_true rfl, Nat.le_of_ble_eq_true rfl⟩) hP hD hS hA [] [0, 1, 2, 3, 4, 5, 6, 7, 8, 9] rfl rfl (by decide +kernel) (by decide +kernel) ?_
                    clear hP hD hS
                    intro r_24 u_26 H locs w_25 hP hD hS
                    replace hP : va_P D vwCl [(k, .inr (2, [.ref k0, .ref k1])), (k0, .inl (cI, 40, .inl g43_k0)), (k1, .inl (cI, 40, .inl g138_k1)), (o, .inr (9, [.ref o0, .ref o1, .ref o2, .ref o3, .ref o4, .ref o5, .int d6, .int d7, .int d8])), (o1, .inl (cI, 40, .inl d1)), (y, .inr (6, [.ref y0, .ref y1, .ref y2])), (y1, .inl (cI, 4, .inl e1)), (y2, .inl (cI, 144, .inl e2)), (o5, .inr (3, [.ref o50, .int d51])), (o50, .inl (cI, 36, .inl d50))] H := hP
                    replace hD : va_D A [(k, .inr (2, [.ref k0, .ref k1])), (k0, .inl (cI, 40, .inl g43_k0)), (k1, .inl (cI, 40, .inl g138_k1)), (o, .inr (9, [.ref o0, .ref o1, .ref o2, .ref o3, .ref o4, .ref o5, .int d6, .int d7, .int d8])), (o1, .inl (cI, 40, .inl d1)), (y, .inr (6, [.ref y0, .ref y1, .ref y2])), (y1, .inl (cI, 4, .inl e1)), (y2, .inl (cI, 144, .inl e2)), (o5, .inr (3, [.ref o50, .int d51])), (o50, .inl (cI, 36, .inl d50))] := hD
                    obtain ⟨h_27, h_28⟩ := w_25
                    have h_27 : 0 ≤ r_24.toInt := h_27
                    have h_28 : r_24.toInt ≤ 11 := h_28
                    have lo_r_24 := k_lo r_24
                    have hi_r_24 := k_hi r_24
                    refine lv_iadd hx hb dX2_weighRow_167 ?_
                    refine lv_topi (fun v_29 ev_29 => ?_)
                    have lo_v_29 := k_lo v_29
                    have hi_v_29 := k_hi v_29
                    refine kJi (wr := [(k, .inr (2, [.ref k0, .ref k1])), (k0, .inl (cI, 40, .inl g43_k0)), (k1, .inl (cI, 40, .inl g138_k1)), (o, .inr (9, [.ref o0, .ref o1, .ref o2, .ref o3, .ref o4, .ref o5, .int d6, .int d7, .int d8])), (o1, .inl (cI, 40, .inl d1)), (o5, .inr (3, [.ref o50, .int d51])), (o50, .inl (cI, 36, .inl d50))]) (va_runV (As := [.int a2, .int v_29]) (rest := []) ⟨hx, hb, hml, hown, hT⟩ (c_X6_numberAtG l D cI aK aV y y0 y1 y2 H.size e1 e2 a2 v_29 (by first | omega | decide | assumption | rfl)) (cwV 2 hT (gV_in mw_684 mw_940 mw_682 mw_683 mw_11) rfl rfl rfl (by decide +kernel) ⟨Nat.le_of_ble_eq_true rfl, Nat.le_of_ble_eq_true rfl⟩) (kRecvX (q0 := 5) (ci := 6) hK hP hD hN hXS hS hA rfl rfl [5, 6, 7] rfl (by decide +kernel)) rfl rfl hl.1 rfl (lv_room (Nat.le_of_ble_eq_true rfl)) dX2_weighRow_168 ⟨Nat.le_of_ble_eq_true rfl, Nat.le_of_ble_eq_true rfl⟩) hP hD hS hA [5, 6, 7] [0, 1, 2, 3, 4, 8, 9] rfl rfl (by decide +kernel) (by decide +kernel) ?_
                    clear hP hD hS
                    intro r_30 u_32 H locs w_31 hP hD hS
                    replace hP : va_P D vwCl [(k, .inr (2, [.ref k0, .ref k1])), (k0, .inl (cI, 40, .inl g43_k0)), (k1, .inl (cI, 40, .inl g138_k1)), (o, .inr (9, [.ref o0, .ref o1, .ref o2, .ref o3, .ref o4, .ref o5, .int d6, .int d7, .int d8])), (o1, .inl (cI, 40, .inl d1)), (o5, .inr (3, [.ref o50, .int d51])), (o50, .inl (cI, 36, .inl d50)), (y, .inr (6, [.ref y0, .ref y1, .ref y2])), (y1, .inl (cI, 4, .inl e1)), (y2, .inl (cI, 144, .inl e2))] H := hP
                    replace hD : va_D A [(k, .inr (2, [.ref k0, .ref k1])), (k0, .inl (cI, 40, .inl g43_k0)), (k1, .inl (cI, 40, .inl g138_k1)), (o, .inr (9, [.ref o0, .ref o1, .ref o2, .ref o3, .ref o4, .ref o5, .int d6, .int d7, .int d8])), (o1, .inl (cI, 40, .inl d1)), (o5, .inr (3, [.ref o50, .int d51])), (o50, .inl (cI, 36, .inl d50)), (y, .inr (6, [.ref y0, .ref y1, .ref y2])), (y1, .inl (cI, 4, .inl e1)), (y2, .inl (cI, 144, .inl e2))] := hD
                    have h_33 := w_31
                    have h_33 : r_30 = kNum e1 e2 a2 v_29 := h_33
                    have lo_r_30 := k_lo r_30
                    have hi_r_30 := k_hi r_30
                    refine lv_istore (lv' := [(12, .int r_30), (11, .int l138_11), (10, .int l138_10), (9, .int r_11), (8, .int r_4), (7, .int r_1), (0, .ref k), (1, .ref o), (2, .ref y), (3, .int a2), (4, .int a3), (5, .int a4), (6, .int a5)]) hx hb dX2_weighRow_171 hl (by decide +kernel) rfl ?_
                    clear hl
                    intro ls hl
                    refine lv_iload hx hb dX2_weighRow_173 (lv_at hl 2 rfl) ?_
                    refine lv_aload_n hx hb dX2_weighRow_175 rfl (lv_at hl 7 rfl) ?_
                    refine lv_iload hx hb dX2_weighRow_176 (lv_at hl 1 rfl) ?_
                    refine lv_iconst (v := 1) hx hb dX2_weighRow_178 (by decide +kernel) ?_
                    refine lv_iadd hx hb dX2_weighRow_179 ?_
                    refine lv_topi (fun v_34 ev_34 => ?_)
                    have tv_34 : v_34.toInt = l138_11.toInt + 1 := by rw [ev_34]; exact k_addv rfl zl_1 (by omega) (by omega)
                    refine kJi (wr := [(k, .inr (2, [.ref k0, .ref k1])), (k0, .inl (cI, 40, .inl g43_k0)), (k1, .inl (cI, 40, .inl g138_k1)), (o5, .inr (3, [.ref o50, .int d51])), (o50, .inl (cI, 36, .inl d50)), (y, .inr (6, [.ref y0, .ref y1, .ref y2])), (y1, .inl (cI, 4, .inl e1)), (y2, .inl (cI, 144, .inl e2))]) (va_runV (As := [.int v_34]) (rest := [.int l138_10]) ⟨hx, hb, hml, hown, hT⟩ (c_X9_soilOfG l D cI aK aV o o0 o1 o2 o3 o4 o5 H.size d6 d7 d8 d1 v_34) (cwV 1 hT (gV_in mw_423 mw_941 mw_421 mw_422 mw_2) rfl rfl rfl (by decide +kernel) ⟨Nat.le_of_ble_eq_true rfl, Nat.le_of_ble_eq_true rfl⟩) (kRecvX (q0 := 3) (ci := 9) hK hP hD hN hXS hS hA rfl rfl [3, 4] rfl (by decide +kernel)) rfl rfl hl.1 rfl (lv_room (Nat.le_of_ble_eq_true rfl)) dX2_weighRow_180 ⟨Nat.le_of_ble_eq_true rfl, Nat.le_of_ble_eq_true rfl⟩) hP hD hS hA [3, 4] [0, 1, 2, 5, 6, 7, 8, 9] rfl rfl (by decide +kernel) (by decide +kernel) ?_
                    clear hP hD hS
                    intro r_35 u_37 H locs w_36 hP hD hS
                    replace hP : va_P D vwCl [(k, .inr (2, [.ref k0, .ref k1])), (k0, .inl (cI, 40, .inl g43_k0)), (k1, .inl (cI, 40, .inl g138_k1)), (o5, .inr (3, [.ref o50, .int d51])), (o50, .inl (cI, 36, .inl d50)), (y, .inr (6, [.ref y0, .ref y1, .ref y2])), (y1, .inl (cI, 4, .inl e1)), (y2, .inl (cI, 144, .inl e2)), (o, .inr (9, [.ref o0, .ref o1, .ref o2, .ref o3, .ref o4, .ref o5, .int d6, .int d7, .int d8])), (o1, .inl (cI, 40, .inl d1))] H := hP
                    replace hD : va_D A [(k, .inr (2, [.ref k0, .ref k1])), (k0, .inl (cI, 40, .inl g43_k0)), (k1, .inl (cI, 40, .inl g138_k1)), (o5, .inr (3, [.ref o50, .int d51])), (o50, .inl (cI, 36, .inl d50)), (y, .inr (6, [.ref y0, .ref y1, .ref y2])), (y1, .inl (cI, 4, .inl e1)), (y2, .inl (cI, 144, .inl e2)), (o, .inr (9, [.ref o0, .ref o1, .ref o2, .ref o3, .ref o4, .ref o5, .int d6, .int d7, .int d8])), (o1, .inl (cI, 40, .inl d1))] := hD
                    have lo_r_35 := k_lo r_35
                    have hi_r_35 := k_hi r_35
                    refine lv_iload hx hb dX2_weighRow_183 (lv_at hl 0 rfl) ?_
                    refine kJi (wr := [(k, .inr (2, [.ref k0, .ref k1])), (k0, .inl (cI, 40, .inl g43_k0)), (k1, .inl (cI, 40, .inl g138_k1)), (o5, .inr (3, [.ref o50, .int d51])), (o50, .inl (cI, 36, .inl d50)), (y, .inr (6, [.ref y0, .ref y1, .ref y2])), (y1, .inl (cI, 4, .inl e1)), (y2, .inl (cI, 144, .inl e2)), (o, .inr (9, [.ref o0, .ref o1, .ref o2, .ref o3, .ref o4, .ref o5, .int d6, .int d7, .int d8])), (o1, .inl (cI, 40, .inl d1))]) (va_runSN (As := [.int r_35, .int r_30]) (rest := [.int l138_10]) ⟨hx, hb, hml, hown, hT⟩ (c_X10_effortInG l D cI aK aV H.size r_35 r_30) ⟨va_cnB 2 hT (gW_in mw_651) rfl rfl rfl (hN _ mw_942) (hT _ mw_1) (by decide +kernel) ⟨Nat.le_of_ble_eq_true rfl, Nat.le_of_ble_eq_true rfl⟩, hT _ mw_650, trivial⟩ (kStatX hK hP hD hN hXS hS hA [] rfl (by decide +kernel)) rfl rfl hl.1 rfl (lv_room (Nat.le_of_ble_eq_true rfl)) dX2_weighRow_185 ⟨Nat.le_of_ble_eq_true rfl, Nat.le_of_ble_eq_true rfl⟩) hP hD hS hA [] [0, 1, 2, 3, 4, 5, 6, 7, 8, 9] rfl rfl (by decide +kernel) (by decide +kernel) ?_
                    clear hP hD hS
                    intro r_38 u_40 H locs w_39 hP hD hS
                    replace hP : va_P D vwCl [(k, .inr (2, [.ref k0, .ref k1])), (k0, .inl (cI, 40, .inl g43_k0)), (k1, .inl (cI, 40, .inl g138_k1)), (o5, .inr (3, [.ref o50, .int d51])), (o50, .inl (cI, 36, .inl d50)), (y, .inr (6, [.ref y0, .ref y1, .ref y2])), (y1, .inl (cI, 4, .inl e1)), (y2, .inl (cI, 144, .inl e2)), (o, .inr (9, [.ref o0, .ref o1, .ref o2, .ref o3, .ref o4, .ref o5, .int d6, .int d7, .int d8])), (o1, .inl (cI, 40, .inl d1))] H := hP
                    replace hD : va_D A [(k, .inr (2, [.ref k0, .ref k1])), (k0, .inl (cI, 40, .inl g43_k0)), (k1, .inl (cI, 40, .inl g138_k1)), (o5, .inr (3, [.ref o50, .int d51])), (o50, .inl (cI, 36, .inl d50)), (y, .inr (6, [.ref y0, .ref y1, .ref y2])), (y1, .inl (cI, 4, .inl e1)), (y2, .inl (cI, 144, .inl e2)), (o, .inr (9, [.ref o0, .ref o1, .ref o2, .ref o3, .ref o4, .ref o5, .int d6, .int d7, .int d8])), (o1, .inl (cI, 40, .inl d1))] := hD
                    have lo_r_38 := k_lo r_38
                    have hi_r_38 := k_hi r_38
                    refine lv_iload hx hb dX2_weighRow_188 (lv_at hl 3 rfl) ?_
                    refine kJi (wr := [(k, .inr (2, [.ref k0, .ref k1])), (k0, .inl (cI, 40, .inl g43_k0)), (k1, .inl (cI, 40, .inl g138_k1)), (o5, .inr (3, [.ref o50, .int d51])), (o50, .inl (cI, 36, .inl d50)), (y, .inr (6, [.ref y0, .ref y1, .ref y2])), (y1, .inl (cI, 4, .inl e1)), (y2, .inl (cI, 144, .inl e2)), (o, .inr (9, [.ref o0, .ref o1, .ref o2, .ref o3, .ref o4, .ref o5, .int d6, .int d7, .int d8])), (o1, .inl (cI, 40, .inl d1))]) (va_runS (As := [.int r_38, .int r_11]) (rest := [.int l138_10]) ⟨hx, hb, hml, hown, hT⟩ (c_X2_daysOfG l D cI aK aV H.size r_38 r_11) (cwS 2 hT (gS_in mw_945 mw_943 mw_944 mw_9) rfl rfl rfl (by decide +kernel) ⟨Nat.le_of_ble_eq_true rfl, Nat.le_of_ble_eq_true rfl⟩) (kStatX hK hP hD hN hXS hS hA [] rfl (by decide +kernel)) rfl rfl hl.1 rfl (lv_room (Nat.le_of_ble_eq_true rfl)) dX2_weighRow_190 ⟨Nat.le_of_ble_eq_true rfl, Nat.le_of_ble_eq_true rfl⟩) hP hD hS hA [] [0, 1, 2, 3, 4, 5, 6, 7, 8, 9] rfl rfl (by decide +kernel) (by decide +kernel) ?_
                    clear hP hD hS
                    intro r_41 u_43 H locs w_42 hP hD hS
                    replace hP : va_P D vwCl [(k, .inr (2, [.ref k0, .ref k1])), (k0, .inl (cI, 40, .inl g43_k0)), (k1, .inl (cI, 40, .inl g138_k1)), (o5, .inr (3, [.ref o50, .int d51])), (o50, .inl (cI, 36, .inl d50)), (y, .inr (6, [.ref y0, .ref y1, .ref y2])), (y1, .inl (cI, 4, .inl e1)), (y2, .inl (cI, 144, .inl e2)), (o, .inr (9, [.ref o0, .ref o1, .ref o2, .ref o3, .ref o4, .ref o5, .int d6, .int d7, .int d8])), (o1, .inl (cI, 40, .inl d1))] H := hP
                    replace hD : va_D A [(k, .inr (2, [.ref k0, .ref k1])), (k0, .inl (cI, 40, .inl g43_k0)), (k1, .inl (cI, 40, .inl g138_k1)), (o5, .inr (3, [.ref o50, .int d51])), (o50, .inl (cI, 36, .inl d50)), (y, .inr (6, [.ref y0, .ref y1, .ref y2])), (y1, .inl (cI, 4, .inl e1)), (y2, .inl (cI, 144, .inl e2)), (o, .inr (9, [.ref o0, .ref o1, .ref o2, .ref o3, .ref o4, .ref o5, .int d6, .int d7, .int d8])), (o1, .inl (cI, 40, .inl d1))] := hD
                    have lo_r_41 := k_lo r_41
                    have hi_r_41 := k_hi r_41
                    refine lv_iadd hx hb dX2_weighRow_193 ?_
                    refine lv_topi (fun v_44 ev_44 => ?_)
                    have lo_v_44 := k_lo v_44
                    have hi_v_44 := k_hi v_44
                    refine lv_istore (lv' := [(10, .int v_44), (12, .int r_30), (11, .int l138_11), (9, .int r_11), (8, .int r_4), (7, .int r_1), (0, .ref k), (1, .ref o), (2, .ref y), (3, .int a2), (4, .int a3), (5, .int a4), (6, .int a5)]) hx hb dX2_weighRow_194 hl (by decide +kernel) rfl ?_
                    clear hl
                    intro ls hl
                    refine lv_aload_n hx hb dX2_weighRow_196 rfl (lv_at hl 6 rfl) ?_
                    refine va_get (D := D) (ci := 2) (v := .ref k1) (C := RX2) (T := TX2) (N := 2) hx hb hT giX2 hown hK hP 0 rfl rfl 1 (by decide +kernel) (hT (Cond.fieldLink RX2 15 "DesertWire$Meetings" "worst" "[I") mw_246) (fun _ h9 => h9) rfl dX2_weighRow_197 ?_
                    refine lv_iload hx hb dX2_weighRow_200 (lv_at hl 2 rfl) ?_
                    refine lv_aload_n hx hb dX2_weighRow_202 rfl (lv_at hl 6 rfl) ?_
                    refine va_get (D := D) (ci := 2) (v := .ref k1) (C := RX2) (T := TX2) (N := 2) hx hb hT giX2 hown hK hP 0 rfl rfl 1 (by decide +kernel) (hT (Cond.fieldLink RX2 15 "DesertWire$Meetings" "worst" "[I") mw_246) (fun _ h9 => h9) rfl dX2_weighRow_203 ?_
                    refine lv_iload hx hb dX2_weighRow_206 (lv_at hl 2 rfl) ?_
                    refine k_iald (v := (g138_k1 l138_11.toNatClampNeg)) hx hb hK hP 2 0 rfl rfl (k_in (by omega) (by omega)) rfl dX2_weighRow_208 ?_
                    refine lv_topi (fun v_45 ev_45 => ?_)
                    have lo_v_45 := k_lo v_45
                    have hi_v_45 := k_hi v_45
                    have tv_45 : v_45.toInt = (g138_k1 l138_11.toNatClampNeg).toInt := by rw [ev_45]
                    refine lv_aload_n hx hb dX2_weighRow_209 rfl (lv_at hl 6 rfl) ?_
                    refine va_get (D := D) (ci := 2) (v := .ref k0) (C := RX2) (T := TX2) (N := 2) hx hb hT giX2 hown hK hP 0 rfl rfl 0 (by decide +kernel) (hT (Cond.fieldLink RX2 9 "DesertWire$Meetings" "done" "[I") mw_245) (fun _ h9 => h9) rfl dX2_weighRow_210 ?_
                    refine lv_iload hx hb dX2_weighRow_213 (lv_at hl 2 rfl) ?_
                    refine k_iald (v := (g43_k0 l138_11.toNatClampNeg)) hx hb hK hP 1 0 rfl rfl (k_in (by omega) (by omega)) rfl dX2_weighRow_215 ?_
                    refine lv_topi (fun v_46 ev_46 => ?_)
                    have lo_v_46 := k_lo v_46
                    have hi_v_46 := k_hi v_46
                    have tv_46 : v_46.toInt = (g43_k0 l138_11.toNatClampNeg).toInt := by rw [ev_46]
                    refine lv_iload hx hb dX2_weighRow_216 (lv_at hl 0 rfl) ?_
                    refine va_mmax hx hb (hml.trans hl.1.symm) hown (hT _ mw_946) (hT _ mw_426) (hT _ mw_13) (hT _ mw_427) (Nat.le_of_ble_eq_true rfl) (Nat.le_of_ble_eq_true rfl) (Nat.le_of_ble_eq_true rfl) (Nat.le_of_ble_eq_true rfl) dX2_weighRow_218 ?_
                    refine lv_topi (fun v_47 ev_47 => ?_)
                    have lo_v_47 := k_lo v_47
                    have hi_v_47 := k_hi v_47
                    have tv_47 : v_47.toInt = k_max v_46.toInt v_44.toInt := by rw [ev_47]; exact k_mmax rfl rfl
                    try rw [tv_46] at tv_47
                    have sv_47 := k_max_spec (v_46.toInt) (v_44.toInt)
                    try rw [tv_46] at sv_47
                    refine va_mmax hx hb (hml.trans hl.1.symm) hown (hT _ mw_946) (hT _ mw_426) (hT _ mw_13) (hT _ mw_427) (Nat.le_of_ble_eq_true rfl) (Nat.le_of_ble_eq_true rfl) (Nat.le_of_ble_eq_true rfl) (Nat.le_of_ble_eq_true rfl) dX2_weighRow_221 ?_
                    refine lv_topi (fun v_48 ev_48 => ?_)
                    have lo_v_48 := k_lo v_48
                    have hi_v_48 := k_hi v_48
                    have tv_48 : v_48.toInt = k_max v_45.toInt v_47.toInt := by rw [ev_48]; exact k_mmax rfl rfl
                    try rw [tv_45] at tv_48
                    try rw [tv_47] at tv_48
                    have sv_48 := k_max_spec (v_45.toInt) (v_47.toInt)
                    try rw [tv_45] at sv_48
                    try rw [tv_47] at sv_48
                    refine va_iast hx hb hK hP hD hS 2 0 rfl rfl (k_in (by omega) (by omega)) dX2_weighRow_224 ?_
                    clear hP hD hS
                    intro H locs hP hD hS
                    replace hP : va_P D vwCl [(k, .inr (2, [.ref k0, .ref k1])), (k0, .inl (cI, 40, .inl g43_k0)), (k1, .inl (cI, 40, .inl (upd g138_k1 l138_11.toNatClampNeg v_48))), (o5, .inr (3, [.ref o50, .int d51])), (o50, .inl (cI, 36, .inl d50)), (y, .inr (6, [.ref y0, .ref y1, .ref y2])), (y1, .inl (cI, 4, .inl e1)), (y2, .inl (cI, 144, .inl e2)), (o, .inr (9, [.ref o0, .ref o1, .ref o2, .ref o3, .ref o4, .ref o5, .int d6, .int d7, .int d8])), (o1, .inl (cI, 40, .inl d1))] H := hP
                    replace hD : va_D A [(k, .inr (2, [.ref k0, .ref k1])), (k0, .inl (cI, 40, .inl g43_k0)), (k1, .inl (cI, 40, .inl (upd g138_k1 l138_11.toNatClampNeg v_48))), (o5, .inr (3, [.ref o50, .int d51])), (o50, .inl (cI, 36, .inl d50)), (y, .inr (6, [.ref y0, .ref y1, .ref y2])), (y1, .inl (cI, 4, .inl e1)), (y2, .inl (cI, 144, .inl e2)), (o, .inr (9, [.ref o0, .ref o1, .ref o2, .ref o3, .ref o4, .ref o5, .int d6, .int d7, .int d8])), (o1, .inl (cI, 40, .inl d1))] := hD
                    obtain ⟨f_49, ef_49⟩ : ∃ g : Nat → Int32, g = upd g138_k1 l138_11.toNatClampNeg v_48 := ⟨_, rfl⟩
                    rw [← ef_49] at hP hD
                    obtain ⟨v_50, ev_50⟩ : ∃ y : Int32, y = v_44 + 1 := ⟨_, rfl⟩
                    have lo_v_50 := k_lo v_50
                    have hi_v_50 := k_hi v_50
                    refine lv_iinc (v := v_50) (lv' := [(10, .int v_50), (12, .int r_30), (11, .int l138_11), (9, .int r_11), (8, .int r_4), (7, .int r_1), (0, .ref k), (1, .ref o), (2, .ref y), (3, .int a2), (4, .int a3), (5, .int a4), (6, .int a5)]) hx hb dX2_weighRow_225 hl (k := 0) rfl (by rw [ev_50]; rfl) (by decide +kernel) rfl ?_
                    clear hl
                    intro ls hl
                    obtain ⟨v_51, ev_51⟩ : ∃ y : Int32, y = l138_11 + (-1) := ⟨_, rfl⟩
                    have tv_51 : v_51.toInt = l138_11.toInt + (-1) := by rw [ev_51]; exact k_addv rfl zl_m1 (by omega) (by omega)
                    refine lv_iinc (v := v_51) (lv' := [(11, .int v_51), (10, .int v_50), (12, .int r_30), (9, .int r_11), (8, .int r_4), (7, .int r_1), (0, .ref k), (1, .ref o), (2, .ref y), (3, .int a2), (4, .int a3), (5, .int a4), (6, .int a5)]) hx hb dX2_weighRow_228 hl (k := 2) rfl (by rw [ev_51]; rfl) (by decide +kernel) rfl ?_
                    clear hl
                    intro ls hl
                    refine lv_goto (tgt := 138) hx hb dX2_weighRow_231 (by decide +kernel) ?_
                    exact ih138 v_50 v_51 f_49 (by first | omega | decide | assumption | rfl) (by omega) ls _ _ (lv_sub hl [0, 1, 3, 4, 5, 6, 7, 8, 9, 10, 11, 12] rfl) (hP.sub [0, 1, 2, 8, 9, 5, 6, 7, 3, 4] rfl) (hD.sub [0, 1, 2, 8, 9, 5, 6, 7, 3, 4] (by decide +kernel) rfl) hS
                  · have h_21 : l138_11.toInt < 0 ∨ 39 < l138_11.toInt := h_21
                    obtain rfl : r_16 = 0 := hr_16.trans (by decide +kernel)
                    refine b_if_eq hx hb zl_0 (tgt := 234) dX2_weighRow_150 (by decide +kernel) (fun c_52 => ?_) (fun c_52 => by exfalso; omega)
                    exact hRet (g43_k0, g138_k1) [0, 1, 2, 3, 4, 8, 9, 5, 6, 7] trivial hP hD (by decide +kernel) rfl hS dX2_weighRow_234
          exact hloop_138 _ 0 v_14 c1 (by first | omega | (simp only [zl_0]; first | done | omega) | decide | assumption | rfl) (Nat.lt_succ_self _) ls _ _ (lv_sub hl [0, 1, 2, 3, 4, 5, 6, 7, 8, 9, 10, 11] rfl) hP hD hS
        · refine lv_iload hx hb dX2_weighRow_50 (lv_at hl 0 rfl) ?_
          refine kJi (wr := [(k, .inr (2, [.ref k0, .ref k1])), (k0, .inl (cI, 40, .inl g43_k0)), (k1, .inl (cI, 40, .inl c1)), (o, .inr (9, [.ref o0, .ref o1, .ref o2, .ref o3, .ref o4, .ref o5, .int d6, .int d7, .int d8])), (o1, .inl (cI, 40, .inl d1)), (y, .inr (6, [.ref y0, .ref y1, .ref y2])), (y1, .inl (cI, 4, .inl e1)), (y2, .inl (cI, 144, .inl e2)), (o5, .inr (3, [.ref o50, .int d51])), (o50, .inl (cI, 36, .inl d50))]) (va_runSN (As := [.int l43_11]) (rest := []) ⟨hx, hb, hml, hown, hT⟩ (c_X10_isMileG l D cI aK aV H.size l43_11) ⟨va_cnB 1 hT (gW_in mw_346) rfl rfl rfl (hN _ mw_938) (hT _ mw_1) (by decide +kernel) ⟨Nat.le_of_ble_eq_true rfl, Nat.le_of_ble_eq_true rfl⟩, hT _ mw_345, trivial⟩ (kStatX hK hP hD hN hXS hS hA [] rfl (by decide +kernel)) rfl rfl hl.1 rfl (lv_room (Nat.le_of_ble_eq_true rfl)) dX2_weighRow_52 ⟨Nat.le_of_ble_eq_true rfl, Nat.le_of_ble_eq_true rfl⟩) hP hD hS hA [] [0, 1, 2, 3, 4, 5, 6, 7, 8, 9] rfl rfl (by decide +kernel) (by decide +kernel) ?_
          clear hP hD hS
          intro r_53 u_55 H locs w_54 hP hD hS
          replace hP : va_P D vwCl [(k, .inr (2, [.ref k0, .ref k1])), (k0, .inl (cI, 40, .inl g43_k0)), (k1, .inl (cI, 40, .inl c1)), (o, .inr (9, [.ref o0, .ref o1, .ref o2, .ref o3, .ref o4, .ref o5, .int d6, .int d7, .int d8])), (o1, .inl (cI, 40, .inl d1)), (y, .inr (6, [.ref y0, .ref y1, .ref y2])), (y1, .inl (cI, 4, .inl e1)), (y2, .inl (cI, 144, .inl e2)), (o5, .inr (3, [.ref o50, .int d51])), (o50, .inl (cI, 36, .inl d50))] H := hP
          replace hD : va_D A [(k, .inr (2, [.ref k0, .ref k1])), (k0, .inl (cI, 40, .inl g43_k0)), (k1, .inl (cI, 40, .inl c1)), (o, .inr (9, [.ref o0, .ref o1, .ref o2, .ref o3, .ref o4, .ref o5, .int d6, .int d7, .int d8])), (o1, .inl (cI, 40, .inl d1)), (y, .inr (6, [.ref y0, .ref y1, .ref y2])), (y1, .inl (cI, 4, .inl e1)), (y2, .inl (cI, 144, .inl e2)), (o5, .inr (3, [.ref o50, .int d51])), (o50, .inl (cI, 36, .inl d50))] := hD
          rcases w_54 with ⟨hr_53, h_56, h_57⟩ | ⟨hr_53, h_58⟩
          · have h_56 : 0 ≤ l43_11.toInt := h_56
            have h_57 : l43_11.toInt ≤ 39 := h_57
            obtain rfl : r_53 = 1 := hr_53.trans (by decide +kernel)
            refine b_if_eq hx hb zl_1 (tgt := 117) dX2_weighRow_55 (by decide +kernel) (fun c_59 => by exfalso; omega) (fun c_59 => ?_)
            refine lv_aload_n hx hb dX2_weighRow_58 rfl (lv_at hl 7 rfl) ?_
            refine lv_iload_n hx hb dX2_weighRow_59 rfl (lv_at hl 8 rfl) ?_
            refine lv_iload hx hb dX2_weighRow_60 (lv_at hl 9 rfl) ?_
            refine lv_aload_n hx hb dX2_weighRow_62 rfl (lv_at hl 6 rfl) ?_
            refine va_get (D := D) (ci := 9) (v := .int d8) (C := RX9) (T := TX9) (N := 9) hx hb hT giX9 hown hK hP 3 rfl rfl 8 (by decide +kernel) (hT (Cond.fieldLink RX2 44 "DesertWire$World" "day" "I") mw_109) (fun _ h9 => h9) rfl dX2_weighRow_63 ?_
            refine lv_iload hx hb dX2_weighRow_66 (lv_at hl 1 rfl) ?_
            refine lv_iadd hx hb dX2_weighRow_68 ?_
            refine lv_topi (fun v_60 ev_60 => ?_)
            have lo_v_60 := k_lo v_60
            have hi_v_60 := k_hi v_60
            refine kJi (wr := [(k, .inr (2, [.ref k0, .ref k1])), (k0, .inl (cI, 40, .inl g43_k0)), (k1, .inl (cI, 40, .inl c1)), (o, .inr (9, [.ref o0, .ref o1, .ref o2, .ref o3, .ref o4, .ref o5, .int d6, .int d7, .int d8])), (o1, .inl (cI, 40, .inl d1)), (y, .inr (6, [.ref y0, .ref y1, .ref y2])), (y1, .inl (cI, 4, .inl e1)), (y2, .inl (cI, 144, .inl e2)), (o5, .inr (3, [.ref o50, .int d51])), (o50, .inl (cI, 36, .inl d50))]) (va_runSN (As := [.int v_60]) (rest := [.int a3, .int a2, .ref y]) ⟨hx, hb, hml, hown, hT⟩ (c_X10_monthOfG l D cI aK aV H.size v_60) ⟨va_cnB 1 hT (gW_in mw_636) rfl rfl rfl (hN _ mw_939) (hT _ mw_1) (by decide +kernel) ⟨Nat.le_of_ble_eq_true rfl, Nat.le_of_ble_eq_true rfl⟩, hT _ mw_635, trivial⟩ (kStatX hK hP hD hN hXS hS hA [] rfl (by decide +kernel)) rfl rfl hl.1 rfl (lv_room (Nat.le_of_ble_eq_true rfl)) dX2_weighRow_69 ⟨Nat.le_of_ble_eq_true rfl, Nat.le_of_ble_eq_true rfl⟩) hP hD hS hA [] [0, 1, 2, 3, 4, 5, 6, 7, 8, 9] rfl rfl (by decide +kernel) (by decide +kernel) ?_
            clear hP hD hS
            intro r_61 u_63 H locs w_62 hP hD hS
            replace hP : va_P D vwCl [(k, .inr (2, [.ref k0, .ref k1])), (k0, .inl (cI, 40, .inl g43_k0)), (k1, .inl (cI, 40, .inl c1)), (o, .inr (9, [.ref o0, .ref o1, .ref o2, .ref o3, .ref o4, .ref o5, .int d6, .int d7, .int d8])), (o1, .inl (cI, 40, .inl d1)), (y, .inr (6, [.ref y0, .ref y1, .ref y2])), (y1, .inl (cI, 4, .inl e1)), (y2, .inl (cI, 144, .inl e2)), (o5, .inr (3, [.ref o50, .int d51])), (o50, .inl (cI, 36, .inl d50))] H := hP
            replace hD : va_D A [(k, .inr (2, [.ref k0, .ref k1])), (k0, .inl (cI, 40, .inl g43_k0)), (k1, .inl (cI, 40, .inl c1)), (o, .inr (9, [.ref o0, .ref o1, .ref o2, .ref o3, .ref o4, .ref o5, .int d6, .int d7, .int d8])), (o1, .inl (cI, 40, .inl d1)), (y, .inr (6, [.ref y0, .ref y1, .ref y2])), (y1, .inl (cI, 4, .inl e1)), (y2, .inl (cI, 144, .inl e2)), (o5, .inr (3, [.ref o50, .int d51])), (o50, .inl (cI, 36, .inl d50))] := hD
            obtain ⟨h_64, h_65⟩ := w_62
            have h_64 : 0 ≤ r_61.toInt := h_64
            have h_65 : r_61.toInt ≤ 11 := h_65
            have lo_r_61 := k_lo r_61
            have hi_r_61 := k_hi r_61
            refine lv_iadd hx hb dX2_weighRow_72 ?_
            refine lv_topi (fun v_66 ev_66 => ?_)
            have lo_v_66 := k_lo v_66
            have hi_v_66 := k_hi v_66
            refine kJi (wr := [(k, .inr (2, [.ref k0, .ref k1])), (k0, .inl (cI, 40, .inl g43_k0)), (k1, .inl (cI, 40, .inl c1)), (o, .inr (9, [.ref o0, .ref o1, .ref o2, .ref o3, .ref o4, .ref o5, .int d6, .int d7, .int d8])), (o1, .inl (cI, 40, .inl d1)), (o5, .inr (3, [.ref o50, .int d51])), (o50, .inl (cI, 36, .inl d50))]) (va_runV (As := [.int a2, .int v_66]) (rest := []) ⟨hx, hb, hml, hown, hT⟩ (c_X6_numberAtG l D cI aK aV y y0 y1 y2 H.size e1 e2 a2 v_66 (by first | omega | decide | assumption | rfl)) (cwV 2 hT (gV_in mw_684 mw_940 mw_682 mw_683 mw_11) rfl rfl rfl (by decide +kernel) ⟨Nat.le_of_ble_eq_true rfl, Nat.le_of_ble_eq_true rfl⟩) (kRecvX (q0 := 5) (ci := 6) hK hP hD hN hXS hS hA rfl rfl [5, 6, 7] rfl (by decide +kernel)) rfl rfl hl.1 rfl (lv_room (Nat.le_of_ble_eq_true rfl)) dX2_weighRow_73 ⟨Nat.le_of_ble_eq_true rfl, Nat.le_of_ble_eq_true rfl⟩) hP hD hS hA [5, 6, 7] [0, 1, 2, 3, 4, 8, 9] rfl rfl (by decide +kernel) (by decide +kernel) ?_
            clear hP hD hS
            intro r_67 u_69 H locs w_68 hP hD hS
            replace hP : va_P D vwCl [(k, .inr (2, [.ref k0, .ref k1])), (k0, .inl (cI, 40, .inl g43_k0)), (k1, .inl (cI, 40, .inl c1)), (o, .inr (9, [.ref o0, .ref o1, .ref o2, .ref o3, .ref o4, .ref o5, .int d6, .int d7, .int d8])), (o1, .inl (cI, 40, .inl d1)), (o5, .inr (3, [.ref o50, .int d51])), (o50, .inl (cI, 36, .inl d50)), (y, .inr (6, [.ref y0, .ref y1, .ref y2])), (y1, .inl (cI, 4, .inl e1)), (y2, .inl (cI, 144, .inl e2))] H := hP
            replace hD : va_D A [(k, .inr (2, [.ref k0, .ref k1])), (k0, .inl (cI, 40, .inl g43_k0)), (k1, .inl (cI, 40, .inl c1)), (o, .inr (9, [.ref o0, .ref o1, .ref o2, .ref o3, .ref o4, .ref o5, .int d6, .int d7, .int d8])), (o1, .inl (cI, 40, .inl d1)), (o5, .inr (3, [.ref o50, .int d51])), (o50, .inl (cI, 36, .inl d50)), (y, .inr (6, [.ref y0, .ref y1, .ref y2])), (y1, .inl (cI, 4, .inl e1)), (y2, .inl (cI, 144, .inl e2))] := hD
            have h_70 := w_68
            have h_70 : r_67 = kNum e1 e2 a2 v_66 := h_70
            have lo_r_67 := k_lo r_67
            have hi_r_67 := k_hi r_67
            refine lv_istore (lv' := [(12, .int r_67), (11, .int l43_11), (10, .int l43_10), (9, .int r_7), (8, .int r_4), (7, .int r_1), (0, .ref k), (1, .ref o), (2, .ref y), (3, .int a2), (4, .int a3), (5, .int a4), (6, .int a5)]) hx hb dX2_weighRow_76 hl (by decide +kernel) rfl ?_
            clear hl
            intro ls hl
            refine lv_iload hx hb dX2_weighRow_78 (lv_at hl 2 rfl) ?_
            refine lv_aload_n hx hb dX2_weighRow_80 rfl (lv_at hl 7 rfl) ?_
            refine lv_iload hx hb dX2_weighRow_81 (lv_at hl 1 rfl) ?_
            refine kJi (wr := [(k, .inr (2, [.ref k0, .ref k1])), (k0, .inl (cI, 40, .inl g43_k0)), (k1, .inl (cI, 40, .inl c1)), (o5, .inr (3, [.ref o50, .int d51])), (o50, .inl (cI, 36, .inl d50)), (y, .inr (6, [.ref y0, .ref y1, .ref y2])), (y1, .inl (cI, 4, .inl e1)), (y2, .inl (cI, 144, .inl e2))]) (va_runV (As := [.int l43_11]) (rest := [.int l43_10]) ⟨hx, hb, hml, hown, hT⟩ (c_X9_soilOfG l D cI aK aV o o0 o1 o2 o3 o4 o5 H.size d6 d7 d8 d1 l43_11) (cwV 1 hT (gV_in mw_423 mw_941 mw_421 mw_422 mw_2) rfl rfl rfl (by decide +kernel) ⟨Nat.le_of_ble_eq_true rfl, Nat.le_of_ble_eq_true rfl⟩) (kRecvX (q0 := 3) (ci := 9) hK hP hD hN hXS hS hA rfl rfl [3, 4] rfl (by decide +kernel)) rfl rfl hl.1 rfl (lv_room (Nat.le_of_ble_eq_true rfl)) dX2_weighRow_83 ⟨Nat.le_of_ble_eq_true rfl, Nat.le_of_ble_eq_true rfl⟩) hP hD hS hA [3, 4] [0, 1, 2, 5, 6, 7, 8, 9] rfl rfl (by decide +kernel) (by decide +kernel) ?_
            clear hP hD hS
            intro r_71 u_73 H locs w_72 hP hD hS
            replace hP : va_P D vwCl [(k, .inr (2, [.ref k0, .ref k1])), (k0, .inl (cI, 40, .inl g43_k0)), (k1, .inl (cI, 40, .inl c1)), (o5, .inr (3, [.ref o50, .int d51])), (o50, .inl (cI, 36, .inl d50)), (y, .inr (6, [.ref y0, .ref y1, .ref y2])), (y1, .inl (cI, 4, .inl e1)), (y2, .inl (cI, 144, .inl e2)), (o, .inr (9, [.ref o0, .ref o1, .ref o2, .ref o3, .ref o4, .ref o5, .int d6, .int d7, .int d8])), (o1, .inl (cI, 40, .inl d1))] H := hP
            replace hD : va_D A [(k, .inr (2, [.ref k0, .ref k1])), (k0, .inl (cI, 40, .inl g43_k0)), (k1, .inl (cI, 40, .inl c1)), (o5, .inr (3, [.ref o50, .int d51])), (o50, .inl (cI, 36, .inl d50)), (y, .inr (6, [.ref y0, .ref y1, .ref y2])), (y1, .inl (cI, 4, .inl e1)), (y2, .inl (cI, 144, .inl e2)), (o, .inr (9, [.ref o0, .ref o1, .ref o2, .ref o3, .ref o4, .ref o5, .int d6, .int d7, .int d8])), (o1, .inl (cI, 40, .inl d1))] := hD
            have lo_r_71 := k_lo r_71
            have hi_r_71 := k_hi r_71
            refine lv_iload hx hb dX2_weighRow_86 (lv_at hl 0 rfl) ?_
            refine kJi (wr := [(k, .inr (2, [.ref k0, .ref k1])), (k0, .inl (cI, 40, .inl g43_k0)), (k1, .inl (cI, 40, .inl c1)), (o5, .inr (3, [.ref o50, .int d51])), (o50, .inl (cI, 36, .inl d50)), (y, .inr (6, [.ref y0, .ref y1, .ref y2])), (y1, .inl (cI, 4, .inl e1)), (y2, .inl (cI, 144, .inl e2)), (o, .inr (9, [.ref o0, .ref o1, .ref o2, .ref o3, .ref o4, .ref o5, .int d6, .int d7, .int d8])), (o1, .inl (cI, 40, .inl d1))]) (va_runSN (As := [.int r_71, .int r_67]) (rest := [.int l43_10]) ⟨hx, hb, hml, hown, hT⟩ (c_X10_effortInG l D cI aK aV H.size r_71 r_67) ⟨va_cnB 2 hT (gW_in mw_651) rfl rfl rfl (hN _ mw_942) (hT _ mw_1) (by decide +kernel) ⟨Nat.le_of_ble_eq_true rfl, Nat.le_of_ble_eq_true rfl⟩, hT _ mw_650, trivial⟩ (kStatX hK hP hD hN hXS hS hA [] rfl (by decide +kernel)) rfl rfl hl.1 rfl (lv_room (Nat.le_of_ble_eq_true rfl)) dX2_weighRow_88 ⟨Nat.le_of_ble_eq_true rfl, Nat.le_of_ble_eq_true rfl⟩) hP hD hS hA [] [0, 1, 2, 3, 4, 5, 6, 7, 8, 9] rfl rfl (by decide +kernel) (by decide +kernel) ?_
            clear hP hD hS
            intro r_74 u_76 H locs w_75 hP hD hS
            replace hP : va_P D vwCl [(k, .inr (2, [.ref k0, .ref k1])), (k0, .inl (cI, 40, .inl g43_k0)), (k1, .inl (cI, 40, .inl c1)), (o5, .inr (3, [.ref o50, .int d51])), (o50, .inl (cI, 36, .inl d50)), (y, .inr (6, [.ref y0, .ref y1, .ref y2])), (y1, .inl (cI, 4, .inl e1)), (y2, .inl (cI, 144, .inl e2)), (o, .inr (9, [.ref o0, .ref o1, .ref o2, .ref o3, .ref o4, .ref o5, .int d6, .int d7, .int d8])), (o1, .inl (cI, 40, .inl d1))] H := hP
            replace hD : va_D A [(k, .inr (2, [.ref k0, .ref k1])), (k0, .inl (cI, 40, .inl g43_k0)), (k1, .inl (cI, 40, .inl c1)), (o5, .inr (3, [.ref o50, .int d51])), (o50, .inl (cI, 36, .inl d50)), (y, .inr (6, [.ref y0, .ref y1, .ref y2])), (y1, .inl (cI, 4, .inl e1)), (y2, .inl (cI, 144, .inl e2)), (o, .inr (9, [.ref o0, .ref o1, .ref o2, .ref o3, .ref o4, .ref o5, .int d6, .int d7, .int d8])), (o1, .inl (cI, 40, .inl d1))] := hD
            have lo_r_74 := k_lo r_74
            have hi_r_74 := k_hi r_74
            refine lv_iload hx hb dX2_weighRow_91 (lv_at hl 3 rfl) ?_
            refine kJi (wr := [(k, .inr (2, [.ref k0, .ref k1])), (k0, .inl (cI, 40, .inl g43_k0)), (k1, .inl (cI, 40, .inl c1)), (o5, .inr (3, [.ref o50, .int d51])), (o50, .inl (cI, 36, .inl d50)), (y, .inr (6, [.ref y0, .ref y1, .ref y2])), (y1, .inl (cI, 4, .inl e1)), (y2, .inl (cI, 144, .inl e2)), (o, .inr (9, [.ref o0, .ref o1, .ref o2, .ref o3, .ref o4, .ref o5, .int d6, .int d7, .int d8])), (o1, .inl (cI, 40, .inl d1))]) (va_runS (As := [.int r_74, .int r_7]) (rest := [.int l43_10]) ⟨hx, hb, hml, hown, hT⟩ (c_X2_daysOfG l D cI aK aV H.size r_74 r_7) (cwS 2 hT (gS_in mw_945 mw_943 mw_944 mw_9) rfl rfl rfl (by decide +kernel) ⟨Nat.le_of_ble_eq_true rfl, Nat.le_of_ble_eq_true rfl⟩) (kStatX hK hP hD hN hXS hS hA [] rfl (by decide +kernel)) rfl rfl hl.1 rfl (lv_room (Nat.le_of_ble_eq_true rfl)) dX2_weighRow_93 ⟨Nat.le_of_ble_eq_true rfl, Nat.le_of_ble_eq_true rfl⟩) hP hD hS hA [] [0, 1, 2, 3, 4, 5, 6, 7, 8, 9] rfl rfl (by decide +kernel) (by decide +kernel) ?_
            clear hP hD hS
            intro r_77 u_79 H locs w_78 hP hD hS
            replace hP : va_P D vwCl [(k, .inr (2, [.ref k0, .ref k1])), (k0, .inl (cI, 40, .inl g43_k0)), (k1, .inl (cI, 40, .inl c1)), (o5, .inr (3, [.ref o50, .int d51])), (o50, .inl (cI, 36, .inl d50)), (y, .inr (6, [.ref y0, .ref y1, .ref y2])), (y1, .inl (cI, 4, .inl e1)), (y2, .inl (cI, 144, .inl e2)), (o, .inr (9, [.ref o0, .ref o1, .ref o2, .ref o3, .ref o4, .ref o5, .int d6, .int d7, .int d8])), (o1, .inl (cI, 40, .inl d1))] H := hP
            replace hD : va_D A [(k, .inr (2, [.ref k0, .ref k1])), (k0, .inl (cI, 40, .inl g43_k0)), (k1, .inl (cI, 40, .inl c1)), (o5, .inr (3, [.ref o50, .int d51])), (o50, .inl (cI, 36, .inl d50)), (y, .inr (6, [.ref y0, .ref y1, .ref y2])), (y1, .inl (cI, 4, .inl e1)), (y2, .inl (cI, 144, .inl e2)), (o, .inr (9, [.ref o0, .ref o1, .ref o2, .ref o3, .ref o4, .ref o5, .int d6, .int d7, .int d8])), (o1, .inl (cI, 40, .inl d1))] := hD
            have lo_r_77 := k_lo r_77
            have hi_r_77 := k_hi r_77
            refine lv_iadd hx hb dX2_weighRow_96 ?_
            refine lv_topi (fun v_80 ev_80 => ?_)
            have lo_v_80 := k_lo v_80
            have hi_v_80 := k_hi v_80
            refine lv_istore (lv' := [(10, .int v_80), (12, .int r_67), (11, .int l43_11), (9, .int r_7), (8, .int r_4), (7, .int r_1), (0, .ref k), (1, .ref o), (2, .ref y), (3, .int a2), (4, .int a3), (5, .int a4), (6, .int a5)]) hx hb dX2_weighRow_97 hl (by decide +kernel) rfl ?_
            clear hl
            intro ls hl
            refine lv_aload_n hx hb dX2_weighRow_99 rfl (lv_at hl 6 rfl) ?_
            refine va_get (D := D) (ci := 2) (v := .ref k0) (C := RX2) (T := TX2) (N := 2) hx hb hT giX2 hown hK hP 0 rfl rfl 0 (by decide +kernel) (hT (Cond.fieldLink RX2 9 "DesertWire$Meetings" "done" "[I") mw_245) (fun _ h9 => h9) rfl dX2_weighRow_100 ?_
            refine lv_iload hx hb dX2_weighRow_103 (lv_at hl 2 rfl) ?_
            refine lv_iload hx hb dX2_weighRow_105 (lv_at hl 0 rfl) ?_
            refine va_iast hx hb hK hP hD hS 1 0 rfl rfl (k_in (by omega) (by omega)) dX2_weighRow_107 ?_
            clear hP hD hS
            intro H locs hP hD hS
            replace hP : va_P D vwCl [(k, .inr (2, [.ref k0, .ref k1])), (k0, .inl (cI, 40, .inl (upd g43_k0 l43_11.toNatClampNeg v_80))), (k1, .inl (cI, 40, .inl c1)), (o5, .inr (3, [.ref o50, .int d51])), (o50, .inl (cI, 36, .inl d50)), (y, .inr (6, [.ref y0, .ref y1, .ref y2])), (y1, .inl (cI, 4, .inl e1)), (y2, .inl (cI, 144, .inl e2)), (o, .inr (9, [.ref o0, .ref o1, .ref o2, .ref o3, .ref o4, .ref o5, .int d6, .int d7, .int d8])), (o1, .inl (cI, 40, .inl d1))] H := hP
            replace hD : va_D A [(k, .inr (2, [.ref k0, .ref k1])), (k0, .inl (cI, 40, .inl (upd g43_k0 l43_11.toNatClampNeg v_80))), (k1, .inl (cI, 40, .inl c1)), (o5, .inr (3, [.ref o50, .int d51])), (o50, .inl (cI, 36, .inl d50)), (y, .inr (6, [.ref y0, .ref y1, .ref y2])), (y1, .inl (cI, 4, .inl e1)), (y2, .inl (cI, 144, .inl e2)), (o, .inr (9, [.ref o0, .ref o1, .ref o2, .ref o3, .ref o4, .ref o5, .int d6, .int d7, .int d8])), (o1, .inl (cI, 40, .inl d1))] := hD
            obtain ⟨f_81, ef_81⟩ : ∃ g : Nat → Int32, g = upd g43_k0 l43_11.toNatClampNeg v_80 := ⟨_, rfl⟩
            rw [← ef_81] at hP hD
            obtain ⟨v_82, ev_82⟩ : ∃ y : Int32, y = v_80 + 1 := ⟨_, rfl⟩
            have lo_v_82 := k_lo v_82
            have hi_v_82 := k_hi v_82
            refine lv_iinc (v := v_82) (lv' := [(10, .int v_82), (12, .int r_67), (11, .int l43_11), (9, .int r_7), (8, .int r_4), (7, .int r_1), (0, .ref k), (1, .ref o), (2, .ref y), (3, .int a2), (4, .int a3), (5, .int a4), (6, .int a5)]) hx hb dX2_weighRow_108 hl (k := 0) rfl (by rw [ev_82]; rfl) (by decide +kernel) rfl ?_
            clear hl
            intro ls hl
            obtain ⟨v_83, ev_83⟩ : ∃ y : Int32, y = l43_11 + 1 := ⟨_, rfl⟩
            have tv_83 : v_83.toInt = l43_11.toInt + 1 := by rw [ev_83]; exact k_addv rfl zl_1 (by omega) (by omega)
            refine lv_iinc (v := v_83) (lv' := [(11, .int v_83), (10, .int v_82), (12, .int r_67), (9, .int r_7), (8, .int r_4), (7, .int r_1), (0, .ref k), (1, .ref o), (2, .ref y), (3, .int a2), (4, .int a3), (5, .int a4), (6, .int a5)]) hx hb dX2_weighRow_111 hl (k := 2) rfl (by rw [ev_83]; rfl) (by decide +kernel) rfl ?_
            clear hl
            intro ls hl
            refine lv_goto (tgt := 43) hx hb dX2_weighRow_114 (by decide +kernel) ?_
            exact ih43 v_82 v_83 f_81 (by first | omega | decide | assumption | rfl) (by omega) ls _ _ (lv_sub hl [0, 1, 3, 4, 5, 6, 7, 8, 9, 10, 11, 12] rfl) (hP.sub [0, 1, 2, 8, 9, 5, 6, 7, 3, 4] rfl) (hD.sub [0, 1, 2, 8, 9, 5, 6, 7, 3, 4] (by decide +kernel) rfl) hS
          · have h_58 : l43_11.toInt < 0 ∨ 39 < l43_11.toInt := h_58
            obtain rfl : r_53 = 0 := hr_53.trans (by decide +kernel)
            refine b_if_eq hx hb zl_0 (tgt := 117) dX2_weighRow_55 (by decide +kernel) (fun c_84 => ?_) (fun c_84 => by exfalso; omega)
            refine lv_aload_n hx hb dX2_weighRow_117 rfl (lv_at hl 6 rfl) ?_
            refine va_get (D := D) (ci := 9) (v := .ref o5) (C := RX9) (T := TX9) (N := 9) hx hb hT giX9 hown hK hP 3 rfl rfl 5 (by decide +kernel) (hT (Cond.fieldLink RX2 28 "DesertWire$World" "parties" "LDesertWire$Parties;") mw_101) (fun _ h9 => h9) rfl dX2_weighRow_118 ?_
            refine lv_iload hx hb dX2_weighRow_121 (lv_at hl 11 rfl) ?_
            refine lv_iconst (v := 2) hx hb dX2_weighRow_123 (by decide +kernel) ?_
            refine kJi (wr := [(k, .inr (2, [.ref k0, .ref k1])), (k0, .inl (cI, 40, .inl g43_k0)), (k1, .inl (cI, 40, .inl c1)), (o, .inr (9, [.ref o0, .ref o1, .ref o2, .ref o3, .ref o4, .ref o5, .int d6, .int d7, .int d8])), (o1, .inl (cI, 40, .inl d1)), (y, .inr (6, [.ref y0, .ref y1, .ref y2])), (y1, .inl (cI, 4, .inl e1)), (y2, .inl (cI, 144, .inl e2))]) (va_runV (As := [.int a5, .int 2]) (rest := []) ⟨hx, hb, hml, hown, hT⟩ (c_X3_getG l D cI aK aV o5 o50 H.size d51 d50 a5 2) (cwV 2 hT (gV_in mw_726 mw_937 mw_724 mw_725 mw_4) rfl rfl rfl (by decide +kernel) ⟨Nat.le_of_ble_eq_true rfl, Nat.le_of_ble_eq_true rfl⟩) (kRecvX (q0 := 8) (ci := 3) hK hP hD hN hXS hS hA rfl rfl [8, 9] rfl (by decide +kernel)) rfl rfl hl.1 rfl (lv_room (Nat.le_of_ble_eq_true rfl)) dX2_weighRow_124 ⟨Nat.le_of_ble_eq_true rfl, Nat.le_of_ble_eq_true rfl⟩) hP hD hS hA [8, 9] [0, 1, 2, 3, 4, 5, 6, 7] rfl rfl (by decide +kernel) (by decide +kernel) ?_
            clear hP hD hS
            intro r_85 u_87 H locs w_86 hP hD hS
            replace hP : va_P D vwCl [(k, .inr (2, [.ref k0, .ref k1])), (k0, .inl (cI, 40, .inl g43_k0)), (k1, .inl (cI, 40, .inl c1)), (o, .inr (9, [.ref o0, .ref o1, .ref o2, .ref o3, .ref o4, .ref o5, .int d6, .int d7, .int d8])), (o1, .inl (cI, 40, .inl d1)), (y, .inr (6, [.ref y0, .ref y1, .ref y2])), (y1, .inl (cI, 4, .inl e1)), (y2, .inl (cI, 144, .inl e2)), (o5, .inr (3, [.ref o50, .int d51])), (o50, .inl (cI, 36, .inl d50))] H := hP
            replace hD : va_D A [(k, .inr (2, [.ref k0, .ref k1])), (k0, .inl (cI, 40, .inl g43_k0)), (k1, .inl (cI, 40, .inl c1)), (o, .inr (9, [.ref o0, .ref o1, .ref o2, .ref o3, .ref o4, .ref o5, .int d6, .int d7, .int d8])), (o1, .inl (cI, 40, .inl d1)), (y, .inr (6, [.ref y0, .ref y1, .ref y2])), (y1, .inl (cI, 4, .inl e1)), (y2, .inl (cI, 144, .inl e2)), (o5, .inr (3, [.ref o50, .int d51])), (o50, .inl (cI, 36, .inl d50))] := hD
            have lo_r_85 := k_lo r_85
            have hi_r_85 := k_hi r_85
            refine lv_istore (lv' := [(9, .int r_85), (11, .int l43_11), (10, .int l43_10), (8, .int r_4), (7, .int r_1), (0, .ref k), (1, .ref o), (2, .ref y), (3, .int a2), (4, .int a3), (5, .int a4), (6, .int a5)]) hx hb dX2_weighRow_127 hl (by decide +kernel) rfl ?_
            clear hl
            intro ls hl
            refine lv_iconst (v := 0) hx hb dX2_weighRow_129 (by decide +kernel) ?_
            refine lv_istore (lv' := [(10, .int 0), (9, .int r_85), (11, .int l43_11), (8, .int r_4), (7, .int r_1), (0, .ref k), (1, .ref o), (2, .ref y), (3, .int a2), (4, .int a3), (5, .int a4), (6, .int a5)]) hx hb dX2_weighRow_130 hl (by decide +kernel) rfl ?_
            clear hl
            intro ls hl
            refine lv_iload hx hb dX2_weighRow_132 (lv_at hl 3 rfl) ?_
            refine lv_iconst (v := 1) hx hb dX2_weighRow_134 (by decide +kernel) ?_
            refine lv_isub hx hb dX2_weighRow_135 ?_
            refine lv_topi (fun v_88 ev_88 => ?_)
            have tv_88 : v_88.toInt = r_4.toInt - 1 := by rw [ev_88]; exact k_subv rfl zl_1 (by omega) (by omega)
            refine lv_istore (lv' := [(11, .int v_88), (10, .int 0), (9, .int r_85), (8, .int r_4), (7, .int r_1), (0, .ref k), (1, .ref o), (2, .ref y), (3, .int a2), (4, .int a3), (5, .int a4), (6, .int a5)]) hx hb dX2_weighRow_136 hl (by decide +kernel) rfl ?_
            clear hl
            intro ls hl
            have hloop_138 : ∀ (fu_ : Nat) (l138_10 : Int32) (l138_11 : Int32) (g138_k1 : Nat → Int32), l138_11.toInt ≤ v_88.toInt → (l138_11.toInt + 1 - r_1.toInt).toNat < fu_ → ∀ (ls : Array Slot) (H : Heap) (locs : List Loc), lv_has ls 13 [(11, .int l138_11), (10, .int l138_10), (9, .int r_85), (8, .int r_4), (7, .int r_1), (0, .ref k), (1, .ref o), (2, .ref y), (3, .int a2), (4, .int a3), (5, .int a4), (6, .int a5)] → va_P D vwCl [(k, .inr (2, [.ref k0, .ref k1])), (k0, .inl (cI, 40, .inl g43_k0)), (k1, .inl (cI, 40, .inl g138_k1)), (o, .inr (9, [.ref o0, .ref o1, .ref o2, .ref o3, .ref o4, .ref o5, .int d6, .int d7, .int d8])), (o1, .inl (cI, 40, .inl d1)), (y, .inr (6, [.ref y0, .ref y1, .ref y2])), (y1, .inl (cI, 4, .inl e1)), (y2, .inl (cI, 144, .inl e2)), (o5, .inr (3, [.ref o50, .int d51])), (o50, .inl (cI, 36, .inl d50))] H → va_D A [(k, .inr (2, [.ref k0, .ref k1])), (k0, .inl (cI, 40, .inl g43_k0)), (k1, .inl (cI, 40, .inl g138_k1)), (o, .inr (9, [.ref o0, .ref o1, .ref o2, .ref o3, .ref o4, .ref o5, .int d6, .int d7, .int d8])), (o1, .inl (cI, 40, .inl d1)), (y, .inr (6, [.ref y0, .ref y1, .ref y2])), (y1, .inl (cI, 4, .inl e1)), (y2, .inl (cI, 144, .inl e2)), (o5, .inr (3, [.ref o50, .int d51])), (o50, .inl (cI, 36, .inl d50))] → va_S A s.heap H locs → W p l e ({ frames := 4, cells := 0, slots := 0, locals := 85 } : Room) s m args below meth c H locs 0 0 Q (F0 m 138 ls []) := by
              intro fu_; induction fu_ with
              | zero => intro l138_10 l138_11 g138_k1 i138_0 hm; exact absurd hm (by omega)
              | succ fu_ ih138 =>
                  intro l138_10 l138_11 g138_k1 i138_0 hm ls H locs hl hP hD hS
                  have lo_l138_10 := k_lo l138_10
                  have hi_l138_10 := k_hi l138_10
                  have lo_l138_11 := k_lo l138_11
                  have hi_l138_11 := k_hi l138_11
                  refine lv_iload hx hb dX2_weighRow_138 (lv_at hl 0 rfl) ?_
                  refine lv_iload hx hb dX2_weighRow_140 (lv_at hl 4 rfl) ?_
                  refine b_icmp_lt hx hb rfl rfl (tgt := 234) dX2_weighRow_142 (by decide +kernel) (fun c_89 => ?_) (fun c_89 => ?_)
                  · exact hRet (g43_k0, g138_k1) [0, 1, 2, 3, 4, 8, 9, 5, 6, 7] trivial hP hD (by decide +kernel) rfl hS dX2_weighRow_234
                  · refine lv_iload hx hb dX2_weighRow_145 (lv_at hl 0 rfl) ?_
                    refine kJi (wr := [(k, .inr (2, [.ref k0, .ref k1])), (k0, .inl (cI, 40, .inl g43_k0)), (k1, .inl (cI, 40, .inl g138_k1)), (o, .inr (9, [.ref o0, .ref o1, .ref o2, .ref o3, .ref o4, .ref o5, .int d6, .int d7, .int d8])), (o1, .inl (cI, 40, .inl d1)), (y, .inr (6, [.ref y0, .ref y1, .ref y2])), (y1, .inl (cI, 4, .inl e1)), (y2, .inl (cI, 144, .inl e2)), (o5, .inr (3, [.ref o50, .int d51])), (o50, .inl (cI, 36, .inl d50))]) (va_runSN (As := [.int l138_11]) (rest := []) ⟨hx, hb, hml, hown, hT⟩ (c_X10_isMileG l D cI aK aV H.size l138_11) ⟨va_cnB 1 hT (gW_in mw_346) rfl rfl rfl (hN _ mw_938) (hT _ mw_1) (by decide +kernel) ⟨Nat.le_of_ble_eq_true rfl, Nat.le_of_ble_eq_true rfl⟩, hT _ mw_345, trivial⟩ (kStatX hK hP hD hN hXS hS hA [] rfl (by decide +kernel)) rfl rfl hl.1 rfl (lv_room (Nat.le_of_ble_eq_true rfl)) dX2_weighRow_147 ⟨Nat.le_of_ble_eq_true rfl, Nat.le_of_ble_eq_true rfl⟩) hP hD hS hA [] [0, 1, 2, 3, 4, 5, 6, 7, 8, 9] rfl rfl (by decide +kernel) (by decide +kernel) ?_
                    clear hP hD hS
                    intro r_90 u_92 H locs w_91 hP hD hS
                    replace hP : va_P D vwCl [(k, .inr (2, [.ref k0, .ref k1])), (k0, .inl (cI, 40, .inl g43_k0)), (k1, .inl (cI, 40, .inl g138_k1)), (o, .inr (9, [.ref o0, .ref o1, .ref o2, .ref o3, .ref o4, .ref o5, .int d6, .int d7, .int d8])), (o1, .inl (cI, 40, .inl d1)), (y, .inr (6, [.ref y0, .ref y1, .ref y2])), (y1, .inl (cI, 4, .inl e1)), (y2, .inl (cI, 144, .inl e2)), (o5, .inr (3, [.ref o50, .int d51])), (o50, .inl (cI, 36, .inl d50))] H := hP
                    replace hD : va_D A [(k, .inr (2, [.ref k0, .ref k1])), (k0, .inl (cI, 40, .inl g43_k0)), (k1, .inl (cI, 40, .inl g138_k1)), (o, .inr (9, [.ref o0, .ref o1, .ref o2, .ref o3, .ref o4, .ref o5, .int d6, .int d7, .int d8])), (o1, .inl (cI, 40, .inl d1)), (y, .inr (6, [.ref y0, .ref y1, .ref y2])), (y1, .inl (cI, 4, .inl e1)), (y2, .inl (cI, 144, .inl e2)), (o5, .inr (3, [.ref o50, .int d51])), (o50, .inl (cI, 36, .inl d50))] := hD
                    rcases w_91 with ⟨hr_90, h_93, h_94⟩ | ⟨hr_90, h_95⟩
                    · have h_93 : 0 ≤ l138_11.toInt := h_93
                      have h_94 : l138_11.toInt ≤ 39 := h_94
                      obtain rfl : r_90 = 1 := hr_90.trans (by decide +kernel)
                      refine b_if_eq hx hb zl_1 (tgt := 234) dX2_weighRow_150 (by decide +kernel) (fun c_96 => by exfalso; omega) (fun c_96 => ?_)
                      refine lv_aload_n hx hb dX2_weighRow_153 rfl (lv_at hl 7 rfl) ?_
                      refine lv_iload_n hx hb dX2_weighRow_154 rfl (lv_at hl 8 rfl) ?_
                      refine lv_iload hx hb dX2_weighRow_155 (lv_at hl 9 rfl) ?_
                      refine lv_aload_n hx hb dX2_weighRow_157 rfl (lv_at hl 6 rfl) ?_
                      refine va_get (D := D) (ci := 9) (v := .int d8) (C := RX9) (T := TX9) (N := 9) hx hb hT giX9 hown hK hP 3 rfl rfl 8 (by decide +kernel) (hT (Cond.fieldLink RX2 44 "DesertWire$World" "day" "I") mw_109) (fun _ h9 => h9) rfl dX2_weighRow_158 ?_
                      refine lv_iload hx hb dX2_weighRow_161 (lv_at hl 1 rfl) ?_
                      refine lv_iadd hx hb dX2_weighRow_163 ?_
                      refine lv_topi (fun v_97 ev_97 => ?_)
                      have lo_v_97 := k_lo v_97
                      have hi_v_97 := k_hi v_97
                      refine kJi (wr := [(k, .inr (2, [.ref k0, .ref k1])), (k0, .inl (cI, 40, .inl g43_k0)), (k1, .inl (cI, 40, .inl g138_k1)), (o, .inr (9, [.ref o0, .ref o1, .ref o2, .ref o3, .ref o4, .ref o5, .int d6, .int d7, .int d8])), (o1, .inl (cI, 40, .inl d1)), (y, .inr (6, [.ref y0, .ref y1, .ref y2])), (y1, .inl (cI, 4, .inl e1)), (y2, .inl (cI, 144, .inl e2)), (o5, .inr (3, [.ref o50, .int d51])), (o50, .inl (cI, 36, .inl d50))]) (va_runSN (As := [.int v_97]) (rest := [.int a3, .int a2, .ref y]) ⟨hx, hb, hml, hown, hT⟩ (c_X10_monthOfG l D cI aK aV H.size v_97) ⟨va_cnB 1 hT (gW_in mw_636) rfl rfl rfl (hN _ mw_939) (hT _ mw_1) (by decide +kernel) ⟨Nat.le_of_ble_eq_true rfl, Nat.le_of_ble_eq_true rfl⟩, hT _ mw_635, trivial⟩ (kStatX hK hP hD hN hXS hS hA [] rfl (by decide +kernel)) rfl rfl hl.1 rfl (lv_room (Nat.le_of_ble_eq_true rfl)) dX2_weighRow_164 ⟨Nat.le_of_ble_eq_true rfl, Nat.le_of_ble_eq_true rfl⟩) hP hD hS hA [] [0, 1, 2, 3, 4, 5, 6, 7, 8, 9] rfl rfl (by decide +kernel) (by decide +kernel) ?_
                      clear hP hD hS
                      intro r_98 u_100 H locs w_99 hP hD hS
                      replace hP : va_P D vwCl [(k, .inr (2, [.ref k0, .ref k1])), (k0, .inl (cI, 40, .inl g43_k0)), (k1, .inl (cI, 40, .inl g138_k1)), (o, .inr (9, [.ref o0, .ref o1, .ref o2, .ref o3, .ref o4, .ref o5, .int d6, .int d7, .int d8])), (o1, .inl (cI, 40, .inl d1)), (y, .inr (6, [.ref y0, .ref y1, .ref y2])), (y1, .inl (cI, 4, .inl e1)), (y2, .inl (cI, 144, .inl e2)), (o5, .inr (3, [.ref o50, .int d51])), (o50, .inl (cI, 36, .inl d50))] H := hP
                      replace hD : va_D A [(k, .inr (2, [.ref k0, .ref k1])), (k0, .inl (cI, 40, .inl g43_k0)), (k1, .inl (cI, 40, .inl g138_k1)), (o, .inr (9, [.ref o0, .ref o1, .ref o2, .ref o3, .ref o4, .ref o5, .int d6, .int d7, .int d8])), (o1, .inl (cI, 40, .inl d1)), (y, .inr (6, [.ref y0, .ref y1, .ref y2])), (y1, .inl (cI, 4, .inl e1)), (y2, .inl (cI, 144, .inl e2)), (o5, .inr (3, [.ref o50, .int d51])), (o50, .inl (cI, 36, .inl d50))] := hD
                      obtain ⟨h_101, h_102⟩ := w_99
                      have h_101 : 0 ≤ r_98.toInt := h_101
                      have h_102 : r_98.toInt ≤ 11 := h_102
                      have lo_r_98 := k_lo r_98
                      have hi_r_98 := k_hi r_98
                      refine lv_iadd hx hb dX2_weighRow_167 ?_
                      refine lv_topi (fun v_103 ev_103 => ?_)
                      have lo_v_103 := k_lo v_103
                      have hi_v_103 := k_hi v_103
                      refine kJi (wr := [(k, .inr (2, [.ref k0, .ref k1])), (k0, .inl (cI, 40, .inl g43_k0)), (k1, .inl (cI, 40, .inl g138_k1)), (o, .inr (9, [.ref o0, .ref o1, .ref o2, .ref o3, .ref o4, .ref o5, .int d6, .int d7, .int d8])), (o1, .inl (cI, 40, .inl d1)), (o5, .inr (3, [.ref o50, .int d51])), (o50, .inl (cI, 36, .inl d50))]) (va_runV (As := [.int a2, .int v_103]) (rest := []) ⟨hx, hb, hml, hown, hT⟩ (c_X6_numberAtG l D cI aK aV y y0 y1 y2 H.size e1 e2 a2 v_103 (by first | omega | decide | assumption | rfl)) (cwV 2 hT (gV_in mw_684 mw_940 mw_682 mw_683 mw_11) rfl rfl rfl (by decide +kernel) ⟨Nat.le_of_ble_eq_true rfl, Nat.le_of_ble_eq_true rfl⟩) (kRecvX (q0 := 5) (ci := 6) hK hP hD hN hXS hS hA rfl rfl [5, 6, 7] rfl (by decide +kernel)) rfl rfl hl.1 rfl (lv_room (Nat.le_of_ble_eq_true rfl)) dX2_weighRow_168 ⟨Nat.le_of_ble_eq_true rfl, Nat.le_of_ble_eq_true rfl⟩) hP hD hS hA [5, 6, 7] [0, 1, 2, 3, 4, 8, 9] rfl rfl (by decide +kernel) (by decide +kernel) ?_
                      clear hP hD hS
                      intro r_104 u_106 H locs w_105 hP hD hS
                      replace hP : va_P D vwCl [(k, .inr (2, [.ref k0, .ref k1])), (k0, .inl (cI, 40, .inl g43_k0)), (k1, .inl (cI, 40, .inl g138_k1)), (o, .inr (9, [.ref o0, .ref o1, .ref o2, .ref o3, .ref o4, .ref o5, .int d6, .int d7, .int d8])), (o1, .inl (cI, 40, .inl d1)), (o5, .inr (3, [.ref o50, .int d51])), (o50, .inl (cI, 36, .inl d50)), (y, .inr (6, [.ref y0, .ref y1, .ref y2])), (y1, .inl (cI, 4, .inl e1)), (y2, .inl (cI, 144, .inl e2))] H := hP
                      replace hD : va_D A [(k, .inr (2, [.ref k0, .ref k1])), (k0, .inl (cI, 40, .inl g43_k0)), (k1, .inl (cI, 40, .inl g138_k1)), (o, .inr (9, [.ref o0, .ref o1, .ref o2, .ref o3, .ref o4, .ref o5, .int d6, .int d7, .int d8])), (o1, .inl (cI, 40, .inl d1)), (o5, .inr (3, [.ref o50, .int d51])), (o50, .inl (cI, 36, .inl d50)), (y, .inr (6, [.ref y0, .ref y1, .ref y2])), (y1, .inl (cI, 4, .inl e1)), (y2, .inl (cI, 144, .inl e2))] := hD
                      have h_107 := w_105
                      have h_107 : r_104 = kNum e1 e2 a2 v_103 := h_107
                      have lo_r_104 := k_lo r_104
                      have hi_r_104 := k_hi r_104
                      refine lv_istore (lv' := [(12, .int r_104), (11, .int l138_11), (10, .int l138_10), (9, .int r_85), (8, .int r_4), (7, .int r_1), (0, .ref k), (1, .ref o), (2, .ref y), (3, .int a2), (4, .int a3), (5, .int a4), (6, .int a5)]) hx hb dX2_weighRow_171 hl (by decide +kernel) rfl ?_
                      clear hl
                      intro ls hl
                      refine lv_iload hx hb dX2_weighRow_173 (lv_at hl 2 rfl) ?_
                      refine lv_aload_n hx hb dX2_weighRow_175 rfl (lv_at hl 7 rfl) ?_
                      refine lv_iload hx hb dX2_weighRow_176 (lv_at hl 1 rfl) ?_
                      refine lv_iconst (v := 1) hx hb dX2_weighRow_178 (by decide +kernel) ?_
                      refine lv_iadd hx hb dX2_weighRow_179 ?_
                      refine lv_topi (fun v_108 ev_108 => ?_)
                      have tv_108 : v_108.toInt = l138_11.toInt + 1 := by rw [ev_108]; exact k_addv rfl zl_1 (by omega) (by omega)
                      refine kJi (wr := [(k, .inr (2, [.ref k0, .ref k1])), (k0, .inl (cI, 40, .inl g43_k0)), (k1, .inl (cI, 40, .inl g138_k1)), (o5, .inr (3, [.ref o50, .int d51])), (o50, .inl (cI, 36, .inl d50)), (y, .inr (6, [.ref y0, .ref y1, .ref y2])), (y1, .inl (cI, 4, .inl e1)), (y2, .inl (cI, 144, .inl e2))]) (va_runV (As := [.int v_108]) (rest := [.int l138_10]) ⟨hx, hb, hml, hown, hT⟩ (c_X9_soilOfG l D cI aK aV o o0 o1 o2 o3 o4 o5 H.size d6 d7 d8 d1 v_108) (cwV 1 hT (gV_in mw_423 mw_941 mw_421 mw_422 mw_2) rfl rfl rfl (by decide +kernel) ⟨Nat.le_of_ble_eq_true rfl, Nat.le_of_ble_eq_true rfl⟩) (kRecvX (q0 := 3) (ci := 9) hK hP hD hN hXS hS hA rfl rfl [3, 4] rfl (by decide +kernel)) rfl rfl hl.1 rfl (lv_room (Nat.le_of_ble_eq_true rfl)) dX2_weighRow_180 ⟨Nat.le_of_ble_eq_true rfl, Nat.le_of_ble_eq_true rfl⟩) hP hD hS hA [3, 4] [0, 1, 2, 5, 6, 7, 8, 9] rfl rfl (by decide +kernel) (by decide +kernel) ?_
                      clear hP hD hS
                      intro r_109 u_111 H locs w_110 hP hD hS
                      replace hP : va_P D vwCl [(k, .inr (2, [.ref k0, .ref k1])), (k0, .inl (cI, 40, .inl g43_k0)), (k1, .inl (cI, 40, .inl g138_k1)), (o5, .inr (3, [.ref o50, .int d51])), (o50, .inl (cI, 36, .inl d50)), (y, .inr (6, [.ref y0, .ref y1, .ref y2])), (y1, .inl (cI, 4, .inl e1)), (y2, .inl (cI, 144, .inl e2)), (o, .inr (9, [.ref o0, .ref o1, .ref o2, .ref o3, .ref o4, .ref o5, .int d6, .int d7, .int d8])), (o1, .inl (cI, 40, .inl d1))] H := hP
                      replace hD : va_D A [(k, .inr (2, [.ref k0, .ref k1])), (k0, .inl (cI, 40, .inl g43_k0)), (k1, .inl (cI, 40, .inl g138_k1)), (o5, .inr (3, [.ref o50, .int d51])), (o50, .inl (cI, 36, .inl d50)), (y, .inr (6, [.ref y0, .ref y1, .ref y2])), (y1, .inl (cI, 4, .inl e1)), (y2, .inl (cI, 144, .inl e2)), (o, .inr (9, [.ref o0, .ref o1, .ref o2, .ref o3, .ref o4, .ref o5, .int d6, .int d7, .int d8])), (o1, .inl (cI, 40, .inl d1))] := hD
                      have lo_r_109 := k_lo r_109
                      have hi_r_109 := k_hi r_109
                      refine lv_iload hx hb dX2_weighRow_183 (lv_at hl 0 rfl) ?_
                      refine kJi (wr := [(k, .inr (2, [.ref k0, .ref k1])), (k0, .inl (cI, 40, .inl g43_k0)), (k1, .inl (cI, 40, .inl g138_k1)), (o5, .inr (3, [.ref o50, .int d51])), (o50, .inl (cI, 36, .inl d50)), (y, .inr (6, [.ref y0, .ref y1, .ref y2])), (y1, .inl (cI, 4, .inl e1)), (y2, .inl (cI, 144, .inl e2)), (o, .inr (9, [.ref o0, .ref o1, .ref o2, .ref o3, .ref o4, .ref o5, .int d6, .int d7, .int d8])), (o1, .inl (cI, 40, .inl d1))]) (va_runSN (As := [.int r_109, .int r_104]) (rest := [.int l138_10]) ⟨hx, hb, hml, hown, hT⟩ (c_X10_effortInG l D cI aK aV H.size r_109 r_104) ⟨va_cnB 2 hT (gW_in mw_651) rfl rfl rfl (hN _ mw_942) (hT _ mw_1) (by decide +kernel) ⟨Nat.le_of_ble_eq_true rfl, Nat.le_of_ble_eq_true rfl⟩, hT _ mw_650, trivial⟩ (kStatX hK hP hD hN hXS hS hA [] rfl (by decide +kernel)) rfl rfl hl.1 rfl (lv_room (Nat.le_of_ble_eq_true rfl)) dX2_weighRow_185 ⟨Nat.le_of_ble_eq_true rfl, Nat.le_of_ble_eq_true rfl⟩) hP hD hS hA [] [0, 1, 2, 3, 4, 5, 6, 7, 8, 9] rfl rfl (by decide +kernel) (by decide +kernel) ?_
                      clear hP hD hS
                      intro r_112 u_114 H locs w_113 hP hD hS
                      replace hP : va_P D vwCl [(k, .inr (2, [.ref k0, .ref k1])), (k0, .inl (cI, 40, .inl g43_k0)), (k1, .inl (cI, 40, .inl g138_k1)), (o5, .inr (3, [.ref o50, .int d51])), (o50, .inl (cI, 36, .inl d50)), (y, .inr (6, [.ref y0, .ref y1, .ref y2])), (y1, .inl (cI, 4, .inl e1)), (y2, .inl (cI, 144, .inl e2)), (o, .inr (9, [.ref o0, .ref o1, .ref o2, .ref o3, .ref o4, .ref o5, .int d6, .int d7, .int d8])), (o1, .inl (cI, 40, .inl d1))] H := hP
                      replace hD : va_D A [(k, .inr (2, [.ref k0, .ref k1])), (k0, .inl (cI, 40, .inl g43_k0)), (k1, .inl (cI, 40, .inl g138_k1)), (o5, .inr (3, [.ref o50, .int d51])), (o50, .inl (cI, 36, .inl d50)), (y, .inr (6, [.ref y0, .ref y1, .ref y2])), (y1, .inl (cI, 4, .inl e1)), (y2, .inl (cI, 144, .inl e2)), (o, .inr (9, [.ref o0, .ref o1, .ref o2, .ref o3, .ref o4, .ref o5, .int d6, .int d7, .int d8])), (o1, .inl (cI, 40, .inl d1))] := hD
                      have lo_r_112 := k_lo r_112
                      have hi_r_112 := k_hi r_112
                      refine lv_iload hx hb dX2_weighRow_188 (lv_at hl 3 rfl) ?_
                      refine kJi (wr := [(k, .inr (2, [.ref k0, .ref k1])), (k0, .inl (cI, 40, .inl g43_k0)), (k1, .inl (cI, 40, .inl g138_k1)), (o5, .inr (3, [.ref o50, .int d51])), (o50, .inl (cI, 36, .inl d50)), (y, .inr (6, [.ref y0, .ref y1, .ref y2])), (y1, .inl (cI, 4, .inl e1)), (y2, .inl (cI, 144, .inl e2)), (o, .inr (9, [.ref o0, .ref o1, .ref o2, .ref o3, .ref o4, .ref o5, .int d6, .int d7, .int d8])), (o1, .inl (cI, 40, .inl d1))]) (va_runS (As := [.int r_112, .int r_85]) (rest := [.int l138_10]) ⟨hx, hb, hml, hown, hT⟩ (c_X2_daysOfG l D cI aK aV H.size r_112 r_85) (cwS 2 hT (gS_in mw_945 mw_943 mw_944 mw_9) rfl rfl rfl (by decide +kernel) ⟨Nat.le_of_ble_eq_true rfl, Nat.le_of_ble_eq_true rfl⟩) (kStatX hK hP hD hN hXS hS hA [] rfl (by decide +kernel)) rfl rfl hl.1 rfl (lv_room (Nat.le_of_ble_eq_true rfl)) dX2_weighRow_190 ⟨Nat.le_of_ble_eq_true rfl, Nat.le_of_ble_eq_true rfl⟩) hP hD hS hA [] [0, 1, 2, 3, 4, 5, 6, 7, 8, 9] rfl rfl (by decide +kernel) (by decide +kernel) ?_
                      clear hP hD hS
                      intro r_115 u_117 H locs w_116 hP hD hS
                      replace hP : va_P D vwCl [(k, .inr (2, [.ref k0, .ref k1])), (k0, .inl (cI, 40, .inl g43_k0)), (k1, .inl (cI, 40, .inl g138_k1)), (o5, .inr (3, [.ref o50, .int d51])), (o50, .inl (cI, 36, .inl d50)), (y, .inr (6, [.ref y0, .ref y1, .ref y2])), (y1, .inl (cI, 4, .inl e1)), (y2, .inl (cI, 144, .inl e2)), (o, .inr (9, [.ref o0, .ref o1, .ref o2, .ref o3, .ref o4, .ref o5, .int d6, .int d7, .int d8])), (o1, .inl (cI, 40, .inl d1))] H := hP
                      replace hD : va_D A [(k, .inr (2, [.ref k0, .ref k1])), (k0, .inl (cI, 40, .inl g43_k0)), (k1, .inl (cI, 40, .inl g138_k1)), (o5, .inr (3, [.ref o50, .int d51])), (o50, .inl (cI, 36, .inl d50)), (y, .inr (6, [.ref y0, .ref y1, .ref y2])), (y1, .inl (cI, 4, .inl e1)), (y2, .inl (cI, 144, .inl e2)), (o, .inr (9, [.ref o0, .ref o1, .ref o2, .ref o3, .ref o4, .ref o5, .int d6, .int d7, .int d8])), (o1, .inl (cI, 40, .inl d1))] := hD
                      have lo_r_115 := k_lo r_115
                      have hi_r_115 := k_hi r_115
                      refine lv_iadd hx hb dX2_weighRow_193 ?_
                      refine lv_topi (fun v_118 ev_118 => ?_)
                      have lo_v_118 := k_lo v_118
                      have hi_v_118 := k_hi v_118
                      refine lv_istore (lv' := [(10, .int v_118), (12, .int r_104), (11, .int l138_11), (9, .int r_85), (8, .int r_4), (7, .int r_1), (0, .ref k), (1, .ref o), (2, .ref y), (3, .int a2), (4, .int a3), (5, .int a4), (6, .int a5)]) hx hb dX2_weighRow_194 hl (by decide +kernel) rfl ?_
                      clear hl
                      intro ls hl
                      refine lv_aload_n hx hb dX2_weighRow_196 rfl (lv_at hl 6 rfl) ?_
                      refine va_get (D := D) (ci := 2) (v := .ref k1) (C := RX2) (T := TX2) (N := 2) hx hb hT giX2 hown hK hP 0 rfl rfl 1 (by decide +kernel) (hT (Cond.fieldLink RX2 15 "DesertWire$Meetings" "worst" "[I") mw_246) (fun _ h9 => h9) rfl dX2_weighRow_197 ?_
                      refine lv_iload hx hb dX2_weighRow_200 (lv_at hl 2 rfl) ?_
                      refine lv_aload_n hx hb dX2_weighRow_202 rfl (lv_at hl 6 rfl) ?_
                      refine va_get (D := D) (ci := 2) (v := .ref k1) (C := RX2) (T := TX2) (N := 2) hx hb hT giX2 hown hK hP 0 rfl rfl 1 (by decide +kernel) (hT (Cond.fieldLink RX2 15 "DesertWire$Meetings" "worst" "[I") mw_246) (fun _ h9 => h9) rfl dX2_weighRow_203 ?_
                      refine lv_iload hx hb dX2_weighRow_206 (lv_at hl 2 rfl) ?_
                      refine k_iald (v := (g138_k1 l138_11.toNatClampNeg)) hx hb hK hP 2 0 rfl rfl (k_in (by omega) (by omega)) rfl dX2_weighRow_208 ?_
                      refine lv_topi (fun v_119 ev_119 => ?_)
                      have lo_v_119 := k_lo v_119
                      have hi_v_119 := k_hi v_119
                      have tv_119 : v_119.toInt = (g138_k1 l138_11.toNatClampNeg).toInt := by rw [ev_119]
                      refine lv_aload_n hx hb dX2_weighRow_209 rfl (lv_at hl 6 rfl) ?_
                      refine va_get (D := D) (ci := 2) (v := .ref k0) (C := RX2) (T := TX2) (N := 2) hx hb hT giX2 hown hK hP 0 rfl rfl 0 (by decide +kernel) (hT (Cond.fieldLink RX2 9 "DesertWire$Meetings" "done" "[I") mw_245) (fun _ h9 => h9) rfl dX2_weighRow_210 ?_
                      refine lv_iload hx hb dX2_weighRow_213 (lv_at hl 2 rfl) ?_
                      refine k_iald (v := (g43_k0 l138_11.toNatClampNeg)) hx hb hK hP 1 0 rfl rfl (k_in (by omega) (by omega)) rfl dX2_weighRow_215 ?_
                      refine lv_topi (fun v_120 ev_120 => ?_)
                      have lo_v_120 := k_lo v_120
                      have hi_v_120 := k_hi v_120
                      have tv_120 : v_120.toInt = (g43_k0 l138_11.toNatClampNeg).toInt := by rw [ev_120]
                      refine lv_iload hx hb dX2_weighRow_216 (lv_at hl 0 rfl) ?_
                      refine va_mmax hx hb (hml.trans hl.1.symm) hown (hT _ mw_946) (hT _ mw_426) (hT _ mw_13) (hT _ mw_427) (Nat.le_of_ble_eq_true rfl) (Nat.le_of_ble_eq_true rfl) (Nat.le_of_ble_eq_true rfl) (Nat.le_of_ble_eq_true rfl) dX2_weighRow_218 ?_
                      refine lv_topi (fun v_121 ev_121 => ?_)
                      have lo_v_121 := k_lo v_121
                      have hi_v_121 := k_hi v_121
                      have tv_121 : v_121.toInt = k_max v_120.toInt v_118.toInt := by rw [ev_121]; exact k_mmax rfl rfl
                      try rw [tv_120] at tv_121
                      have sv_121 := k_max_spec (v_120.toInt) (v_118.toInt)
                      try rw [tv_120] at sv_121
                      refine va_mmax hx hb (hml.trans hl.1.symm) hown (hT _ mw_946) (hT _ mw_426) (hT _ mw_13) (hT _ mw_427) (Nat.le_of_ble_eq_true rfl) (Nat.le_of_ble_eq_true rfl) (Nat.le_of_ble_eq_true rfl) (Nat.le_of_ble_eq_true rfl) dX2_weighRow_221 ?_
                      refine lv_topi (fun v_122 ev_122 => ?_)
                      have lo_v_122 := k_lo v_122
                      have hi_v_122 := k_hi v_122
                      have tv_122 : v_122.toInt = k_max v_119.toInt v_121.toInt := by rw [ev_122]; exact k_mmax rfl rfl
                      try rw [tv_119] at tv_122
                      try rw [tv_121] at tv_122
                      have sv_122 := k_max_spec (v_119.toInt) (v_121.toInt)
                      try rw [tv_119] at sv_122
                      try rw [tv_121] at sv_122
                      refine va_iast hx hb hK hP hD hS 2 0 rfl rfl (k_in (by omega) (by omega)) dX2_weighRow_224 ?_
                      clear hP hD hS
                      intro H locs hP hD hS
                      replace hP : va_P D vwCl [(k, .inr (2, [.ref k0, .ref k1])), (k0, .inl (cI, 40, .inl g43_k0)), (k1, .inl (cI, 40, .inl (upd g138_k1 l138_11.toNatClampNeg v_122))), (o5, .inr (3, [.ref o50, .int d51])), (o50, .inl (cI, 36, .inl d50)), (y, .inr (6, [.ref y0, .ref y1, .ref y2])), (y1, .inl (cI, 4, .inl e1)), (y2, .inl (cI, 144, .inl e2)), (o, .inr (9, [.ref o0, .ref o1, .ref o2, .ref o3, .ref o4, .ref o5, .int d6, .int d7, .int d8])), (o1, .inl (cI, 40, .inl d1))] H := hP
                      replace hD : va_D A [(k, .inr (2, [.ref k0, .ref k1])), (k0, .inl (cI, 40, .inl g43_k0)), (k1, .inl (cI, 40, .inl (upd g138_k1 l138_11.toNatClampNeg v_122))), (o5, .inr (3, [.ref o50, .int d51])), (o50, .inl (cI, 36, .inl d50)), (y, .inr (6, [.ref y0, .ref y1, .ref y2])), (y1, .inl (cI, 4, .inl e1)), (y2, .inl (cI, 144, .inl e2)), (o, .inr (9, [.ref o0, .ref o1, .ref o2, .ref o3, .ref o4, .ref o5, .int d6, .int d7, .int d8])), (o1, .inl (cI, 40, .inl d1))] := hD
                      obtain ⟨f_123, ef_123⟩ : ∃ g : Nat → Int32, g = upd g138_k1 l138_11.toNatClampNeg v_122 := ⟨_, rfl⟩
                      rw [← ef_123] at hP hD
                      obtain ⟨v_124, ev_124⟩ : ∃ y : Int32, y = v_118 + 1 := ⟨_, rfl⟩
                      have lo_v_124 := k_lo v_124
                      have hi_v_124 := k_hi v_124
                      refine lv_iinc (v := v_124) (lv' := [(10, .int v_124), (12, .int r_104), (11, .int l138_11), (9, .int r_85), (8, .int r_4), (7, .int r_1), (0, .ref k), (1, .ref o), (2, .ref y), (3, .int a2), (4, .int a3), (5, .int a4), (6, .int a5)]) hx hb dX2_weighRow_225 hl (k := 0) rfl (by rw [ev_124]; rfl) (by decide +kernel) rfl ?_
                      clear hl
                      intro ls hl
                      obtain ⟨v_125, ev_125⟩ : ∃ y : Int32, y = l138_11 + (-1) := ⟨_, rfl⟩
                      have tv_125 : v_125.toInt = l138_11.toInt + (-1) := by rw [ev_125]; exact k_addv rfl zl_m1 (by omega) (by omega)
                      refine lv_iinc (v := v_125) (lv' := [(11, .int v_125), (10, .int v_124), (12, .int r_104), (9, .int r_85), (8, .int r_4), (7, .int r_1), (0, .ref k), (1, .ref o), (2, .ref y), (3, .int a2), (4, .int a3), (5, .int a4), (6, .int a5)]) hx hb dX2_weighRow_228 hl (k := 2) rfl (by rw [ev_125]; rfl) (by decide +kernel) rfl ?_
                      clear hl
                      intro ls hl
                      refine lv_goto (tgt := 138) hx hb dX2_weighRow_231 (by decide +kernel) ?_
                      exact ih138 v_124 v_125 f_123 (by first | omega | decide | assumption | rfl) (by omega) ls _ _ (lv_sub hl [0, 1, 3, 4, 5, 6, 7, 8, 9, 10, 11, 12] rfl) (hP.sub [0, 1, 2, 8, 9, 5, 6, 7, 3, 4] rfl) (hD.sub [0, 1, 2, 8, 9, 5, 6, 7, 3, 4] (by decide +kernel) rfl) hS
                    · have h_95 : l138_11.toInt < 0 ∨ 39 < l138_11.toInt := h_95
                      obtain rfl : r_90 = 0 := hr_90.trans (by decide +kernel)
                      refine b_if_eq hx hb zl_0 (tgt := 234) dX2_weighRow_150 (by decide +kernel) (fun c_126 => ?_) (fun c_126 => by exfalso; omega)
                      exact hRet (g43_k0, g138_k1) [0, 1, 2, 3, 4, 8, 9, 5, 6, 7] trivial hP hD (by decide +kernel) rfl hS dX2_weighRow_234
            exact hloop_138 _ 0 v_88 c1 (by first | omega | (simp only [zl_0]; first | done | omega) | decide | assumption | rfl) (Nat.lt_succ_self _) ls _ _ (lv_sub hl [0, 1, 2, 3, 4, 5, 6, 7, 8, 9, 10, 11] rfl) hP hD hS
  exact hloop_43 _ 0 r_1 c0 (by first | omega | (simp only [zl_0]; first | done | omega) | decide | assumption | rfl) (Nat.lt_succ_self _) ls _ _ (lv_sub hl [0, 1, 2, 3, 4, 5, 6, 7, 8, 9, 10, 11] rfl) hP hD hS
theorem bn_cX2_weigh_0 : BN cX2_weigh 0 0xb273c01500d03a1432015b8182c050b01c2c1e168b0561700a8c26015b8785a070b01c6e0477c01500203a14a0040385820015a8ac2401518a422070b01c6e04 := by
  unfold BN; decide +kernel
theorem dX2_weigh_0 : decode cX2_weigh 0 = .ok (.iconst 0, 1) := dR0 (k := 0) (i := 0) bn_cX2_weigh_0 dop_3 (by decide +kernel)
theorem dX2_weigh_1 : decode cX2_weigh 1 = .ok (.istore 6, 2) := dR1 (f := Instr.istore) (k := 0) (i := 1) bn_cX2_weigh_0 dop_54 6 (by decide +kernel)
theorem dX2_weigh_3 : decode cX2_weigh 3 = .ok (.iload 6, 2) := dR1 (f := Instr.iload) (k := 0) (i := 3) bn_cX2_weigh_0 dop_21 6 (by decide +kernel)
theorem dX2_weigh_5 : decode cX2_weigh 5 = .ok (.bipush 40, 2) := dR1s (f := Instr.bipush) (k := 0) (i := 5) bn_cX2_weigh_0 dop_16 40 40 (by decide +kernel)
theorem dX2_weigh_7 : decode cX2_weigh 7 = .ok (.if_icmp .ge 17, 3) := dR2s (f := Instr.if_icmp .ge) (k := 0) (i := 7) bn_cX2_weigh_0 dop_162 17 17 (by decide +kernel)
theorem dX2_weigh_10 : decode cX2_weigh 10 = .ok (.aload_n 0, 1) := dR0 (k := 0) (i := 10) bn_cX2_weigh_0 dop_42 (by decide +kernel)
theorem dX2_weigh_11 : decode cX2_weigh 11 = .ok (.getfield 15, 3) := dR2 (f := Instr.getfield) (k := 0) (i := 11) bn_cX2_weigh_0 dop_180 15 (by decide +kernel)
theorem dX2_weigh_14 : decode cX2_weigh 14 = .ok (.iload 6, 2) := dR1 (f := Instr.iload) (k := 0) (i := 14) bn_cX2_weigh_0 dop_21 6 (by decide +kernel)
theorem dX2_weigh_16 : decode cX2_weigh 16 = .ok (.iconst 0, 1) := dR0 (k := 0) (i := 16) bn_cX2_weigh_0 dop_3 (by decide +kernel)
theorem dX2_weigh_17 : decode cX2_weigh 17 = .ok (.iastore, 1) := dR0 (k := 0) (i := 17) bn_cX2_weigh_0 dop_79 (by decide +kernel)
theorem dX2_weigh_18 : decode cX2_weigh 18 = .ok (.iinc 6 1, 3) := dRii (f := Instr.iinc) (k := 0) (i := 18) bn_cX2_weigh_0 dop_132 6 1 1 (by decide +kernel)
theorem dX2_weigh_21 : decode cX2_weigh 21 = .ok (.goto (-18), 3) := dR2s (f := Instr.goto) (k := 0) (i := 21) bn_cX2_weigh_0 dop_167 65518 (-18) (by decide +kernel)
theorem dX2_weigh_24 : decode cX2_weigh 24 = .ok (.iconst 0, 1) := dR0 (k := 0) (i := 24) bn_cX2_weigh_0 dop_3 (by decide +kernel)
theorem dX2_weigh_25 : decode cX2_weigh 25 = .ok (.istore 6, 2) := dR1 (f := Instr.istore) (k := 0) (i := 25) bn_cX2_weigh_0 dop_54 6 (by decide +kernel)
theorem dX2_weigh_27 : decode cX2_weigh 27 = .ok (.iload 6, 2) := dR1 (f := Instr.iload) (k := 0) (i := 27) bn_cX2_weigh_0 dop_21 6 (by decide +kernel)
theorem dX2_weigh_29 : decode cX2_weigh 29 = .ok (.aload_n 2, 1) := dR0 (k := 0) (i := 29) bn_cX2_weigh_0 dop_44 (by decide +kernel)
theorem dX2_weigh_30 : decode cX2_weigh 30 = .ok (.iload_n 3, 1) := dR0 (k := 0) (i := 30) bn_cX2_weigh_0 dop_29 (by decide +kernel)
theorem dX2_weigh_31 : decode cX2_weigh 31 = .ok (.invokevirtual 18, 3) := dR2 (f := Instr.invokevirtual) (k := 0) (i := 31) bn_cX2_weigh_0 dop_182 18 (by decide +kernel)
theorem dX2_weigh_34 : decode cX2_weigh 34 = .ok (.if_icmp .ge 22, 3) := dR2s (f := Instr.if_icmp .ge) (k := 0) (i := 34) bn_cX2_weigh_0 dop_162 22 22 (by decide +kernel)
theorem dX2_weigh_37 : decode cX2_weigh 37 = .ok (.aload_n 0, 1) := dR0 (k := 0) (i := 37) bn_cX2_weigh_0 dop_42 (by decide +kernel)
theorem dX2_weigh_38 : decode cX2_weigh 38 = .ok (.aload_n 1, 1) := dR0 (k := 0) (i := 38) bn_cX2_weigh_0 dop_43 (by decide +kernel)
theorem dX2_weigh_39 : decode cX2_weigh 39 = .ok (.aload_n 2, 1) := dR0 (k := 0) (i := 39) bn_cX2_weigh_0 dop_44 (by decide +kernel)
theorem dX2_weigh_40 : decode cX2_weigh 40 = .ok (.iload_n 3, 1) := dR0 (k := 0) (i := 40) bn_cX2_weigh_0 dop_29 (by decide +kernel)
theorem dX2_weigh_41 : decode cX2_weigh 41 = .ok (.iload 6, 2) := dR1 (f := Instr.iload) (k := 0) (i := 41) bn_cX2_weigh_0 dop_21 6 (by decide +kernel)
theorem dX2_weigh_43 : decode cX2_weigh 43 = .ok (.iload 4, 2) := dR1 (f := Instr.iload) (k := 0) (i := 43) bn_cX2_weigh_0 dop_21 4 (by decide +kernel)
theorem dX2_weigh_45 : decode cX2_weigh 45 = .ok (.iload 5, 2) := dR1 (f := Instr.iload) (k := 0) (i := 45) bn_cX2_weigh_0 dop_21 5 (by decide +kernel)
theorem dX2_weigh_47 : decode cX2_weigh 47 = .ok (.invokevirtual 24, 3) := dR2 (f := Instr.invokevirtual) (k := 0) (i := 47) bn_cX2_weigh_0 dop_182 24 (by decide +kernel)
theorem dX2_weigh_50 : decode cX2_weigh 50 = .ok (.iinc 6 12, 3) := dRii (f := Instr.iinc) (k := 0) (i := 50) bn_cX2_weigh_0 dop_132 6 12 12 (by decide +kernel)
theorem dX2_weigh_53 : decode cX2_weigh 53 = .ok (.goto (-26), 3) := dR2s (f := Instr.goto) (k := 0) (i := 53) bn_cX2_weigh_0 dop_167 65510 (-26) (by decide +kernel)
theorem dX2_weigh_56 : decode cX2_weigh 56 = .ok (.return_, 1) := dR0 (k := 0) (i := 56) bn_cX2_weigh_0 dop_177 (by decide +kernel)
set_option maxHeartbeats 4000000 in
set_option maxRecDepth 100000 in
theorem c_X2_weighG (l : Launch) (D : va_G) (cI : ClassId) (aK aV : Nat → Nat) (k o y k0 k1 o0 o1 o2 o3 o4 o5 o50 y0 y1 y2 : Nat) (sz : Nat) (c0 : Nat → Int32) (c1 : Nat → Int32) (d6 : Int32) (d7 : Int32) (d8 : Int32) (d1 : Nat → Int32) (d51 : Int32) (d50 : Nat → Int32) (e1 : Nat → Int32) (e2 : Nat → Int32) (a2 : Int32) (a3 : Int32) (a4 : Int32) (pre0 : ∀ k : Nat, k < 4 → 0 ≤ (e1 k).toInt ∧ (e1 k).toInt ≤ 36) : Met l yX2_weigh (gW yX2_weigh cX2_weigh 7 none) ({ frames := 5, cells := 0, slots := 0, locals := 117 } : Room) (kPreX D cI aK aV [.ref k, .ref o, .ref y, .int a2, .int a3, .int a4] [(k, .inr (2, [.ref k0, .ref k1])), (k0, .inl (cI, 40, .inl c0)), (k1, .inl (cI, 40, .inl c1)), (o, .inr (9, [.ref o0, .ref o1, .ref o2, .ref o3, .ref o4, .ref o5, .int d6, .int d7, .int d8])), (o1, .inl (cI, 40, .inl d1)), (o5, .inr (3, [.ref o50, .int d51])), (o50, .inl (cI, 36, .inl d50)), (y, .inr (6, [.ref y0, .ref y1, .ref y2])), (y1, .inl (cI, 4, .inl e1)), (y2, .inl (cI, 144, .inl e2))] sz) (va_Qv (fun (u : (Nat → Int32) × (Nat → Int32)) => True) (fun u t => kWd D cI (va_A [(k, .inr (2, [.ref k0, .ref k1])), (k0, .inl (cI, 40, .inl c0)), (k1, .inl (cI, 40, .inl c1)), (o, .inr (9, [.ref o0, .ref o1, .ref o2, .ref o3, .ref o4, .ref o5, .int d6, .int d7, .int d8])), (o1, .inl (cI, 40, .inl d1)), (o5, .inr (3, [.ref o50, .int d51])), (o50, .inl (cI, 36, .inl d50)), (y, .inr (6, [.ref y0, .ref y1, .ref y2])), (y1, .inl (cI, 4, .inl e1)), (y2, .inl (cI, 144, .inl e2))] sz) [(k, .inr (2, [.ref k0, .ref k1])), (k0, .inl (cI, 40, .inl u.1)), (k1, .inl (cI, 40, .inl u.2)), (o, .inr (9, [.ref o0, .ref o1, .ref o2, .ref o3, .ref o4, .ref o5, .int d6, .int d7, .int d8])), (o1, .inl (cI, 40, .inl d1)), (o5, .inr (3, [.ref o50, .int d51])), (o50, .inl (cI, 36, .inl d50)), (y, .inr (6, [.ref y0, .ref y1, .ref y2])), (y1, .inl (cI, 4, .inl e1)), (y2, .inl (cI, 144, .inl e2))] t) (va_A [(k, .inr (2, [.ref k0, .ref k1])), (k0, .inl (cI, 40, .inl c0)), (k1, .inl (cI, 40, .inl c1)), (o, .inr (9, [.ref o0, .ref o1, .ref o2, .ref o3, .ref o4, .ref o5, .int d6, .int d7, .int d8])), (o1, .inl (cI, 40, .inl d1)), (o5, .inr (3, [.ref o50, .int d51])), (o50, .inl (cI, 36, .inl d50)), (y, .inr (6, [.ref y0, .ref y1, .ref y2])), (y1, .inl (cI, 4, .inl e1)), (y2, .inl (cI, 144, .inl e2))] sz)) 0 0 (va_A [(k, .inr (2, [.ref k0, .ref k1])), (k0, .inl (cI, 40, .inl c0)), (k1, .inl (cI, 40, .inl c1)), (o, .inr (9, [.ref o0, .ref o1, .ref o2, .ref o3, .ref o4, .ref o5, .int d6, .int d7, .int d8])), (o1, .inl (cI, 40, .inl d1)), (o5, .inr (3, [.ref o50, .int d51])), (o50, .inl (cI, 36, .inl d50)), (y, .inr (6, [.ref y0, .ref y1, .ref y2])), (y1, .inl (cI, 4, .inl e1)), (y2, .inl (cI, 144, .inl e2))] sz) := by
  refine kMetVX (own := RX2) (by decide +kernel) rfl (Nat.le_of_ble_eq_true rfl) ?_
  intro p e s m args below meth c hx hb hT hown hname hml A Q hK hP hD hS hA hN hXS hRet ls hl
  have hl : lv_has ls 7 [(0, .ref k), (1, .ref o), (2, .ref y), (3, .int a2), (4, .int a3), (5, .int a4)] := hl
  have lo_a2 := k_lo a2
  have hi_a2 := k_hi a2
  have lo_a3 := k_lo a3
  have hi_a3 := k_hi a3
  have lo_a4 := k_lo a4
  have hi_a4 := k_hi a4
  refine lv_iconst (v := 0) hx hb dX2_weigh_0 (by decide +kernel) ?_
  refine lv_istore (lv' := [(6, .int 0), (0, .ref k), (1, .ref o), (2, .ref y), (3, .int a2), (4, .int a3), (5, .int a4)]) hx hb dX2_weigh_1 hl (by decide +kernel) rfl ?_
  clear hl
  intro ls hl
  have hloop_3 : ∀ (fu_ : Nat) (l3_6 : Int32) (g3_k1 : Nat → Int32), 0 ≤ l3_6.toInt → (40 - l3_6.toInt).toNat < fu_ → ∀ (ls : Array Slot) (H : Heap) (locs : List Loc), lv_has ls 7 [(6, .int l3_6), (0, .ref k), (1, .ref o), (2, .ref y), (3, .int a2), (4, .int a3), (5, .int a4)] → va_P D vwCl [(k, .inr (2, [.ref k0, .ref k1])), (k0, .inl (cI, 40, .inl c0)), (k1, .inl (cI, 40, .inl g3_k1)), (o, .inr (9, [.ref o0, .ref o1, .ref o2, .ref o3, .ref o4, .ref o5, .int d6, .int d7, .int d8])), (o1, .inl (cI, 40, .inl d1)), (o5, .inr (3, [.ref o50, .int d51])), (o50, .inl (cI, 36, .inl d50)), (y, .inr (6, [.ref y0, .ref y1, .ref y2])), (y1, .inl (cI, 4, .inl e1)), (y2, .inl (cI, 144, .inl e2))] H → va_D A [(k, .inr (2, [.ref k0, .ref k1])), (k0, .inl (cI, 40, .inl c0)), (k1, .inl (cI, 40, .inl g3_k1)), (o, .inr (9, [.ref o0, .ref o1, .ref o2, .ref o3, .ref o4, .ref o5, .int d6, .int d7, .int d8])), (o1, .inl (cI, 40, .inl d1)), (o5, .inr (3, [.ref o50, .int d51])), (o50, .inl (cI, 36, .inl d50)), (y, .inr (6, [.ref y0, .ref y1, .ref y2])), (y1, .inl (cI, 4, .inl e1)), (y2, .inl (cI, 144, .inl e2))] → va_S A s.heap H locs → W p l e ({ frames := 5, cells := 0, slots := 0, locals := 117 } : Room) s m args below meth c H locs 0 0 Q (F0 m 3 ls []) := by
    intro fu_; induction fu_ with
    | zero => intro l3_6 g3_k1 i3_0 hm; exact absurd hm (by omega)
    | succ fu_ ih3 =>
        intro l3_6 g3_k1 i3_0 hm ls H locs hl hP hD hS
        have lo_l3_6 := k_lo l3_6
        have hi_l3_6 := k_hi l3_6
        refine lv_iload hx hb dX2_weigh_3 (lv_at hl 0 rfl) ?_
        refine lv_bipush (v := 40) hx hb dX2_weigh_5 (by decide +kernel) ?_
        refine b_icmp_ge hx hb rfl zl_40 (tgt := 24) dX2_weigh_7 (by decide +kernel) (fun c_1 => ?_) (fun c_1 => ?_)
        · refine lv_iconst (v := 0) hx hb dX2_weigh_24 (by decide +kernel) ?_
          refine lv_istore (lv' := [(6, .int 0), (0, .ref k), (1, .ref o), (2, .ref y), (3, .int a2), (4, .int a3), (5, .int a4)]) hx hb dX2_weigh_25 hl (by decide +kernel) rfl ?_
          clear hl
          intro ls hl
          have hloop_27 : ∀ (fu_ : Nat) (l27_6 : Int32) (g27_k0 : Nat → Int32) (g27_k1 : Nat → Int32), 0 ≤ l27_6.toInt → l27_6.toInt ≤ 47 → (48 - l27_6.toInt).toNat < fu_ → ∀ (ls : Array Slot) (H : Heap) (locs : List Loc), lv_has ls 7 [(6, .int l27_6), (0, .ref k), (1, .ref o), (2, .ref y), (3, .int a2), (4, .int a3), (5, .int a4)] → va_P D vwCl [(k, .inr (2, [.ref k0, .ref k1])), (k0, .inl (cI, 40, .inl g27_k0)), (k1, .inl (cI, 40, .inl g27_k1)), (o, .inr (9, [.ref o0, .ref o1, .ref o2, .ref o3, .ref o4, .ref o5, .int d6, .int d7, .int d8])), (o1, .inl (cI, 40, .inl d1)), (o5, .inr (3, [.ref o50, .int d51])), (o50, .inl (cI, 36, .inl d50)), (y, .inr (6, [.ref y0, .ref y1, .ref y2])), (y1, .inl (cI, 4, .inl e1)), (y2, .inl (cI, 144, .inl e2))] H → va_D A [(k, .inr (2, [.ref k0, .ref k1])), (k0, .inl (cI, 40, .inl g27_k0)), (k1, .inl (cI, 40, .inl g27_k1)), (o, .inr (9, [.ref o0, .ref o1, .ref o2, .ref o3, .ref o4, .ref o5, .int d6, .int d7, .int d8])), (o1, .inl (cI, 40, .inl d1)), (o5, .inr (3, [.ref o50, .int d51])), (o50, .inl (cI, 36, .inl d50)), (y, .inr (6, [.ref y0, .ref y1, .ref y2])), (y1, .inl (cI, 4, .inl e1)), (y2, .inl (cI, 144, .inl e2))] → va_S A s.heap H locs → W p l e ({ frames := 5, cells := 0, slots := 0, locals := 117 } : Room) s m args below meth c H locs 0 0 Q (F0 m 27 ls []) := by
            intro fu_; induction fu_ with
            | zero => intro l27_6 g27_k0 g27_k1 i27_0 i27_1 hm; exact absurd hm (by omega)
            | succ fu_ ih27 =>
                intro l27_6 g27_k0 g27_k1 i27_0 i27_1 hm ls H locs hl hP hD hS
                have lo_l27_6 := k_lo l27_6
                have hi_l27_6 := k_hi l27_6
                refine lv_iload hx hb dX2_weigh_27 (lv_at hl 0 rfl) ?_
                refine lv_aload_n hx hb dX2_weigh_29 rfl (lv_at hl 3 rfl) ?_
                refine lv_iload_n hx hb dX2_weigh_30 rfl (lv_at hl 4 rfl) ?_
                refine kJi (wr := [(k, .inr (2, [.ref k0, .ref k1])), (k0, .inl (cI, 40, .inl g27_k0)), (k1, .inl (cI, 40, .inl g27_k1)), (o, .inr (9, [.ref o0, .ref o1, .ref o2, .ref o3, .ref o4, .ref o5, .int d6, .int d7, .int d8])), (o1, .inl (cI, 40, .inl d1)), (o5, .inr (3, [.ref o50, .int d51])), (o50, .inl (cI, 36, .inl d50)), (y2, .inl (cI, 144, .inl e2))]) (va_runV (As := [.int a2]) (rest := [.int l27_6]) ⟨hx, hb, hml, hown, hT⟩ (c_X6_lengthOfG l D cI aK aV y y0 y1 y2 H.size e1 a2 (by first | omega | decide | assumption | rfl)) (cwV 1 hT (gV_in mw_675 mw_932 mw_673 mw_674 mw_11) rfl rfl rfl (by decide +kernel) ⟨Nat.le_of_ble_eq_true rfl, Nat.le_of_ble_eq_true rfl⟩) (kRecvX (q0 := 7) (ci := 6) hK hP hD hN hXS hS hA rfl rfl [7, 8] rfl (by decide +kernel)) rfl rfl hl.1 rfl (lv_room (Nat.le_of_ble_eq_true rfl)) dX2_weigh_31 ⟨Nat.le_of_ble_eq_true rfl, Nat.le_of_ble_eq_true rfl⟩) hP hD hS hA [7, 8] [0, 1, 2, 3, 4, 5, 6, 9] rfl rfl (by decide +kernel) (by decide +kernel) ?_
                clear hP hD hS
                intro r_2 u_4 H locs w_3 hP hD hS
                replace hP : va_P D vwCl [(k, .inr (2, [.ref k0, .ref k1])), (k0, .inl (cI, 40, .inl g27_k0)), (k1, .inl (cI, 40, .inl g27_k1)), (o, .inr (9, [.ref o0, .ref o1, .ref o2, .ref o3, .ref o4, .ref o5, .int d6, .int d7, .int d8])), (o1, .inl (cI, 40, .inl d1)), (o5, .inr (3, [.ref o50, .int d51])), (o50, .inl (cI, 36, .inl d50)), (y2, .inl (cI, 144, .inl e2)), (y, .inr (6, [.ref y0, .ref y1, .ref y2])), (y1, .inl (cI, 4, .inl e1))] H := hP
                replace hD : va_D A [(k, .inr (2, [.ref k0, .ref k1])), (k0, .inl (cI, 40, .inl g27_k0)), (k1, .inl (cI, 40, .inl g27_k1)), (o, .inr (9, [.ref o0, .ref o1, .ref o2, .ref o3, .ref o4, .ref o5, .int d6, .int d7, .int d8])), (o1, .inl (cI, 40, .inl d1)), (o5, .inr (3, [.ref o50, .int d51])), (o50, .inl (cI, 36, .inl d50)), (y2, .inl (cI, 144, .inl e2)), (y, .inr (6, [.ref y0, .ref y1, .ref y2])), (y1, .inl (cI, 4, .inl e1))] := hD
                rcases w_3 with ⟨h_5, h_6, h_7, h_8, h_9⟩ | ⟨hr_2, h_10⟩
                · have h_5 : 0 ≤ a2.toInt := h_5
                  have h_6 : a2.toInt ≤ 3 := h_6
                  have h_7 : 0 ≤ r_2.toInt := h_7
                  have h_8 : r_2.toInt ≤ 36 := h_8
                  have h_9 : r_2.toInt = (e1 a2.toNatClampNeg).toInt := h_9
                  have lo_r_2 := k_lo r_2
                  have hi_r_2 := k_hi r_2
                  refine b_icmp_ge hx hb rfl rfl (tgt := 56) dX2_weigh_34 (by decide +kernel) (fun c_11 => ?_) (fun c_11 => ?_)
                  · exact hRet (g27_k0, g27_k1) [0, 1, 2, 3, 4, 5, 6, 8, 9, 7] trivial hP hD (by decide +kernel) rfl hS dX2_weigh_56
                  · refine lv_aload_n hx hb dX2_weigh_37 rfl (lv_at hl 1 rfl) ?_
                    refine lv_aload_n hx hb dX2_weigh_38 rfl (lv_at hl 2 rfl) ?_
                    refine lv_aload_n hx hb dX2_weigh_39 rfl (lv_at hl 3 rfl) ?_
                    refine lv_iload_n hx hb dX2_weigh_40 rfl (lv_at hl 4 rfl) ?_
                    refine lv_iload hx hb dX2_weigh_41 (lv_at hl 0 rfl) ?_
                    refine lv_iload hx hb dX2_weigh_43 (lv_at hl 5 rfl) ?_
                    refine lv_iload hx hb dX2_weigh_45 (lv_at hl 6 rfl) ?_
                    refine kJv (wr := []) (va_runV (As := [.ref o, .ref y, .int a2, .int l27_6, .int a3, .int a4]) (rest := []) ⟨hx, hb, hml, hown, hT⟩ (c_X2_weighRowG l D cI aK aV k o y k0 k1 o0 o1 o2 o3 o4 o5 o50 y0 y1 y2 H.size g27_k0 g27_k1 d6 d7 d8 d1 d51 d50 e1 e2 a2 l27_6 a3 a4 (by first | omega | decide | assumption | rfl)) (cwV 6 hT (gV_in mw_936 mw_933 mw_935 mw_p2_15 mw_9) rfl rfl rfl (by decide +kernel) ⟨Nat.le_of_ble_eq_true rfl, Nat.le_of_ble_eq_true rfl⟩) (kRecvX (q0 := 0) (ci := 2) hK hP hD hN hXS hS hA rfl rfl [0, 1, 2, 3, 4, 5, 6, 8, 9, 7] rfl (by decide +kernel)) rfl rfl hl.1 rfl (lv_room (Nat.le_of_ble_eq_true rfl)) dX2_weigh_47 ⟨Nat.le_of_ble_eq_true rfl, Nat.le_of_ble_eq_true rfl⟩) hP hD hS hA [0, 1, 2, 3, 4, 5, 6, 8, 9, 7] [] rfl rfl (by decide +kernel) (by decide +kernel) ?_
                    clear hP hD hS
                    intro u_16 H locs w_13 hP hD hS
                    obtain ⟨sc0_14, sc1_15⟩ := u_16
                    replace hP : va_P D vwCl [(k, .inr (2, [.ref k0, .ref k1])), (k0, .inl (cI, 40, .inl sc0_14)), (k1, .inl (cI, 40, .inl sc1_15)), (o, .inr (9, [.ref o0, .ref o1, .ref o2, .ref o3, .ref o4, .ref o5, .int d6, .int d7, .int d8])), (o1, .inl (cI, 40, .inl d1)), (o5, .inr (3, [.ref o50, .int d51])), (o50, .inl (cI, 36, .inl d50)), (y, .inr (6, [.ref y0, .ref y1, .ref y2])), (y1, .inl (cI, 4, .inl e1)), (y2, .inl (cI, 144, .inl e2))] H := hP
                    replace hD : va_D A [(k, .inr (2, [.ref k0, .ref k1])), (k0, .inl (cI, 40, .inl sc0_14)), (k1, .inl (cI, 40, .inl sc1_15)), (o, .inr (9, [.ref o0, .ref o1, .ref o2, .ref o3, .ref o4, .ref o5, .int d6, .int d7, .int d8])), (o1, .inl (cI, 40, .inl d1)), (o5, .inr (3, [.ref o50, .int d51])), (o50, .inl (cI, 36, .inl d50)), (y, .inr (6, [.ref y0, .ref y1, .ref y2])), (y1, .inl (cI, 4, .inl e1)), (y2, .inl (cI, 144, .inl e2))] := hD
                    obtain ⟨v_17, ev_17⟩ : ∃ y : Int32, y = l27_6 + 12 := ⟨_, rfl⟩
                    have tv_17 : v_17.toInt = l27_6.toInt + 12 := by rw [ev_17]; exact k_addv rfl zl_12 (by omega) (by omega)
                    refine lv_iinc (v := v_17) (lv' := [(6, .int v_17), (0, .ref k), (1, .ref o), (2, .ref y), (3, .int a2), (4, .int a3), (5, .int a4)]) hx hb dX2_weigh_50 hl (k := 0) rfl (by rw [ev_17]; rfl) (by decide +kernel) rfl ?_
                    clear hl
                    intro ls hl
                    refine lv_goto (tgt := 27) hx hb dX2_weigh_53 (by decide +kernel) ?_
                    exact ih27 v_17 sc0_14 sc1_15 (by first | omega | decide | assumption | rfl) (by first | omega | decide | assumption | rfl) (by omega) ls _ _ (lv_sub hl [0, 1, 2, 3, 4, 5, 6] rfl) (hP.sub [0, 1, 2, 3, 4, 5, 6, 7, 8, 9] rfl) (hD.sub [0, 1, 2, 3, 4, 5, 6, 7, 8, 9] (by decide +kernel) rfl) hS
                · have h_10 : a2.toInt < 0 ∨ 3 < a2.toInt := h_10
                  obtain rfl : r_2 = 0 := hr_2.trans (by decide +kernel)
                  refine b_icmp_ge hx hb rfl zl_0 (tgt := 56) dX2_weigh_34 (by decide +kernel) (fun c_18 => ?_) (fun c_18 => by exfalso; omega)
                  exact hRet (g27_k0, g27_k1) [0, 1, 2, 3, 4, 5, 6, 8, 9, 7] trivial hP hD (by decide +kernel) rfl hS dX2_weigh_56
          exact hloop_27 _ 0 c0 g3_k1 (by first | omega | (simp only [zl_0]; first | done | omega) | decide | assumption | rfl) (by first | omega | (simp only [zl_0]; first | done | omega) | decide | assumption | rfl) (Nat.lt_succ_self _) ls _ _ (lv_sub hl [0, 1, 2, 3, 4, 5, 6] rfl) hP hD hS
        · refine lv_aload_n hx hb dX2_weigh_10 rfl (lv_at hl 1 rfl) ?_
          refine va_get (D := D) (ci := 2) (v := .ref k1) (C := RX2) (T := TX2) (N := 2) hx hb hT giX2 hown hK hP 0 rfl rfl 1 (by decide +kernel) (hT (Cond.fieldLink RX2 15 "DesertWire$Meetings" "worst" "[I") mw_246) (fun _ h9 => h9) rfl dX2_weigh_11 ?_
          refine lv_iload hx hb dX2_weigh_14 (lv_at hl 0 rfl) ?_
          refine lv_iconst (v := 0) hx hb dX2_weigh_16 (by decide +kernel) ?_
          refine va_iast hx hb hK hP hD hS 2 0 rfl rfl (k_in (by omega) (by omega)) dX2_weigh_17 ?_
          clear hP hD hS
          intro H locs hP hD hS
          replace hP : va_P D vwCl [(k, .inr (2, [.ref k0, .ref k1])), (k0, .inl (cI, 40, .inl c0)), (k1, .inl (cI, 40, .inl (upd g3_k1 l3_6.toNatClampNeg 0))), (o, .inr (9, [.ref o0, .ref o1, .ref o2, .ref o3, .ref o4, .ref o5, .int d6, .int d7, .int d8])), (o1, .inl (cI, 40, .inl d1)), (o5, .inr (3, [.ref o50, .int d51])), (o50, .inl (cI, 36, .inl d50)), (y, .inr (6, [.ref y0, .ref y1, .ref y2])), (y1, .inl (cI, 4, .inl e1)), (y2, .inl (cI, 144, .inl e2))] H := hP
          replace hD : va_D A [(k, .inr (2, [.ref k0, .ref k1])), (k0, .inl (cI, 40, .inl c0)), (k1, .inl (cI, 40, .inl (upd g3_k1 l3_6.toNatClampNeg 0))), (o, .inr (9, [.ref o0, .ref o1, .ref o2, .ref o3, .ref o4, .ref o5, .int d6, .int d7, .int d8])), (o1, .inl (cI, 40, .inl d1)), (o5, .inr (3, [.ref o50, .int d51])), (o50, .inl (cI, 36, .inl d50)), (y, .inr (6, [.ref y0, .ref y1, .ref y2])), (y1, .inl (cI, 4, .inl e1)), (y2, .inl (cI, 144, .inl e2))] := hD
          obtain ⟨f_19, ef_19⟩ : ∃ g : Nat → Int32, g = upd g3_k1 l3_6.toNatClampNeg 0 := ⟨_, rfl⟩
          rw [← ef_19] at hP hD
          obtain ⟨v_20, ev_20⟩ : ∃ y : Int32, y = l3_6 + 1 := ⟨_, rfl⟩
          have tv_20 : v_20.toInt = l3_6.toInt + 1 := by rw [ev_20]; exact k_addv rfl zl_1 (by omega) (by omega)
          refine lv_iinc (v := v_20) (lv' := [(6, .int v_20), (0, .ref k), (1, .ref o), (2, .ref y), (3, .int a2), (4, .int a3), (5, .int a4)]) hx hb dX2_weigh_18 hl (k := 0) rfl (by rw [ev_20]; rfl) (by decide +kernel) rfl ?_
          clear hl
          intro ls hl
          refine lv_goto (tgt := 3) hx hb dX2_weigh_21 (by decide +kernel) ?_
          exact ih3 v_20 f_19 (by first | omega | decide | assumption | rfl) (by omega) ls _ _ (lv_sub hl [0, 1, 2, 3, 4, 5, 6] rfl) (hP.sub [0, 1, 2, 3, 4, 5, 6, 7, 8, 9] rfl) (hD.sub [0, 1, 2, 3, 4, 5, 6, 7, 8, 9] (by decide +kernel) rfl) hS
  exact hloop_3 _ 0 c1 (by first | omega | (simp only [zl_0]; first | done | omega) | decide | assumption | rfl) (Nat.lt_succ_self _) ls _ _ (lv_sub hl [0, 1, 2, 3, 4, 5, 6] rfl) hP hD hS
