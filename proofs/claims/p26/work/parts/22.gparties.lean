theorem bn_cX3_has_0 : BN cX3_has 0 0x2b4080500aa00a0800a8c101c06805461000ad4561c0a805381c := by
  unfold BN; decide +kernel
theorem dX3_has_0 : decode cX3_has 0 = .ok (.iload_n 1, 1) := dR0 (k := 0) (i := 0) bn_cX3_has_0 dop_27 (by decide +kernel)
theorem dX3_has_1 : decode cX3_has 1 = .ok (.ifCond .lt 20, 3) := dR2s (f := Instr.ifCond .lt) (k := 0) (i := 1) bn_cX3_has_0 dop_155 20 20 (by decide +kernel)
theorem dX3_has_4 : decode cX3_has 4 = .ok (.iload_n 1, 1) := dR0 (k := 0) (i := 4) bn_cX3_has_0 dop_27 (by decide +kernel)
theorem dX3_has_5 : decode cX3_has 5 = .ok (.aload_n 0, 1) := dR0 (k := 0) (i := 5) bn_cX3_has_0 dop_42 (by decide +kernel)
theorem dX3_has_6 : decode cX3_has 6 = .ok (.getfield 15, 3) := dR2 (f := Instr.getfield) (k := 0) (i := 6) bn_cX3_has_0 dop_180 15 (by decide +kernel)
theorem dX3_has_9 : decode cX3_has 9 = .ok (.if_icmp .ge 12, 3) := dR2s (f := Instr.if_icmp .ge) (k := 0) (i := 9) bn_cX3_has_0 dop_162 12 12 (by decide +kernel)
theorem dX3_has_12 : decode cX3_has 12 = .ok (.iload_n 1, 1) := dR0 (k := 0) (i := 12) bn_cX3_has_0 dop_27 (by decide +kernel)
theorem dX3_has_13 : decode cX3_has 13 = .ok (.iconst 4, 1) := dR0 (k := 0) (i := 13) bn_cX3_has_0 dop_7 (by decide +kernel)
theorem dX3_has_14 : decode cX3_has 14 = .ok (.if_icmp .ge 7, 3) := dR2s (f := Instr.if_icmp .ge) (k := 0) (i := 14) bn_cX3_has_0 dop_162 7 7 (by decide +kernel)
theorem dX3_has_17 : decode cX3_has 17 = .ok (.iconst 1, 1) := dR0 (k := 0) (i := 17) bn_cX3_has_0 dop_4 (by decide +kernel)
theorem dX3_has_18 : decode cX3_has 18 = .ok (.goto 4, 3) := dR2s (f := Instr.goto) (k := 0) (i := 18) bn_cX3_has_0 dop_167 4 4 (by decide +kernel)
theorem dX3_has_21 : decode cX3_has 21 = .ok (.iconst 0, 1) := dR0 (k := 0) (i := 21) bn_cX3_has_0 dop_3 (by decide +kernel)
theorem dX3_has_22 : decode cX3_has 22 = .ok (.ireturn, 1) := dR0 (k := 0) (i := 22) bn_cX3_has_0 dop_172 (by decide +kernel)
set_option maxHeartbeats 4000000 in
set_option maxRecDepth 100000 in
theorem c_X3_hasG (l : Launch) (D : va_G) (cI : ClassId) (aK aV : Nat → Nat) (k k0 : Nat) (sz : Nat) (c1 : Int32) (a0 : Int32) : Met l yX3_has (gW yX3_has cX3_has 2 (some .boolean)) ({ frames := 0, cells := 0, slots := 0, locals := 0 } : Room) (kPreX D cI aK aV [.ref k, .int a0] [(k, .inr (3, [.ref k0, .int c1]))] sz) (va_Qi (fun (r : Int32) (u : Unit) => (r = 1 ∧ 0 ≤ a0.toInt ∧ a0.toInt < c1.toInt ∧ a0.toInt < 4) ∨ (r = 0 ∧ (a0.toInt < 0 ∨ c1.toInt ≤ a0.toInt ∨ 4 ≤ a0.toInt))) (fun u t => kWd D cI (va_A [(k, .inr (3, [.ref k0, .int c1]))] sz) [(k, .inr (3, [.ref k0, .int c1]))] t) (va_A [(k, .inr (3, [.ref k0, .int c1]))] sz)) 0 0 (va_A [(k, .inr (3, [.ref k0, .int c1]))] sz) := by
  refine kMetIX (own := RX3) (by decide +kernel) rfl (Nat.le_of_ble_eq_true rfl) ?_
  intro p e s m args below meth c hx hb hT hown hname hml A Q hK hP hD hS hA hN hXS hRet ls hl
  have hl : lv_has ls 2 [(0, .ref k), (1, .int a0)] := hl
  have lo_c1 := k_lo c1
  have hi_c1 := k_hi c1
  refine lv_iload_n hx hb dX3_has_0 rfl (lv_at hl 1 rfl) ?_
  refine b_if_lt hx hb rfl (tgt := 21) dX3_has_1 (by decide +kernel) (fun c_1 => ?_) (fun c_1 => ?_)
  · refine lv_iconst (v := 0) hx hb dX3_has_21 (by decide +kernel) ?_
    exact hRet () [0] (Or.inr (⟨rfl, (by omega)⟩)) hP hD (by decide +kernel) rfl hS rfl dX3_has_22
  · refine lv_iload_n hx hb dX3_has_4 rfl (lv_at hl 1 rfl) ?_
    refine lv_aload_n hx hb dX3_has_5 rfl (lv_at hl 0 rfl) ?_
    refine va_get (D := D) (ci := 3) (v := .int c1) (C := RX3) (T := TX3) (N := 2) hx hb hT giX3 hown hK hP 0 rfl rfl 1 (by decide +kernel) (hT (Cond.fieldLink RX3 15 "DesertWire$Parties" "number" "I") mw_81) (fun _ h9 => h9) rfl dX3_has_6 ?_
    refine b_icmp_ge hx hb rfl rfl (tgt := 21) dX3_has_9 (by decide +kernel) (fun c_2 => ?_) (fun c_2 => ?_)
    · refine lv_iconst (v := 0) hx hb dX3_has_21 (by decide +kernel) ?_
      exact hRet () [0] (Or.inr (⟨rfl, (by omega)⟩)) hP hD (by decide +kernel) rfl hS rfl dX3_has_22
    · refine lv_iload_n hx hb dX3_has_12 rfl (lv_at hl 1 rfl) ?_
      refine lv_iconst (v := 4) hx hb dX3_has_13 (by decide +kernel) ?_
      refine b_icmp_ge hx hb rfl zl_4 (tgt := 21) dX3_has_14 (by decide +kernel) (fun c_3 => ?_) (fun c_3 => ?_)
      · refine lv_iconst (v := 0) hx hb dX3_has_21 (by decide +kernel) ?_
        exact hRet () [0] (Or.inr (⟨rfl, (by omega)⟩)) hP hD (by decide +kernel) rfl hS rfl dX3_has_22
      · refine lv_iconst (v := 1) hx hb dX3_has_17 (by decide +kernel) ?_
        refine lv_goto (tgt := 22) hx hb dX3_has_18 (by decide +kernel) ?_
        exact hRet () [0] (Or.inl ⟨rfl, (by omega), (by omega), (by omega)⟩) hP hD (by decide +kernel) rfl hS rfl dX3_has_22
theorem bn_cX3_hasRoom_0 : BN cX3_hasRoom 0 0xad0201402a80282002a30404002b515840029c080056a2b := by
  unfold BN; decide +kernel
theorem dX3_hasRoom_0 : decode cX3_hasRoom 0 = .ok (.aload_n 0, 1) := dR0 (k := 0) (i := 0) bn_cX3_hasRoom_0 dop_42 (by decide +kernel)
theorem dX3_hasRoom_1 : decode cX3_hasRoom 1 = .ok (.getfield 15, 3) := dR2 (f := Instr.getfield) (k := 0) (i := 1) bn_cX3_hasRoom_0 dop_180 15 (by decide +kernel)
theorem dX3_hasRoom_4 : decode cX3_hasRoom 4 = .ok (.ifCond .lt 15, 3) := dR2s (f := Instr.ifCond .lt) (k := 0) (i := 4) bn_cX3_hasRoom_0 dop_155 15 15 (by decide +kernel)
theorem dX3_hasRoom_7 : decode cX3_hasRoom 7 = .ok (.aload_n 0, 1) := dR0 (k := 0) (i := 7) bn_cX3_hasRoom_0 dop_42 (by decide +kernel)
theorem dX3_hasRoom_8 : decode cX3_hasRoom 8 = .ok (.getfield 15, 3) := dR2 (f := Instr.getfield) (k := 0) (i := 8) bn_cX3_hasRoom_0 dop_180 15 (by decide +kernel)
theorem dX3_hasRoom_11 : decode cX3_hasRoom 11 = .ok (.iconst 4, 1) := dR0 (k := 0) (i := 11) bn_cX3_hasRoom_0 dop_7 (by decide +kernel)
theorem dX3_hasRoom_12 : decode cX3_hasRoom 12 = .ok (.if_icmp .ge 7, 3) := dR2s (f := Instr.if_icmp .ge) (k := 0) (i := 12) bn_cX3_hasRoom_0 dop_162 7 7 (by decide +kernel)
theorem dX3_hasRoom_15 : decode cX3_hasRoom 15 = .ok (.iconst 1, 1) := dR0 (k := 0) (i := 15) bn_cX3_hasRoom_0 dop_4 (by decide +kernel)
theorem dX3_hasRoom_16 : decode cX3_hasRoom 16 = .ok (.goto 4, 3) := dR2s (f := Instr.goto) (k := 0) (i := 16) bn_cX3_hasRoom_0 dop_167 4 4 (by decide +kernel)
theorem dX3_hasRoom_19 : decode cX3_hasRoom 19 = .ok (.iconst 0, 1) := dR0 (k := 0) (i := 19) bn_cX3_hasRoom_0 dop_3 (by decide +kernel)
theorem dX3_hasRoom_20 : decode cX3_hasRoom 20 = .ok (.ireturn, 1) := dR0 (k := 0) (i := 20) bn_cX3_hasRoom_0 dop_172 (by decide +kernel)
set_option maxHeartbeats 4000000 in
set_option maxRecDepth 100000 in
theorem c_X3_hasRoomG (l : Launch) (D : va_G) (cI : ClassId) (aK aV : Nat → Nat) (k k0 : Nat) (sz : Nat) (c1 : Int32) : Met l yX3_hasRoom (gW yX3_hasRoom cX3_hasRoom 1 (some .boolean)) ({ frames := 0, cells := 0, slots := 0, locals := 0 } : Room) (kPreX D cI aK aV [.ref k] [(k, .inr (3, [.ref k0, .int c1]))] sz) (va_Qi (fun (r : Int32) (u : Unit) => (r = 1 ∧ 0 ≤ c1.toInt ∧ c1.toInt < 4) ∨ (r = 0 ∧ (c1.toInt < 0 ∨ 4 ≤ c1.toInt))) (fun u t => kWd D cI (va_A [(k, .inr (3, [.ref k0, .int c1]))] sz) [(k, .inr (3, [.ref k0, .int c1]))] t) (va_A [(k, .inr (3, [.ref k0, .int c1]))] sz)) 0 0 (va_A [(k, .inr (3, [.ref k0, .int c1]))] sz) := by
  refine kMetIX (own := RX3) (by decide +kernel) rfl (Nat.le_of_ble_eq_true rfl) ?_
  intro p e s m args below meth c hx hb hT hown hname hml A Q hK hP hD hS hA hN hXS hRet ls hl
  have hl : lv_has ls 1 [(0, .ref k)] := hl
  have lo_c1 := k_lo c1
  have hi_c1 := k_hi c1
  refine lv_aload_n hx hb dX3_hasRoom_0 rfl (lv_at hl 0 rfl) ?_
  refine va_get (D := D) (ci := 3) (v := .int c1) (C := RX3) (T := TX3) (N := 2) hx hb hT giX3 hown hK hP 0 rfl rfl 1 (by decide +kernel) (hT (Cond.fieldLink RX3 15 "DesertWire$Parties" "number" "I") mw_81) (fun _ h9 => h9) rfl dX3_hasRoom_1 ?_
  refine b_if_lt hx hb rfl (tgt := 19) dX3_hasRoom_4 (by decide +kernel) (fun c_1 => ?_) (fun c_1 => ?_)
  · refine lv_iconst (v := 0) hx hb dX3_hasRoom_19 (by decide +kernel) ?_
    exact hRet () [0] (Or.inr (⟨rfl, (by omega)⟩)) hP hD (by decide +kernel) rfl hS rfl dX3_hasRoom_20
  · refine lv_aload_n hx hb dX3_hasRoom_7 rfl (lv_at hl 0 rfl) ?_
    refine va_get (D := D) (ci := 3) (v := .int c1) (C := RX3) (T := TX3) (N := 2) hx hb hT giX3 hown hK hP 0 rfl rfl 1 (by decide +kernel) (hT (Cond.fieldLink RX3 15 "DesertWire$Parties" "number" "I") mw_81) (fun _ h9 => h9) rfl dX3_hasRoom_8 ?_
    refine lv_iconst (v := 4) hx hb dX3_hasRoom_11 (by decide +kernel) ?_
    refine b_icmp_ge hx hb rfl zl_4 (tgt := 19) dX3_hasRoom_12 (by decide +kernel) (fun c_2 => ?_) (fun c_2 => ?_)
    · refine lv_iconst (v := 0) hx hb dX3_hasRoom_19 (by decide +kernel) ?_
      exact hRet () [0] (Or.inr (⟨rfl, (by omega)⟩)) hP hD (by decide +kernel) rfl hS rfl dX3_hasRoom_20
    · refine lv_iconst (v := 1) hx hb dX3_hasRoom_15 (by decide +kernel) ?_
      refine lv_goto (tgt := 20) hx hb dX3_hasRoom_16 (by decide +kernel) ?_
      exact hRet () [0] (Or.inl ⟨rfl, (by omega), (by omega)⟩) hP hD (by decide +kernel) rfl hS rfl dX3_hasRoom_20
theorem bn_cX3_add_0 : BN cX3_add 0 0x2b4ca05080056a2b080056c610284002b52d0add30054008048528010c21c34828221000ad4560a00ad4561900a8c14110e0f408ad01818029b0d0056e2b := by
  unfold BN; decide +kernel
theorem dX3_add_0 : decode cX3_add 0 = .ok (.aload_n 0, 1) := dR0 (k := 0) (i := 0) bn_cX3_add_0 dop_42 (by decide +kernel)
theorem dX3_add_1 : decode cX3_add 1 = .ok (.invokevirtual 25, 3) := dR2 (f := Instr.invokevirtual) (k := 0) (i := 1) bn_cX3_add_0 dop_182 25 (by decide +kernel)
theorem dX3_add_4 : decode cX3_add 4 = .ok (.ifCond .ne 5, 3) := dR2s (f := Instr.ifCond .ne) (k := 0) (i := 4) bn_cX3_add_0 dop_154 5 5 (by decide +kernel)
theorem dX3_add_7 : decode cX3_add 7 = .ok (.iconst (-1), 1) := dR0 (k := 0) (i := 7) bn_cX3_add_0 dop_2 (by decide +kernel)
theorem dX3_add_8 : decode cX3_add 8 = .ok (.ireturn, 1) := dR0 (k := 0) (i := 8) bn_cX3_add_0 dop_172 (by decide +kernel)
theorem dX3_add_9 : decode cX3_add 9 = .ok (.iconst 0, 1) := dR0 (k := 0) (i := 9) bn_cX3_add_0 dop_3 (by decide +kernel)
theorem dX3_add_10 : decode cX3_add 10 = .ok (.istore_n 1, 1) := dR0 (k := 0) (i := 10) bn_cX3_add_0 dop_60 (by decide +kernel)
theorem dX3_add_11 : decode cX3_add 11 = .ok (.iload_n 1, 1) := dR0 (k := 0) (i := 11) bn_cX3_add_0 dop_27 (by decide +kernel)
theorem dX3_add_12 : decode cX3_add 12 = .ok (.bipush 9, 2) := dR1s (f := Instr.bipush) (k := 0) (i := 12) bn_cX3_add_0 dop_16 9 9 (by decide +kernel)
theorem dX3_add_14 : decode cX3_add 14 = .ok (.if_icmp .ge 24, 3) := dR2s (f := Instr.if_icmp .ge) (k := 0) (i := 14) bn_cX3_add_0 dop_162 24 24 (by decide +kernel)
theorem dX3_add_17 : decode cX3_add 17 = .ok (.aload_n 0, 1) := dR0 (k := 0) (i := 17) bn_cX3_add_0 dop_42 (by decide +kernel)
theorem dX3_add_18 : decode cX3_add 18 = .ok (.getfield 9, 3) := dR2 (f := Instr.getfield) (k := 0) (i := 18) bn_cX3_add_0 dop_180 9 (by decide +kernel)
theorem dX3_add_21 : decode cX3_add 21 = .ok (.aload_n 0, 1) := dR0 (k := 0) (i := 21) bn_cX3_add_0 dop_42 (by decide +kernel)
theorem dX3_add_22 : decode cX3_add 22 = .ok (.getfield 15, 3) := dR2 (f := Instr.getfield) (k := 0) (i := 22) bn_cX3_add_0 dop_180 15 (by decide +kernel)
theorem dX3_add_25 : decode cX3_add 25 = .ok (.bipush 9, 2) := dR1s (f := Instr.bipush) (k := 0) (i := 25) bn_cX3_add_0 dop_16 9 9 (by decide +kernel)
theorem dX3_add_27 : decode cX3_add 27 = .ok (.imul, 1) := dR0 (k := 0) (i := 27) bn_cX3_add_0 dop_104 (by decide +kernel)
theorem dX3_add_28 : decode cX3_add 28 = .ok (.iload_n 1, 1) := dR0 (k := 0) (i := 28) bn_cX3_add_0 dop_27 (by decide +kernel)
theorem dX3_add_29 : decode cX3_add 29 = .ok (.iadd, 1) := dR0 (k := 0) (i := 29) bn_cX3_add_0 dop_96 (by decide +kernel)
theorem dX3_add_30 : decode cX3_add 30 = .ok (.iconst 0, 1) := dR0 (k := 0) (i := 30) bn_cX3_add_0 dop_3 (by decide +kernel)
theorem dX3_add_31 : decode cX3_add 31 = .ok (.iastore, 1) := dR0 (k := 0) (i := 31) bn_cX3_add_0 dop_79 (by decide +kernel)
theorem dX3_add_32 : decode cX3_add 32 = .ok (.iinc 1 1, 3) := dRii (f := Instr.iinc) (k := 0) (i := 32) bn_cX3_add_0 dop_132 1 1 1 (by decide +kernel)
theorem dX3_add_35 : decode cX3_add 35 = .ok (.goto (-24), 3) := dR2s (f := Instr.goto) (k := 0) (i := 35) bn_cX3_add_0 dop_167 65512 (-24) (by decide +kernel)
theorem dX3_add_38 : decode cX3_add 38 = .ok (.aload_n 0, 1) := dR0 (k := 0) (i := 38) bn_cX3_add_0 dop_42 (by decide +kernel)
theorem dX3_add_39 : decode cX3_add 39 = .ok (.dup, 1) := dR0 (k := 0) (i := 39) bn_cX3_add_0 dop_89 (by decide +kernel)
theorem dX3_add_40 : decode cX3_add 40 = .ok (.getfield 15, 3) := dR2 (f := Instr.getfield) (k := 0) (i := 40) bn_cX3_add_0 dop_180 15 (by decide +kernel)
theorem dX3_add_43 : decode cX3_add 43 = .ok (.iconst 1, 1) := dR0 (k := 0) (i := 43) bn_cX3_add_0 dop_4 (by decide +kernel)
theorem dX3_add_44 : decode cX3_add 44 = .ok (.iadd, 1) := dR0 (k := 0) (i := 44) bn_cX3_add_0 dop_96 (by decide +kernel)
theorem dX3_add_45 : decode cX3_add 45 = .ok (.putfield 15, 3) := dR2 (f := Instr.putfield) (k := 0) (i := 45) bn_cX3_add_0 dop_181 15 (by decide +kernel)
theorem dX3_add_48 : decode cX3_add 48 = .ok (.aload_n 0, 1) := dR0 (k := 0) (i := 48) bn_cX3_add_0 dop_42 (by decide +kernel)
theorem dX3_add_49 : decode cX3_add 49 = .ok (.getfield 15, 3) := dR2 (f := Instr.getfield) (k := 0) (i := 49) bn_cX3_add_0 dop_180 15 (by decide +kernel)
theorem dX3_add_52 : decode cX3_add 52 = .ok (.iconst 1, 1) := dR0 (k := 0) (i := 52) bn_cX3_add_0 dop_4 (by decide +kernel)
theorem dX3_add_53 : decode cX3_add 53 = .ok (.isub, 1) := dR0 (k := 0) (i := 53) bn_cX3_add_0 dop_100 (by decide +kernel)
theorem dX3_add_54 : decode cX3_add 54 = .ok (.ireturn, 1) := dR0 (k := 0) (i := 54) bn_cX3_add_0 dop_172 (by decide +kernel)

theorem bn_cX3_get_0 : BN cX3_get 0 0x15a0402805502f30874d20a0887014015a8ac240151828221d0c005381d0e005341e00adc382b := by
  unfold BN; decide +kernel
theorem dX3_get_0 : decode cX3_get 0 = .ok (.aload_n 0, 1) := dR0 (k := 0) (i := 0) bn_cX3_get_0 dop_42 (by decide +kernel)
theorem dX3_get_1 : decode cX3_get 1 = .ok (.iload_n 1, 1) := dR0 (k := 0) (i := 1) bn_cX3_get_0 dop_27 (by decide +kernel)
theorem dX3_get_2 : decode cX3_get 2 = .ok (.invokevirtual 29, 3) := dR2 (f := Instr.invokevirtual) (k := 0) (i := 2) bn_cX3_get_0 dop_182 29 (by decide +kernel)
theorem dX3_get_5 : decode cX3_get 5 = .ok (.ifCond .eq 27, 3) := dR2s (f := Instr.ifCond .eq) (k := 0) (i := 5) bn_cX3_get_0 dop_153 27 27 (by decide +kernel)
theorem dX3_get_8 : decode cX3_get 8 = .ok (.iload_n 2, 1) := dR0 (k := 0) (i := 8) bn_cX3_get_0 dop_28 (by decide +kernel)
theorem dX3_get_9 : decode cX3_get 9 = .ok (.ifCond .lt 23, 3) := dR2s (f := Instr.ifCond .lt) (k := 0) (i := 9) bn_cX3_get_0 dop_155 23 23 (by decide +kernel)
theorem dX3_get_12 : decode cX3_get 12 = .ok (.iload_n 2, 1) := dR0 (k := 0) (i := 12) bn_cX3_get_0 dop_28 (by decide +kernel)
theorem dX3_get_13 : decode cX3_get 13 = .ok (.bipush 9, 2) := dR1s (f := Instr.bipush) (k := 0) (i := 13) bn_cX3_get_0 dop_16 9 9 (by decide +kernel)
theorem dX3_get_15 : decode cX3_get 15 = .ok (.if_icmp .ge 17, 3) := dR2s (f := Instr.if_icmp .ge) (k := 0) (i := 15) bn_cX3_get_0 dop_162 17 17 (by decide +kernel)
theorem dX3_get_18 : decode cX3_get 18 = .ok (.aload_n 0, 1) := dR0 (k := 0) (i := 18) bn_cX3_get_0 dop_42 (by decide +kernel)
theorem dX3_get_19 : decode cX3_get 19 = .ok (.getfield 9, 3) := dR2 (f := Instr.getfield) (k := 0) (i := 19) bn_cX3_get_0 dop_180 9 (by decide +kernel)
theorem dX3_get_22 : decode cX3_get 22 = .ok (.iload_n 1, 1) := dR0 (k := 0) (i := 22) bn_cX3_get_0 dop_27 (by decide +kernel)
theorem dX3_get_23 : decode cX3_get 23 = .ok (.bipush 9, 2) := dR1s (f := Instr.bipush) (k := 0) (i := 23) bn_cX3_get_0 dop_16 9 9 (by decide +kernel)
theorem dX3_get_25 : decode cX3_get 25 = .ok (.imul, 1) := dR0 (k := 0) (i := 25) bn_cX3_get_0 dop_104 (by decide +kernel)
theorem dX3_get_26 : decode cX3_get 26 = .ok (.iload_n 2, 1) := dR0 (k := 0) (i := 26) bn_cX3_get_0 dop_28 (by decide +kernel)
theorem dX3_get_27 : decode cX3_get 27 = .ok (.iadd, 1) := dR0 (k := 0) (i := 27) bn_cX3_get_0 dop_96 (by decide +kernel)
theorem dX3_get_28 : decode cX3_get 28 = .ok (.iaload, 1) := dR0 (k := 0) (i := 28) bn_cX3_get_0 dop_46 (by decide +kernel)
theorem dX3_get_29 : decode cX3_get 29 = .ok (.goto 4, 3) := dR2s (f := Instr.goto) (k := 0) (i := 29) bn_cX3_get_0 dop_167 4 4 (by decide +kernel)
theorem dX3_get_32 : decode cX3_get 32 = .ok (.iconst 0, 1) := dR0 (k := 0) (i := 32) bn_cX3_get_0 dop_3 (by decide +kernel)
theorem dX3_get_33 : decode cX3_get 33 = .ok (.ireturn, 1) := dR0 (k := 0) (i := 33) bn_cX3_get_0 dop_172 (by decide +kernel)
set_option maxHeartbeats 4000000 in
set_option maxRecDepth 100000 in
theorem c_X3_getG (l : Launch) (D : va_G) (cI : ClassId) (aK aV : Nat → Nat) (k k0 : Nat) (sz : Nat) (c1 : Int32) (c0 : Nat → Int32) (a0 : Int32) (a1 : Int32) : Met l yX3_get (gW yX3_get cX3_get 3 (some .int)) ({ frames := 1, cells := 0, slots := 0, locals := 21 } : Room) (kPreX D cI aK aV [.ref k, .int a0, .int a1] [(k, .inr (3, [.ref k0, .int c1])), (k0, .inl (cI, 36, .inl c0))] sz) (va_Qi (fun (r : Int32) (u : Unit) => True) (fun u t => kWd D cI (va_A [(k, .inr (3, [.ref k0, .int c1])), (k0, .inl (cI, 36, .inl c0))] sz) [(k, .inr (3, [.ref k0, .int c1])), (k0, .inl (cI, 36, .inl c0))] t) (va_A [(k, .inr (3, [.ref k0, .int c1])), (k0, .inl (cI, 36, .inl c0))] sz)) 0 0 (va_A [(k, .inr (3, [.ref k0, .int c1])), (k0, .inl (cI, 36, .inl c0))] sz) := by
  refine kMetIX (own := RX3) (by decide +kernel) rfl (Nat.le_of_ble_eq_true rfl) ?_
  intro p e s m args below meth c hx hb hT hown hname hml A Q hK hP hD hS hA hN hXS hRet ls hl
  have hl : lv_has ls 3 [(0, .ref k), (1, .int a0), (2, .int a1)] := hl
  have lo_a0 := k_lo a0
  have hi_a0 := k_hi a0
  have lo_a1 := k_lo a1
  have hi_a1 := k_hi a1
  have lo_c1 := k_lo c1
  have hi_c1 := k_hi c1
  refine lv_aload_n hx hb dX3_get_0 rfl (lv_at hl 0 rfl) ?_
  refine lv_iload_n hx hb dX3_get_1 rfl (lv_at hl 1 rfl) ?_
  refine kJi (wr := [(k0, .inl (cI, 36, .inl c0))]) (va_runV (As := [.int a0]) (rest := []) ⟨hx, hb, hml, hown, hT⟩ (c_X3_hasG l D cI aK aV k k0 s.heap.size c1 a0) (cwV 1 hT (gV_in mw_717 mw_714 mw_715 mw_716 mw_4) rfl rfl rfl (by decide +kernel) ⟨Nat.le_of_ble_eq_true rfl, Nat.le_of_ble_eq_true rfl⟩) (kRecvX (q0 := 0) (ci := 3) hK hP hD hN hXS hS hA rfl rfl [0] rfl (by decide +kernel)) rfl rfl hl.1 rfl (lv_room (Nat.le_of_ble_eq_true rfl)) dX3_get_2 ⟨Nat.le_of_ble_eq_true rfl, Nat.le_of_ble_eq_true rfl⟩) hP hD hS hA [0] [1] rfl rfl (by decide +kernel) (by decide +kernel) ?_
  clear hP hD hS
  intro r_1 u_3 H locs w_2 hP hD hS
  replace hP : va_P D vwCl [(k0, .inl (cI, 36, .inl c0)), (k, .inr (3, [.ref k0, .int c1]))] H := hP
  replace hD : va_D A [(k0, .inl (cI, 36, .inl c0)), (k, .inr (3, [.ref k0, .int c1]))] := hD
  rcases w_2 with ⟨hr_1, h_4, h_5, h_6⟩ | ⟨hr_1, h_7⟩
  · have h_4 : 0 ≤ a0.toInt := h_4
    have h_5 : a0.toInt < c1.toInt := h_5
    have h_6 : a0.toInt < 4 := h_6
    obtain rfl : r_1 = 1 := hr_1.trans (by decide +kernel)
    refine b_if_eq hx hb zl_1 (tgt := 32) dX3_get_5 (by decide +kernel) (fun c_8 => by exfalso; omega) (fun c_8 => ?_)
    refine lv_iload_n hx hb dX3_get_8 rfl (lv_at hl 2 rfl) ?_
    refine b_if_lt hx hb rfl (tgt := 32) dX3_get_9 (by decide +kernel) (fun c_9 => ?_) (fun c_9 => ?_)
    · refine lv_iconst (v := 0) hx hb dX3_get_32 (by decide +kernel) ?_
      exact hRet () [1, 0] trivial hP hD (by decide +kernel) rfl hS rfl dX3_get_33
    · refine lv_iload_n hx hb dX3_get_12 rfl (lv_at hl 2 rfl) ?_
      refine lv_bipush (v := 9) hx hb dX3_get_13 (by decide +kernel) ?_
      refine b_icmp_ge hx hb rfl zl_9 (tgt := 32) dX3_get_15 (by decide +kernel) (fun c_10 => ?_) (fun c_10 => ?_)
      · refine lv_iconst (v := 0) hx hb dX3_get_32 (by decide +kernel) ?_
        exact hRet () [1, 0] trivial hP hD (by decide +kernel) rfl hS rfl dX3_get_33
      · refine lv_aload_n hx hb dX3_get_18 rfl (lv_at hl 0 rfl) ?_
        refine va_get (D := D) (ci := 3) (v := .ref k0) (C := RX3) (T := TX3) (N := 2) hx hb hT giX3 hown hK hP 1 rfl rfl 0 (by decide +kernel) (hT (Cond.fieldLink RX3 9 "DesertWire$Parties" "facts" "[I") mw_80) (fun _ h9 => h9) rfl dX3_get_19 ?_
        refine lv_iload_n hx hb dX3_get_22 rfl (lv_at hl 1 rfl) ?_
        refine lv_bipush (v := 9) hx hb dX3_get_23 (by decide +kernel) ?_
        refine lv_imul hx hb dX3_get_25 ?_
        refine lv_topi (fun v_11 ev_11 => ?_)
        have tv_11 : v_11.toInt = a0.toInt * 9 := by rw [ev_11]; exact k_mulv rfl zl_9 (by omega) (by omega)
        refine lv_iload_n hx hb dX3_get_26 rfl (lv_at hl 2 rfl) ?_
        refine lv_iadd hx hb dX3_get_27 ?_
        refine lv_topi (fun v_12 ev_12 => ?_)
        have tv_12 : v_12.toInt = v_11.toInt + a1.toInt := by rw [ev_12]; exact k_addv rfl rfl (by omega) (by omega)
        refine k_iald (v := (c0 v_12.toNatClampNeg)) hx hb hK hP 0 0 rfl rfl (k_in (by omega) (by omega)) rfl dX3_get_28 ?_
        refine lv_topi (fun v_13 ev_13 => ?_)
        have lo_v_13 := k_lo v_13
        have hi_v_13 := k_hi v_13
        have tv_13 : v_13.toInt = (c0 v_12.toNatClampNeg).toInt := by rw [ev_13]
        refine lv_goto (tgt := 33) hx hb dX3_get_29 (by decide +kernel) ?_
        exact hRet () [1, 0] trivial hP hD (by decide +kernel) rfl hS rfl dX3_get_33
  · have h_7 : a0.toInt < 0 ∨ c1.toInt ≤ a0.toInt ∨ 4 ≤ a0.toInt := h_7
    obtain rfl : r_1 = 0 := hr_1.trans (by decide +kernel)
    refine b_if_eq hx hb zl_0 (tgt := 32) dX3_get_5 (by decide +kernel) (fun c_14 => ?_) (fun c_14 => by exfalso; omega)
    refine lv_iconst (v := 0) hx hb dX3_get_32 (by decide +kernel) ?_
    exact hRet () [1, 0] trivial hP hD (by decide +kernel) rfl hS rfl dX3_get_33
theorem bn_cX3_set_0 : BN cX3_set 0 0x2c8a01e30874d20a0887014015a8ac200151828221d0b005381d0d005341e00adc382b := by
  unfold BN; decide +kernel
theorem dX3_set_0 : decode cX3_set 0 = .ok (.aload_n 0, 1) := dR0 (k := 0) (i := 0) bn_cX3_set_0 dop_42 (by decide +kernel)
theorem dX3_set_1 : decode cX3_set 1 = .ok (.iload_n 1, 1) := dR0 (k := 0) (i := 1) bn_cX3_set_0 dop_27 (by decide +kernel)
theorem dX3_set_2 : decode cX3_set 2 = .ok (.invokevirtual 29, 3) := dR2 (f := Instr.invokevirtual) (k := 0) (i := 2) bn_cX3_set_0 dop_182 29 (by decide +kernel)
theorem dX3_set_5 : decode cX3_set 5 = .ok (.ifCond .eq 25, 3) := dR2s (f := Instr.ifCond .eq) (k := 0) (i := 5) bn_cX3_set_0 dop_153 25 25 (by decide +kernel)
theorem dX3_set_8 : decode cX3_set 8 = .ok (.iload_n 2, 1) := dR0 (k := 0) (i := 8) bn_cX3_set_0 dop_28 (by decide +kernel)
theorem dX3_set_9 : decode cX3_set 9 = .ok (.ifCond .lt 21, 3) := dR2s (f := Instr.ifCond .lt) (k := 0) (i := 9) bn_cX3_set_0 dop_155 21 21 (by decide +kernel)
theorem dX3_set_12 : decode cX3_set 12 = .ok (.iload_n 2, 1) := dR0 (k := 0) (i := 12) bn_cX3_set_0 dop_28 (by decide +kernel)
theorem dX3_set_13 : decode cX3_set 13 = .ok (.bipush 9, 2) := dR1s (f := Instr.bipush) (k := 0) (i := 13) bn_cX3_set_0 dop_16 9 9 (by decide +kernel)
theorem dX3_set_15 : decode cX3_set 15 = .ok (.if_icmp .ge 15, 3) := dR2s (f := Instr.if_icmp .ge) (k := 0) (i := 15) bn_cX3_set_0 dop_162 15 15 (by decide +kernel)
theorem dX3_set_18 : decode cX3_set 18 = .ok (.aload_n 0, 1) := dR0 (k := 0) (i := 18) bn_cX3_set_0 dop_42 (by decide +kernel)
theorem dX3_set_19 : decode cX3_set 19 = .ok (.getfield 9, 3) := dR2 (f := Instr.getfield) (k := 0) (i := 19) bn_cX3_set_0 dop_180 9 (by decide +kernel)
theorem dX3_set_22 : decode cX3_set 22 = .ok (.iload_n 1, 1) := dR0 (k := 0) (i := 22) bn_cX3_set_0 dop_27 (by decide +kernel)
theorem dX3_set_23 : decode cX3_set 23 = .ok (.bipush 9, 2) := dR1s (f := Instr.bipush) (k := 0) (i := 23) bn_cX3_set_0 dop_16 9 9 (by decide +kernel)
theorem dX3_set_25 : decode cX3_set 25 = .ok (.imul, 1) := dR0 (k := 0) (i := 25) bn_cX3_set_0 dop_104 (by decide +kernel)
theorem dX3_set_26 : decode cX3_set 26 = .ok (.iload_n 2, 1) := dR0 (k := 0) (i := 26) bn_cX3_set_0 dop_28 (by decide +kernel)
theorem dX3_set_27 : decode cX3_set 27 = .ok (.iadd, 1) := dR0 (k := 0) (i := 27) bn_cX3_set_0 dop_96 (by decide +kernel)
theorem dX3_set_28 : decode cX3_set 28 = .ok (.iload_n 3, 1) := dR0 (k := 0) (i := 28) bn_cX3_set_0 dop_29 (by decide +kernel)
theorem dX3_set_29 : decode cX3_set 29 = .ok (.iastore, 1) := dR0 (k := 0) (i := 29) bn_cX3_set_0 dop_79 (by decide +kernel)
theorem dX3_set_30 : decode cX3_set 30 = .ok (.return_, 1) := dR0 (k := 0) (i := 30) bn_cX3_set_0 dop_177 (by decide +kernel)

theorem bn_cX3_more_0 : BN cX3_more 0 0x2c84c015b9843c2200adc3a1c15874382b := by
  unfold BN; decide +kernel
theorem dX3_more_0 : decode cX3_more 0 = .ok (.aload_n 0, 1) := dR0 (k := 0) (i := 0) bn_cX3_more_0 dop_42 (by decide +kernel)
theorem dX3_more_1 : decode cX3_more 1 = .ok (.iload_n 1, 1) := dR0 (k := 0) (i := 1) bn_cX3_more_0 dop_27 (by decide +kernel)
theorem dX3_more_2 : decode cX3_more 2 = .ok (.iload_n 2, 1) := dR0 (k := 0) (i := 2) bn_cX3_more_0 dop_28 (by decide +kernel)
theorem dX3_more_3 : decode cX3_more 3 = .ok (.aload_n 0, 1) := dR0 (k := 0) (i := 3) bn_cX3_more_0 dop_42 (by decide +kernel)
theorem dX3_more_4 : decode cX3_more 4 = .ok (.iload_n 1, 1) := dR0 (k := 0) (i := 4) bn_cX3_more_0 dop_27 (by decide +kernel)
theorem dX3_more_5 : decode cX3_more 5 = .ok (.iload_n 2, 1) := dR0 (k := 0) (i := 5) bn_cX3_more_0 dop_28 (by decide +kernel)
theorem dX3_more_6 : decode cX3_more 6 = .ok (.invokevirtual 33, 3) := dR2 (f := Instr.invokevirtual) (k := 0) (i := 6) bn_cX3_more_0 dop_182 33 (by decide +kernel)
theorem dX3_more_9 : decode cX3_more 9 = .ok (.iload_n 3, 1) := dR0 (k := 0) (i := 9) bn_cX3_more_0 dop_29 (by decide +kernel)
theorem dX3_more_10 : decode cX3_more 10 = .ok (.iadd, 1) := dR0 (k := 0) (i := 10) bn_cX3_more_0 dop_96 (by decide +kernel)
theorem dX3_more_11 : decode cX3_more 11 = .ok (.invokevirtual 37, 3) := dR2 (f := Instr.invokevirtual) (k := 0) (i := 11) bn_cX3_more_0 dop_182 37 (by decide +kernel)
theorem dX3_more_14 : decode cX3_more 14 = .ok (.return_, 1) := dR0 (k := 0) (i := 14) bn_cX3_more_0 dop_177 (by decide +kernel)

theorem bn_cX3_isLost_0 : BN cX3_isLost 0 0xad0201402a80282002a10308802b704844382b := by
  unfold BN; decide +kernel
theorem dX3_isLost_0 : decode cX3_isLost 0 = .ok (.aload_n 0, 1) := dR0 (k := 0) (i := 0) bn_cX3_isLost_0 dop_42 (by decide +kernel)
theorem dX3_isLost_1 : decode cX3_isLost 1 = .ok (.iload_n 1, 1) := dR0 (k := 0) (i := 1) bn_cX3_isLost_0 dop_27 (by decide +kernel)
theorem dX3_isLost_2 : decode cX3_isLost 2 = .ok (.bipush 8, 2) := dR1s (f := Instr.bipush) (k := 0) (i := 2) bn_cX3_isLost_0 dop_16 8 8 (by decide +kernel)
theorem dX3_isLost_4 : decode cX3_isLost 4 = .ok (.invokevirtual 33, 3) := dR2 (f := Instr.invokevirtual) (k := 0) (i := 4) bn_cX3_isLost_0 dop_182 33 (by decide +kernel)
theorem dX3_isLost_7 : decode cX3_isLost 7 = .ok (.iconst 2, 1) := dR0 (k := 0) (i := 7) bn_cX3_isLost_0 dop_5 (by decide +kernel)
theorem dX3_isLost_8 : decode cX3_isLost 8 = .ok (.if_icmp .ne 7, 3) := dR2s (f := Instr.if_icmp .ne) (k := 0) (i := 8) bn_cX3_isLost_0 dop_160 7 7 (by decide +kernel)
theorem dX3_isLost_11 : decode cX3_isLost 11 = .ok (.iconst 1, 1) := dR0 (k := 0) (i := 11) bn_cX3_isLost_0 dop_4 (by decide +kernel)
theorem dX3_isLost_12 : decode cX3_isLost 12 = .ok (.goto 4, 3) := dR2s (f := Instr.goto) (k := 0) (i := 12) bn_cX3_isLost_0 dop_167 4 4 (by decide +kernel)
theorem dX3_isLost_15 : decode cX3_isLost 15 = .ok (.iconst 0, 1) := dR0 (k := 0) (i := 15) bn_cX3_isLost_0 dop_3 (by decide +kernel)
theorem dX3_isLost_16 : decode cX3_isLost 16 = .ok (.ireturn, 1) := dR0 (k := 0) (i := 16) bn_cX3_isLost_0 dop_172 (by decide +kernel)
set_option maxHeartbeats 4000000 in
set_option maxRecDepth 100000 in
theorem c_X3_isLostG (l : Launch) (D : va_G) (cI : ClassId) (aK aV : Nat → Nat) (k k0 : Nat) (sz : Nat) (c1 : Int32) (c0 : Nat → Int32) (a0 : Int32) : Met l yX3_isLost (gW yX3_isLost cX3_isLost 2 (some .boolean)) ({ frames := 2, cells := 0, slots := 0, locals := 43 } : Room) (kPreX D cI aK aV [.ref k, .int a0] [(k, .inr (3, [.ref k0, .int c1])), (k0, .inl (cI, 36, .inl c0))] sz) (va_Qi (fun (r : Int32) (u : Unit) => True) (fun u t => kWd D cI (va_A [(k, .inr (3, [.ref k0, .int c1])), (k0, .inl (cI, 36, .inl c0))] sz) [(k, .inr (3, [.ref k0, .int c1])), (k0, .inl (cI, 36, .inl c0))] t) (va_A [(k, .inr (3, [.ref k0, .int c1])), (k0, .inl (cI, 36, .inl c0))] sz)) 0 0 (va_A [(k, .inr (3, [.ref k0, .int c1])), (k0, .inl (cI, 36, .inl c0))] sz) := by
  refine kMetIX (own := RX3) (by decide +kernel) rfl (Nat.le_of_ble_eq_true rfl) ?_
  intro p e s m args below meth c hx hb hT hown hname hml A Q hK hP hD hS hA hN hXS hRet ls hl
  have hl : lv_has ls 2 [(0, .ref k), (1, .int a0)] := hl
  have lo_a0 := k_lo a0
  have hi_a0 := k_hi a0
  refine lv_aload_n hx hb dX3_isLost_0 rfl (lv_at hl 0 rfl) ?_
  refine lv_iload_n hx hb dX3_isLost_1 rfl (lv_at hl 1 rfl) ?_
  refine lv_bipush (v := 8) hx hb dX3_isLost_2 (by decide +kernel) ?_
  refine kJi (wr := []) (va_runV (As := [.int a0, .int 8]) (rest := []) ⟨hx, hb, hml, hown, hT⟩ (c_X3_getG l D cI aK aV k k0 s.heap.size c1 c0 a0 8) (cwV 2 hT (gV_in mw_726 mw_735 mw_724 mw_725 mw_4) rfl rfl rfl (by decide +kernel) ⟨Nat.le_of_ble_eq_true rfl, Nat.le_of_ble_eq_true rfl⟩) (kRecvX (q0 := 0) (ci := 3) hK hP hD hN hXS hS hA rfl rfl [0, 1] rfl (by decide +kernel)) rfl rfl hl.1 rfl (lv_room (Nat.le_of_ble_eq_true rfl)) dX3_isLost_4 ⟨Nat.le_of_ble_eq_true rfl, Nat.le_of_ble_eq_true rfl⟩) hP hD hS hA [0, 1] [] rfl rfl (by decide +kernel) (by decide +kernel) ?_
  clear hP hD hS
  intro r_1 u_3 H locs w_2 hP hD hS
  replace hP : va_P D vwCl [(k, .inr (3, [.ref k0, .int c1])), (k0, .inl (cI, 36, .inl c0))] H := hP
  replace hD : va_D A [(k, .inr (3, [.ref k0, .int c1])), (k0, .inl (cI, 36, .inl c0))] := hD
  have lo_r_1 := k_lo r_1
  have hi_r_1 := k_hi r_1
  refine lv_iconst (v := 2) hx hb dX3_isLost_7 (by decide +kernel) ?_
  refine b_icmp_ne hx hb rfl zl_2 (tgt := 15) dX3_isLost_8 (by decide +kernel) (fun c_4 => ?_) (fun c_4 => ?_)
  · refine lv_iconst (v := 0) hx hb dX3_isLost_15 (by decide +kernel) ?_
    exact hRet () [0, 1] trivial hP hD (by decide +kernel) rfl hS rfl dX3_isLost_16
  · refine lv_iconst (v := 1) hx hb dX3_isLost_11 (by decide +kernel) ?_
    refine lv_goto (tgt := 16) hx hb dX3_isLost_12 (by decide +kernel) ?_
    exact hRet () [0, 1] trivial hP hD (by decide +kernel) rfl hS rfl dX3_isLost_16
theorem bn_cX3_lost_0 : BN cX3_lost 0 0x2b438eb802a0040342808048503805342a00adc3a2b0a805461000ad4561d1f0107a04 := by
  unfold BN; decide +kernel
theorem dX3_lost_0 : decode cX3_lost 0 = .ok (.iconst 0, 1) := dR0 (k := 0) (i := 0) bn_cX3_lost_0 dop_3 (by decide +kernel)
theorem dX3_lost_1 : decode cX3_lost 1 = .ok (.istore_n 1, 1) := dR0 (k := 0) (i := 1) bn_cX3_lost_0 dop_60 (by decide +kernel)
theorem dX3_lost_2 : decode cX3_lost 2 = .ok (.iconst 0, 1) := dR0 (k := 0) (i := 2) bn_cX3_lost_0 dop_3 (by decide +kernel)
theorem dX3_lost_3 : decode cX3_lost 3 = .ok (.istore_n 2, 1) := dR0 (k := 0) (i := 3) bn_cX3_lost_0 dop_61 (by decide +kernel)
theorem dX3_lost_4 : decode cX3_lost 4 = .ok (.iload_n 2, 1) := dR0 (k := 0) (i := 4) bn_cX3_lost_0 dop_28 (by decide +kernel)
theorem dX3_lost_5 : decode cX3_lost 5 = .ok (.aload_n 0, 1) := dR0 (k := 0) (i := 5) bn_cX3_lost_0 dop_42 (by decide +kernel)
theorem dX3_lost_6 : decode cX3_lost 6 = .ok (.getfield 15, 3) := dR2 (f := Instr.getfield) (k := 0) (i := 6) bn_cX3_lost_0 dop_180 15 (by decide +kernel)
theorem dX3_lost_9 : decode cX3_lost 9 = .ok (.if_icmp .ge 20, 3) := dR2s (f := Instr.if_icmp .ge) (k := 0) (i := 9) bn_cX3_lost_0 dop_162 20 20 (by decide +kernel)
theorem dX3_lost_12 : decode cX3_lost 12 = .ok (.aload_n 0, 1) := dR0 (k := 0) (i := 12) bn_cX3_lost_0 dop_42 (by decide +kernel)
theorem dX3_lost_13 : decode cX3_lost 13 = .ok (.iload_n 2, 1) := dR0 (k := 0) (i := 13) bn_cX3_lost_0 dop_28 (by decide +kernel)
theorem dX3_lost_14 : decode cX3_lost 14 = .ok (.invokevirtual 41, 3) := dR2 (f := Instr.invokevirtual) (k := 0) (i := 14) bn_cX3_lost_0 dop_182 41 (by decide +kernel)
theorem dX3_lost_17 : decode cX3_lost 17 = .ok (.ifCond .eq 6, 3) := dR2s (f := Instr.ifCond .eq) (k := 0) (i := 17) bn_cX3_lost_0 dop_153 6 6 (by decide +kernel)
theorem dX3_lost_20 : decode cX3_lost 20 = .ok (.iinc 1 1, 3) := dRii (f := Instr.iinc) (k := 0) (i := 20) bn_cX3_lost_0 dop_132 1 1 1 (by decide +kernel)
theorem dX3_lost_23 : decode cX3_lost 23 = .ok (.iinc 2 1, 3) := dRii (f := Instr.iinc) (k := 0) (i := 23) bn_cX3_lost_0 dop_132 2 1 1 (by decide +kernel)
theorem dX3_lost_26 : decode cX3_lost 26 = .ok (.goto (-22), 3) := dR2s (f := Instr.goto) (k := 0) (i := 26) bn_cX3_lost_0 dop_167 65514 (-22) (by decide +kernel)
theorem dX3_lost_29 : decode cX3_lost 29 = .ok (.iload_n 1, 1) := dR0 (k := 0) (i := 29) bn_cX3_lost_0 dop_27 (by decide +kernel)
theorem dX3_lost_30 : decode cX3_lost 30 = .ok (.ireturn, 1) := dR0 (k := 0) (i := 30) bn_cX3_lost_0 dop_172 (by decide +kernel)
set_option maxHeartbeats 4000000 in
set_option maxRecDepth 100000 in
theorem c_X3_lostG (l : Launch) (D : va_G) (cI : ClassId) (aK aV : Nat → Nat) (k k0 : Nat) (sz : Nat) (c1 : Int32) (c0 : Nat → Int32) : Met l yX3_lost (gW yX3_lost cX3_lost 3 (some .int)) ({ frames := 3, cells := 0, slots := 0, locals := 64 } : Room) (kPreX D cI aK aV [.ref k] [(k, .inr (3, [.ref k0, .int c1])), (k0, .inl (cI, 36, .inl c0))] sz) (va_Qi (fun (r : Int32) (u : Unit) => True) (fun u t => kWd D cI (va_A [(k, .inr (3, [.ref k0, .int c1])), (k0, .inl (cI, 36, .inl c0))] sz) [(k, .inr (3, [.ref k0, .int c1])), (k0, .inl (cI, 36, .inl c0))] t) (va_A [(k, .inr (3, [.ref k0, .int c1])), (k0, .inl (cI, 36, .inl c0))] sz)) 0 0 (va_A [(k, .inr (3, [.ref k0, .int c1])), (k0, .inl (cI, 36, .inl c0))] sz) := by
  refine kMetIX (own := RX3) (by decide +kernel) rfl (Nat.le_of_ble_eq_true rfl) ?_
  intro p e s m args below meth c hx hb hT hown hname hml A Q hK hP hD hS hA hN hXS hRet ls hl
  have hl : lv_has ls 3 [(0, .ref k)] := hl
  have lo_c1 := k_lo c1
  have hi_c1 := k_hi c1
  refine lv_iconst (v := 0) hx hb dX3_lost_0 (by decide +kernel) ?_
  refine lv_istore_n (lv' := [(1, .int 0), (0, .ref k)]) hx hb dX3_lost_1 rfl hl (by decide +kernel) rfl ?_
  clear hl
  intro ls hl
  refine lv_iconst (v := 0) hx hb dX3_lost_2 (by decide +kernel) ?_
  refine lv_istore_n (lv' := [(2, .int 0), (1, .int 0), (0, .ref k)]) hx hb dX3_lost_3 rfl hl (by decide +kernel) rfl ?_
  clear hl
  intro ls hl
  have hloop_4 : ∀ (fu_ : Nat) (l4_1 : Int32) (l4_2 : Int32), 0 ≤ l4_2.toInt → (c1.toInt - l4_2.toInt).toNat < fu_ → ∀ (ls : Array Slot) (H : Heap) (locs : List Loc), lv_has ls 3 [(2, .int l4_2), (1, .int l4_1), (0, .ref k)] → va_P D vwCl [(k, .inr (3, [.ref k0, .int c1])), (k0, .inl (cI, 36, .inl c0))] H → va_D A [(k, .inr (3, [.ref k0, .int c1])), (k0, .inl (cI, 36, .inl c0))] → va_S A s.heap H locs → W p l e ({ frames := 3, cells := 0, slots := 0, locals := 64 } : Room) s m args below meth c H locs 0 0 Q (F0 m 4 ls []) := by
    intro fu_; induction fu_ with
    | zero => intro l4_1 l4_2 i4_0 hm; exact absurd hm (by omega)
    | succ fu_ ih4 =>
        intro l4_1 l4_2 i4_0 hm ls H locs hl hP hD hS
        have lo_l4_1 := k_lo l4_1
        have hi_l4_1 := k_hi l4_1
        have lo_l4_2 := k_lo l4_2
        have hi_l4_2 := k_hi l4_2
        refine lv_iload_n hx hb dX3_lost_4 rfl (lv_at hl 0 rfl) ?_
        refine lv_aload_n hx hb dX3_lost_5 rfl (lv_at hl 2 rfl) ?_
        refine va_get (D := D) (ci := 3) (v := .int c1) (C := RX3) (T := TX3) (N := 2) hx hb hT giX3 hown hK hP 0 rfl rfl 1 (by decide +kernel) (hT (Cond.fieldLink RX3 15 "DesertWire$Parties" "number" "I") mw_81) (fun _ h9 => h9) rfl dX3_lost_6 ?_
        refine b_icmp_ge hx hb rfl rfl (tgt := 29) dX3_lost_9 (by decide +kernel) (fun c_1 => ?_) (fun c_1 => ?_)
        · refine lv_iload_n hx hb dX3_lost_29 rfl (lv_at hl 1 rfl) ?_
          exact hRet () [0, 1] trivial hP hD (by decide +kernel) rfl hS rfl dX3_lost_30
        · refine lv_aload_n hx hb dX3_lost_12 rfl (lv_at hl 2 rfl) ?_
          refine lv_iload_n hx hb dX3_lost_13 rfl (lv_at hl 0 rfl) ?_
          refine kJi (wr := []) (va_runV (As := [.int l4_2]) (rest := []) ⟨hx, hb, hml, hown, hT⟩ (c_X3_isLostG l D cI aK aV k k0 H.size c1 c0 l4_2) (cwV 1 hT (gV_in mw_734 mw_1133 mw_732 mw_733 mw_4) rfl rfl rfl (by decide +kernel) ⟨Nat.le_of_ble_eq_true rfl, Nat.le_of_ble_eq_true rfl⟩) (kRecvX (q0 := 0) (ci := 3) hK hP hD hN hXS hS hA rfl rfl [0, 1] rfl (by decide +kernel)) rfl rfl hl.1 rfl (lv_room (Nat.le_of_ble_eq_true rfl)) dX3_lost_14 ⟨Nat.le_of_ble_eq_true rfl, Nat.le_of_ble_eq_true rfl⟩) hP hD hS hA [0, 1] [] rfl rfl (by decide +kernel) (by decide +kernel) ?_
          clear hP hD hS
          intro r_2 u_4 H locs w_3 hP hD hS
          replace hP : va_P D vwCl [(k, .inr (3, [.ref k0, .int c1])), (k0, .inl (cI, 36, .inl c0))] H := hP
          replace hD : va_D A [(k, .inr (3, [.ref k0, .int c1])), (k0, .inl (cI, 36, .inl c0))] := hD
          have lo_r_2 := k_lo r_2
          have hi_r_2 := k_hi r_2
          refine b_if_eq hx hb rfl (tgt := 23) dX3_lost_17 (by decide +kernel) (fun c_5 => ?_) (fun c_5 => ?_)
          · obtain ⟨v_6, ev_6⟩ : ∃ y : Int32, y = l4_2 + 1 := ⟨_, rfl⟩
            have tv_6 : v_6.toInt = l4_2.toInt + 1 := by rw [ev_6]; exact k_addv rfl zl_1 (by omega) (by omega)
            refine lv_iinc (v := v_6) (lv' := [(2, .int v_6), (1, .int l4_1), (0, .ref k)]) hx hb dX3_lost_23 hl (k := 0) rfl (by rw [ev_6]; rfl) (by decide +kernel) rfl ?_
            clear hl
            intro ls hl
            refine lv_goto (tgt := 4) hx hb dX3_lost_26 (by decide +kernel) ?_
            exact ih4 l4_1 v_6 (by first | omega | decide | assumption | rfl) (by omega) ls _ _ (lv_sub hl [0, 1, 2] rfl) (hP.sub [0, 1] rfl) (hD.sub [0, 1] (by decide +kernel) rfl) hS
          · obtain ⟨v_7, ev_7⟩ : ∃ y : Int32, y = l4_1 + 1 := ⟨_, rfl⟩
            have lo_v_7 := k_lo v_7
            have hi_v_7 := k_hi v_7
            refine lv_iinc (v := v_7) (lv' := [(1, .int v_7), (2, .int l4_2), (0, .ref k)]) hx hb dX3_lost_20 hl (k := 1) rfl (by rw [ev_7]; rfl) (by decide +kernel) rfl ?_
            clear hl
            intro ls hl
            obtain ⟨v_8, ev_8⟩ : ∃ y : Int32, y = l4_2 + 1 := ⟨_, rfl⟩
            have tv_8 : v_8.toInt = l4_2.toInt + 1 := by rw [ev_8]; exact k_addv rfl zl_1 (by omega) (by omega)
            refine lv_iinc (v := v_8) (lv' := [(2, .int v_8), (1, .int v_7), (0, .ref k)]) hx hb dX3_lost_23 hl (k := 1) rfl (by rw [ev_8]; rfl) (by decide +kernel) rfl ?_
            clear hl
            intro ls hl
            refine lv_goto (tgt := 4) hx hb dX3_lost_26 (by decide +kernel) ?_
            exact ih4 v_7 v_8 (by first | omega | decide | assumption | rfl) (by omega) ls _ _ (lv_sub hl [0, 1, 2] rfl) (hP.sub [0, 1] rfl) (hD.sub [0, 1] (by decide +kernel) rfl) hS
  exact hloop_4 _ 0 0 (by first | omega | (simp only [zl_0]; first | done | omega) | decide | assumption | rfl) (Nat.lt_succ_self _) ls _ _ (lv_sub hl [0, 1, 2] rfl) hP hD hS
theorem bn_cX3_allMen_0 : BN cX3_allMen 0 0xad0e3b600a80100d0a3d3088802b703074561c09805461000ad4561d1f0107a04 := by
  unfold BN; decide +kernel
theorem dX3_allMen_0 : decode cX3_allMen 0 = .ok (.iconst 0, 1) := dR0 (k := 0) (i := 0) bn_cX3_allMen_0 dop_3 (by decide +kernel)
theorem dX3_allMen_1 : decode cX3_allMen 1 = .ok (.istore_n 1, 1) := dR0 (k := 0) (i := 1) bn_cX3_allMen_0 dop_60 (by decide +kernel)
theorem dX3_allMen_2 : decode cX3_allMen 2 = .ok (.iconst 0, 1) := dR0 (k := 0) (i := 2) bn_cX3_allMen_0 dop_3 (by decide +kernel)
theorem dX3_allMen_3 : decode cX3_allMen 3 = .ok (.istore_n 2, 1) := dR0 (k := 0) (i := 3) bn_cX3_allMen_0 dop_61 (by decide +kernel)
theorem dX3_allMen_4 : decode cX3_allMen 4 = .ok (.iload_n 2, 1) := dR0 (k := 0) (i := 4) bn_cX3_allMen_0 dop_28 (by decide +kernel)
theorem dX3_allMen_5 : decode cX3_allMen 5 = .ok (.aload_n 0, 1) := dR0 (k := 0) (i := 5) bn_cX3_allMen_0 dop_42 (by decide +kernel)
theorem dX3_allMen_6 : decode cX3_allMen 6 = .ok (.getfield 15, 3) := dR2 (f := Instr.getfield) (k := 0) (i := 6) bn_cX3_allMen_0 dop_180 15 (by decide +kernel)
theorem dX3_allMen_9 : decode cX3_allMen 9 = .ok (.if_icmp .ge 18, 3) := dR2s (f := Instr.if_icmp .ge) (k := 0) (i := 9) bn_cX3_allMen_0 dop_162 18 18 (by decide +kernel)
theorem dX3_allMen_12 : decode cX3_allMen 12 = .ok (.iload_n 1, 1) := dR0 (k := 0) (i := 12) bn_cX3_allMen_0 dop_27 (by decide +kernel)
theorem dX3_allMen_13 : decode cX3_allMen 13 = .ok (.aload_n 0, 1) := dR0 (k := 0) (i := 13) bn_cX3_allMen_0 dop_42 (by decide +kernel)
theorem dX3_allMen_14 : decode cX3_allMen 14 = .ok (.iload_n 2, 1) := dR0 (k := 0) (i := 14) bn_cX3_allMen_0 dop_28 (by decide +kernel)
theorem dX3_allMen_15 : decode cX3_allMen 15 = .ok (.iconst 2, 1) := dR0 (k := 0) (i := 15) bn_cX3_allMen_0 dop_5 (by decide +kernel)
theorem dX3_allMen_16 : decode cX3_allMen 16 = .ok (.invokevirtual 33, 3) := dR2 (f := Instr.invokevirtual) (k := 0) (i := 16) bn_cX3_allMen_0 dop_182 33 (by decide +kernel)
theorem dX3_allMen_19 : decode cX3_allMen 19 = .ok (.iadd, 1) := dR0 (k := 0) (i := 19) bn_cX3_allMen_0 dop_96 (by decide +kernel)
theorem dX3_allMen_20 : decode cX3_allMen 20 = .ok (.istore_n 1, 1) := dR0 (k := 0) (i := 20) bn_cX3_allMen_0 dop_60 (by decide +kernel)
theorem dX3_allMen_21 : decode cX3_allMen 21 = .ok (.iinc 2 1, 3) := dRii (f := Instr.iinc) (k := 0) (i := 21) bn_cX3_allMen_0 dop_132 2 1 1 (by decide +kernel)
theorem dX3_allMen_24 : decode cX3_allMen 24 = .ok (.goto (-20), 3) := dR2s (f := Instr.goto) (k := 0) (i := 24) bn_cX3_allMen_0 dop_167 65516 (-20) (by decide +kernel)
theorem dX3_allMen_27 : decode cX3_allMen 27 = .ok (.iload_n 1, 1) := dR0 (k := 0) (i := 27) bn_cX3_allMen_0 dop_27 (by decide +kernel)
theorem dX3_allMen_28 : decode cX3_allMen 28 = .ok (.ireturn, 1) := dR0 (k := 0) (i := 28) bn_cX3_allMen_0 dop_172 (by decide +kernel)
set_option maxHeartbeats 4000000 in
set_option maxRecDepth 100000 in
theorem c_X3_allMenG (l : Launch) (D : va_G) (cI : ClassId) (aK aV : Nat → Nat) (k k0 : Nat) (sz : Nat) (c1 : Int32) (c0 : Nat → Int32) : Met l yX3_allMen (gW yX3_allMen cX3_allMen 3 (some .int)) ({ frames := 2, cells := 0, slots := 0, locals := 43 } : Room) (kPreX D cI aK aV [.ref k] [(k, .inr (3, [.ref k0, .int c1])), (k0, .inl (cI, 36, .inl c0))] sz) (va_Qi (fun (r : Int32) (u : Unit) => True) (fun u t => kWd D cI (va_A [(k, .inr (3, [.ref k0, .int c1])), (k0, .inl (cI, 36, .inl c0))] sz) [(k, .inr (3, [.ref k0, .int c1])), (k0, .inl (cI, 36, .inl c0))] t) (va_A [(k, .inr (3, [.ref k0, .int c1])), (k0, .inl (cI, 36, .inl c0))] sz)) 0 0 (va_A [(k, .inr (3, [.ref k0, .int c1])), (k0, .inl (cI, 36, .inl c0))] sz) := by
  refine kMetIX (own := RX3) (by decide +kernel) rfl (Nat.le_of_ble_eq_true rfl) ?_
  intro p e s m args below meth c hx hb hT hown hname hml A Q hK hP hD hS hA hN hXS hRet ls hl
  have hl : lv_has ls 3 [(0, .ref k)] := hl
  have lo_c1 := k_lo c1
  have hi_c1 := k_hi c1
  refine lv_iconst (v := 0) hx hb dX3_allMen_0 (by decide +kernel) ?_
  refine lv_istore_n (lv' := [(1, .int 0), (0, .ref k)]) hx hb dX3_allMen_1 rfl hl (by decide +kernel) rfl ?_
  clear hl
  intro ls hl
  refine lv_iconst (v := 0) hx hb dX3_allMen_2 (by decide +kernel) ?_
  refine lv_istore_n (lv' := [(2, .int 0), (1, .int 0), (0, .ref k)]) hx hb dX3_allMen_3 rfl hl (by decide +kernel) rfl ?_
  clear hl
  intro ls hl
  have hloop_4 : ∀ (fu_ : Nat) (l4_1 : Int32) (l4_2 : Int32), 0 ≤ l4_2.toInt → (c1.toInt - l4_2.toInt).toNat < fu_ → ∀ (ls : Array Slot) (H : Heap) (locs : List Loc), lv_has ls 3 [(2, .int l4_2), (1, .int l4_1), (0, .ref k)] → va_P D vwCl [(k, .inr (3, [.ref k0, .int c1])), (k0, .inl (cI, 36, .inl c0))] H → va_D A [(k, .inr (3, [.ref k0, .int c1])), (k0, .inl (cI, 36, .inl c0))] → va_S A s.heap H locs → W p l e ({ frames := 2, cells := 0, slots := 0, locals := 43 } : Room) s m args below meth c H locs 0 0 Q (F0 m 4 ls []) := by
    intro fu_; induction fu_ with
    | zero => intro l4_1 l4_2 i4_0 hm; exact absurd hm (by omega)
    | succ fu_ ih4 =>
        intro l4_1 l4_2 i4_0 hm ls H locs hl hP hD hS
        have lo_l4_1 := k_lo l4_1
        have hi_l4_1 := k_hi l4_1
        have lo_l4_2 := k_lo l4_2
        have hi_l4_2 := k_hi l4_2
        refine lv_iload_n hx hb dX3_allMen_4 rfl (lv_at hl 0 rfl) ?_
        refine lv_aload_n hx hb dX3_allMen_5 rfl (lv_at hl 2 rfl) ?_
        refine va_get (D := D) (ci := 3) (v := .int c1) (C := RX3) (T := TX3) (N := 2) hx hb hT giX3 hown hK hP 0 rfl rfl 1 (by decide +kernel) (hT (Cond.fieldLink RX3 15 "DesertWire$Parties" "number" "I") mw_81) (fun _ h9 => h9) rfl dX3_allMen_6 ?_
        refine b_icmp_ge hx hb rfl rfl (tgt := 27) dX3_allMen_9 (by decide +kernel) (fun c_1 => ?_) (fun c_1 => ?_)
        · refine lv_iload_n hx hb dX3_allMen_27 rfl (lv_at hl 1 rfl) ?_
          exact hRet () [0, 1] trivial hP hD (by decide +kernel) rfl hS rfl dX3_allMen_28
        · refine lv_iload_n hx hb dX3_allMen_12 rfl (lv_at hl 1 rfl) ?_
          refine lv_aload_n hx hb dX3_allMen_13 rfl (lv_at hl 2 rfl) ?_
          refine lv_iload_n hx hb dX3_allMen_14 rfl (lv_at hl 0 rfl) ?_
          refine lv_iconst (v := 2) hx hb dX3_allMen_15 (by decide +kernel) ?_
          refine kJi (wr := []) (va_runV (As := [.int l4_2, .int 2]) (rest := [.int l4_1]) ⟨hx, hb, hml, hown, hT⟩ (c_X3_getG l D cI aK aV k k0 H.size c1 c0 l4_2 2) (cwV 2 hT (gV_in mw_726 mw_735 mw_724 mw_725 mw_4) rfl rfl rfl (by decide +kernel) ⟨Nat.le_of_ble_eq_true rfl, Nat.le_of_ble_eq_true rfl⟩) (kRecvX (q0 := 0) (ci := 3) hK hP hD hN hXS hS hA rfl rfl [0, 1] rfl (by decide +kernel)) rfl rfl hl.1 rfl (lv_room (Nat.le_of_ble_eq_true rfl)) dX3_allMen_16 ⟨Nat.le_of_ble_eq_true rfl, Nat.le_of_ble_eq_true rfl⟩) hP hD hS hA [0, 1] [] rfl rfl (by decide +kernel) (by decide +kernel) ?_
          clear hP hD hS
          intro r_2 u_4 H locs w_3 hP hD hS
          replace hP : va_P D vwCl [(k, .inr (3, [.ref k0, .int c1])), (k0, .inl (cI, 36, .inl c0))] H := hP
          replace hD : va_D A [(k, .inr (3, [.ref k0, .int c1])), (k0, .inl (cI, 36, .inl c0))] := hD
          have lo_r_2 := k_lo r_2
          have hi_r_2 := k_hi r_2
          refine lv_iadd hx hb dX3_allMen_19 ?_
          refine lv_topi (fun v_5 ev_5 => ?_)
          have lo_v_5 := k_lo v_5
          have hi_v_5 := k_hi v_5
          refine lv_istore_n (lv' := [(1, .int v_5), (2, .int l4_2), (0, .ref k)]) hx hb dX3_allMen_20 rfl hl (by decide +kernel) rfl ?_
          clear hl
          intro ls hl
          obtain ⟨v_6, ev_6⟩ : ∃ y : Int32, y = l4_2 + 1 := ⟨_, rfl⟩
          have tv_6 : v_6.toInt = l4_2.toInt + 1 := by rw [ev_6]; exact k_addv rfl zl_1 (by omega) (by omega)
          refine lv_iinc (v := v_6) (lv' := [(2, .int v_6), (1, .int v_5), (0, .ref k)]) hx hb dX3_allMen_21 hl (k := 1) rfl (by rw [ev_6]; rfl) (by decide +kernel) rfl ?_
          clear hl
          intro ls hl
          refine lv_goto (tgt := 4) hx hb dX3_allMen_24 (by decide +kernel) ?_
          exact ih4 v_5 v_6 (by first | omega | decide | assumption | rfl) (by omega) ls _ _ (lv_sub hl [0, 1, 2] rfl) (hP.sub [0, 1] rfl) (hD.sub [0, 1] (by decide +kernel) rfl) hS
  exact hloop_4 _ 0 0 (by first | omega | (simp only [zl_0]; first | done | omega) | decide | assumption | rfl) (Nat.lt_succ_self _) ls _ _ (lv_sub hl [0, 1, 2] rfl) hP hD hS
theorem bn_cX3_copyFrom_0 : BN cX3_copyFrom 0 0x5904002b6080056a2c1585002b912844080a00ad45604050056a2c := by
  unfold BN; decide +kernel
theorem dX3_copyFrom_0 : decode cX3_copyFrom 0 = .ok (.aload_n 1, 1) := dR0 (k := 0) (i := 0) bn_cX3_copyFrom_0 dop_43 (by decide +kernel)
theorem dX3_copyFrom_1 : decode cX3_copyFrom 1 = .ok (.getfield 9, 3) := dR2 (f := Instr.getfield) (k := 0) (i := 1) bn_cX3_copyFrom_0 dop_180 9 (by decide +kernel)
theorem dX3_copyFrom_4 : decode cX3_copyFrom 4 = .ok (.iconst 0, 1) := dR0 (k := 0) (i := 4) bn_cX3_copyFrom_0 dop_3 (by decide +kernel)
theorem dX3_copyFrom_5 : decode cX3_copyFrom 5 = .ok (.aload_n 0, 1) := dR0 (k := 0) (i := 5) bn_cX3_copyFrom_0 dop_42 (by decide +kernel)
theorem dX3_copyFrom_6 : decode cX3_copyFrom 6 = .ok (.getfield 9, 3) := dR2 (f := Instr.getfield) (k := 0) (i := 6) bn_cX3_copyFrom_0 dop_180 9 (by decide +kernel)
theorem dX3_copyFrom_9 : decode cX3_copyFrom 9 = .ok (.iconst 0, 1) := dR0 (k := 0) (i := 9) bn_cX3_copyFrom_0 dop_3 (by decide +kernel)
theorem dX3_copyFrom_10 : decode cX3_copyFrom 10 = .ok (.bipush 36, 2) := dR1s (f := Instr.bipush) (k := 0) (i := 10) bn_cX3_copyFrom_0 dop_16 36 36 (by decide +kernel)
theorem dX3_copyFrom_12 : decode cX3_copyFrom 12 = .ok (.invokestatic 19, 3) := dR2 (f := Instr.invokestatic) (k := 0) (i := 12) bn_cX3_copyFrom_0 dop_184 19 (by decide +kernel)
theorem dX3_copyFrom_15 : decode cX3_copyFrom 15 = .ok (.aload_n 0, 1) := dR0 (k := 0) (i := 15) bn_cX3_copyFrom_0 dop_42 (by decide +kernel)
theorem dX3_copyFrom_16 : decode cX3_copyFrom 16 = .ok (.aload_n 1, 1) := dR0 (k := 0) (i := 16) bn_cX3_copyFrom_0 dop_43 (by decide +kernel)
theorem dX3_copyFrom_17 : decode cX3_copyFrom 17 = .ok (.getfield 15, 3) := dR2 (f := Instr.getfield) (k := 0) (i := 17) bn_cX3_copyFrom_0 dop_180 15 (by decide +kernel)
theorem dX3_copyFrom_20 : decode cX3_copyFrom 20 = .ok (.putfield 15, 3) := dR2 (f := Instr.putfield) (k := 0) (i := 20) bn_cX3_copyFrom_0 dop_181 15 (by decide +kernel)
theorem dX3_copyFrom_23 : decode cX3_copyFrom 23 = .ok (.return_, 1) := dR0 (k := 0) (i := 23) bn_cX3_copyFrom_0 dop_177 (by decide +kernel)

theorem bn_cX4_hasRoom_0 : BN cX4_hasRoom 0 0x15a0402805500504005460d0888002b515844029c100056a2b := by
  unfold BN; decide +kernel
theorem dX4_hasRoom_0 : decode cX4_hasRoom 0 = .ok (.aload_n 0, 1) := dR0 (k := 0) (i := 0) bn_cX4_hasRoom_0 dop_42 (by decide +kernel)
theorem dX4_hasRoom_1 : decode cX4_hasRoom 1 = .ok (.getfield 31, 3) := dR2 (f := Instr.getfield) (k := 0) (i := 1) bn_cX4_hasRoom_0 dop_180 31 (by decide +kernel)
theorem dX4_hasRoom_4 : decode cX4_hasRoom 4 = .ok (.ifCond .lt 16, 3) := dR2s (f := Instr.ifCond .lt) (k := 0) (i := 4) bn_cX4_hasRoom_0 dop_155 16 16 (by decide +kernel)
theorem dX4_hasRoom_7 : decode cX4_hasRoom 7 = .ok (.aload_n 0, 1) := dR0 (k := 0) (i := 7) bn_cX4_hasRoom_0 dop_42 (by decide +kernel)
theorem dX4_hasRoom_8 : decode cX4_hasRoom 8 = .ok (.getfield 31, 3) := dR2 (f := Instr.getfield) (k := 0) (i := 8) bn_cX4_hasRoom_0 dop_180 31 (by decide +kernel)
theorem dX4_hasRoom_11 : decode cX4_hasRoom 11 = .ok (.bipush 12, 2) := dR1s (f := Instr.bipush) (k := 0) (i := 11) bn_cX4_hasRoom_0 dop_16 12 12 (by decide +kernel)
theorem dX4_hasRoom_13 : decode cX4_hasRoom 13 = .ok (.if_icmp .ge 7, 3) := dR2s (f := Instr.if_icmp .ge) (k := 0) (i := 13) bn_cX4_hasRoom_0 dop_162 7 7 (by decide +kernel)
theorem dX4_hasRoom_16 : decode cX4_hasRoom 16 = .ok (.iconst 1, 1) := dR0 (k := 0) (i := 16) bn_cX4_hasRoom_0 dop_4 (by decide +kernel)
theorem dX4_hasRoom_17 : decode cX4_hasRoom 17 = .ok (.goto 4, 3) := dR2s (f := Instr.goto) (k := 0) (i := 17) bn_cX4_hasRoom_0 dop_167 4 4 (by decide +kernel)
theorem dX4_hasRoom_20 : decode cX4_hasRoom 20 = .ok (.iconst 0, 1) := dR0 (k := 0) (i := 20) bn_cX4_hasRoom_0 dop_3 (by decide +kernel)
theorem dX4_hasRoom_21 : decode cX4_hasRoom 21 = .ok (.ireturn, 1) := dR0 (k := 0) (i := 21) bn_cX4_hasRoom_0 dop_172 (by decide +kernel)
set_option maxHeartbeats 4000000 in
set_option maxRecDepth 100000 in
theorem c_X4_hasRoomG (l : Launch) (D : va_G) (cI : ClassId) (aK aV : Nat → Nat) (k k0 k1 k2 k3 k4 : Nat) (sz : Nat) (c5 : Int32) (c6 : Int32) : Met l yX4_hasRoom (gW yX4_hasRoom cX4_hasRoom 1 (some .boolean)) ({ frames := 0, cells := 0, slots := 0, locals := 0 } : Room) (kPreX D cI aK aV [.ref k] [(k, .inr (4, [.ref k0, .ref k1, .ref k2, .ref k3, .ref k4, .int c5, .int c6]))] sz) (va_Qi (fun (r : Int32) (u : Unit) => (r = 1 ∧ 0 ≤ c6.toInt ∧ c6.toInt < 12) ∨ (r = 0 ∧ (c6.toInt < 0 ∨ 12 ≤ c6.toInt))) (fun u t => kWd D cI (va_A [(k, .inr (4, [.ref k0, .ref k1, .ref k2, .ref k3, .ref k4, .int c5, .int c6]))] sz) [(k, .inr (4, [.ref k0, .ref k1, .ref k2, .ref k3, .ref k4, .int c5, .int c6]))] t) (va_A [(k, .inr (4, [.ref k0, .ref k1, .ref k2, .ref k3, .ref k4, .int c5, .int c6]))] sz)) 0 0 (va_A [(k, .inr (4, [.ref k0, .ref k1, .ref k2, .ref k3, .ref k4, .int c5, .int c6]))] sz) := by
  refine kMetIX (own := RX4) (by decide +kernel) rfl (Nat.le_of_ble_eq_true rfl) ?_
  intro p e s m args below meth c hx hb hT hown hname hml A Q hK hP hD hS hA hN hXS hRet ls hl
  have hl : lv_has ls 1 [(0, .ref k)] := hl
  have lo_c6 := k_lo c6
  have hi_c6 := k_hi c6
  refine lv_aload_n hx hb dX4_hasRoom_0 rfl (lv_at hl 0 rfl) ?_
  refine va_get (D := D) (ci := 4) (v := .int c6) (C := RX4) (T := TX4) (N := 7) hx hb hT giX4 hown hK hP 0 rfl rfl 6 (by decide +kernel) (hT (Cond.fieldLink RX4 31 "DesertWire$Rates" "number" "I") mw_145) (fun _ h9 => h9) rfl dX4_hasRoom_1 ?_
  refine b_if_lt hx hb rfl (tgt := 20) dX4_hasRoom_4 (by decide +kernel) (fun c_1 => ?_) (fun c_1 => ?_)
  · refine lv_iconst (v := 0) hx hb dX4_hasRoom_20 (by decide +kernel) ?_
    exact hRet () [0] (Or.inr (⟨rfl, (by omega)⟩)) hP hD (by decide +kernel) rfl hS rfl dX4_hasRoom_21
  · refine lv_aload_n hx hb dX4_hasRoom_7 rfl (lv_at hl 0 rfl) ?_
    refine va_get (D := D) (ci := 4) (v := .int c6) (C := RX4) (T := TX4) (N := 7) hx hb hT giX4 hown hK hP 0 rfl rfl 6 (by decide +kernel) (hT (Cond.fieldLink RX4 31 "DesertWire$Rates" "number" "I") mw_145) (fun _ h9 => h9) rfl dX4_hasRoom_8 ?_
    refine lv_bipush (v := 12) hx hb dX4_hasRoom_11 (by decide +kernel) ?_
    refine b_icmp_ge hx hb rfl zl_12 (tgt := 20) dX4_hasRoom_13 (by decide +kernel) (fun c_2 => ?_) (fun c_2 => ?_)
    · refine lv_iconst (v := 0) hx hb dX4_hasRoom_20 (by decide +kernel) ?_
      exact hRet () [0] (Or.inr (⟨rfl, (by omega)⟩)) hP hD (by decide +kernel) rfl hS rfl dX4_hasRoom_21
    · refine lv_iconst (v := 1) hx hb dX4_hasRoom_16 (by decide +kernel) ?_
      refine lv_goto (tgt := 21) hx hb dX4_hasRoom_17 (by decide +kernel) ?_
      exact hRet () [0] (Or.inl ⟨rfl, (by omega), (by omega)⟩) hP hD (by decide +kernel) rfl hS rfl dX4_hasRoom_21
theorem bn_cX4_copyFrom_0 : BN cX4_copyFrom 0 0xb2100056c2000ad4582b0e0056c1c00ad4582b11805720d0881032015a8ac081900ad4582300ae41a110205802b5158102c015a8b046015c8342204098056a2b0204c02b51608c02b92c80c2404080056a2b0204002b51608c02b919844080a00ad45604050056a2c := by
  unfold BN; decide +kernel
theorem dX4_copyFrom_0 : decode cX4_copyFrom 0 = .ok (.aload_n 1, 1) := dR0 (k := 0) (i := 0) bn_cX4_copyFrom_0 dop_43 (by decide +kernel)
theorem dX4_copyFrom_1 : decode cX4_copyFrom 1 = .ok (.getfield 9, 3) := dR2 (f := Instr.getfield) (k := 0) (i := 1) bn_cX4_copyFrom_0 dop_180 9 (by decide +kernel)
theorem dX4_copyFrom_4 : decode cX4_copyFrom 4 = .ok (.iconst 0, 1) := dR0 (k := 0) (i := 4) bn_cX4_copyFrom_0 dop_3 (by decide +kernel)
theorem dX4_copyFrom_5 : decode cX4_copyFrom 5 = .ok (.aload_n 0, 1) := dR0 (k := 0) (i := 5) bn_cX4_copyFrom_0 dop_42 (by decide +kernel)
theorem dX4_copyFrom_6 : decode cX4_copyFrom 6 = .ok (.getfield 9, 3) := dR2 (f := Instr.getfield) (k := 0) (i := 6) bn_cX4_copyFrom_0 dop_180 9 (by decide +kernel)
theorem dX4_copyFrom_9 : decode cX4_copyFrom 9 = .ok (.iconst 0, 1) := dR0 (k := 0) (i := 9) bn_cX4_copyFrom_0 dop_3 (by decide +kernel)
theorem dX4_copyFrom_10 : decode cX4_copyFrom 10 = .ok (.bipush 50, 2) := dR1s (f := Instr.bipush) (k := 0) (i := 10) bn_cX4_copyFrom_0 dop_16 50 50 (by decide +kernel)
theorem dX4_copyFrom_12 : decode cX4_copyFrom 12 = .ok (.invokestatic 34, 3) := dR2 (f := Instr.invokestatic) (k := 0) (i := 12) bn_cX4_copyFrom_0 dop_184 34 (by decide +kernel)
theorem dX4_copyFrom_15 : decode cX4_copyFrom 15 = .ok (.aload_n 1, 1) := dR0 (k := 0) (i := 15) bn_cX4_copyFrom_0 dop_43 (by decide +kernel)
theorem dX4_copyFrom_16 : decode cX4_copyFrom 16 = .ok (.getfield 15, 3) := dR2 (f := Instr.getfield) (k := 0) (i := 16) bn_cX4_copyFrom_0 dop_180 15 (by decide +kernel)
theorem dX4_copyFrom_19 : decode cX4_copyFrom 19 = .ok (.iconst 0, 1) := dR0 (k := 0) (i := 19) bn_cX4_copyFrom_0 dop_3 (by decide +kernel)
theorem dX4_copyFrom_20 : decode cX4_copyFrom 20 = .ok (.aload_n 0, 1) := dR0 (k := 0) (i := 20) bn_cX4_copyFrom_0 dop_42 (by decide +kernel)
theorem dX4_copyFrom_21 : decode cX4_copyFrom 21 = .ok (.getfield 15, 3) := dR2 (f := Instr.getfield) (k := 0) (i := 21) bn_cX4_copyFrom_0 dop_180 15 (by decide +kernel)
theorem dX4_copyFrom_24 : decode cX4_copyFrom 24 = .ok (.iconst 0, 1) := dR0 (k := 0) (i := 24) bn_cX4_copyFrom_0 dop_3 (by decide +kernel)
theorem dX4_copyFrom_25 : decode cX4_copyFrom 25 = .ok (.sipush 600, 3) := dR2s (f := Instr.sipush) (k := 0) (i := 25) bn_cX4_copyFrom_0 dop_17 600 600 (by decide +kernel)
theorem dX4_copyFrom_28 : decode cX4_copyFrom 28 = .ok (.invokestatic 34, 3) := dR2 (f := Instr.invokestatic) (k := 0) (i := 28) bn_cX4_copyFrom_0 dop_184 34 (by decide +kernel)
theorem dX4_copyFrom_31 : decode cX4_copyFrom 31 = .ok (.aload_n 1, 1) := dR0 (k := 0) (i := 31) bn_cX4_copyFrom_0 dop_43 (by decide +kernel)
theorem dX4_copyFrom_32 : decode cX4_copyFrom 32 = .ok (.getfield 18, 3) := dR2 (f := Instr.getfield) (k := 0) (i := 32) bn_cX4_copyFrom_0 dop_180 18 (by decide +kernel)
theorem dX4_copyFrom_35 : decode cX4_copyFrom 35 = .ok (.iconst 0, 1) := dR0 (k := 0) (i := 35) bn_cX4_copyFrom_0 dop_3 (by decide +kernel)
theorem dX4_copyFrom_36 : decode cX4_copyFrom 36 = .ok (.aload_n 0, 1) := dR0 (k := 0) (i := 36) bn_cX4_copyFrom_0 dop_42 (by decide +kernel)
theorem dX4_copyFrom_37 : decode cX4_copyFrom 37 = .ok (.getfield 18, 3) := dR2 (f := Instr.getfield) (k := 0) (i := 37) bn_cX4_copyFrom_0 dop_180 18 (by decide +kernel)
theorem dX4_copyFrom_40 : decode cX4_copyFrom 40 = .ok (.iconst 0, 1) := dR0 (k := 0) (i := 40) bn_cX4_copyFrom_0 dop_3 (by decide +kernel)
theorem dX4_copyFrom_41 : decode cX4_copyFrom 41 = .ok (.bipush 12, 2) := dR1s (f := Instr.bipush) (k := 0) (i := 41) bn_cX4_copyFrom_0 dop_16 12 12 (by decide +kernel)
theorem dX4_copyFrom_43 : decode cX4_copyFrom 43 = .ok (.invokestatic 34, 3) := dR2 (f := Instr.invokestatic) (k := 0) (i := 43) bn_cX4_copyFrom_0 dop_184 34 (by decide +kernel)
theorem dX4_copyFrom_46 : decode cX4_copyFrom 46 = .ok (.aload_n 1, 1) := dR0 (k := 0) (i := 46) bn_cX4_copyFrom_0 dop_43 (by decide +kernel)
theorem dX4_copyFrom_47 : decode cX4_copyFrom 47 = .ok (.getfield 21, 3) := dR2 (f := Instr.getfield) (k := 0) (i := 47) bn_cX4_copyFrom_0 dop_180 21 (by decide +kernel)
theorem dX4_copyFrom_50 : decode cX4_copyFrom 50 = .ok (.iconst 0, 1) := dR0 (k := 0) (i := 50) bn_cX4_copyFrom_0 dop_3 (by decide +kernel)
theorem dX4_copyFrom_51 : decode cX4_copyFrom 51 = .ok (.aload_n 0, 1) := dR0 (k := 0) (i := 51) bn_cX4_copyFrom_0 dop_42 (by decide +kernel)
theorem dX4_copyFrom_52 : decode cX4_copyFrom 52 = .ok (.getfield 21, 3) := dR2 (f := Instr.getfield) (k := 0) (i := 52) bn_cX4_copyFrom_0 dop_180 21 (by decide +kernel)
theorem dX4_copyFrom_55 : decode cX4_copyFrom 55 = .ok (.iconst 0, 1) := dR0 (k := 0) (i := 55) bn_cX4_copyFrom_0 dop_3 (by decide +kernel)
theorem dX4_copyFrom_56 : decode cX4_copyFrom 56 = .ok (.bipush 12, 2) := dR1s (f := Instr.bipush) (k := 0) (i := 56) bn_cX4_copyFrom_0 dop_16 12 12 (by decide +kernel)
theorem dX4_copyFrom_58 : decode cX4_copyFrom 58 = .ok (.invokestatic 34, 3) := dR2 (f := Instr.invokestatic) (k := 0) (i := 58) bn_cX4_copyFrom_0 dop_184 34 (by decide +kernel)
theorem dX4_copyFrom_61 : decode cX4_copyFrom 61 = .ok (.aload_n 1, 1) := dR0 (k := 0) (i := 61) bn_cX4_copyFrom_0 dop_43 (by decide +kernel)
theorem dX4_copyFrom_62 : decode cX4_copyFrom 62 = .ok (.getfield 24, 3) := dR2 (f := Instr.getfield) (k := 0) (i := 62) bn_cX4_copyFrom_0 dop_180 24 (by decide +kernel)
theorem dX4_copyFrom_65 : decode cX4_copyFrom 65 = .ok (.iconst 0, 1) := dR0 (k := 0) (i := 65) bn_cX4_copyFrom_0 dop_3 (by decide +kernel)
theorem dX4_copyFrom_66 : decode cX4_copyFrom 66 = .ok (.aload_n 0, 1) := dR0 (k := 0) (i := 66) bn_cX4_copyFrom_0 dop_42 (by decide +kernel)
theorem dX4_copyFrom_67 : decode cX4_copyFrom 67 = .ok (.getfield 24, 3) := dR2 (f := Instr.getfield) (k := 0) (i := 67) bn_cX4_copyFrom_0 dop_180 24 (by decide +kernel)
theorem dX4_copyFrom_70 : decode cX4_copyFrom 70 = .ok (.iconst 0, 1) := dR0 (k := 0) (i := 70) bn_cX4_copyFrom_0 dop_3 (by decide +kernel)
theorem dX4_copyFrom_71 : decode cX4_copyFrom 71 = .ok (.bipush 12, 2) := dR1s (f := Instr.bipush) (k := 0) (i := 71) bn_cX4_copyFrom_0 dop_16 12 12 (by decide +kernel)
theorem dX4_copyFrom_73 : decode cX4_copyFrom 73 = .ok (.invokestatic 34, 3) := dR2 (f := Instr.invokestatic) (k := 0) (i := 73) bn_cX4_copyFrom_0 dop_184 34 (by decide +kernel)
theorem dX4_copyFrom_76 : decode cX4_copyFrom 76 = .ok (.aload_n 0, 1) := dR0 (k := 0) (i := 76) bn_cX4_copyFrom_0 dop_42 (by decide +kernel)
theorem dX4_copyFrom_77 : decode cX4_copyFrom 77 = .ok (.aload_n 1, 1) := dR0 (k := 0) (i := 77) bn_cX4_copyFrom_0 dop_43 (by decide +kernel)
theorem dX4_copyFrom_78 : decode cX4_copyFrom 78 = .ok (.getfield 27, 3) := dR2 (f := Instr.getfield) (k := 0) (i := 78) bn_cX4_copyFrom_0 dop_180 27 (by decide +kernel)
theorem dX4_copyFrom_81 : decode cX4_copyFrom 81 = .ok (.putfield 27, 3) := dR2 (f := Instr.putfield) (k := 0) (i := 81) bn_cX4_copyFrom_0 dop_181 27 (by decide +kernel)
theorem dX4_copyFrom_84 : decode cX4_copyFrom 84 = .ok (.aload_n 0, 1) := dR0 (k := 0) (i := 84) bn_cX4_copyFrom_0 dop_42 (by decide +kernel)
theorem dX4_copyFrom_85 : decode cX4_copyFrom 85 = .ok (.aload_n 1, 1) := dR0 (k := 0) (i := 85) bn_cX4_copyFrom_0 dop_43 (by decide +kernel)
theorem dX4_copyFrom_86 : decode cX4_copyFrom 86 = .ok (.getfield 31, 3) := dR2 (f := Instr.getfield) (k := 0) (i := 86) bn_cX4_copyFrom_0 dop_180 31 (by decide +kernel)
theorem dX4_copyFrom_89 : decode cX4_copyFrom 89 = .ok (.putfield 31, 3) := dR2 (f := Instr.putfield) (k := 0) (i := 89) bn_cX4_copyFrom_0 dop_181 31 (by decide +kernel)
theorem dX4_copyFrom_92 : decode cX4_copyFrom 92 = .ok (.return_, 1) := dR0 (k := 0) (i := 92) bn_cX4_copyFrom_0 dop_177 (by decide +kernel)
set_option maxHeartbeats 4000000 in
set_option maxRecDepth 100000 in
theorem c_X4_copyFromG (l : Launch) (D : va_G) (cI : ClassId) (aK aV : Nat → Nat) (k o k0 k1 k2 k3 k4 o0 o1 o2 o3 o4 : Nat) (sz : Nat) (c5 : Int32) (c6 : Int32) (c0 : Nat → Int32) (c1 : Nat → Int32) (c2 : Nat → Int32) (c3 : Nat → Int32) (c4 : Nat → Int32) (d5 : Int32) (d6 : Int32) (d0 : Nat → Int32) (d1 : Nat → Int32) (d2 : Nat → Int32) (d3 : Nat → Int32) (d4 : Nat → Int32) : Met l yX4_copyFrom (gW yX4_copyFrom cX4_copyFrom 2 none) ({ frames := 1, cells := 0, slots := 0, locals := 64 } : Room) (kPreX D cI aK aV [.ref k, .ref o] [(k, .inr (4, [.ref k0, .ref k1, .ref k2, .ref k3, .ref k4, .int c5, .int c6])), (k0, .inl (cI, 50, .inl c0)), (k1, .inl (cI, 600, .inl c1)), (k2, .inl (cI, 12, .inl c2)), (k3, .inl (cI, 12, .inl c3)), (k4, .inl (cI, 12, .inl c4)), (o, .inr (4, [.ref o0, .ref o1, .ref o2, .ref o3, .ref o4, .int d5, .int d6])), (o0, .inl (cI, 50, .inl d0)), (o1, .inl (cI, 600, .inl d1)), (o2, .inl (cI, 12, .inl d2)), (o3, .inl (cI, 12, .inl d3)), (o4, .inl (cI, 12, .inl d4))] sz) (va_Qv (fun (u : Int32 × Int32 × (Nat → Int32) × (Nat → Int32) × (Nat → Int32) × (Nat → Int32) × (Nat → Int32)) => u.2.2.1 = d0 ∧ u.2.2.2.1 = d1 ∧ u.2.2.2.2.1 = d2 ∧ u.2.2.2.2.2.1 = d3 ∧ u.2.2.2.2.2.2 = d4 ∧ u.1 = d5 ∧ u.2.1 = d6) (fun u t => kWd D cI (va_A [(k, .inr (4, [.ref k0, .ref k1, .ref k2, .ref k3, .ref k4, .int c5, .int c6])), (k0, .inl (cI, 50, .inl c0)), (k1, .inl (cI, 600, .inl c1)), (k2, .inl (cI, 12, .inl c2)), (k3, .inl (cI, 12, .inl c3)), (k4, .inl (cI, 12, .inl c4)), (o, .inr (4, [.ref o0, .ref o1, .ref o2, .ref o3, .ref o4, .int d5, .int d6])), (o0, .inl (cI, 50, .inl d0)), (o1, .inl (cI, 600, .inl d1)), (o2, .inl (cI, 12, .inl d2)), (o3, .inl (cI, 12, .inl d3)), (o4, .inl (cI, 12, .inl d4))] sz) [(k, .inr (4, [.ref k0, .ref k1, .ref k2, .ref k3, .ref k4, .int u.1, .int u.2.1])), (k0, .inl (cI, 50, .inl u.2.2.1)), (k1, .inl (cI, 600, .inl u.2.2.2.1)), (k2, .inl (cI, 12, .inl u.2.2.2.2.1)), (k3, .inl (cI, 12, .inl u.2.2.2.2.2.1)), (k4, .inl (cI, 12, .inl u.2.2.2.2.2.2)), (o, .inr (4, [.ref o0, .ref o1, .ref o2, .ref o3, .ref o4, .int d5, .int d6])), (o0, .inl (cI, 50, .inl d0)), (o1, .inl (cI, 600, .inl d1)), (o2, .inl (cI, 12, .inl d2)), (o3, .inl (cI, 12, .inl d3)), (o4, .inl (cI, 12, .inl d4))] t) (va_A [(k, .inr (4, [.ref k0, .ref k1, .ref k2, .ref k3, .ref k4, .int c5, .int c6])), (k0, .inl (cI, 50, .inl c0)), (k1, .inl (cI, 600, .inl c1)), (k2, .inl (cI, 12, .inl c2)), (k3, .inl (cI, 12, .inl c3)), (k4, .inl (cI, 12, .inl c4)), (o, .inr (4, [.ref o0, .ref o1, .ref o2, .ref o3, .ref o4, .int d5, .int d6])), (o0, .inl (cI, 50, .inl d0)), (o1, .inl (cI, 600, .inl d1)), (o2, .inl (cI, 12, .inl d2)), (o3, .inl (cI, 12, .inl d3)), (o4, .inl (cI, 12, .inl d4))] sz)) 0 0 (va_A [(k, .inr (4, [.ref k0, .ref k1, .ref k2, .ref k3, .ref k4, .int c5, .int c6])), (k0, .inl (cI, 50, .inl c0)), (k1, .inl (cI, 600, .inl c1)), (k2, .inl (cI, 12, .inl c2)), (k3, .inl (cI, 12, .inl c3)), (k4, .inl (cI, 12, .inl c4)), (o, .inr (4, [.ref o0, .ref o1, .ref o2, .ref o3, .ref o4, .int d5, .int d6])), (o0, .inl (cI, 50, .inl d0)), (o1, .inl (cI, 600, .inl d1)), (o2, .inl (cI, 12, .inl d2)), (o3, .inl (cI, 12, .inl d3)), (o4, .inl (cI, 12, .inl d4))] sz) := by
  refine kMetVX (own := RX4) (by decide +kernel) rfl (Nat.le_of_ble_eq_true rfl) ?_
  intro p e s m args below meth c hx hb hT hown hname hml A Q hK hP hD hS hA hN hXS hRet ls hl
  have hl : lv_has ls 2 [(0, .ref k), (1, .ref o)] := hl
  have lo_d5 := k_lo d5
  have hi_d5 := k_hi d5
  have lo_d6 := k_lo d6
  have hi_d6 := k_hi d6
  refine lv_aload_n hx hb dX4_copyFrom_0 rfl (lv_at hl 1 rfl) ?_
  refine va_get (D := D) (ci := 4) (v := .ref o0) (C := RX4) (T := TX4) (N := 7) hx hb hT giX4 hown hK hP 6 rfl rfl 0 (by decide +kernel) (hT (Cond.fieldLink RX4 9 "DesertWire$Rates" "tape" "[I") mw_136) (fun _ h9 => h9) rfl dX4_copyFrom_1 ?_
  refine lv_iconst (v := 0) hx hb dX4_copyFrom_4 (by decide +kernel) ?_
  refine lv_aload_n hx hb dX4_copyFrom_5 rfl (lv_at hl 0 rfl) ?_
  refine va_get (D := D) (ci := 4) (v := .ref k0) (C := RX4) (T := TX4) (N := 7) hx hb hT giX4 hown hK hP 0 rfl rfl 0 (by decide +kernel) (hT (Cond.fieldLink RX4 9 "DesertWire$Rates" "tape" "[I") mw_136) (fun _ h9 => h9) rfl dX4_copyFrom_6 ?_
  refine lv_iconst (v := 0) hx hb dX4_copyFrom_9 (by decide +kernel) ?_
  refine lv_bipush (v := 50) hx hb dX4_copyFrom_10 (by decide +kernel) ?_
  refine k_copy (c0 := cI) (c1 := cI) hx hb (hml.trans hl.1.symm) hown (hT _ mw_863) (hT _ mw_865) (hT _ mw_864) (hT _ mw_19) hK hP hD hS 7 1 rfl rfl (by decide +kernel) (by decide +kernel) (Nat.le_of_ble_eq_true rfl) (by decide +kernel) dX4_copyFrom_12 ?_
  clear hP hD hS
  intro H locs hP hD hS
  replace hP : va_P D vwCl [(k, .inr (4, [.ref k0, .ref k1, .ref k2, .ref k3, .ref k4, .int c5, .int c6])), (k0, .inl (cI, 50, .inl d0)), (k1, .inl (cI, 600, .inl c1)), (k2, .inl (cI, 12, .inl c2)), (k3, .inl (cI, 12, .inl c3)), (k4, .inl (cI, 12, .inl c4)), (o, .inr (4, [.ref o0, .ref o1, .ref o2, .ref o3, .ref o4, .int d5, .int d6])), (o0, .inl (cI, 50, .inl d0)), (o1, .inl (cI, 600, .inl d1)), (o2, .inl (cI, 12, .inl d2)), (o3, .inl (cI, 12, .inl d3)), (o4, .inl (cI, 12, .inl d4))] H := hP
  replace hD : va_D A [(k, .inr (4, [.ref k0, .ref k1, .ref k2, .ref k3, .ref k4, .int c5, .int c6])), (k0, .inl (cI, 50, .inl d0)), (k1, .inl (cI, 600, .inl c1)), (k2, .inl (cI, 12, .inl c2)), (k3, .inl (cI, 12, .inl c3)), (k4, .inl (cI, 12, .inl c4)), (o, .inr (4, [.ref o0, .ref o1, .ref o2, .ref o3, .ref o4, .int d5, .int d6])), (o0, .inl (cI, 50, .inl d0)), (o1, .inl (cI, 600, .inl d1)), (o2, .inl (cI, 12, .inl d2)), (o3, .inl (cI, 12, .inl d3)), (o4, .inl (cI, 12, .inl d4))] := hD
  refine lv_aload_n hx hb dX4_copyFrom_15 rfl (lv_at hl 1 rfl) ?_
  refine va_get (D := D) (ci := 4) (v := .ref o1) (C := RX4) (T := TX4) (N := 7) hx hb hT giX4 hown hK hP 6 rfl rfl 1 (by decide +kernel) (hT (Cond.fieldLink RX4 15 "DesertWire$Rates" "texts" "[I") mw_138) (fun _ h9 => h9) rfl dX4_copyFrom_16 ?_
  refine lv_iconst (v := 0) hx hb dX4_copyFrom_19 (by decide +kernel) ?_
  refine lv_aload_n hx hb dX4_copyFrom_20 rfl (lv_at hl 0 rfl) ?_
  refine va_get (D := D) (ci := 4) (v := .ref k1) (C := RX4) (T := TX4) (N := 7) hx hb hT giX4 hown hK hP 0 rfl rfl 1 (by decide +kernel) (hT (Cond.fieldLink RX4 15 "DesertWire$Rates" "texts" "[I") mw_138) (fun _ h9 => h9) rfl dX4_copyFrom_21 ?_
  refine lv_iconst (v := 0) hx hb dX4_copyFrom_24 (by decide +kernel) ?_
  refine lv_sipush (v := 600) hx hb dX4_copyFrom_25 (by decide +kernel) ?_
  refine k_copy (c0 := cI) (c1 := cI) hx hb (hml.trans hl.1.symm) hown (hT _ mw_863) (hT _ mw_865) (hT _ mw_864) (hT _ mw_19) hK hP hD hS 8 2 rfl rfl (by decide +kernel) (by decide +kernel) (Nat.le_of_ble_eq_true rfl) (by decide +kernel) dX4_copyFrom_28 ?_
  clear hP hD hS
  intro H locs hP hD hS
  replace hP : va_P D vwCl [(k, .inr (4, [.ref k0, .ref k1, .ref k2, .ref k3, .ref k4, .int c5, .int c6])), (k0, .inl (cI, 50, .inl d0)), (k1, .inl (cI, 600, .inl d1)), (k2, .inl (cI, 12, .inl c2)), (k3, .inl (cI, 12, .inl c3)), (k4, .inl (cI, 12, .inl c4)), (o, .inr (4, [.ref o0, .ref o1, .ref o2, .ref o3, .ref o4, .int d5, .int d6])), (o0, .inl (cI, 50, .inl d0)), (o1, .inl (cI, 600, .inl d1)), (o2, .inl (cI, 12, .inl d2)), (o3, .inl (cI, 12, .inl d3)), (o4, .inl (cI, 12, .inl d4))] H := hP
  replace hD : va_D A [(k, .inr (4, [.ref k0, .ref k1, .ref k2, .ref k3, .ref k4, .int c5, .int c6])), (k0, .inl (cI, 50, .inl d0)), (k1, .inl (cI, 600, .inl d1)), (k2, .inl (cI, 12, .inl c2)), (k3, .inl (cI, 12, .inl c3)), (k4, .inl (cI, 12, .inl c4)), (o, .inr (4, [.ref o0, .ref o1, .ref o2, .ref o3, .ref o4, .int d5, .int d6])), (o0, .inl (cI, 50, .inl d0)), (o1, .inl (cI, 600, .inl d1)), (o2, .inl (cI, 12, .inl d2)), (o3, .inl (cI, 12, .inl d3)), (o4, .inl (cI, 12, .inl d4))] := hD
  refine lv_aload_n hx hb dX4_copyFrom_31 rfl (lv_at hl 1 rfl) ?_
  refine va_get (D := D) (ci := 4) (v := .ref o2) (C := RX4) (T := TX4) (N := 7) hx hb hT giX4 hown hK hP 6 rfl rfl 2 (by decide +kernel) (hT (Cond.fieldLink RX4 18 "DesertWire$Rates" "lengths" "[I") mw_140) (fun _ h9 => h9) rfl dX4_copyFrom_32 ?_
  refine lv_iconst (v := 0) hx hb dX4_copyFrom_35 (by decide +kernel) ?_
  refine lv_aload_n hx hb dX4_copyFrom_36 rfl (lv_at hl 0 rfl) ?_
  refine va_get (D := D) (ci := 4) (v := .ref k2) (C := RX4) (T := TX4) (N := 7) hx hb hT giX4 hown hK hP 0 rfl rfl 2 (by decide +kernel) (hT (Cond.fieldLink RX4 18 "DesertWire$Rates" "lengths" "[I") mw_140) (fun _ h9 => h9) rfl dX4_copyFrom_37 ?_
  refine lv_iconst (v := 0) hx hb dX4_copyFrom_40 (by decide +kernel) ?_
  refine lv_bipush (v := 12) hx hb dX4_copyFrom_41 (by decide +kernel) ?_
  refine k_copy (c0 := cI) (c1 := cI) hx hb (hml.trans hl.1.symm) hown (hT _ mw_863) (hT _ mw_865) (hT _ mw_864) (hT _ mw_19) hK hP hD hS 9 3 rfl rfl (by decide +kernel) (by decide +kernel) (Nat.le_of_ble_eq_true rfl) (by decide +kernel) dX4_copyFrom_43 ?_
  clear hP hD hS
  intro H locs hP hD hS
  replace hP : va_P D vwCl [(k, .inr (4, [.ref k0, .ref k1, .ref k2, .ref k3, .ref k4, .int c5, .int c6])), (k0, .inl (cI, 50, .inl d0)), (k1, .inl (cI, 600, .inl d1)), (k2, .inl (cI, 12, .inl d2)), (k3, .inl (cI, 12, .inl c3)), (k4, .inl (cI, 12, .inl c4)), (o, .inr (4, [.ref o0, .ref o1, .ref o2, .ref o3, .ref o4, .int d5, .int d6])), (o0, .inl (cI, 50, .inl d0)), (o1, .inl (cI, 600, .inl d1)), (o2, .inl (cI, 12, .inl d2)), (o3, .inl (cI, 12, .inl d3)), (o4, .inl (cI, 12, .inl d4))] H := hP
  replace hD : va_D A [(k, .inr (4, [.ref k0, .ref k1, .ref k2, .ref k3, .ref k4, .int c5, .int c6])), (k0, .inl (cI, 50, .inl d0)), (k1, .inl (cI, 600, .inl d1)), (k2, .inl (cI, 12, .inl d2)), (k3, .inl (cI, 12, .inl c3)), (k4, .inl (cI, 12, .inl c4)), (o, .inr (4, [.ref o0, .ref o1, .ref o2, .ref o3, .ref o4, .int d5, .int d6])), (o0, .inl (cI, 50, .inl d0)), (o1, .inl (cI, 600, .inl d1)), (o2, .inl (cI, 12, .inl d2)), (o3, .inl (cI, 12, .inl d3)), (o4, .inl (cI, 12, .inl d4))] := hD
  refine lv_aload_n hx hb dX4_copyFrom_46 rfl (lv_at hl 1 rfl) ?_
  refine va_get (D := D) (ci := 4) (v := .ref o3) (C := RX4) (T := TX4) (N := 7) hx hb hT giX4 hown hK hP 6 rfl rfl 3 (by decide +kernel) (hT (Cond.fieldLink RX4 21 "DesertWire$Rates" "uses" "[I") mw_141) (fun _ h9 => h9) rfl dX4_copyFrom_47 ?_
  refine lv_iconst (v := 0) hx hb dX4_copyFrom_50 (by decide +kernel) ?_
  refine lv_aload_n hx hb dX4_copyFrom_51 rfl (lv_at hl 0 rfl) ?_
  refine va_get (D := D) (ci := 4) (v := .ref k3) (C := RX4) (T := TX4) (N := 7) hx hb hT giX4 hown hK hP 0 rfl rfl 3 (by decide +kernel) (hT (Cond.fieldLink RX4 21 "DesertWire$Rates" "uses" "[I") mw_141) (fun _ h9 => h9) rfl dX4_copyFrom_52 ?_
  refine lv_iconst (v := 0) hx hb dX4_copyFrom_55 (by decide +kernel) ?_
  refine lv_bipush (v := 12) hx hb dX4_copyFrom_56 (by decide +kernel) ?_
  refine k_copy (c0 := cI) (c1 := cI) hx hb (hml.trans hl.1.symm) hown (hT _ mw_863) (hT _ mw_865) (hT _ mw_864) (hT _ mw_19) hK hP hD hS 10 4 rfl rfl (by decide +kernel) (by decide +kernel) (Nat.le_of_ble_eq_true rfl) (by decide +kernel) dX4_copyFrom_58 ?_
  clear hP hD hS
  intro H locs hP hD hS
  replace hP : va_P D vwCl [(k, .inr (4, [.ref k0, .ref k1, .ref k2, .ref k3, .ref k4, .int c5, .int c6])), (k0, .inl (cI, 50, .inl d0)), (k1, .inl (cI, 600, .inl d1)), (k2, .inl (cI, 12, .inl d2)), (k3, .inl (cI, 12, .inl d3)), (k4, .inl (cI, 12, .inl c4)), (o, .inr (4, [.ref o0, .ref o1, .ref o2, .ref o3, .ref o4, .int d5, .int d6])), (o0, .inl (cI, 50, .inl d0)), (o1, .inl (cI, 600, .inl d1)), (o2, .inl (cI, 12, .inl d2)), (o3, .inl (cI, 12, .inl d3)), (o4, .inl (cI, 12, .inl d4))] H := hP
  replace hD : va_D A [(k, .inr (4, [.ref k0, .ref k1, .ref k2, .ref k3, .ref k4, .int c5, .int c6])), (k0, .inl (cI, 50, .inl d0)), (k1, .inl (cI, 600, .inl d1)), (k2, .inl (cI, 12, .inl d2)), (k3, .inl (cI, 12, .inl d3)), (k4, .inl (cI, 12, .inl c4)), (o, .inr (4, [.ref o0, .ref o1, .ref o2, .ref o3, .ref o4, .int d5, .int d6])), (o0, .inl (cI, 50, .inl d0)), (o1, .inl (cI, 600, .inl d1)), (o2, .inl (cI, 12, .inl d2)), (o3, .inl (cI, 12, .inl d3)), (o4, .inl (cI, 12, .inl d4))] := hD
  refine lv_aload_n hx hb dX4_copyFrom_61 rfl (lv_at hl 1 rfl) ?_
  refine va_get (D := D) (ci := 4) (v := .ref o4) (C := RX4) (T := TX4) (N := 7) hx hb hT giX4 hown hK hP 6 rfl rfl 4 (by decide +kernel) (hT (Cond.fieldLink RX4 24 "DesertWire$Rates" "froms" "[I") mw_142) (fun _ h9 => h9) rfl dX4_copyFrom_62 ?_
  refine lv_iconst (v := 0) hx hb dX4_copyFrom_65 (by decide +kernel) ?_
  refine lv_aload_n hx hb dX4_copyFrom_66 rfl (lv_at hl 0 rfl) ?_
  refine va_get (D := D) (ci := 4) (v := .ref k4) (C := RX4) (T := TX4) (N := 7) hx hb hT giX4 hown hK hP 0 rfl rfl 4 (by decide +kernel) (hT (Cond.fieldLink RX4 24 "DesertWire$Rates" "froms" "[I") mw_142) (fun _ h9 => h9) rfl dX4_copyFrom_67 ?_
  refine lv_iconst (v := 0) hx hb dX4_copyFrom_70 (by decide +kernel) ?_
  refine lv_bipush (v := 12) hx hb dX4_copyFrom_71 (by decide +kernel) ?_
  refine k_copy (c0 := cI) (c1 := cI) hx hb (hml.trans hl.1.symm) hown (hT _ mw_863) (hT _ mw_865) (hT _ mw_864) (hT _ mw_19) hK hP hD hS 11 5 rfl rfl (by decide +kernel) (by decide +kernel) (Nat.le_of_ble_eq_true rfl) (by decide +kernel) dX4_copyFrom_73 ?_
  clear hP hD hS
  intro H locs hP hD hS
  replace hP : va_P D vwCl [(k, .inr (4, [.ref k0, .ref k1, .ref k2, .ref k3, .ref k4, .int c5, .int c6])), (k0, .inl (cI, 50, .inl d0)), (k1, .inl (cI, 600, .inl d1)), (k2, .inl (cI, 12, .inl d2)), (k3, .inl (cI, 12, .inl d3)), (k4, .inl (cI, 12, .inl d4)), (o, .inr (4, [.ref o0, .ref o1, .ref o2, .ref o3, .ref o4, .int d5, .int d6])), (o0, .inl (cI, 50, .inl d0)), (o1, .inl (cI, 600, .inl d1)), (o2, .inl (cI, 12, .inl d2)), (o3, .inl (cI, 12, .inl d3)), (o4, .inl (cI, 12, .inl d4))] H := hP
  replace hD : va_D A [(k, .inr (4, [.ref k0, .ref k1, .ref k2, .ref k3, .ref k4, .int c5, .int c6])), (k0, .inl (cI, 50, .inl d0)), (k1, .inl (cI, 600, .inl d1)), (k2, .inl (cI, 12, .inl d2)), (k3, .inl (cI, 12, .inl d3)), (k4, .inl (cI, 12, .inl d4)), (o, .inr (4, [.ref o0, .ref o1, .ref o2, .ref o3, .ref o4, .int d5, .int d6])), (o0, .inl (cI, 50, .inl d0)), (o1, .inl (cI, 600, .inl d1)), (o2, .inl (cI, 12, .inl d2)), (o3, .inl (cI, 12, .inl d3)), (o4, .inl (cI, 12, .inl d4))] := hD
  refine lv_aload_n hx hb dX4_copyFrom_76 rfl (lv_at hl 0 rfl) ?_
  refine lv_aload_n hx hb dX4_copyFrom_77 rfl (lv_at hl 1 rfl) ?_
  refine va_get (D := D) (ci := 4) (v := .int d5) (C := RX4) (T := TX4) (N := 7) hx hb hT giX4 hown hK hP 6 rfl rfl 5 (by decide +kernel) (hT (Cond.fieldLink RX4 27 "DesertWire$Rates" "taped" "I") mw_143) (fun _ h9 => h9) rfl dX4_copyFrom_78 ?_
  refine va_put (D := D) (ci := 4) (v := .int d5) (ty := .int) (C := RX4) (T := TX4) (N := 7) hx hb hT giX4 tyX4 tyX4_ok nmX4 hown hK hP hD hS 0 rfl rfl 5 (by decide +kernel) (hT (Cond.fieldLink RX4 27 "DesertWire$Rates" "taped" "I") mw_143) (fun _ h9 => h9) rfl (by decide +kernel) rfl rfl (Nat.le_of_ble_eq_true rfl) dX4_copyFrom_81 ?_
  clear hP hD hS
  intro H locs hP hD hS
  replace hP : va_P D vwCl [(k, .inr (4, [.ref k0, .ref k1, .ref k2, .ref k3, .ref k4, .int d5, .int c6])), (k0, .inl (cI, 50, .inl d0)), (k1, .inl (cI, 600, .inl d1)), (k2, .inl (cI, 12, .inl d2)), (k3, .inl (cI, 12, .inl d3)), (k4, .inl (cI, 12, .inl d4)), (o, .inr (4, [.ref o0, .ref o1, .ref o2, .ref o3, .ref o4, .int d5, .int d6])), (o0, .inl (cI, 50, .inl d0)), (o1, .inl (cI, 600, .inl d1)), (o2, .inl (cI, 12, .inl d2)), (o3, .inl (cI, 12, .inl d3)), (o4, .inl (cI, 12, .inl d4))] H := hP
  replace hD : va_D A [(k, .inr (4, [.ref k0, .ref k1, .ref k2, .ref k3, .ref k4, .int d5, .int c6])), (k0, .inl (cI, 50, .inl d0)), (k1, .inl (cI, 600, .inl d1)), (k2, .inl (cI, 12, .inl d2)), (k3, .inl (cI, 12, .inl d3)), (k4, .inl (cI, 12, .inl d4)), (o, .inr (4, [.ref o0, .ref o1, .ref o2, .ref o3, .ref o4, .int d5, .int d6])), (o0, .inl (cI, 50, .inl d0)), (o1, .inl (cI, 600, .inl d1)), (o2, .inl (cI, 12, .inl d2)), (o3, .inl (cI, 12, .inl d3)), (o4, .inl (cI, 12, .inl d4))] := hD
  refine lv_aload_n hx hb dX4_copyFrom_84 rfl (lv_at hl 0 rfl) ?_
  refine lv_aload_n hx hb dX4_copyFrom_85 rfl (lv_at hl 1 rfl) ?_
  refine va_get (D := D) (ci := 4) (v := .int d6) (C := RX4) (T := TX4) (N := 7) hx hb hT giX4 hown hK hP 6 rfl rfl 6 (by decide +kernel) (hT (Cond.fieldLink RX4 31 "DesertWire$Rates" "number" "I") mw_145) (fun _ h9 => h9) rfl dX4_copyFrom_86 ?_
  refine va_put (D := D) (ci := 4) (v := .int d6) (ty := .int) (C := RX4) (T := TX4) (N := 7) hx hb hT giX4 tyX4 tyX4_ok nmX4 hown hK hP hD hS 0 rfl rfl 6 (by decide +kernel) (hT (Cond.fieldLink RX4 31 "DesertWire$Rates" "number" "I") mw_145) (fun _ h9 => h9) rfl (by decide +kernel) rfl rfl (Nat.le_of_ble_eq_true rfl) dX4_copyFrom_89 ?_
  clear hP hD hS
  intro H locs hP hD hS
  replace hP : va_P D vwCl [(k, .inr (4, [.ref k0, .ref k1, .ref k2, .ref k3, .ref k4, .int d5, .int d6])), (k0, .inl (cI, 50, .inl d0)), (k1, .inl (cI, 600, .inl d1)), (k2, .inl (cI, 12, .inl d2)), (k3, .inl (cI, 12, .inl d3)), (k4, .inl (cI, 12, .inl d4)), (o, .inr (4, [.ref o0, .ref o1, .ref o2, .ref o3, .ref o4, .int d5, .int d6])), (o0, .inl (cI, 50, .inl d0)), (o1, .inl (cI, 600, .inl d1)), (o2, .inl (cI, 12, .inl d2)), (o3, .inl (cI, 12, .inl d3)), (o4, .inl (cI, 12, .inl d4))] H := hP
  replace hD : va_D A [(k, .inr (4, [.ref k0, .ref k1, .ref k2, .ref k3, .ref k4, .int d5, .int d6])), (k0, .inl (cI, 50, .inl d0)), (k1, .inl (cI, 600, .inl d1)), (k2, .inl (cI, 12, .inl d2)), (k3, .inl (cI, 12, .inl d3)), (k4, .inl (cI, 12, .inl d4)), (o, .inr (4, [.ref o0, .ref o1, .ref o2, .ref o3, .ref o4, .int d5, .int d6])), (o0, .inl (cI, 50, .inl d0)), (o1, .inl (cI, 600, .inl d1)), (o2, .inl (cI, 12, .inl d2)), (o3, .inl (cI, 12, .inl d3)), (o4, .inl (cI, 12, .inl d4))] := hD
  exact hRet (d5, d6, d0, d1, d2, d3, d4) [0, 1, 2, 3, 4, 5, 6, 7, 8, 9, 10, 11] ⟨rfl, rfl, rfl, rfl, rfl, rfl, rfl⟩ hP hD (by decide +kernel) rfl hS dX4_copyFrom_92
theorem bn_cX4_inForce_0 : BN cX4_inForce 0 0x2b406de802a2000442ab43c0600a903a2f0f06402b51584002a10e0bc3c1600ad4562000a8c1a110f098029c0f0fcca05100056a2b := by
  unfold BN; decide +kernel
theorem dX4_inForce_0 : decode cX4_inForce 0 = .ok (.aload_n 0, 1) := dR0 (k := 0) (i := 0) bn_cX4_inForce_0 dop_42 (by decide +kernel)
theorem dX4_inForce_1 : decode cX4_inForce 1 = .ok (.getfield 31, 3) := dR2 (f := Instr.getfield) (k := 0) (i := 1) bn_cX4_inForce_0 dop_180 31 (by decide +kernel)
theorem dX4_inForce_4 : decode cX4_inForce 4 = .ok (.iconst 1, 1) := dR0 (k := 0) (i := 4) bn_cX4_inForce_0 dop_4 (by decide +kernel)
theorem dX4_inForce_5 : decode cX4_inForce 5 = .ok (.isub, 1) := dR0 (k := 0) (i := 5) bn_cX4_inForce_0 dop_100 (by decide +kernel)
theorem dX4_inForce_6 : decode cX4_inForce 6 = .ok (.istore_n 3, 1) := dR0 (k := 0) (i := 6) bn_cX4_inForce_0 dop_62 (by decide +kernel)
theorem dX4_inForce_7 : decode cX4_inForce 7 = .ok (.iload_n 3, 1) := dR0 (k := 0) (i := 7) bn_cX4_inForce_0 dop_29 (by decide +kernel)
theorem dX4_inForce_8 : decode cX4_inForce 8 = .ok (.ifCond .lt 37, 3) := dR2s (f := Instr.ifCond .lt) (k := 0) (i := 8) bn_cX4_inForce_0 dop_155 37 37 (by decide +kernel)
theorem dX4_inForce_11 : decode cX4_inForce 11 = .ok (.iload_n 3, 1) := dR0 (k := 0) (i := 11) bn_cX4_inForce_0 dop_29 (by decide +kernel)
theorem dX4_inForce_12 : decode cX4_inForce 12 = .ok (.bipush 12, 2) := dR1s (f := Instr.bipush) (k := 0) (i := 12) bn_cX4_inForce_0 dop_16 12 12 (by decide +kernel)
theorem dX4_inForce_14 : decode cX4_inForce 14 = .ok (.if_icmp .ge 31, 3) := dR2s (f := Instr.if_icmp .ge) (k := 0) (i := 14) bn_cX4_inForce_0 dop_162 31 31 (by decide +kernel)
theorem dX4_inForce_17 : decode cX4_inForce 17 = .ok (.aload_n 0, 1) := dR0 (k := 0) (i := 17) bn_cX4_inForce_0 dop_42 (by decide +kernel)
theorem dX4_inForce_18 : decode cX4_inForce 18 = .ok (.getfield 21, 3) := dR2 (f := Instr.getfield) (k := 0) (i := 18) bn_cX4_inForce_0 dop_180 21 (by decide +kernel)
theorem dX4_inForce_21 : decode cX4_inForce 21 = .ok (.iload_n 3, 1) := dR0 (k := 0) (i := 21) bn_cX4_inForce_0 dop_29 (by decide +kernel)
theorem dX4_inForce_22 : decode cX4_inForce 22 = .ok (.iaload, 1) := dR0 (k := 0) (i := 22) bn_cX4_inForce_0 dop_46 (by decide +kernel)
theorem dX4_inForce_23 : decode cX4_inForce 23 = .ok (.iload_n 1, 1) := dR0 (k := 0) (i := 23) bn_cX4_inForce_0 dop_27 (by decide +kernel)
theorem dX4_inForce_24 : decode cX4_inForce 24 = .ok (.if_icmp .ne 15, 3) := dR2s (f := Instr.if_icmp .ne) (k := 0) (i := 24) bn_cX4_inForce_0 dop_160 15 15 (by decide +kernel)
theorem dX4_inForce_27 : decode cX4_inForce 27 = .ok (.aload_n 0, 1) := dR0 (k := 0) (i := 27) bn_cX4_inForce_0 dop_42 (by decide +kernel)
theorem dX4_inForce_28 : decode cX4_inForce 28 = .ok (.getfield 24, 3) := dR2 (f := Instr.getfield) (k := 0) (i := 28) bn_cX4_inForce_0 dop_180 24 (by decide +kernel)
theorem dX4_inForce_31 : decode cX4_inForce 31 = .ok (.iload_n 3, 1) := dR0 (k := 0) (i := 31) bn_cX4_inForce_0 dop_29 (by decide +kernel)
theorem dX4_inForce_32 : decode cX4_inForce 32 = .ok (.iaload, 1) := dR0 (k := 0) (i := 32) bn_cX4_inForce_0 dop_46 (by decide +kernel)
theorem dX4_inForce_33 : decode cX4_inForce 33 = .ok (.iload_n 2, 1) := dR0 (k := 0) (i := 33) bn_cX4_inForce_0 dop_28 (by decide +kernel)
theorem dX4_inForce_34 : decode cX4_inForce 34 = .ok (.if_icmp .gt 5, 3) := dR2s (f := Instr.if_icmp .gt) (k := 0) (i := 34) bn_cX4_inForce_0 dop_163 5 5 (by decide +kernel)
theorem dX4_inForce_37 : decode cX4_inForce 37 = .ok (.iload_n 3, 1) := dR0 (k := 0) (i := 37) bn_cX4_inForce_0 dop_29 (by decide +kernel)
theorem dX4_inForce_38 : decode cX4_inForce 38 = .ok (.ireturn, 1) := dR0 (k := 0) (i := 38) bn_cX4_inForce_0 dop_172 (by decide +kernel)
theorem dX4_inForce_39 : decode cX4_inForce 39 = .ok (.iinc 3 (-1), 3) := dRii (f := Instr.iinc) (k := 0) (i := 39) bn_cX4_inForce_0 dop_132 3 255 (-1) (by decide +kernel)
theorem dX4_inForce_42 : decode cX4_inForce 42 = .ok (.goto (-35), 3) := dR2s (f := Instr.goto) (k := 0) (i := 42) bn_cX4_inForce_0 dop_167 65501 (-35) (by decide +kernel)
theorem dX4_inForce_45 : decode cX4_inForce 45 = .ok (.iconst (-1), 1) := dR0 (k := 0) (i := 45) bn_cX4_inForce_0 dop_2 (by decide +kernel)
theorem dX4_inForce_46 : decode cX4_inForce 46 = .ok (.ireturn, 1) := dR0 (k := 0) (i := 46) bn_cX4_inForce_0 dop_172 (by decide +kernel)
set_option maxHeartbeats 4000000 in
set_option maxRecDepth 100000 in
theorem c_X4_inForceG (l : Launch) (D : va_G) (cI : ClassId) (aK aV : Nat → Nat) (k k0 k1 k2 k3 k4 : Nat) (sz : Nat) (c5 : Int32) (c6 : Int32) (c3 : Nat → Int32) (c4 : Nat → Int32) (a0 : Int32) (a1 : Int32) (pre0 : 0 ≤ c6.toInt) (pre1 : c6.toInt ≤ 12) : Met l yX4_inForce (gW yX4_inForce cX4_inForce 4 (some .int)) ({ frames := 0, cells := 0, slots := 0, locals := 0 } : Room) (kPreX D cI aK aV [.ref k, .int a0, .int a1] [(k, .inr (4, [.ref k0, .ref k1, .ref k2, .ref k3, .ref k4, .int c5, .int c6])), (k3, .inl (cI, 12, .inl c3)), (k4, .inl (cI, 12, .inl c4))] sz) (va_Qi (fun (r : Int32) (u : Unit) => r.toInt = inF c3 c4 a0 a1 c6.toInt.toNat ∧ -1 ≤ r.toInt ∧ r.toInt + 1 ≤ c6.toInt) (fun u t => kWd D cI (va_A [(k, .inr (4, [.ref k0, .ref k1, .ref k2, .ref k3, .ref k4, .int c5, .int c6])), (k3, .inl (cI, 12, .inl c3)), (k4, .inl (cI, 12, .inl c4))] sz) [(k, .inr (4, [.ref k0, .ref k1, .ref k2, .ref k3, .ref k4, .int c5, .int c6])), (k3, .inl (cI, 12, .inl c3)), (k4, .inl (cI, 12, .inl c4))] t) (va_A [(k, .inr (4, [.ref k0, .ref k1, .ref k2, .ref k3, .ref k4, .int c5, .int c6])), (k3, .inl (cI, 12, .inl c3)), (k4, .inl (cI, 12, .inl c4))] sz)) 0 0 (va_A [(k, .inr (4, [.ref k0, .ref k1, .ref k2, .ref k3, .ref k4, .int c5, .int c6])), (k3, .inl (cI, 12, .inl c3)), (k4, .inl (cI, 12, .inl c4))] sz) := by
  refine kMetIX (own := RX4) (by decide +kernel) rfl (Nat.le_of_ble_eq_true rfl) ?_
  intro p e s m args below meth c hx hb hT hown hname hml A Q hK hP hD hS hA hN hXS hRet ls hl
  have hl : lv_has ls 4 [(0, .ref k), (1, .int a0), (2, .int a1)] := hl
  have lo_a0 := k_lo a0
  have hi_a0 := k_hi a0
  have lo_a1 := k_lo a1
  have hi_a1 := k_hi a1
  have lo_c6 := k_lo c6
  have hi_c6 := k_hi c6
  refine lv_aload_n hx hb dX4_inForce_0 rfl (lv_at hl 0 rfl) ?_
  refine va_get (D := D) (ci := 4) (v := .int c6) (C := RX4) (T := TX4) (N := 7) hx hb hT giX4 hown hK hP 0 rfl rfl 6 (by decide +kernel) (hT (Cond.fieldLink RX4 31 "DesertWire$Rates" "number" "I") mw_145) (fun _ h9 => h9) rfl dX4_inForce_1 ?_
  refine lv_iconst (v := 1) hx hb dX4_inForce_4 (by decide +kernel) ?_
  refine lv_isub hx hb dX4_inForce_5 ?_
  refine lv_topi (fun v_1 ev_1 => ?_)
  have tv_1 : v_1.toInt = c6.toInt - 1 := by rw [ev_1]; exact k_subv rfl zl_1 (by omega) (by omega)
  refine lv_istore_n (lv' := [(3, .int v_1), (0, .ref k), (1, .int a0), (2, .int a1)]) hx hb dX4_inForce_6 rfl hl (by decide +kernel) rfl ?_
  clear hl
  intro ls hl
  have hloop_7 : ∀ (fu_ : Nat) (l7_3 : Int32), l7_3.toInt ≤ v_1.toInt → -1 ≤ l7_3.toInt → l7_3.toInt < c6.toInt → inF c3 c4 a0 a1 c6.toInt.toNat = inF c3 c4 a0 a1 (l7_3.toInt + 1).toNat → (l7_3.toInt + 1 - 0).toNat < fu_ → ∀ (ls : Array Slot) (H : Heap) (locs : List Loc), lv_has ls 4 [(3, .int l7_3), (0, .ref k), (1, .int a0), (2, .int a1)] → va_P D vwCl [(k, .inr (4, [.ref k0, .ref k1, .ref k2, .ref k3, .ref k4, .int c5, .int c6])), (k3, .inl (cI, 12, .inl c3)), (k4, .inl (cI, 12, .inl c4))] H → va_D A [(k, .inr (4, [.ref k0, .ref k1, .ref k2, .ref k3, .ref k4, .int c5, .int c6])), (k3, .inl (cI, 12, .inl c3)), (k4, .inl (cI, 12, .inl c4))] → va_S A s.heap H locs → W p l e ({ frames := 0, cells := 0, slots := 0, locals := 0 } : Room) s m args below meth c H locs 0 0 Q (F0 m 7 ls []) := by
    intro fu_; induction fu_ with
    | zero => intro l7_3 i7_0 i7_1 i7_2 i7_3 hm; exact absurd hm (by omega)
    | succ fu_ ih7 =>
        intro l7_3 i7_0 i7_1 i7_2 i7_3 hm ls H locs hl hP hD hS
        have lo_l7_3 := k_lo l7_3
        have hi_l7_3 := k_hi l7_3
        refine lv_iload_n hx hb dX4_inForce_7 rfl (lv_at hl 0 rfl) ?_
        refine b_if_lt hx hb rfl (tgt := 45) dX4_inForce_8 (by decide +kernel) (fun c_2 => ?_) (fun c_2 => ?_)
        · refine lv_iconst (v := (-1)) hx hb dX4_inForce_45 (by decide +kernel) ?_
          exact hRet () [0, 1, 2] ⟨(by rw [zl_m1, i7_3, show (l7_3.toInt + 1).toNat = 0 from by omega]; rfl), (by first | omega | (simp only [zl_m1]; first | done | omega) | decide | assumption | rfl), (by first | omega | (simp only [zl_m1]; first | done | omega) | decide | assumption | rfl)⟩ hP hD (by decide +kernel) rfl hS rfl dX4_inForce_46
        · refine lv_iload_n hx hb dX4_inForce_11 rfl (lv_at hl 0 rfl) ?_
          refine lv_bipush (v := 12) hx hb dX4_inForce_12 (by decide +kernel) ?_
          refine b_icmp_ge hx hb rfl zl_12 (tgt := 45) dX4_inForce_14 (by decide +kernel) (fun c_3 => by exfalso; omega) (fun c_3 => ?_)
          refine lv_aload_n hx hb dX4_inForce_17 rfl (lv_at hl 1 rfl) ?_
          refine va_get (D := D) (ci := 4) (v := .ref k3) (C := RX4) (T := TX4) (N := 7) hx hb hT giX4 hown hK hP 0 rfl rfl 3 (by decide +kernel) (hT (Cond.fieldLink RX4 21 "DesertWire$Rates" "uses" "[I") mw_141) (fun _ h9 => h9) rfl dX4_inForce_18 ?_
          refine lv_iload_n hx hb dX4_inForce_21 rfl (lv_at hl 0 rfl) ?_
          refine k_iald (v := (c3 l7_3.toNatClampNeg)) hx hb hK hP 1 0 rfl rfl (k_in (by omega) (by omega)) rfl dX4_inForce_22 ?_
          refine lv_topi (fun v_4 ev_4 => ?_)
          have lo_v_4 := k_lo v_4
          have hi_v_4 := k_hi v_4
          have tv_4 : v_4.toInt = (c3 l7_3.toNatClampNeg).toInt := by rw [ev_4]
          refine lv_iload_n hx hb dX4_inForce_23 rfl (lv_at hl 2 rfl) ?_
          refine b_icmp_ne hx hb rfl rfl (tgt := 39) dX4_inForce_24 (by decide +kernel) (fun c_5 => ?_) (fun c_5 => ?_)
          · obtain ⟨v_6, ev_6⟩ : ∃ y : Int32, y = l7_3 + (-1) := ⟨_, rfl⟩
            have tv_6 : v_6.toInt = l7_3.toInt + (-1) := by rw [ev_6]; exact k_addv rfl zl_m1 (by omega) (by omega)
            refine lv_iinc (v := v_6) (lv' := [(3, .int v_6), (0, .ref k), (1, .int a0), (2, .int a1)]) hx hb dX4_inForce_39 hl (k := 0) rfl (by rw [ev_6]; rfl) (by decide +kernel) rfl ?_
            clear hl
            intro ls hl
            refine lv_goto (tgt := 7) hx hb dX4_inForce_42 (by decide +kernel) ?_
            exact ih7 v_6 (by first | omega | decide | assumption | rfl) (by first | omega | decide | assumption | rfl) (by first | omega | decide | assumption | rfl) (by rw [i7_3, inF_no (m := (l7_3.toInt + 1).toNat) (n := l7_3.toInt.toNat) (by omega) (by first | exact Or.inl (show (c3 l7_3.toNatClampNeg).toInt ≠ a0.toInt from by omega) | exact Or.inr (show a1.toInt < (c4 l7_3.toNatClampNeg).toInt from by omega)), show (v_6.toInt + 1).toNat = l7_3.toInt.toNat from by omega]) (by omega) ls _ _ (lv_sub hl [0, 1, 2, 3] rfl) (hP.sub [0, 1, 2] rfl) (hD.sub [0, 1, 2] (by decide +kernel) rfl) hS
          · refine lv_aload_n hx hb dX4_inForce_27 rfl (lv_at hl 1 rfl) ?_
            refine va_get (D := D) (ci := 4) (v := .ref k4) (C := RX4) (T := TX4) (N := 7) hx hb hT giX4 hown hK hP 0 rfl rfl 4 (by decide +kernel) (hT (Cond.fieldLink RX4 24 "DesertWire$Rates" "froms" "[I") mw_142) (fun _ h9 => h9) rfl dX4_inForce_28 ?_
            refine lv_iload_n hx hb dX4_inForce_31 rfl (lv_at hl 0 rfl) ?_
            refine k_iald (v := (c4 l7_3.toNatClampNeg)) hx hb hK hP 2 0 rfl rfl (k_in (by omega) (by omega)) rfl dX4_inForce_32 ?_
            refine lv_topi (fun v_7 ev_7 => ?_)
            have lo_v_7 := k_lo v_7
            have hi_v_7 := k_hi v_7
            have tv_7 : v_7.toInt = (c4 l7_3.toNatClampNeg).toInt := by rw [ev_7]
            refine lv_iload_n hx hb dX4_inForce_33 rfl (lv_at hl 3 rfl) ?_
            refine b_icmp_gt hx hb rfl rfl (tgt := 39) dX4_inForce_34 (by decide +kernel) (fun c_8 => ?_) (fun c_8 => ?_)
            · obtain ⟨v_9, ev_9⟩ : ∃ y : Int32, y = l7_3 + (-1) := ⟨_, rfl⟩
              have tv_9 : v_9.toInt = l7_3.toInt + (-1) := by rw [ev_9]; exact k_addv rfl zl_m1 (by omega) (by omega)
              refine lv_iinc (v := v_9) (lv' := [(3, .int v_9), (0, .ref k), (1, .int a0), (2, .int a1)]) hx hb dX4_inForce_39 hl (k := 0) rfl (by rw [ev_9]; rfl) (by decide +kernel) rfl ?_
              clear hl
              intro ls hl
              refine lv_goto (tgt := 7) hx hb dX4_inForce_42 (by decide +kernel) ?_
              exact ih7 v_9 (by first | omega | decide | assumption | rfl) (by first | omega | decide | assumption | rfl) (by first | omega | decide | assumption | rfl) (by rw [i7_3, inF_no (m := (l7_3.toInt + 1).toNat) (n := l7_3.toInt.toNat) (by omega) (by first | exact Or.inl (show (c3 l7_3.toNatClampNeg).toInt ≠ a0.toInt from by omega) | exact Or.inr (show a1.toInt < (c4 l7_3.toNatClampNeg).toInt from by omega)), show (v_9.toInt + 1).toNat = l7_3.toInt.toNat from by omega]) (by omega) ls _ _ (lv_sub hl [0, 1, 2, 3] rfl) (hP.sub [0, 1, 2] rfl) (hD.sub [0, 1, 2] (by decide +kernel) rfl) hS
            · refine lv_iload_n hx hb dX4_inForce_37 rfl (lv_at hl 0 rfl) ?_
              exact hRet () [0, 1, 2] ⟨(by rw [i7_3, inF_yes (m := (l7_3.toInt + 1).toNat) (n := l7_3.toInt.toNat) (by omega) (show (c3 l7_3.toNatClampNeg).toInt = a0.toInt from by omega) (show (c4 l7_3.toNatClampNeg).toInt ≤ a1.toInt from by omega)]; omega), (by first | omega | decide | assumption | rfl), (by first | omega | decide | assumption | rfl)⟩ hP hD (by decide +kernel) rfl hS rfl dX4_inForce_38
  exact hloop_7 _ v_1 (by first | omega | decide | assumption | rfl) (by first | omega | decide | assumption | rfl) (by first | omega | decide | assumption | rfl) (by rw [show (v_1.toInt + 1).toNat = c6.toInt.toNat from by omega]) (Nat.lt_succ_self _) ls _ _ (lv_sub hl [0, 1, 2, 3] rfl) hP hD hS
theorem bn_cX4_lengthOf_0 : BN cX4_lengthOf 0 0xad0201402a81787026015a8ac1a0151834221c09805381c := by
  unfold BN; decide +kernel
theorem dX4_lengthOf_0 : decode cX4_lengthOf 0 = .ok (.iload_n 1, 1) := dR0 (k := 0) (i := 0) bn_cX4_lengthOf_0 dop_27 (by decide +kernel)
theorem dX4_lengthOf_1 : decode cX4_lengthOf 1 = .ok (.ifCond .lt 18, 3) := dR2s (f := Instr.ifCond .lt) (k := 0) (i := 1) bn_cX4_lengthOf_0 dop_155 18 18 (by decide +kernel)
theorem dX4_lengthOf_4 : decode cX4_lengthOf 4 = .ok (.iload_n 1, 1) := dR0 (k := 0) (i := 4) bn_cX4_lengthOf_0 dop_27 (by decide +kernel)
theorem dX4_lengthOf_5 : decode cX4_lengthOf 5 = .ok (.bipush 12, 2) := dR1s (f := Instr.bipush) (k := 0) (i := 5) bn_cX4_lengthOf_0 dop_16 12 12 (by decide +kernel)
theorem dX4_lengthOf_7 : decode cX4_lengthOf 7 = .ok (.if_icmp .ge 12, 3) := dR2s (f := Instr.if_icmp .ge) (k := 0) (i := 7) bn_cX4_lengthOf_0 dop_162 12 12 (by decide +kernel)
theorem dX4_lengthOf_10 : decode cX4_lengthOf 10 = .ok (.aload_n 0, 1) := dR0 (k := 0) (i := 10) bn_cX4_lengthOf_0 dop_42 (by decide +kernel)
theorem dX4_lengthOf_11 : decode cX4_lengthOf 11 = .ok (.getfield 18, 3) := dR2 (f := Instr.getfield) (k := 0) (i := 11) bn_cX4_lengthOf_0 dop_180 18 (by decide +kernel)
theorem dX4_lengthOf_14 : decode cX4_lengthOf 14 = .ok (.iload_n 1, 1) := dR0 (k := 0) (i := 14) bn_cX4_lengthOf_0 dop_27 (by decide +kernel)
theorem dX4_lengthOf_15 : decode cX4_lengthOf 15 = .ok (.iaload, 1) := dR0 (k := 0) (i := 15) bn_cX4_lengthOf_0 dop_46 (by decide +kernel)
theorem dX4_lengthOf_16 : decode cX4_lengthOf 16 = .ok (.goto 4, 3) := dR2s (f := Instr.goto) (k := 0) (i := 16) bn_cX4_lengthOf_0 dop_167 4 4 (by decide +kernel)
theorem dX4_lengthOf_19 : decode cX4_lengthOf 19 = .ok (.iconst 0, 1) := dR0 (k := 0) (i := 19) bn_cX4_lengthOf_0 dop_3 (by decide +kernel)
theorem dX4_lengthOf_20 : decode cX4_lengthOf 20 = .ok (.ireturn, 1) := dR0 (k := 0) (i := 20) bn_cX4_lengthOf_0 dop_172 (by decide +kernel)
set_option maxHeartbeats 4000000 in
set_option maxRecDepth 100000 in
theorem c_X4_lengthOfG (l : Launch) (D : va_G) (cI : ClassId) (aK aV : Nat → Nat) (k k0 k1 k2 k3 k4 : Nat) (sz : Nat) (c5 : Int32) (c6 : Int32) (c2 : Nat → Int32) (a0 : Int32) : Met l yX4_lengthOf (gW yX4_lengthOf cX4_lengthOf 2 (some .int)) ({ frames := 0, cells := 0, slots := 0, locals := 0 } : Room) (kPreX D cI aK aV [.ref k, .int a0] [(k, .inr (4, [.ref k0, .ref k1, .ref k2, .ref k3, .ref k4, .int c5, .int c6])), (k2, .inl (cI, 12, .inl c2))] sz) (va_Qi (fun (r : Int32) (u : Unit) => (0 ≤ a0.toInt ∧ a0.toInt ≤ 11 ∧ r.toInt = (c2 a0.toNatClampNeg).toInt) ∨ (r = 0 ∧ (a0.toInt < 0 ∨ 11 < a0.toInt))) (fun u t => kWd D cI (va_A [(k, .inr (4, [.ref k0, .ref k1, .ref k2, .ref k3, .ref k4, .int c5, .int c6])), (k2, .inl (cI, 12, .inl c2))] sz) [(k, .inr (4, [.ref k0, .ref k1, .ref k2, .ref k3, .ref k4, .int c5, .int c6])), (k2, .inl (cI, 12, .inl c2))] t) (va_A [(k, .inr (4, [.ref k0, .ref k1, .ref k2, .ref k3, .ref k4, .int c5, .int c6])), (k2, .inl (cI, 12, .inl c2))] sz)) 0 0 (va_A [(k, .inr (4, [.ref k0, .ref k1, .ref k2, .ref k3, .ref k4, .int c5, .int c6])), (k2, .inl (cI, 12, .inl c2))] sz) := by
  refine kMetIX (own := RX4) (by decide +kernel) rfl (Nat.le_of_ble_eq_true rfl) ?_
  intro p e s m args below meth c hx hb hT hown hname hml A Q hK hP hD hS hA hN hXS hRet ls hl
  have hl : lv_has ls 2 [(0, .ref k), (1, .int a0)] := hl
  have lo_a0 := k_lo a0
  have hi_a0 := k_hi a0
  refine lv_iload_n hx hb dX4_lengthOf_0 rfl (lv_at hl 1 rfl) ?_
  refine b_if_lt hx hb rfl (tgt := 19) dX4_lengthOf_1 (by decide +kernel) (fun c_1 => ?_) (fun c_1 => ?_)
  · refine lv_iconst (v := 0) hx hb dX4_lengthOf_19 (by decide +kernel) ?_
    exact hRet () [0, 1] (by first | exact Or.inl ⟨(by omega), (by omega), (by first | omega | (simp only [zl_0]; first | done | omega))⟩ | exact Or.inr (⟨rfl, (by omega)⟩)) hP hD (by decide +kernel) rfl hS rfl dX4_lengthOf_20
  · refine lv_iload_n hx hb dX4_lengthOf_4 rfl (lv_at hl 1 rfl) ?_
    refine lv_bipush (v := 12) hx hb dX4_lengthOf_5 (by decide +kernel) ?_
    refine b_icmp_ge hx hb rfl zl_12 (tgt := 19) dX4_lengthOf_7 (by decide +kernel) (fun c_2 => ?_) (fun c_2 => ?_)
    · refine lv_iconst (v := 0) hx hb dX4_lengthOf_19 (by decide +kernel) ?_
      exact hRet () [0, 1] (by first | exact Or.inl ⟨(by omega), (by omega), (by first | omega | (simp only [zl_0]; first | done | omega))⟩ | exact Or.inr (⟨rfl, (by omega)⟩)) hP hD (by decide +kernel) rfl hS rfl dX4_lengthOf_20
    · refine lv_aload_n hx hb dX4_lengthOf_10 rfl (lv_at hl 0 rfl) ?_
      refine va_get (D := D) (ci := 4) (v := .ref k2) (C := RX4) (T := TX4) (N := 7) hx hb hT giX4 hown hK hP 0 rfl rfl 2 (by decide +kernel) (hT (Cond.fieldLink RX4 18 "DesertWire$Rates" "lengths" "[I") mw_140) (fun _ h9 => h9) rfl dX4_lengthOf_11 ?_
      refine lv_iload_n hx hb dX4_lengthOf_14 rfl (lv_at hl 1 rfl) ?_
      refine k_iald (v := (c2 a0.toNatClampNeg)) hx hb hK hP 1 0 rfl rfl (k_in (by omega) (by omega)) rfl dX4_lengthOf_15 ?_
      refine lv_topi (fun v_3 ev_3 => ?_)
      have lo_v_3 := k_lo v_3
      have hi_v_3 := k_hi v_3
      have tv_3 : v_3.toInt = (c2 a0.toNatClampNeg).toInt := by rw [ev_3]
      refine lv_goto (tgt := 20) hx hb dX4_lengthOf_16 (by decide +kernel) ?_
      exact hRet () [0, 1] (by first | exact Or.inl ⟨(by omega), (by omega), (by omega)⟩ | exact Or.inr (⟨ev_3, (by omega)⟩)) hP hD (by decide +kernel) rfl hS rfl dX4_lengthOf_20
theorem bn_cX4_keepTape_0 : BN cX4_keepTape 0 0xad3281440015a8ac40015b1840a2000ad4b42b0e0056c04159403a2000ad4561900ad456500e08002b51585802b51594038015a8ac40015a8ac26015a8ac46015c8cc22691984440015a8ac20015a8ac080a00ad456ad01818029b158056e2b := by
  unfold BN; decide +kernel
theorem dX4_keepTape_0 : decode cX4_keepTape 0 = .ok (.aload_n 0, 1) := dR0 (k := 0) (i := 0) bn_cX4_keepTape_0 dop_42 (by decide +kernel)
theorem dX4_keepTape_1 : decode cX4_keepTape 1 = .ok (.invokevirtual 42, 3) := dR2 (f := Instr.invokevirtual) (k := 0) (i := 1) bn_cX4_keepTape_0 dop_182 42 (by decide +kernel)
theorem dX4_keepTape_4 : decode cX4_keepTape 4 = .ok (.ifCond .ne 5, 3) := dR2s (f := Instr.ifCond .ne) (k := 0) (i := 4) bn_cX4_keepTape_0 dop_154 5 5 (by decide +kernel)
theorem dX4_keepTape_9 : decode cX4_keepTape 9 = .ok (.aload_n 0, 1) := dR0 (k := 0) (i := 9) bn_cX4_keepTape_0 dop_42 (by decide +kernel)
theorem dX4_keepTape_10 : decode cX4_keepTape 10 = .ok (.getfield 9, 3) := dR2 (f := Instr.getfield) (k := 0) (i := 10) bn_cX4_keepTape_0 dop_180 9 (by decide +kernel)
theorem dX4_keepTape_13 : decode cX4_keepTape 13 = .ok (.iconst 0, 1) := dR0 (k := 0) (i := 13) bn_cX4_keepTape_0 dop_3 (by decide +kernel)
theorem dX4_keepTape_14 : decode cX4_keepTape 14 = .ok (.aload_n 0, 1) := dR0 (k := 0) (i := 14) bn_cX4_keepTape_0 dop_42 (by decide +kernel)
theorem dX4_keepTape_15 : decode cX4_keepTape 15 = .ok (.getfield 15, 3) := dR2 (f := Instr.getfield) (k := 0) (i := 15) bn_cX4_keepTape_0 dop_180 15 (by decide +kernel)
theorem dX4_keepTape_18 : decode cX4_keepTape 18 = .ok (.aload_n 0, 1) := dR0 (k := 0) (i := 18) bn_cX4_keepTape_0 dop_42 (by decide +kernel)
theorem dX4_keepTape_19 : decode cX4_keepTape 19 = .ok (.getfield 31, 3) := dR2 (f := Instr.getfield) (k := 0) (i := 19) bn_cX4_keepTape_0 dop_180 31 (by decide +kernel)
theorem dX4_keepTape_22 : decode cX4_keepTape 22 = .ok (.bipush 50, 2) := dR1s (f := Instr.bipush) (k := 0) (i := 22) bn_cX4_keepTape_0 dop_16 50 50 (by decide +kernel)
theorem dX4_keepTape_24 : decode cX4_keepTape 24 = .ok (.imul, 1) := dR0 (k := 0) (i := 24) bn_cX4_keepTape_0 dop_104 (by decide +kernel)
theorem dX4_keepTape_25 : decode cX4_keepTape 25 = .ok (.bipush 50, 2) := dR1s (f := Instr.bipush) (k := 0) (i := 25) bn_cX4_keepTape_0 dop_16 50 50 (by decide +kernel)
theorem dX4_keepTape_27 : decode cX4_keepTape 27 = .ok (.invokestatic 34, 3) := dR2 (f := Instr.invokestatic) (k := 0) (i := 27) bn_cX4_keepTape_0 dop_184 34 (by decide +kernel)
theorem dX4_keepTape_30 : decode cX4_keepTape 30 = .ok (.aload_n 0, 1) := dR0 (k := 0) (i := 30) bn_cX4_keepTape_0 dop_42 (by decide +kernel)
theorem dX4_keepTape_31 : decode cX4_keepTape 31 = .ok (.getfield 18, 3) := dR2 (f := Instr.getfield) (k := 0) (i := 31) bn_cX4_keepTape_0 dop_180 18 (by decide +kernel)
theorem dX4_keepTape_34 : decode cX4_keepTape 34 = .ok (.aload_n 0, 1) := dR0 (k := 0) (i := 34) bn_cX4_keepTape_0 dop_42 (by decide +kernel)
theorem dX4_keepTape_35 : decode cX4_keepTape 35 = .ok (.getfield 31, 3) := dR2 (f := Instr.getfield) (k := 0) (i := 35) bn_cX4_keepTape_0 dop_180 31 (by decide +kernel)
theorem dX4_keepTape_38 : decode cX4_keepTape 38 = .ok (.aload_n 0, 1) := dR0 (k := 0) (i := 38) bn_cX4_keepTape_0 dop_42 (by decide +kernel)
theorem dX4_keepTape_39 : decode cX4_keepTape 39 = .ok (.getfield 27, 3) := dR2 (f := Instr.getfield) (k := 0) (i := 39) bn_cX4_keepTape_0 dop_180 27 (by decide +kernel)
theorem dX4_keepTape_42 : decode cX4_keepTape 42 = .ok (.iastore, 1) := dR0 (k := 0) (i := 42) bn_cX4_keepTape_0 dop_79 (by decide +kernel)
theorem dX4_keepTape_43 : decode cX4_keepTape 43 = .ok (.aload_n 0, 1) := dR0 (k := 0) (i := 43) bn_cX4_keepTape_0 dop_42 (by decide +kernel)
theorem dX4_keepTape_44 : decode cX4_keepTape 44 = .ok (.getfield 21, 3) := dR2 (f := Instr.getfield) (k := 0) (i := 44) bn_cX4_keepTape_0 dop_180 21 (by decide +kernel)
theorem dX4_keepTape_47 : decode cX4_keepTape 47 = .ok (.aload_n 0, 1) := dR0 (k := 0) (i := 47) bn_cX4_keepTape_0 dop_42 (by decide +kernel)
theorem dX4_keepTape_48 : decode cX4_keepTape 48 = .ok (.getfield 31, 3) := dR2 (f := Instr.getfield) (k := 0) (i := 48) bn_cX4_keepTape_0 dop_180 31 (by decide +kernel)
theorem dX4_keepTape_51 : decode cX4_keepTape 51 = .ok (.iload_n 1, 1) := dR0 (k := 0) (i := 51) bn_cX4_keepTape_0 dop_27 (by decide +kernel)
theorem dX4_keepTape_52 : decode cX4_keepTape 52 = .ok (.iastore, 1) := dR0 (k := 0) (i := 52) bn_cX4_keepTape_0 dop_79 (by decide +kernel)
theorem dX4_keepTape_53 : decode cX4_keepTape 53 = .ok (.aload_n 0, 1) := dR0 (k := 0) (i := 53) bn_cX4_keepTape_0 dop_42 (by decide +kernel)
theorem dX4_keepTape_54 : decode cX4_keepTape 54 = .ok (.getfield 24, 3) := dR2 (f := Instr.getfield) (k := 0) (i := 54) bn_cX4_keepTape_0 dop_180 24 (by decide +kernel)
theorem dX4_keepTape_57 : decode cX4_keepTape 57 = .ok (.aload_n 0, 1) := dR0 (k := 0) (i := 57) bn_cX4_keepTape_0 dop_42 (by decide +kernel)
theorem dX4_keepTape_58 : decode cX4_keepTape 58 = .ok (.getfield 31, 3) := dR2 (f := Instr.getfield) (k := 0) (i := 58) bn_cX4_keepTape_0 dop_180 31 (by decide +kernel)
theorem dX4_keepTape_61 : decode cX4_keepTape 61 = .ok (.iload_n 2, 1) := dR0 (k := 0) (i := 61) bn_cX4_keepTape_0 dop_28 (by decide +kernel)
theorem dX4_keepTape_62 : decode cX4_keepTape 62 = .ok (.iastore, 1) := dR0 (k := 0) (i := 62) bn_cX4_keepTape_0 dop_79 (by decide +kernel)
theorem dX4_keepTape_63 : decode cX4_keepTape 63 = .ok (.aload_n 0, 1) := dR0 (k := 0) (i := 63) bn_cX4_keepTape_0 dop_42 (by decide +kernel)
theorem dX4_keepTape_64 : decode cX4_keepTape 64 = .ok (.iconst 0, 1) := dR0 (k := 0) (i := 64) bn_cX4_keepTape_0 dop_3 (by decide +kernel)
theorem dX4_keepTape_65 : decode cX4_keepTape 65 = .ok (.putfield 27, 3) := dR2 (f := Instr.putfield) (k := 0) (i := 65) bn_cX4_keepTape_0 dop_181 27 (by decide +kernel)
theorem dX4_keepTape_68 : decode cX4_keepTape 68 = .ok (.aload_n 0, 1) := dR0 (k := 0) (i := 68) bn_cX4_keepTape_0 dop_42 (by decide +kernel)
theorem dX4_keepTape_69 : decode cX4_keepTape 69 = .ok (.dup, 1) := dR0 (k := 0) (i := 69) bn_cX4_keepTape_0 dop_89 (by decide +kernel)
theorem dX4_keepTape_70 : decode cX4_keepTape 70 = .ok (.getfield 31, 3) := dR2 (f := Instr.getfield) (k := 0) (i := 70) bn_cX4_keepTape_0 dop_180 31 (by decide +kernel)
theorem dX4_keepTape_73 : decode cX4_keepTape 73 = .ok (.iconst 1, 1) := dR0 (k := 0) (i := 73) bn_cX4_keepTape_0 dop_4 (by decide +kernel)
theorem dX4_keepTape_74 : decode cX4_keepTape 74 = .ok (.iadd, 1) := dR0 (k := 0) (i := 74) bn_cX4_keepTape_0 dop_96 (by decide +kernel)
theorem dX4_keepTape_75 : decode cX4_keepTape 75 = .ok (.putfield 31, 3) := dR2 (f := Instr.putfield) (k := 0) (i := 75) bn_cX4_keepTape_0 dop_181 31 (by decide +kernel)
theorem dX4_keepTape_78 : decode cX4_keepTape 78 = .ok (.aload_n 0, 1) := dR0 (k := 0) (i := 78) bn_cX4_keepTape_0 dop_42 (by decide +kernel)
theorem dX4_keepTape_79 : decode cX4_keepTape 79 = .ok (.getfield 31, 3) := dR2 (f := Instr.getfield) (k := 0) (i := 79) bn_cX4_keepTape_0 dop_180 31 (by decide +kernel)
theorem dX4_keepTape_82 : decode cX4_keepTape 82 = .ok (.iconst 1, 1) := dR0 (k := 0) (i := 82) bn_cX4_keepTape_0 dop_4 (by decide +kernel)
theorem dX4_keepTape_83 : decode cX4_keepTape 83 = .ok (.isub, 1) := dR0 (k := 0) (i := 83) bn_cX4_keepTape_0 dop_100 (by decide +kernel)
theorem dX4_keepTape_84 : decode cX4_keepTape 84 = .ok (.ireturn, 1) := dR0 (k := 0) (i := 84) bn_cX4_keepTape_0 dop_172 (by decide +kernel)
set_option maxHeartbeats 4000000 in
set_option maxRecDepth 100000 in
theorem c_X4_keepTapeG (l : Launch) (D : va_G) (cI : ClassId) (aK aV : Nat → Nat) (k k0 k1 k2 k3 k4 : Nat) (sz : Nat) (c5 : Int32) (c6 : Int32) (c0 : Nat → Int32) (c1 : Nat → Int32) (c2 : Nat → Int32) (c3 : Nat → Int32) (c4 : Nat → Int32) (a0 : Int32) (a1 : Int32) (pre0 : 0 ≤ c6.toInt) (pre1 : c6.toInt ≤ 11) : Met l yX4_keepTape (gW yX4_keepTape cX4_keepTape 3 (some .int)) ({ frames := 1, cells := 0, slots := 0, locals := 64 } : Room) (kPreX D cI aK aV [.ref k, .int a0, .int a1] [(k, .inr (4, [.ref k0, .ref k1, .ref k2, .ref k3, .ref k4, .int c5, .int c6])), (k0, .inl (cI, 50, .inl c0)), (k1, .inl (cI, 600, .inl c1)), (k2, .inl (cI, 12, .inl c2)), (k3, .inl (cI, 12, .inl c3)), (k4, .inl (cI, 12, .inl c4))] sz) (va_Qi (fun (r : Int32) (u : Int32 × Int32 × (Nat → Int32) × (Nat → Int32) × (Nat → Int32) × (Nat → Int32)) => u.2.2.1 = va_cpy c0 c1 0 (50 * c6.toInt.toNat) 50 ∧ u.2.2.2.1 = upd c2 c6.toInt.toNat c5 ∧ u.2.2.2.2.1 = upd c3 c6.toInt.toNat a0 ∧ u.2.2.2.2.2 = upd c4 c6.toInt.toNat a1 ∧ u.1.toInt = 0 ∧ u.2.1.toInt = c6.toInt + 1 ∧ r.toInt = c6.toInt) (fun u t => kWd D cI (va_A [(k, .inr (4, [.ref k0, .ref k1, .ref k2, .ref k3, .ref k4, .int c5, .int c6])), (k0, .inl (cI, 50, .inl c0)), (k1, .inl (cI, 600, .inl c1)), (k2, .inl (cI, 12, .inl c2)), (k3, .inl (cI, 12, .inl c3)), (k4, .inl (cI, 12, .inl c4))] sz) [(k, .inr (4, [.ref k0, .ref k1, .ref k2, .ref k3, .ref k4, .int u.1, .int u.2.1])), (k0, .inl (cI, 50, .inl c0)), (k1, .inl (cI, 600, .inl u.2.2.1)), (k2, .inl (cI, 12, .inl u.2.2.2.1)), (k3, .inl (cI, 12, .inl u.2.2.2.2.1)), (k4, .inl (cI, 12, .inl u.2.2.2.2.2))] t) (va_A [(k, .inr (4, [.ref k0, .ref k1, .ref k2, .ref k3, .ref k4, .int c5, .int c6])), (k0, .inl (cI, 50, .inl c0)), (k1, .inl (cI, 600, .inl c1)), (k2, .inl (cI, 12, .inl c2)), (k3, .inl (cI, 12, .inl c3)), (k4, .inl (cI, 12, .inl c4))] sz)) 0 0 (va_A [(k, .inr (4, [.ref k0, .ref k1, .ref k2, .ref k3, .ref k4, .int c5, .int c6])), (k0, .inl (cI, 50, .inl c0)), (k1, .inl (cI, 600, .inl c1)), (k2, .inl (cI, 12, .inl c2)), (k3, .inl (cI, 12, .inl c3)), (k4, .inl (cI, 12, .inl c4))] sz) := by
  refine kMetIX (own := RX4) (by decide +kernel) rfl (Nat.le_of_ble_eq_true rfl) ?_
  intro p e s m args below meth c hx hb hT hown hname hml A Q hK hP hD hS hA hN hXS hRet ls hl
  have hl : lv_has ls 3 [(0, .ref k), (1, .int a0), (2, .int a1)] := hl
  have lo_c5 := k_lo c5
  have hi_c5 := k_hi c5
  have lo_c6 := k_lo c6
  have hi_c6 := k_hi c6
  refine lv_aload_n hx hb dX4_keepTape_0 rfl (lv_at hl 0 rfl) ?_
  refine kJi (wr := [(k0, .inl (cI, 50, .inl c0)), (k1, .inl (cI, 600, .inl c1)), (k2, .inl (cI, 12, .inl c2)), (k3, .inl (cI, 12, .inl c3)), (k4, .inl (cI, 12, .inl c4))]) (va_runV (As := []) (rest := []) ⟨hx, hb, hml, hown, hT⟩ (c_X4_hasRoomG l D cI aK aV k k0 k1 k2 k3 k4 s.heap.size c5 c6) (cwV 0 hT (gV_in mw_853 mw_862 mw_851 mw_852 mw_5) rfl rfl rfl (by decide +kernel) ⟨Nat.le_of_ble_eq_true rfl, Nat.le_of_ble_eq_true rfl⟩) (kRecvX (q0 := 0) (ci := 4) hK hP hD hN hXS hS hA rfl rfl [0] rfl (by decide +kernel)) rfl rfl hl.1 rfl (lv_room (Nat.le_of_ble_eq_true rfl)) dX4_keepTape_1 ⟨Nat.le_of_ble_eq_true rfl, Nat.le_of_ble_eq_true rfl⟩) hP hD hS hA [0] [1, 2, 3, 4, 5] rfl rfl (by decide +kernel) (by decide +kernel) ?_
  clear hP hD hS
  intro r_1 u_3 H locs w_2 hP hD hS
  replace hP : va_P D vwCl [(k0, .inl (cI, 50, .inl c0)), (k1, .inl (cI, 600, .inl c1)), (k2, .inl (cI, 12, .inl c2)), (k3, .inl (cI, 12, .inl c3)), (k4, .inl (cI, 12, .inl c4)), (k, .inr (4, [.ref k0, .ref k1, .ref k2, .ref k3, .ref k4, .int c5, .int c6]))] H := hP
  replace hD : va_D A [(k0, .inl (cI, 50, .inl c0)), (k1, .inl (cI, 600, .inl c1)), (k2, .inl (cI, 12, .inl c2)), (k3, .inl (cI, 12, .inl c3)), (k4, .inl (cI, 12, .inl c4)), (k, .inr (4, [.ref k0, .ref k1, .ref k2, .ref k3, .ref k4, .int c5, .int c6]))] := hD
  rcases w_2 with ⟨hr_1, h_4, h_5⟩ | ⟨hr_1, h_6⟩
  · have h_4 : 0 ≤ c6.toInt := h_4
    have h_5 : c6.toInt < 12 := h_5
    obtain rfl : r_1 = 1 := hr_1.trans (by decide +kernel)
    refine b_if_ne hx hb zl_1 (tgt := 9) dX4_keepTape_4 (by decide +kernel) (fun c_7 => ?_) (fun c_7 => by exfalso; omega)
    refine lv_aload_n hx hb dX4_keepTape_9 rfl (lv_at hl 0 rfl) ?_
    refine va_get (D := D) (ci := 4) (v := .ref k0) (C := RX4) (T := TX4) (N := 7) hx hb hT giX4 hown hK hP 5 rfl rfl 0 (by decide +kernel) (hT (Cond.fieldLink RX4 9 "DesertWire$Rates" "tape" "[I") mw_136) (fun _ h9 => h9) rfl dX4_keepTape_10 ?_
    refine lv_iconst (v := 0) hx hb dX4_keepTape_13 (by decide +kernel) ?_
    refine lv_aload_n hx hb dX4_keepTape_14 rfl (lv_at hl 0 rfl) ?_
    refine va_get (D := D) (ci := 4) (v := .ref k1) (C := RX4) (T := TX4) (N := 7) hx hb hT giX4 hown hK hP 5 rfl rfl 1 (by decide +kernel) (hT (Cond.fieldLink RX4 15 "DesertWire$Rates" "texts" "[I") mw_138) (fun _ h9 => h9) rfl dX4_keepTape_15 ?_
    refine lv_aload_n hx hb dX4_keepTape_18 rfl (lv_at hl 0 rfl) ?_
    refine va_get (D := D) (ci := 4) (v := .int c6) (C := RX4) (T := TX4) (N := 7) hx hb hT giX4 hown hK hP 5 rfl rfl 6 (by decide +kernel) (hT (Cond.fieldLink RX4 31 "DesertWire$Rates" "number" "I") mw_145) (fun _ h9 => h9) rfl dX4_keepTape_19 ?_
    refine lv_bipush (v := 50) hx hb dX4_keepTape_22 (by decide +kernel) ?_
    refine lv_imul hx hb dX4_keepTape_24 ?_
    refine lv_topi (fun v_8 ev_8 => ?_)
    have tv_8 : v_8.toInt = c6.toInt * 50 := by rw [ev_8]; exact k_mulv rfl zl_50 (by omega) (by omega)
    refine lv_bipush (v := 50) hx hb dX4_keepTape_25 (by decide +kernel) ?_
    refine k_copyG hx hb (hml.trans hl.1.symm) hown (hT _ mw_863) (hT _ mw_865) (hT _ mw_864) (hT _ mw_19) hK hP hD hS 0 1 rfl rfl (by first | omega | (simp only [zl_0]; first | done | omega)) (by first | omega) (by first | omega | (simp only [zl_50]; first | done | omega)) (by first | omega | (simp only [zl_0, zl_50]; first | done | omega)) (by first | omega | (simp only [zl_50]; first | done | omega)) (Nat.le_of_ble_eq_true rfl) (by decide +kernel) dX4_keepTape_27 ?_
    clear hP hD hS
    intro f_9 H locs ef_9 hP hD hS
    replace hP : va_P D vwCl [(k0, .inl (cI, 50, .inl c0)), (k1, .inl (cI, 600, .inl f_9)), (k2, .inl (cI, 12, .inl c2)), (k3, .inl (cI, 12, .inl c3)), (k4, .inl (cI, 12, .inl c4)), (k, .inr (4, [.ref k0, .ref k1, .ref k2, .ref k3, .ref k4, .int c5, .int c6]))] H := hP
    replace hD : va_D A [(k0, .inl (cI, 50, .inl c0)), (k1, .inl (cI, 600, .inl f_9)), (k2, .inl (cI, 12, .inl c2)), (k3, .inl (cI, 12, .inl c3)), (k4, .inl (cI, 12, .inl c4)), (k, .inr (4, [.ref k0, .ref k1, .ref k2, .ref k3, .ref k4, .int c5, .int c6]))] := hD
    refine lv_aload_n hx hb dX4_keepTape_30 rfl (lv_at hl 0 rfl) ?_
    refine va_get (D := D) (ci := 4) (v := .ref k2) (C := RX4) (T := TX4) (N := 7) hx hb hT giX4 hown hK hP 5 rfl rfl 2 (by decide +kernel) (hT (Cond.fieldLink RX4 18 "DesertWire$Rates" "lengths" "[I") mw_140) (fun _ h9 => h9) rfl dX4_keepTape_31 ?_
    refine lv_aload_n hx hb dX4_keepTape_34 rfl (lv_at hl 0 rfl) ?_
    refine va_get (D := D) (ci := 4) (v := .int c6) (C := RX4) (T := TX4) (N := 7) hx hb hT giX4 hown hK hP 5 rfl rfl 6 (by decide +kernel) (hT (Cond.fieldLink RX4 31 "DesertWire$Rates" "number" "I") mw_145) (fun _ h9 => h9) rfl dX4_keepTape_35 ?_
    refine lv_aload_n hx hb dX4_keepTape_38 rfl (lv_at hl 0 rfl) ?_
    refine va_get (D := D) (ci := 4) (v := .int c5) (C := RX4) (T := TX4) (N := 7) hx hb hT giX4 hown hK hP 5 rfl rfl 5 (by decide +kernel) (hT (Cond.fieldLink RX4 27 "DesertWire$Rates" "taped" "I") mw_143) (fun _ h9 => h9) rfl dX4_keepTape_39 ?_
    refine va_iast hx hb hK hP hD hS 2 0 rfl rfl (k_in (by omega) (by omega)) dX4_keepTape_42 ?_
    clear hP hD hS
    intro H locs hP hD hS
    replace hP : va_P D vwCl [(k0, .inl (cI, 50, .inl c0)), (k1, .inl (cI, 600, .inl f_9)), (k2, .inl (cI, 12, .inl (upd c2 c6.toNatClampNeg c5))), (k3, .inl (cI, 12, .inl c3)), (k4, .inl (cI, 12, .inl c4)), (k, .inr (4, [.ref k0, .ref k1, .ref k2, .ref k3, .ref k4, .int c5, .int c6]))] H := hP
    replace hD : va_D A [(k0, .inl (cI, 50, .inl c0)), (k1, .inl (cI, 600, .inl f_9)), (k2, .inl (cI, 12, .inl (upd c2 c6.toNatClampNeg c5))), (k3, .inl (cI, 12, .inl c3)), (k4, .inl (cI, 12, .inl c4)), (k, .inr (4, [.ref k0, .ref k1, .ref k2, .ref k3, .ref k4, .int c5, .int c6]))] := hD
    obtain ⟨f_10, ef_10⟩ : ∃ g : Nat → Int32, g = upd c2 c6.toNatClampNeg c5 := ⟨_, rfl⟩
    rw [← ef_10] at hP hD
    refine lv_aload_n hx hb dX4_keepTape_43 rfl (lv_at hl 0 rfl) ?_
    refine va_get (D := D) (ci := 4) (v := .ref k3) (C := RX4) (T := TX4) (N := 7) hx hb hT giX4 hown hK hP 5 rfl rfl 3 (by decide +kernel) (hT (Cond.fieldLink RX4 21 "DesertWire$Rates" "uses" "[I") mw_141) (fun _ h9 => h9) rfl dX4_keepTape_44 ?_
    refine lv_aload_n hx hb dX4_keepTape_47 rfl (lv_at hl 0 rfl) ?_
    refine va_get (D := D) (ci := 4) (v := .int c6) (C := RX4) (T := TX4) (N := 7) hx hb hT giX4 hown hK hP 5 rfl rfl 6 (by decide +kernel) (hT (Cond.fieldLink RX4 31 "DesertWire$Rates" "number" "I") mw_145) (fun _ h9 => h9) rfl dX4_keepTape_48 ?_
    refine lv_iload_n hx hb dX4_keepTape_51 rfl (lv_at hl 1 rfl) ?_
    refine va_iast hx hb hK hP hD hS 3 0 rfl rfl (k_in (by omega) (by omega)) dX4_keepTape_52 ?_
    clear hP hD hS
    intro H locs hP hD hS
    replace hP : va_P D vwCl [(k0, .inl (cI, 50, .inl c0)), (k1, .inl (cI, 600, .inl f_9)), (k2, .inl (cI, 12, .inl f_10)), (k3, .inl (cI, 12, .inl (upd c3 c6.toNatClampNeg a0))), (k4, .inl (cI, 12, .inl c4)), (k, .inr (4, [.ref k0, .ref k1, .ref k2, .ref k3, .ref k4, .int c5, .int c6]))] H := hP
    replace hD : va_D A [(k0, .inl (cI, 50, .inl c0)), (k1, .inl (cI, 600, .inl f_9)), (k2, .inl (cI, 12, .inl f_10)), (k3, .inl (cI, 12, .inl (upd c3 c6.toNatClampNeg a0))), (k4, .inl (cI, 12, .inl c4)), (k, .inr (4, [.ref k0, .ref k1, .ref k2, .ref k3, .ref k4, .int c5, .int c6]))] := hD
    obtain ⟨f_11, ef_11⟩ : ∃ g : Nat → Int32, g = upd c3 c6.toNatClampNeg a0 := ⟨_, rfl⟩
    rw [← ef_11] at hP hD
    refine lv_aload_n hx hb dX4_keepTape_53 rfl (lv_at hl 0 rfl) ?_
    refine va_get (D := D) (ci := 4) (v := .ref k4) (C := RX4) (T := TX4) (N := 7) hx hb hT giX4 hown hK hP 5 rfl rfl 4 (by decide +kernel) (hT (Cond.fieldLink RX4 24 "DesertWire$Rates" "froms" "[I") mw_142) (fun _ h9 => h9) rfl dX4_keepTape_54 ?_
    refine lv_aload_n hx hb dX4_keepTape_57 rfl (lv_at hl 0 rfl) ?_
    refine va_get (D := D) (ci := 4) (v := .int c6) (C := RX4) (T := TX4) (N := 7) hx hb hT giX4 hown hK hP 5 rfl rfl 6 (by decide +kernel) (hT (Cond.fieldLink RX4 31 "DesertWire$Rates" "number" "I") mw_145) (fun _ h9 => h9) rfl dX4_keepTape_58 ?_
    refine lv_iload_n hx hb dX4_keepTape_61 rfl (lv_at hl 2 rfl) ?_
    refine va_iast hx hb hK hP hD hS 4 0 rfl rfl (k_in (by omega) (by omega)) dX4_keepTape_62 ?_
    clear hP hD hS
    intro H locs hP hD hS
    replace hP : va_P D vwCl [(k0, .inl (cI, 50, .inl c0)), (k1, .inl (cI, 600, .inl f_9)), (k2, .inl (cI, 12, .inl f_10)), (k3, .inl (cI, 12, .inl f_11)), (k4, .inl (cI, 12, .inl (upd c4 c6.toNatClampNeg a1))), (k, .inr (4, [.ref k0, .ref k1, .ref k2, .ref k3, .ref k4, .int c5, .int c6]))] H := hP
    replace hD : va_D A [(k0, .inl (cI, 50, .inl c0)), (k1, .inl (cI, 600, .inl f_9)), (k2, .inl (cI, 12, .inl f_10)), (k3, .inl (cI, 12, .inl f_11)), (k4, .inl (cI, 12, .inl (upd c4 c6.toNatClampNeg a1))), (k, .inr (4, [.ref k0, .ref k1, .ref k2, .ref k3, .ref k4, .int c5, .int c6]))] := hD
    obtain ⟨f_12, ef_12⟩ : ∃ g : Nat → Int32, g = upd c4 c6.toNatClampNeg a1 := ⟨_, rfl⟩
    rw [← ef_12] at hP hD
    refine lv_aload_n hx hb dX4_keepTape_63 rfl (lv_at hl 0 rfl) ?_
    refine lv_iconst (v := 0) hx hb dX4_keepTape_64 (by decide +kernel) ?_
    refine va_put (D := D) (ci := 4) (v := .int 0) (ty := .int) (C := RX4) (T := TX4) (N := 7) hx hb hT giX4 tyX4 tyX4_ok nmX4 hown hK hP hD hS 5 rfl rfl 5 (by decide +kernel) (hT (Cond.fieldLink RX4 27 "DesertWire$Rates" "taped" "I") mw_143) (fun _ h9 => h9) rfl (by decide +kernel) rfl rfl (Nat.le_of_ble_eq_true rfl) dX4_keepTape_65 ?_
    clear hP hD hS
    intro H locs hP hD hS
    replace hP : va_P D vwCl [(k0, .inl (cI, 50, .inl c0)), (k1, .inl (cI, 600, .inl f_9)), (k2, .inl (cI, 12, .inl f_10)), (k3, .inl (cI, 12, .inl f_11)), (k4, .inl (cI, 12, .inl f_12)), (k, .inr (4, [.ref k0, .ref k1, .ref k2, .ref k3, .ref k4, .int 0, .int c6]))] H := hP
    replace hD : va_D A [(k0, .inl (cI, 50, .inl c0)), (k1, .inl (cI, 600, .inl f_9)), (k2, .inl (cI, 12, .inl f_10)), (k3, .inl (cI, 12, .inl f_11)), (k4, .inl (cI, 12, .inl f_12)), (k, .inr (4, [.ref k0, .ref k1, .ref k2, .ref k3, .ref k4, .int 0, .int c6]))] := hD
    refine lv_aload_n hx hb dX4_keepTape_68 rfl (lv_at hl 0 rfl) ?_
    refine lv_dup hx hb dX4_keepTape_69 rfl ?_
    refine va_get (D := D) (ci := 4) (v := .int c6) (C := RX4) (T := TX4) (N := 7) hx hb hT giX4 hown hK hP 5 rfl rfl 6 (by decide +kernel) (hT (Cond.fieldLink RX4 31 "DesertWire$Rates" "number" "I") mw_145) (fun _ h9 => h9) rfl dX4_keepTape_70 ?_
    refine lv_iconst (v := 1) hx hb dX4_keepTape_73 (by decide +kernel) ?_
    refine lv_iadd hx hb dX4_keepTape_74 ?_
    refine lv_topi (fun v_13 ev_13 => ?_)
    have tv_13 : v_13.toInt = c6.toInt + 1 := by rw [ev_13]; exact k_addv rfl zl_1 (by omega) (by omega)
    refine va_put (D := D) (ci := 4) (v := .int v_13) (ty := .int) (C := RX4) (T := TX4) (N := 7) hx hb hT giX4 tyX4 tyX4_ok nmX4 hown hK hP hD hS 5 rfl rfl 6 (by decide +kernel) (hT (Cond.fieldLink RX4 31 "DesertWire$Rates" "number" "I") mw_145) (fun _ h9 => h9) rfl (by decide +kernel) rfl rfl (Nat.le_of_ble_eq_true rfl) dX4_keepTape_75 ?_
    clear hP hD hS
    intro H locs hP hD hS
    replace hP : va_P D vwCl [(k0, .inl (cI, 50, .inl c0)), (k1, .inl (cI, 600, .inl f_9)), (k2, .inl (cI, 12, .inl f_10)), (k3, .inl (cI, 12, .inl f_11)), (k4, .inl (cI, 12, .inl f_12)), (k, .inr (4, [.ref k0, .ref k1, .ref k2, .ref k3, .ref k4, .int 0, .int v_13]))] H := hP
    replace hD : va_D A [(k0, .inl (cI, 50, .inl c0)), (k1, .inl (cI, 600, .inl f_9)), (k2, .inl (cI, 12, .inl f_10)), (k3, .inl (cI, 12, .inl f_11)), (k4, .inl (cI, 12, .inl f_12)), (k, .inr (4, [.ref k0, .ref k1, .ref k2, .ref k3, .ref k4, .int 0, .int v_13]))] := hD
    refine lv_aload_n hx hb dX4_keepTape_78 rfl (lv_at hl 0 rfl) ?_
    refine va_get (D := D) (ci := 4) (v := .int v_13) (C := RX4) (T := TX4) (N := 7) hx hb hT giX4 hown hK hP 5 rfl rfl 6 (by decide +kernel) (hT (Cond.fieldLink RX4 31 "DesertWire$Rates" "number" "I") mw_145) (fun _ h9 => h9) rfl dX4_keepTape_79 ?_
    refine lv_iconst (v := 1) hx hb dX4_keepTape_82 (by decide +kernel) ?_
    refine lv_isub hx hb dX4_keepTape_83 ?_
    refine lv_topi (fun v_14 ev_14 => ?_)
    have tv_14 : v_14.toInt = v_13.toInt - 1 := by rw [ev_14]; exact k_subv rfl zl_1 (by omega) (by omega)
    exact hRet (0, v_13, f_9, f_10, f_11, f_12) [5, 0, 1, 2, 3, 4] ⟨(by (try dsimp only); rw [ef_9, k_clamp, k_clamp, k_clamp]; congr 1 <;> first | omega | rfl | (simp only [zl_0, zl_50]; omega)), (up_in ef_10 (by omega)), (up_in ef_11 (by omega)), (up_in ef_12 (by omega)), (by (try dsimp only); first | exact zl_0 | rw [zl_0]), (by first | omega | (simp only [zl_0]; first | done | omega) | decide | assumption | rfl | (dsimp only; first | omega | (simp only [zl_0]; first | done | omega))), (by first | omega | (simp only [zl_0]; first | done | omega) | decide | assumption | rfl | (dsimp only; first | omega | (simp only [zl_0]; first | done | omega)))⟩ hP hD (by decide +kernel) rfl hS rfl dX4_keepTape_84
  · exfalso; omega
theorem bn_cX4_append_0 : BN cX4_append 0 0x2c99300540080a850e0056c610287002b52d0aca089400a402153f1a40a1604844401c00ad4560a00ad4562900a8c66110e0056a2b19005381c00ad4563900a8c3c050b0146e04 := by
  unfold BN; decide +kernel
theorem dX4_append_0 : decode cX4_append 0 = .ok (.iconst 0, 1) := dR0 (k := 0) (i := 0) bn_cX4_append_0 dop_3 (by decide +kernel)
theorem dX4_append_1 : decode cX4_append 1 = .ok (.istore 4, 2) := dR1 (f := Instr.istore) (k := 0) (i := 1) bn_cX4_append_0 dop_54 4 (by decide +kernel)
theorem dX4_append_3 : decode cX4_append 3 = .ok (.iload 4, 2) := dR1 (f := Instr.iload) (k := 0) (i := 3) bn_cX4_append_0 dop_21 4 (by decide +kernel)
theorem dX4_append_5 : decode cX4_append 5 = .ok (.iload_n 3, 1) := dR0 (k := 0) (i := 5) bn_cX4_append_0 dop_29 (by decide +kernel)
theorem dX4_append_6 : decode cX4_append 6 = .ok (.if_icmp .ge 56, 3) := dR2s (f := Instr.if_icmp .ge) (k := 0) (i := 6) bn_cX4_append_0 dop_162 56 56 (by decide +kernel)
theorem dX4_append_9 : decode cX4_append 9 = .ok (.aload_n 0, 1) := dR0 (k := 0) (i := 9) bn_cX4_append_0 dop_42 (by decide +kernel)
theorem dX4_append_10 : decode cX4_append 10 = .ok (.getfield 27, 3) := dR2 (f := Instr.getfield) (k := 0) (i := 10) bn_cX4_append_0 dop_180 27 (by decide +kernel)
theorem dX4_append_13 : decode cX4_append 13 = .ok (.ifCond .lt 49, 3) := dR2s (f := Instr.ifCond .lt) (k := 0) (i := 13) bn_cX4_append_0 dop_155 49 49 (by decide +kernel)
theorem dX4_append_16 : decode cX4_append 16 = .ok (.aload_n 0, 1) := dR0 (k := 0) (i := 16) bn_cX4_append_0 dop_42 (by decide +kernel)
theorem dX4_append_17 : decode cX4_append 17 = .ok (.getfield 27, 3) := dR2 (f := Instr.getfield) (k := 0) (i := 17) bn_cX4_append_0 dop_180 27 (by decide +kernel)
theorem dX4_append_20 : decode cX4_append 20 = .ok (.bipush 50, 2) := dR1s (f := Instr.bipush) (k := 0) (i := 20) bn_cX4_append_0 dop_16 50 50 (by decide +kernel)
theorem dX4_append_22 : decode cX4_append 22 = .ok (.if_icmp .ge 40, 3) := dR2s (f := Instr.if_icmp .ge) (k := 0) (i := 22) bn_cX4_append_0 dop_162 40 40 (by decide +kernel)
theorem dX4_append_25 : decode cX4_append 25 = .ok (.aload_n 0, 1) := dR0 (k := 0) (i := 25) bn_cX4_append_0 dop_42 (by decide +kernel)
theorem dX4_append_26 : decode cX4_append 26 = .ok (.getfield 9, 3) := dR2 (f := Instr.getfield) (k := 0) (i := 26) bn_cX4_append_0 dop_180 9 (by decide +kernel)
theorem dX4_append_29 : decode cX4_append 29 = .ok (.aload_n 0, 1) := dR0 (k := 0) (i := 29) bn_cX4_append_0 dop_42 (by decide +kernel)
theorem dX4_append_30 : decode cX4_append 30 = .ok (.getfield 27, 3) := dR2 (f := Instr.getfield) (k := 0) (i := 30) bn_cX4_append_0 dop_180 27 (by decide +kernel)
theorem dX4_append_33 : decode cX4_append 33 = .ok (.lload_n 1, 1) := dR0 (k := 0) (i := 33) bn_cX4_append_0 dop_31 (by decide +kernel)
theorem dX4_append_34 : decode cX4_append 34 = .ok (.bipush 8, 2) := dR1s (f := Instr.bipush) (k := 0) (i := 34) bn_cX4_append_0 dop_16 8 8 (by decide +kernel)
theorem dX4_append_36 : decode cX4_append 36 = .ok (.iload 4, 2) := dR1 (f := Instr.iload) (k := 0) (i := 36) bn_cX4_append_0 dop_21 4 (by decide +kernel)
theorem dX4_append_38 : decode cX4_append 38 = .ok (.imul, 1) := dR0 (k := 0) (i := 38) bn_cX4_append_0 dop_104 (by decide +kernel)
theorem dX4_append_39 : decode cX4_append 39 = .ok (.lushr, 1) := dR0 (k := 0) (i := 39) bn_cX4_append_0 dop_125 (by decide +kernel)
theorem dX4_append_40 : decode cX4_append 40 = .ok (.ldc2_w 40, 3) := dR2 (f := Instr.ldc2_w) (k := 0) (i := 40) bn_cX4_append_0 dop_20 40 (by decide +kernel)
theorem dX4_append_43 : decode cX4_append 43 = .ok (.land, 1) := dR0 (k := 0) (i := 43) bn_cX4_append_0 dop_127 (by decide +kernel)
theorem dX4_append_44 : decode cX4_append 44 = .ok (.l2i, 1) := dR0 (k := 0) (i := 44) bn_cX4_append_0 dop_136 (by decide +kernel)
theorem dX4_append_45 : decode cX4_append 45 = .ok (.iastore, 1) := dR0 (k := 0) (i := 45) bn_cX4_append_0 dop_79 (by decide +kernel)
theorem dX4_append_46 : decode cX4_append 46 = .ok (.aload_n 0, 1) := dR0 (k := 0) (i := 46) bn_cX4_append_0 dop_42 (by decide +kernel)
theorem dX4_append_47 : decode cX4_append 47 = .ok (.dup, 1) := dR0 (k := 0) (i := 47) bn_cX4_append_0 dop_89 (by decide +kernel)
theorem dX4_append_48 : decode cX4_append 48 = .ok (.getfield 27, 3) := dR2 (f := Instr.getfield) (k := 0) (i := 48) bn_cX4_append_0 dop_180 27 (by decide +kernel)
theorem dX4_append_51 : decode cX4_append 51 = .ok (.iconst 1, 1) := dR0 (k := 0) (i := 51) bn_cX4_append_0 dop_4 (by decide +kernel)
theorem dX4_append_52 : decode cX4_append 52 = .ok (.iadd, 1) := dR0 (k := 0) (i := 52) bn_cX4_append_0 dop_96 (by decide +kernel)
theorem dX4_append_53 : decode cX4_append 53 = .ok (.putfield 27, 3) := dR2 (f := Instr.putfield) (k := 0) (i := 53) bn_cX4_append_0 dop_181 27 (by decide +kernel)
theorem dX4_append_56 : decode cX4_append 56 = .ok (.iinc 4 1, 3) := dRii (f := Instr.iinc) (k := 0) (i := 56) bn_cX4_append_0 dop_132 4 1 1 (by decide +kernel)
theorem dX4_append_59 : decode cX4_append 59 = .ok (.goto (-56), 3) := dR2s (f := Instr.goto) (k := 0) (i := 59) bn_cX4_append_0 dop_167 65480 (-56) (by decide +kernel)
theorem dX4_append_62 : decode cX4_append 62 = .ok (.return_, 1) := dR0 (k := 0) (i := 62) bn_cX4_append_0 dop_177 (by decide +kernel)
set_option maxHeartbeats 4000000 in
set_option maxRecDepth 100000 in
theorem c_X4_appendG (l : Launch) (D : va_G) (cI : ClassId) (aK aV : Nat → Nat) (k k0 k1 k2 k3 k4 : Nat) (sz : Nat) (c5 : Int32) (c6 : Int32) (c0 : Nat → Int32) (a0 : Int64) (a1 : Int32) (pre0 : 0 ≤ c5.toInt) (pre1 : 1 ≤ a1.toInt) (pre2 : a1.toInt ≤ 8) (pre3 : c5.toInt + a1.toInt ≤ 50) : Met l yX4_append (gW yX4_append cX4_append 5 none) ({ frames := 0, cells := 0, slots := 0, locals := 0 } : Room) (kPreX D cI aK aV [.ref k, .long a0, .int a1] [(k, .inr (4, [.ref k0, .ref k1, .ref k2, .ref k3, .ref k4, .int c5, .int c6])), (k0, .inl (cI, 50, .inl c0))] sz) (va_Qv (fun (u : Int32 × (Nat → Int32)) => u.2 = apT c0 c5.toInt.toNat a0 a1.toInt.toNat ∧ u.1.toInt = c5.toInt + a1.toInt) (fun u t => kWd D cI (va_A [(k, .inr (4, [.ref k0, .ref k1, .ref k2, .ref k3, .ref k4, .int c5, .int c6])), (k0, .inl (cI, 50, .inl c0))] sz) [(k, .inr (4, [.ref k0, .ref k1, .ref k2, .ref k3, .ref k4, .int u.1, .int c6])), (k0, .inl (cI, 50, .inl u.2))] t) (va_A [(k, .inr (4, [.ref k0, .ref k1, .ref k2, .ref k3, .ref k4, .int c5, .int c6])), (k0, .inl (cI, 50, .inl c0))] sz)) 0 0 (va_A [(k, .inr (4, [.ref k0, .ref k1, .ref k2, .ref k3, .ref k4, .int c5, .int c6])), (k0, .inl (cI, 50, .inl c0))] sz) := by
  refine kMetVX (own := RX4) (by decide +kernel) rfl (Nat.le_of_ble_eq_true rfl) ?_
  intro p e s m args below meth c hx hb hT hown hname hml A Q hK hP hD hS hA hN hXS hRet ls hl
  have hl : lv_has ls 5 [(0, .ref k), (1, .long a0), (3, .int a1)] := hl
  have lo_a1 := k_lo a1
  have hi_a1 := k_hi a1
  have lo_c5 := k_lo c5
  have hi_c5 := k_hi c5
  refine lv_iconst (v := 0) hx hb dX4_append_0 (by decide +kernel) ?_
  refine lv_istore (lv' := [(4, .int 0), (0, .ref k), (1, .long a0), (3, .int a1)]) hx hb dX4_append_1 hl (by decide +kernel) rfl ?_
  clear hl
  intro ls hl
  have hloop_3 : ∀ (fu_ : Nat) (l3_4 : Int32) (f3_k5 : Int32) (g3_k0 : Nat → Int32), 0 ≤ l3_4.toInt → c5.toInt ≤ f3_k5.toInt → l3_4.toInt ≤ a1.toInt → f3_k5.toInt = c5.toInt + l3_4.toInt → g3_k0 = apT c0 c5.toInt.toNat a0 l3_4.toInt.toNat → (a1.toInt - l3_4.toInt).toNat < fu_ → ∀ (ls : Array Slot) (H : Heap) (locs : List Loc), lv_has ls 5 [(4, .int l3_4), (0, .ref k), (1, .long a0), (3, .int a1)] → va_P D vwCl [(k, .inr (4, [.ref k0, .ref k1, .ref k2, .ref k3, .ref k4, .int f3_k5, .int c6])), (k0, .inl (cI, 50, .inl g3_k0))] H → va_D A [(k, .inr (4, [.ref k0, .ref k1, .ref k2, .ref k3, .ref k4, .int f3_k5, .int c6])), (k0, .inl (cI, 50, .inl g3_k0))] → va_S A s.heap H locs → W p l e ({ frames := 0, cells := 0, slots := 0, locals := 0 } : Room) s m args below meth c H locs 0 0 Q (F0 m 3 ls []) := by
    intro fu_; induction fu_ with
    | zero => intro l3_4 f3_k5 g3_k0 i3_0 i3_1 i3_2 i3_3 i3_4 hm; exact absurd hm (by omega)
    | succ fu_ ih3 =>
        intro l3_4 f3_k5 g3_k0 i3_0 i3_1 i3_2 i3_3 i3_4 hm ls H locs hl hP hD hS
        have lo_l3_4 := k_lo l3_4
        have hi_l3_4 := k_hi l3_4
        have lo_f3_k5 := k_lo f3_k5
        have hi_f3_k5 := k_hi f3_k5
        refine lv_iload hx hb dX4_append_3 (lv_at hl 0 rfl) ?_
        refine lv_iload_n hx hb dX4_append_5 rfl (lv_at hl 3 rfl) ?_
        refine b_icmp_ge hx hb rfl rfl (tgt := 62) dX4_append_6 (by decide +kernel) (fun c_1 => ?_) (fun c_1 => ?_)
        · exact hRet (f3_k5, g3_k0) [0, 1] ⟨(by (try dsimp only); rw [show a1.toInt.toNat = l3_4.toInt.toNat from by omega]; exact i3_4), (by first | omega | decide | assumption | rfl | (dsimp only; first | omega))⟩ hP hD (by decide +kernel) rfl hS dX4_append_62
        · refine lv_aload_n hx hb dX4_append_9 rfl (lv_at hl 1 rfl) ?_
          refine va_get (D := D) (ci := 4) (v := .int f3_k5) (C := RX4) (T := TX4) (N := 7) hx hb hT giX4 hown hK hP 0 rfl rfl 5 (by decide +kernel) (hT (Cond.fieldLink RX4 27 "DesertWire$Rates" "taped" "I") mw_143) (fun _ h9 => h9) rfl dX4_append_10 ?_
          refine b_if_lt hx hb rfl (tgt := 62) dX4_append_13 (by decide +kernel) (fun c_2 => by exfalso; omega) (fun c_2 => ?_)
          refine lv_aload_n hx hb dX4_append_16 rfl (lv_at hl 1 rfl) ?_
          refine va_get (D := D) (ci := 4) (v := .int f3_k5) (C := RX4) (T := TX4) (N := 7) hx hb hT giX4 hown hK hP 0 rfl rfl 5 (by decide +kernel) (hT (Cond.fieldLink RX4 27 "DesertWire$Rates" "taped" "I") mw_143) (fun _ h9 => h9) rfl dX4_append_17 ?_
          refine lv_bipush (v := 50) hx hb dX4_append_20 (by decide +kernel) ?_
          refine b_icmp_ge hx hb rfl zl_50 (tgt := 62) dX4_append_22 (by decide +kernel) (fun c_3 => by exfalso; omega) (fun c_3 => ?_)
          refine lv_aload_n hx hb dX4_append_25 rfl (lv_at hl 1 rfl) ?_
          refine va_get (D := D) (ci := 4) (v := .ref k0) (C := RX4) (T := TX4) (N := 7) hx hb hT giX4 hown hK hP 0 rfl rfl 0 (by decide +kernel) (hT (Cond.fieldLink RX4 9 "DesertWire$Rates" "tape" "[I") mw_136) (fun _ h9 => h9) rfl dX4_append_26 ?_
          refine lv_aload_n hx hb dX4_append_29 rfl (lv_at hl 1 rfl) ?_
          refine va_get (D := D) (ci := 4) (v := .int f3_k5) (C := RX4) (T := TX4) (N := 7) hx hb hT giX4 hown hK hP 0 rfl rfl 5 (by decide +kernel) (hT (Cond.fieldLink RX4 27 "DesertWire$Rates" "taped" "I") mw_143) (fun _ h9 => h9) rfl dX4_append_30 ?_
          refine lv_lload_n hx hb dX4_append_33 rfl (lv_at hl 2 rfl) ?_
          refine lv_bipush (v := 8) hx hb dX4_append_34 (by decide +kernel) ?_
          refine lv_iload hx hb dX4_append_36 (lv_at hl 0 rfl) ?_
          refine lv_imul hx hb dX4_append_38 ?_
          refine lv_topi (fun v_4 ev_4 => ?_)
          have tv_4 : v_4.toInt = 8 * l3_4.toInt := by rw [ev_4]; exact k_mulv zl_8 rfl (by omega) (by omega)
          refine lv_lushr hx hb dX4_append_39 rfl ?_
          refine lv_topl (fun g_5 eg_5 => ?_)
          refine lv_ldc2 (v := 255) hx hb hown (hT _ mw_839) dX4_append_40 ?_
          refine lv_land hx hb dX4_append_43 ?_
          refine lv_topl (fun g_6 eg_6 => ?_)
          refine lv_l2i (v := g_6.toInt32) hx hb dX4_append_44 rfl ?_
          refine lv_topi (fun v_7 ev_7 => ?_)
          have lo_v_7 := k_lo v_7
          have hi_v_7 := k_hi v_7
          refine va_iast hx hb hK hP hD hS 1 0 rfl rfl (k_in (by omega) (by omega)) dX4_append_45 ?_
          clear hP hD hS
          intro H locs hP hD hS
          replace hP : va_P D vwCl [(k, .inr (4, [.ref k0, .ref k1, .ref k2, .ref k3, .ref k4, .int f3_k5, .int c6])), (k0, .inl (cI, 50, .inl (upd g3_k0 f3_k5.toNatClampNeg v_7)))] H := hP
          replace hD : va_D A [(k, .inr (4, [.ref k0, .ref k1, .ref k2, .ref k3, .ref k4, .int f3_k5, .int c6])), (k0, .inl (cI, 50, .inl (upd g3_k0 f3_k5.toNatClampNeg v_7)))] := hD
          obtain ⟨f_8, ef_8⟩ : ∃ g : Nat → Int32, g = upd g3_k0 f3_k5.toNatClampNeg v_7 := ⟨_, rfl⟩
          rw [← ef_8] at hP hD
          refine lv_aload_n hx hb dX4_append_46 rfl (lv_at hl 1 rfl) ?_
          refine lv_dup hx hb dX4_append_47 rfl ?_
          refine va_get (D := D) (ci := 4) (v := .int f3_k5) (C := RX4) (T := TX4) (N := 7) hx hb hT giX4 hown hK hP 0 rfl rfl 5 (by decide +kernel) (hT (Cond.fieldLink RX4 27 "DesertWire$Rates" "taped" "I") mw_143) (fun _ h9 => h9) rfl dX4_append_48 ?_
          refine lv_iconst (v := 1) hx hb dX4_append_51 (by decide +kernel) ?_
          refine lv_iadd hx hb dX4_append_52 ?_
          refine lv_topi (fun v_9 ev_9 => ?_)
          have tv_9 : v_9.toInt = f3_k5.toInt + 1 := by rw [ev_9]; exact k_addv rfl zl_1 (by omega) (by omega)
          refine va_put (D := D) (ci := 4) (v := .int v_9) (ty := .int) (C := RX4) (T := TX4) (N := 7) hx hb hT giX4 tyX4 tyX4_ok nmX4 hown hK hP hD hS 0 rfl rfl 5 (by decide +kernel) (hT (Cond.fieldLink RX4 27 "DesertWire$Rates" "taped" "I") mw_143) (fun _ h9 => h9) rfl (by decide +kernel) rfl rfl (Nat.le_of_ble_eq_true rfl) dX4_append_53 ?_
          clear hP hD hS
          intro H locs hP hD hS
          replace hP : va_P D vwCl [(k, .inr (4, [.ref k0, .ref k1, .ref k2, .ref k3, .ref k4, .int v_9, .int c6])), (k0, .inl (cI, 50, .inl f_8))] H := hP
          replace hD : va_D A [(k, .inr (4, [.ref k0, .ref k1, .ref k2, .ref k3, .ref k4, .int v_9, .int c6])), (k0, .inl (cI, 50, .inl f_8))] := hD
          obtain ⟨v_10, ev_10⟩ : ∃ y : Int32, y = l3_4 + 1 := ⟨_, rfl⟩
          have tv_10 : v_10.toInt = l3_4.toInt + 1 := by rw [ev_10]; exact k_addv rfl zl_1 (by omega) (by omega)
          refine lv_iinc (v := v_10) (lv' := [(4, .int v_10), (0, .ref k), (1, .long a0), (3, .int a1)]) hx hb dX4_append_56 hl (k := 0) rfl (by rw [ev_10]; rfl) (by decide +kernel) rfl ?_
          clear hl
          intro ls hl
          refine lv_goto (tgt := 3) hx hb dX4_append_59 (by decide +kernel) ?_
          exact ih3 v_10 v_9 f_8 (by first | omega | decide | assumption | rfl) (by first | omega | decide | assumption | rfl) (by first | omega | decide | assumption | rfl) (by first | omega | decide | assumption | rfl) (ap_step i3_4 (by omega) (by omega) ef_8 (by omega) (by rw [ev_7, eg_6, eg_5]; show byC a0 v_4 = _; rw [by_yi (y := v_4) (i := l3_4) (by omega) (by omega) (by omega)]; exact byC_eq a0 (by omega))) (by omega) ls _ _ (lv_sub hl [0, 1, 2, 3] rfl) (hP.sub [0, 1] rfl) (hD.sub [0, 1] (by decide +kernel) rfl) hS
  exact hloop_3 _ 0 c5 c0 (by first | omega | (simp only [zl_0]; first | done | omega) | decide | assumption | rfl) (by first | omega | (simp only [zl_0]; first | done | omega) | decide | assumption | rfl) (by first | omega | (simp only [zl_0]; first | done | omega) | decide | assumption | rfl) (by first | omega | (simp only [zl_0]; first | done | omega) | decide | assumption | rfl) (by rw [zl_0]; rfl) (Nat.lt_succ_self _) ls _ _ (lv_sub hl [0, 1, 2, 3] rfl) hP hD hS
