def RJ11 : String := "java/lang/Character"
def RJ9 : String := "java/lang/Math"
def RJ0 : String := "java/lang/String"
def RJ1 : String := "java/lang/StringLatin1"
def RJ2 : String := "java/lang/StringUTF16"
def RJ10 : String := "java/lang/System"
def RJ3 : String := "jdk/internal/util/Preconditions"
abbrev cJ11_isValidCodePoint_9a6ad : ByteArray := prog_14_method_11_code
def yJ11_isValidCodePoint_9a6ad : MethodName := ⟨RJ11, "isValidCodePoint", "(I)Z"⟩
abbrev cJ11_highSurrogate_5068e : ByteArray := prog_14_method_28_code
def yJ11_highSurrogate_5068e : MethodName := ⟨RJ11, "highSurrogate", "(I)C"⟩
abbrev cJ11_lowSurrogate_5068e : ByteArray := prog_14_method_29_code
def yJ11_lowSurrogate_5068e : MethodName := ⟨RJ11, "lowSurrogate", "(I)C"⟩
abbrev cJ9_max_7cf53 : ByteArray := prog_15_method_65_code
def yJ9_max_7cf53 : MethodName := ⟨RJ9, "max", "(II)I"⟩
abbrev cJ9_min_7cf53 : ByteArray := prog_15_method_69_code
def yJ9_min_7cf53 : MethodName := ⟨RJ9, "min", "(II)I"⟩
abbrev cJ0_length_8abf5 : ByteArray := prog_16_method_54_code
def yJ0_length_8abf5 : MethodName := ⟨RJ0, "length", "()I"⟩
abbrev cJ0_indexOf_0f7a4 : ByteArray := prog_16_method_79_code
def yJ0_indexOf_0f7a4 : MethodName := ⟨RJ0, "indexOf", "(I)I"⟩
abbrev cJ0_indexOf_7cf53 : ByteArray := prog_16_method_80_code
def yJ0_indexOf_7cf53 : MethodName := ⟨RJ0, "indexOf", "(II)I"⟩
abbrev cJ0_coder_7d493 : ByteArray := prog_16_method_152_code
def yJ0_coder_7d493 : MethodName := ⟨RJ0, "coder", "()B"⟩
abbrev cJ0_isLatin1_aae02 : ByteArray := prog_16_method_154_code
def yJ0_isLatin1_aae02 : MethodName := ⟨RJ0, "isLatin1", "()Z"⟩
abbrev cJ0_checkBoundsBeginEnd_23922 : ByteArray := prog_16_method_158_code
def yJ0_checkBoundsBeginEnd_23922 : MethodName := ⟨RJ0, "checkBoundsBeginEnd", "(III)V"⟩
abbrev cJ1_canEncode_9a6ad : ByteArray := prog_17_method_4_code
def yJ1_canEncode_9a6ad : MethodName := ⟨RJ1, "canEncode", "(I)Z"⟩
abbrev cJ1_indexOf_4cfef : ByteArray := prog_17_method_22_code
def yJ1_indexOf_4cfef : MethodName := ⟨RJ1, "indexOf", "([BIII)I"⟩
abbrev cJ1_indexOfChar_4cfef : ByteArray := prog_17_method_23_code
def yJ1_indexOfChar_4cfef : MethodName := ⟨RJ1, "indexOfChar", "([BIII)I"⟩
abbrev cJ2_getChar_3b067 : ByteArray := prog_18_method_5_code
def yJ2_getChar_3b067 : MethodName := ⟨RJ2, "getChar", "([BI)C"⟩
abbrev cJ2_length_9d52b : ByteArray := prog_18_method_6_code
def yJ2_length_9d52b : MethodName := ⟨RJ2, "length", "([B)I"⟩
abbrev cJ2_indexOf_4cfef : ByteArray := prog_18_method_40_code
def yJ2_indexOf_4cfef : MethodName := ⟨RJ2, "indexOf", "([BIII)I"⟩
abbrev cJ2_indexOfChar_4cfef : ByteArray := prog_18_method_47_code
def yJ2_indexOfChar_4cfef : MethodName := ⟨RJ2, "indexOfChar", "([BIII)I"⟩
abbrev cJ2_indexOfCharUnsafe_4cfef : ByteArray := prog_18_method_48_code
def yJ2_indexOfCharUnsafe_4cfef : MethodName := ⟨RJ2, "indexOfCharUnsafe", "([BIII)I"⟩
abbrev cJ2_indexOfSupplementary_4cfef : ByteArray := prog_18_method_49_code
def yJ2_indexOfSupplementary_4cfef : MethodName := ⟨RJ2, "indexOfSupplementary", "([BIII)I"⟩
abbrev cJ2_checkBoundsBeginEnd_d044e : ByteArray := prog_18_method_93_code
def yJ2_checkBoundsBeginEnd_d044e : MethodName := ⟨RJ2, "checkBoundsBeginEnd", "(II[B)V"⟩
abbrev cJ3_checkFromToIndex_8c36e : ByteArray := prog_20_method_12_code
def yJ3_checkFromToIndex_8c36e : MethodName := ⟨RJ3, "checkFromToIndex", "(IIILjava/util/function/BiFunction;)I"⟩
theorem bn_cJ1_canEncode_9a6ad_0 : BN cJ1_canEncode_9a6ad 0 0xad0201402a80282002a480004241b07805381b := by
  unfold BN; decide +kernel
theorem dJ1_canEncode_9a6ad_0 : decode cJ1_canEncode_9a6ad 0 = .ok (.iload_n 0, 1) := dR0 (k := 0) (i := 0) bn_cJ1_canEncode_9a6ad_0 dop_26 (by decide +kernel)
theorem dJ1_canEncode_9a6ad_1 : decode cJ1_canEncode_9a6ad 1 = .ok (.ifCond .lt 14, 3) := dR2s (f := Instr.ifCond .lt) (k := 0) (i := 1) bn_cJ1_canEncode_9a6ad_0 dop_155 14 14 (by decide +kernel)
theorem dJ1_canEncode_9a6ad_4 : decode cJ1_canEncode_9a6ad 4 = .ok (.iload_n 0, 1) := dR0 (k := 0) (i := 4) bn_cJ1_canEncode_9a6ad_0 dop_26 (by decide +kernel)
theorem dJ1_canEncode_9a6ad_5 : decode cJ1_canEncode_9a6ad 5 = .ok (.sipush 255, 3) := dR2s (f := Instr.sipush) (k := 0) (i := 5) bn_cJ1_canEncode_9a6ad_0 dop_17 255 255 (by decide +kernel)
theorem dJ1_canEncode_9a6ad_8 : decode cJ1_canEncode_9a6ad 8 = .ok (.if_icmp .gt 7, 3) := dR2s (f := Instr.if_icmp .gt) (k := 0) (i := 8) bn_cJ1_canEncode_9a6ad_0 dop_163 7 7 (by decide +kernel)
theorem dJ1_canEncode_9a6ad_11 : decode cJ1_canEncode_9a6ad 11 = .ok (.iconst 1, 1) := dR0 (k := 0) (i := 11) bn_cJ1_canEncode_9a6ad_0 dop_4 (by decide +kernel)
theorem dJ1_canEncode_9a6ad_12 : decode cJ1_canEncode_9a6ad 12 = .ok (.goto 4, 3) := dR2s (f := Instr.goto) (k := 0) (i := 12) bn_cJ1_canEncode_9a6ad_0 dop_167 4 4 (by decide +kernel)
theorem dJ1_canEncode_9a6ad_15 : decode cJ1_canEncode_9a6ad 15 = .ok (.iconst 0, 1) := dR0 (k := 0) (i := 15) bn_cJ1_canEncode_9a6ad_0 dop_3 (by decide +kernel)
theorem dJ1_canEncode_9a6ad_16 : decode cJ1_canEncode_9a6ad 16 = .ok (.ireturn, 1) := dR0 (k := 0) (i := 16) bn_cJ1_canEncode_9a6ad_0 dop_172 (by decide +kernel)
set_option maxHeartbeats 4000000 in
set_option maxRecDepth 100000 in
theorem c_J1_canEncode_9a6adG (l : Launch) (D : va_G) (cI : ClassId) (aK aV : Nat → Nat) (sz : Nat) (a0 : Int32) : Met l yJ1_canEncode_9a6ad (gW yJ1_canEncode_9a6ad cJ1_canEncode_9a6ad 1 (some .boolean)) ({ frames := 0, cells := 0, slots := 0, locals := 0 } : Room) (kPreX D cI aK aV [.int a0] [] sz) (va_Qi (fun (r : Int32) (u : Unit) => (r = 1 ∧ 0 ≤ a0.toInt ∧ a0.toInt ≤ 255) ∨ (r = 0 ∧ (a0.toInt < 0 ∨ 255 < a0.toInt))) (fun u t => kWd D cI (va_A [] sz) [] t) (va_A [] sz)) 0 0 (va_A [] sz) := by
  refine kMetIX (own := RJ1) (by decide +kernel) rfl (Nat.le_of_ble_eq_true rfl) ?_
  intro p e s m args below meth c hx hb hT hown hname hml A Q hK hP hD hS hA hN hXS hRet ls hl
  have hl : lv_has ls 1 [(0, .int a0)] := hl
  refine lv_iload_n hx hb dJ1_canEncode_9a6ad_0 rfl (lv_at hl 0 rfl) ?_
  refine b_if_lt hx hb rfl (tgt := 15) dJ1_canEncode_9a6ad_1 (by decide +kernel) (fun c_1 => ?_) (fun c_1 => ?_)
  · refine lv_iconst (v := 0) hx hb dJ1_canEncode_9a6ad_15 (by decide +kernel) ?_
    exact hRet () [] (Or.inr (⟨rfl, (by omega)⟩)) hP hD (by decide +kernel) rfl hS rfl dJ1_canEncode_9a6ad_16
  · refine lv_iload_n hx hb dJ1_canEncode_9a6ad_4 rfl (lv_at hl 0 rfl) ?_
    refine lv_sipush (v := 255) hx hb dJ1_canEncode_9a6ad_5 (by decide +kernel) ?_
    refine b_icmp_gt hx hb rfl zl_255 (tgt := 15) dJ1_canEncode_9a6ad_8 (by decide +kernel) (fun c_2 => ?_) (fun c_2 => ?_)
    · refine lv_iconst (v := 0) hx hb dJ1_canEncode_9a6ad_15 (by decide +kernel) ?_
      exact hRet () [] (Or.inr (⟨rfl, (by omega)⟩)) hP hD (by decide +kernel) rfl hS rfl dJ1_canEncode_9a6ad_16
    · refine lv_iconst (v := 1) hx hb dJ1_canEncode_9a6ad_11 (by decide +kernel) ?_
      refine lv_goto (tgt := 16) hx hb dJ1_canEncode_9a6ad_12 (by decide +kernel) ?_
      exact hRet () [] (Or.inl ⟨rfl, (by omega), (by omega)⟩) hP hD (by decide +kernel) rfl hS rfl dJ1_canEncode_9a6ad_16
theorem bn_cJ1_indexOfChar_4cfef_0 : BN cJ1_indexOfChar_4cfef 0 0xad01bb200a8010190aad030580e01508142c3403058561600a8c3c060b0186e1d028dd241c := by
  unfold BN; decide +kernel
theorem dJ1_indexOfChar_4cfef_0 : decode cJ1_indexOfChar_4cfef 0 = .ok (.iload_n 1, 1) := dR0 (k := 0) (i := 0) bn_cJ1_indexOfChar_4cfef_0 dop_27 (by decide +kernel)
theorem dJ1_indexOfChar_4cfef_1 : decode cJ1_indexOfChar_4cfef 1 = .ok (.i2b, 1) := dR0 (k := 0) (i := 1) bn_cJ1_indexOfChar_4cfef_0 dop_145 (by decide +kernel)
theorem dJ1_indexOfChar_4cfef_2 : decode cJ1_indexOfChar_4cfef 2 = .ok (.istore 4, 2) := dR1 (f := Instr.istore) (k := 0) (i := 2) bn_cJ1_indexOfChar_4cfef_0 dop_54 4 (by decide +kernel)
theorem dJ1_indexOfChar_4cfef_4 : decode cJ1_indexOfChar_4cfef 4 = .ok (.iload_n 2, 1) := dR0 (k := 0) (i := 4) bn_cJ1_indexOfChar_4cfef_0 dop_28 (by decide +kernel)
theorem dJ1_indexOfChar_4cfef_5 : decode cJ1_indexOfChar_4cfef 5 = .ok (.istore 5, 2) := dR1 (f := Instr.istore) (k := 0) (i := 5) bn_cJ1_indexOfChar_4cfef_0 dop_54 5 (by decide +kernel)
theorem dJ1_indexOfChar_4cfef_7 : decode cJ1_indexOfChar_4cfef 7 = .ok (.iload 5, 2) := dR1 (f := Instr.iload) (k := 0) (i := 7) bn_cJ1_indexOfChar_4cfef_0 dop_21 5 (by decide +kernel)
theorem dJ1_indexOfChar_4cfef_9 : decode cJ1_indexOfChar_4cfef 9 = .ok (.iload_n 3, 1) := dR0 (k := 0) (i := 9) bn_cJ1_indexOfChar_4cfef_0 dop_29 (by decide +kernel)
theorem dJ1_indexOfChar_4cfef_10 : decode cJ1_indexOfChar_4cfef 10 = .ok (.if_icmp .ge 21, 3) := dR2s (f := Instr.if_icmp .ge) (k := 0) (i := 10) bn_cJ1_indexOfChar_4cfef_0 dop_162 21 21 (by decide +kernel)
theorem dJ1_indexOfChar_4cfef_13 : decode cJ1_indexOfChar_4cfef 13 = .ok (.aload_n 0, 1) := dR0 (k := 0) (i := 13) bn_cJ1_indexOfChar_4cfef_0 dop_42 (by decide +kernel)
theorem dJ1_indexOfChar_4cfef_14 : decode cJ1_indexOfChar_4cfef 14 = .ok (.iload 5, 2) := dR1 (f := Instr.iload) (k := 0) (i := 14) bn_cJ1_indexOfChar_4cfef_0 dop_21 5 (by decide +kernel)
theorem dJ1_indexOfChar_4cfef_16 : decode cJ1_indexOfChar_4cfef 16 = .ok (.baload, 1) := dR0 (k := 0) (i := 16) bn_cJ1_indexOfChar_4cfef_0 dop_51 (by decide +kernel)
theorem dJ1_indexOfChar_4cfef_17 : decode cJ1_indexOfChar_4cfef 17 = .ok (.iload 4, 2) := dR1 (f := Instr.iload) (k := 0) (i := 17) bn_cJ1_indexOfChar_4cfef_0 dop_21 4 (by decide +kernel)
theorem dJ1_indexOfChar_4cfef_19 : decode cJ1_indexOfChar_4cfef 19 = .ok (.if_icmp .ne 6, 3) := dR2s (f := Instr.if_icmp .ne) (k := 0) (i := 19) bn_cJ1_indexOfChar_4cfef_0 dop_160 6 6 (by decide +kernel)
theorem dJ1_indexOfChar_4cfef_22 : decode cJ1_indexOfChar_4cfef 22 = .ok (.iload 5, 2) := dR1 (f := Instr.iload) (k := 0) (i := 22) bn_cJ1_indexOfChar_4cfef_0 dop_21 5 (by decide +kernel)
theorem dJ1_indexOfChar_4cfef_24 : decode cJ1_indexOfChar_4cfef 24 = .ok (.ireturn, 1) := dR0 (k := 0) (i := 24) bn_cJ1_indexOfChar_4cfef_0 dop_172 (by decide +kernel)
theorem dJ1_indexOfChar_4cfef_25 : decode cJ1_indexOfChar_4cfef 25 = .ok (.iinc 5 1, 3) := dRii (f := Instr.iinc) (k := 0) (i := 25) bn_cJ1_indexOfChar_4cfef_0 dop_132 5 1 1 (by decide +kernel)
theorem dJ1_indexOfChar_4cfef_28 : decode cJ1_indexOfChar_4cfef 28 = .ok (.goto (-21), 3) := dR2s (f := Instr.goto) (k := 0) (i := 28) bn_cJ1_indexOfChar_4cfef_0 dop_167 65515 (-21) (by decide +kernel)
theorem dJ1_indexOfChar_4cfef_31 : decode cJ1_indexOfChar_4cfef 31 = .ok (.iconst (-1), 1) := dR0 (k := 0) (i := 31) bn_cJ1_indexOfChar_4cfef_0 dop_2 (by decide +kernel)
theorem dJ1_indexOfChar_4cfef_32 : decode cJ1_indexOfChar_4cfef 32 = .ok (.ireturn, 1) := dR0 (k := 0) (i := 32) bn_cJ1_indexOfChar_4cfef_0 dop_172 (by decide +kernel)
set_option maxHeartbeats 4000000 in
set_option maxRecDepth 100000 in
theorem c_J1_indexOfChar_4cfefG (l : Launch) (D : va_G) (cI : ClassId) (aK aV : Nat → Nat) (sz : Nat) (ix : Nat) (a1 : Int32) (a2 : Int32) (a3 : Int32) (pre0 : ix < 3) (pre1 : 0 ≤ a2.toInt) (pre2 : a3.toInt ≤ ((jsLen.getD ix 0 : Nat) : Int)) : Met l yJ1_indexOfChar_4cfef (gW yJ1_indexOfChar_4cfef cJ1_indexOfChar_4cfef 6 (some .int)) ({ frames := 0, cells := 0, slots := 0, locals := 0 } : Room) (kPreX D cI aK aV [.ref (aV ix), .int a1, .int a2, .int a3] [] sz) (va_Qi (fun (r : Int32) (u : Unit) => JSB ix a1.toInt8.toInt32.toInt a2.toInt a3.toInt r.toInt) (fun u t => kWd D cI (va_A [] sz) [] t) (va_A [] sz)) 0 0 (va_A [] sz) := by
  refine kMetIX (own := RJ1) (by decide +kernel) rfl (Nat.le_of_ble_eq_true rfl) ?_
  intro p e s m args below meth c hx hb hT hown hname hml A Q hK hP hD hS hA hN hXS hRet ls hl
  have hl : lv_has ls 6 [(0, .ref (aV ix)), (1, .int a1), (2, .int a2), (3, .int a3)] := hl
  have lo_a1 := k_lo a1
  have hi_a1 := k_hi a1
  have lo_a2 := k_lo a2
  have hi_a2 := k_hi a2
  have lo_a3 := k_lo a3
  have hi_a3 := k_hi a3
  have hix := pre0
  refine lv_iload_n hx hb dJ1_indexOfChar_4cfef_0 rfl (lv_at hl 1 rfl) ?_
  refine lv_i2b (v := a1.toInt8.toInt32) hx hb dJ1_indexOfChar_4cfef_1 rfl ?_
  refine lv_topi (fun v_1 ev_1 => ?_)
  have lo_v_1 := k_lo v_1
  have hi_v_1 := k_hi v_1
  refine lv_istore (lv' := [(4, .int v_1), (0, .ref (aV ix)), (1, .int a1), (2, .int a2), (3, .int a3)]) hx hb dJ1_indexOfChar_4cfef_2 hl (by decide +kernel) rfl ?_
  clear hl
  intro ls hl
  refine lv_iload_n hx hb dJ1_indexOfChar_4cfef_4 rfl (lv_at hl 3 rfl) ?_
  refine lv_istore (lv' := [(5, .int a2), (4, .int v_1), (0, .ref (aV ix)), (1, .int a1), (2, .int a2), (3, .int a3)]) hx hb dJ1_indexOfChar_4cfef_5 hl (by decide +kernel) rfl ?_
  clear hl
  intro ls hl
  have hloop_7 : ∀ (fu_ : Nat) (l7_5 : Int32), a2.toInt ≤ l7_5.toInt → (∀ j : Nat, a2.toInt ≤ (j : Int) → (j : Int) < l7_5.toInt → (jsAt ix j).toInt ≠ v_1.toInt) → (a3.toInt - l7_5.toInt).toNat < fu_ → ∀ (ls : Array Slot) (H : Heap) (locs : List Loc), lv_has ls 6 [(5, .int l7_5), (4, .int v_1), (0, .ref (aV ix)), (1, .int a1), (2, .int a2), (3, .int a3)] → va_P D vwCl [] H → va_D A [] → va_S A s.heap H locs → W p l e ({ frames := 0, cells := 0, slots := 0, locals := 0 } : Room) s m args below meth c H locs 0 0 Q (F0 m 7 ls []) := by
    intro fu_; induction fu_ with
    | zero => intro l7_5 i7_0 i7_1 hm; exact absurd hm (by omega)
    | succ fu_ ih7 =>
        intro l7_5 i7_0 i7_1 hm ls H locs hl hP hD hS
        have lo_l7_5 := k_lo l7_5
        have hi_l7_5 := k_hi l7_5
        refine lv_iload hx hb dJ1_indexOfChar_4cfef_7 (lv_at hl 0 rfl) ?_
        refine lv_iload_n hx hb dJ1_indexOfChar_4cfef_9 rfl (lv_at hl 5 rfl) ?_
        refine b_icmp_ge hx hb rfl rfl (tgt := 31) dJ1_indexOfChar_4cfef_10 (by decide +kernel) (fun c_2 => ?_) (fun c_2 => ?_)
        · refine lv_iconst (v := (-1)) hx hb dJ1_indexOfChar_4cfef_31 (by decide +kernel) ?_
          exact hRet () [] (Or.inl ⟨zl_m1, fun j h0 h1 => by rw [← ev_1]; exact i7_1 j h0 (by omega)⟩) hP hD (by decide +kernel) rfl hS rfl dJ1_indexOfChar_4cfef_32
        · refine lv_aload_n hx hb dJ1_indexOfChar_4cfef_13 rfl (lv_at hl 2 rfl) ?_
          refine lv_iload hx hb dJ1_indexOfChar_4cfef_14 (lv_at hl 0 rfl) ?_
          refine va_tb (v := .int ((jsByt.getD ix []).getD l7_5.toNatClampNeg 0)) hx hb (hXS.1.1 ix hix).2.2.2 hS (js_in hix (by omega) (by omega)) rfl dJ1_indexOfChar_4cfef_16 ?_
          refine lv_topi (fun v_3 ev_3 => ?_)
          have lo_v_3 := k_lo v_3
          have hi_v_3 := k_hi v_3
          refine lv_iload hx hb dJ1_indexOfChar_4cfef_17 (lv_at hl 1 rfl) ?_
          refine b_icmp_ne hx hb rfl rfl (tgt := 25) dJ1_indexOfChar_4cfef_19 (by decide +kernel) (fun c_4 => ?_) (fun c_4 => ?_)
          · obtain ⟨v_5, ev_5⟩ : ∃ y : Int32, y = l7_5 + 1 := ⟨_, rfl⟩
            have tv_5 : v_5.toInt = l7_5.toInt + 1 := by rw [ev_5]; exact k_addv rfl zl_1 (by omega) (by omega)
            refine lv_iinc (v := v_5) (lv' := [(5, .int v_5), (4, .int v_1), (0, .ref (aV ix)), (1, .int a1), (2, .int a2), (3, .int a3)]) hx hb dJ1_indexOfChar_4cfef_25 hl (k := 0) rfl (by rw [ev_5]; rfl) (by decide +kernel) rfl ?_
            clear hl
            intro ls hl
            refine lv_goto (tgt := 7) hx hb dJ1_indexOfChar_4cfef_28 (by decide +kernel) ?_
            exact ih7 v_5 (by first | omega | decide | assumption | rfl) (jsb_step i7_1 (by omega) (by omega) ev_3 (by omega)) (by omega) ls _ _ (lv_sub hl [0, 1, 2, 3, 4, 5] rfl) (hP.sub [] rfl) (hD.sub [] (by decide +kernel) rfl) hS
          · refine lv_iload hx hb dJ1_indexOfChar_4cfef_22 (lv_at hl 0 rfl) ?_
            exact hRet () [] (Or.inr ⟨by omega, by omega, by rw [← ev_1]; exact jsb_at ev_3 (by omega) (by omega)⟩) hP hD (by decide +kernel) rfl hS rfl dJ1_indexOfChar_4cfef_24
  exact hloop_7 _ a2 (by first | omega | decide | assumption | rfl) (fun j h0 h1 => by omega) (Nat.lt_succ_self _) ls _ _ (lv_sub hl [0, 1, 2, 3, 4, 5] rfl) hP hD hS
theorem bn_cJ1_indexOf_4cfef_0 : BN cJ1_indexOf_4cfef 0 0xad30005721e0e87056ad0181802a20f0747e2700ae57e2b0f0f8ba015c8103aad01818029b2c805721c := by
  unfold BN; decide +kernel
theorem dJ1_indexOf_4cfef_0 : decode cJ1_indexOf_4cfef 0 = .ok (.iload_n 1, 1) := dR0 (k := 0) (i := 0) bn_cJ1_indexOf_4cfef_0 dop_27 (by decide +kernel)
theorem dJ1_indexOf_4cfef_1 : decode cJ1_indexOf_4cfef 1 = .ok (.invokestatic 88, 3) := dR2 (f := Instr.invokestatic) (k := 0) (i := 1) bn_cJ1_indexOf_4cfef_0 dop_184 88 (by decide +kernel)
theorem dJ1_indexOf_4cfef_4 : decode cJ1_indexOf_4cfef 4 = .ok (.ifCond .ne 5, 3) := dR2s (f := Instr.ifCond .ne) (k := 0) (i := 4) bn_cJ1_indexOf_4cfef_0 dop_154 5 5 (by decide +kernel)
theorem dJ1_indexOf_4cfef_9 : decode cJ1_indexOf_4cfef 9 = .ok (.iload_n 2, 1) := dR0 (k := 0) (i := 9) bn_cJ1_indexOf_4cfef_0 dop_28 (by decide +kernel)
theorem dJ1_indexOf_4cfef_10 : decode cJ1_indexOf_4cfef 10 = .ok (.iconst 0, 1) := dR0 (k := 0) (i := 10) bn_cJ1_indexOf_4cfef_0 dop_3 (by decide +kernel)
theorem dJ1_indexOf_4cfef_11 : decode cJ1_indexOf_4cfef 11 = .ok (.invokestatic 92, 3) := dR2 (f := Instr.invokestatic) (k := 0) (i := 11) bn_cJ1_indexOf_4cfef_0 dop_184 92 (by decide +kernel)
theorem dJ1_indexOf_4cfef_14 : decode cJ1_indexOf_4cfef 14 = .ok (.istore_n 2, 1) := dR0 (k := 0) (i := 14) bn_cJ1_indexOf_4cfef_0 dop_61 (by decide +kernel)
theorem dJ1_indexOf_4cfef_15 : decode cJ1_indexOf_4cfef 15 = .ok (.iload_n 3, 1) := dR0 (k := 0) (i := 15) bn_cJ1_indexOf_4cfef_0 dop_29 (by decide +kernel)
theorem dJ1_indexOf_4cfef_16 : decode cJ1_indexOf_4cfef 16 = .ok (.aload_n 0, 1) := dR0 (k := 0) (i := 16) bn_cJ1_indexOf_4cfef_0 dop_42 (by decide +kernel)
theorem dJ1_indexOf_4cfef_17 : decode cJ1_indexOf_4cfef 17 = .ok (.arraylength, 1) := dR0 (k := 0) (i := 17) bn_cJ1_indexOf_4cfef_0 dop_190 (by decide +kernel)
theorem dJ1_indexOf_4cfef_18 : decode cJ1_indexOf_4cfef 18 = .ok (.invokestatic 38, 3) := dR2 (f := Instr.invokestatic) (k := 0) (i := 18) bn_cJ1_indexOf_4cfef_0 dop_184 38 (by decide +kernel)
theorem dJ1_indexOf_4cfef_21 : decode cJ1_indexOf_4cfef 21 = .ok (.istore_n 3, 1) := dR0 (k := 0) (i := 21) bn_cJ1_indexOf_4cfef_0 dop_62 (by decide +kernel)
theorem dJ1_indexOf_4cfef_22 : decode cJ1_indexOf_4cfef 22 = .ok (.iload_n 2, 1) := dR0 (k := 0) (i := 22) bn_cJ1_indexOf_4cfef_0 dop_28 (by decide +kernel)
theorem dJ1_indexOf_4cfef_23 : decode cJ1_indexOf_4cfef 23 = .ok (.iload_n 3, 1) := dR0 (k := 0) (i := 23) bn_cJ1_indexOf_4cfef_0 dop_29 (by decide +kernel)
theorem dJ1_indexOf_4cfef_24 : decode cJ1_indexOf_4cfef 24 = .ok (.if_icmp .lt 5, 3) := dR2s (f := Instr.if_icmp .lt) (k := 0) (i := 24) bn_cJ1_indexOf_4cfef_0 dop_161 5 5 (by decide +kernel)
theorem dJ1_indexOf_4cfef_27 : decode cJ1_indexOf_4cfef 27 = .ok (.iconst (-1), 1) := dR0 (k := 0) (i := 27) bn_cJ1_indexOf_4cfef_0 dop_2 (by decide +kernel)
theorem dJ1_indexOf_4cfef_28 : decode cJ1_indexOf_4cfef 28 = .ok (.ireturn, 1) := dR0 (k := 0) (i := 28) bn_cJ1_indexOf_4cfef_0 dop_172 (by decide +kernel)
theorem dJ1_indexOf_4cfef_29 : decode cJ1_indexOf_4cfef 29 = .ok (.aload_n 0, 1) := dR0 (k := 0) (i := 29) bn_cJ1_indexOf_4cfef_0 dop_42 (by decide +kernel)
theorem dJ1_indexOf_4cfef_30 : decode cJ1_indexOf_4cfef 30 = .ok (.iload_n 1, 1) := dR0 (k := 0) (i := 30) bn_cJ1_indexOf_4cfef_0 dop_27 (by decide +kernel)
theorem dJ1_indexOf_4cfef_31 : decode cJ1_indexOf_4cfef 31 = .ok (.iload_n 2, 1) := dR0 (k := 0) (i := 31) bn_cJ1_indexOf_4cfef_0 dop_28 (by decide +kernel)
theorem dJ1_indexOf_4cfef_32 : decode cJ1_indexOf_4cfef 32 = .ok (.iload_n 3, 1) := dR0 (k := 0) (i := 32) bn_cJ1_indexOf_4cfef_0 dop_29 (by decide +kernel)
theorem dJ1_indexOf_4cfef_33 : decode cJ1_indexOf_4cfef 33 = .ok (.invokestatic 95, 3) := dR2 (f := Instr.invokestatic) (k := 0) (i := 33) bn_cJ1_indexOf_4cfef_0 dop_184 95 (by decide +kernel)
theorem dJ1_indexOf_4cfef_36 : decode cJ1_indexOf_4cfef 36 = .ok (.ireturn, 1) := dR0 (k := 0) (i := 36) bn_cJ1_indexOf_4cfef_0 dop_172 (by decide +kernel)
set_option maxHeartbeats 4000000 in
set_option maxRecDepth 100000 in
theorem c_J1_indexOf_4cfefG (l : Launch) (D : va_G) (cI : ClassId) (aK aV : Nat → Nat) (sz : Nat) (ix : Nat) (a1 : Int32) (a2 : Int32) (a3 : Int32) (pre0 : ix < 3) (pre1 : a2.toInt = 0) (pre2 : a3.toInt = ((jsLen.getD ix 0 : Nat) : Int)) (pre3 : 0 ≤ a1.toInt) (pre4 : a1.toInt ≤ 255) : Met l yJ1_indexOf_4cfef (gW yJ1_indexOf_4cfef cJ1_indexOf_4cfef 4 (some .int)) ({ frames := 1, cells := 0, slots := 0, locals := 40 } : Room) (kPreX D cI aK aV [.ref (aV ix), .int a1, .int a2, .int a3] [] sz) (va_Qi (fun (r : Int32) (u : Unit) => JSX ix a1.toInt r.toInt) (fun u t => kWd D cI (va_A [] sz) [] t) (va_A [] sz)) 0 0 (va_A [] sz) := by
  refine kMetIX (own := RJ1) (by decide +kernel) rfl (Nat.le_of_ble_eq_true rfl) ?_
  intro p e s m args below meth c hx hb hT hown hname hml A Q hK hP hD hS hA hN hXS hRet ls hl
  have hl : lv_has ls 4 [(0, .ref (aV ix)), (1, .int a1), (2, .int a2), (3, .int a3)] := hl
  have lo_a1 := k_lo a1
  have hi_a1 := k_hi a1
  have lo_a2 := k_lo a2
  have hi_a2 := k_hi a2
  have lo_a3 := k_lo a3
  have hi_a3 := k_hi a3
  have hix := pre0
  refine lv_iload_n hx hb dJ1_indexOf_4cfef_0 rfl (lv_at hl 1 rfl) ?_
  refine kJi (wr := []) (va_runS (As := [.int a1]) (rest := []) ⟨hx, hb, hml, hown, hT⟩ (c_J1_canEncode_9a6adG l D cI aK aV s.heap.size a1) (cwS 1 hT (gS_in mw_535 mw_533 mw_534 mw_15) rfl rfl rfl (by decide +kernel) ⟨Nat.le_of_ble_eq_true rfl, Nat.le_of_ble_eq_true rfl⟩) (kStatX hK hP hD hN hXS hS hA [] rfl (by decide +kernel)) rfl rfl hl.1 rfl (lv_room (Nat.le_of_ble_eq_true rfl)) dJ1_indexOf_4cfef_1 ⟨Nat.le_of_ble_eq_true rfl, Nat.le_of_ble_eq_true rfl⟩) hP hD hS hA [] [] rfl rfl (by decide +kernel) (by decide +kernel) ?_
  clear hP hD hS
  intro r_1 u_3 H locs w_2 hP hD hS
  replace hP : va_P D vwCl [] H := hP
  replace hD : va_D A [] := hD
  rcases w_2 with ⟨hr_1, h_4, h_5⟩ | ⟨hr_1, h_6⟩
  · have h_4 : 0 ≤ a1.toInt := h_4
    have h_5 : a1.toInt ≤ 255 := h_5
    obtain rfl : r_1 = 1 := hr_1.trans (by decide +kernel)
    refine b_if_ne hx hb zl_1 (tgt := 9) dJ1_indexOf_4cfef_4 (by decide +kernel) (fun c_7 => ?_) (fun c_7 => by exfalso; omega)
    refine lv_iload_n hx hb dJ1_indexOf_4cfef_9 rfl (lv_at hl 2 rfl) ?_
    refine lv_iconst (v := 0) hx hb dJ1_indexOf_4cfef_10 (by decide +kernel) ?_
    refine va_mmax hx hb (hml.trans hl.1.symm) hown (hT _ mw_536) (hT _ mw_426) (hT _ mw_13) (hT _ mw_427) (Nat.le_of_ble_eq_true rfl) (Nat.le_of_ble_eq_true rfl) (Nat.le_of_ble_eq_true rfl) (Nat.le_of_ble_eq_true rfl) dJ1_indexOf_4cfef_11 ?_
    refine lv_topi (fun v_8 ev_8 => ?_)
    have lo_v_8 := k_lo v_8
    have hi_v_8 := k_hi v_8
    have tv_8 : v_8.toInt = k_max a2.toInt 0 := by rw [ev_8]; exact k_mmax rfl zl_0
    have sv_8 := k_max_spec (a2.toInt) (0)
    refine lv_istore_n (lv' := [(2, .int v_8), (0, .ref (aV ix)), (1, .int a1), (3, .int a3)]) hx hb dJ1_indexOf_4cfef_14 rfl hl (by decide +kernel) rfl ?_
    clear hl
    intro ls hl
    refine lv_iload_n hx hb dJ1_indexOf_4cfef_15 rfl (lv_at hl 3 rfl) ?_
    refine lv_aload_n hx hb dJ1_indexOf_4cfef_16 rfl (lv_at hl 1 rfl) ?_
    refine va_tlen (v := Int32.ofNat (jsLen.getD ix 0)) hx hb (hXS.1.1 ix hix).2.2.2 hS rfl dJ1_indexOf_4cfef_17 ?_
    refine lv_topi (fun v_9 ev_9 => ?_)
    have ln_v_9 := js_len hix ev_9
    have lo_v_9 := js_lo hix ev_9
    have hi_v_9 := js_hi hix ev_9
    refine va_mmin hx hb (hml.trans hl.1.symm) hown (hT _ mw_537) (hT _ mw_538) (hT _ mw_13) (hT _ mw_539) (Nat.le_of_ble_eq_true rfl) (Nat.le_of_ble_eq_true rfl) (Nat.le_of_ble_eq_true rfl) (Nat.le_of_ble_eq_true rfl) dJ1_indexOf_4cfef_18 ?_
    refine lv_topi (fun v_10 ev_10 => ?_)
    have lo_v_10 := k_lo v_10
    have hi_v_10 := k_hi v_10
    have tv_10 : v_10.toInt = k_min a3.toInt v_9.toInt := by rw [ev_10]; exact k_mmin rfl rfl
    have sv_10 := k_min_spec (a3.toInt) (v_9.toInt)
    refine lv_istore_n (lv' := [(3, .int v_10), (2, .int v_8), (0, .ref (aV ix)), (1, .int a1)]) hx hb dJ1_indexOf_4cfef_21 rfl hl (by decide +kernel) rfl ?_
    clear hl
    intro ls hl
    refine lv_iload_n hx hb dJ1_indexOf_4cfef_22 rfl (lv_at hl 1 rfl) ?_
    refine lv_iload_n hx hb dJ1_indexOf_4cfef_23 rfl (lv_at hl 0 rfl) ?_
    refine b_icmp_lt hx hb rfl rfl (tgt := 29) dJ1_indexOf_4cfef_24 (by decide +kernel) (fun c_11 => ?_) (fun c_11 => ?_)
    · refine lv_aload_n hx hb dJ1_indexOf_4cfef_29 rfl (lv_at hl 2 rfl) ?_
      refine lv_iload_n hx hb dJ1_indexOf_4cfef_30 rfl (lv_at hl 3 rfl) ?_
      refine lv_iload_n hx hb dJ1_indexOf_4cfef_31 rfl (lv_at hl 1 rfl) ?_
      refine lv_iload_n hx hb dJ1_indexOf_4cfef_32 rfl (lv_at hl 0 rfl) ?_
      refine kJi (wr := []) (va_runS (As := [.ref (aV ix), .int a1, .int v_8, .int v_10]) (rest := []) ⟨hx, hb, hml, hown, hT⟩ (c_J1_indexOfChar_4cfefG l D cI aK aV H.size ix a1 v_8 v_10 (by first | omega | decide | assumption | rfl) (by first | omega | decide | assumption | rfl) (by first | omega | decide | assumption | rfl)) (cwS 4 hT (gS_in mw_542 mw_540 mw_541 mw_15) rfl rfl rfl (by decide +kernel) ⟨Nat.le_of_ble_eq_true rfl, Nat.le_of_ble_eq_true rfl⟩) (kStatX hK hP hD hN hXS hS hA [] rfl (by decide +kernel)) rfl rfl hl.1 rfl (lv_room (Nat.le_of_ble_eq_true rfl)) dJ1_indexOf_4cfef_33 ⟨Nat.le_of_ble_eq_true rfl, Nat.le_of_ble_eq_true rfl⟩) hP hD hS hA [] [] rfl rfl (by decide +kernel) (by decide +kernel) ?_
      clear hP hD hS
      intro r_12 u_14 H locs w_13 hP hD hS
      replace hP : va_P D vwCl [] H := hP
      replace hD : va_D A [] := hD
      have h_15 := w_13
      have h_15 : JSB ix a1.toInt8.toInt32.toInt v_8.toInt v_10.toInt r_12.toInt := h_15
      have h_15 : JSB ix a1.toInt8.toInt32.toInt v_8.toInt v_10.toInt r_12.toInt := h_15
      have lo_r_12 := k_lo r_12
      have hi_r_12 := k_hi r_12
      exact hRet () [] (jsx_of h_15 (by omega) (by omega) (by omega) (by omega) hix) hP hD (by decide +kernel) rfl hS rfl dJ1_indexOf_4cfef_36
    · refine lv_iconst (v := (-1)) hx hb dJ1_indexOf_4cfef_27 (by decide +kernel) ?_
      exact hRet () [] (Or.inl ⟨zl_m1, fun _ _ => by omega⟩) hP hD (by decide +kernel) rfl hS rfl dJ1_indexOf_4cfef_28
  · exfalso; omega
theorem bn_cJ0_coder_7d493_0 : BN cJ0_coder_7d493 0 0x2b40a0500aa020015a8ac16014d09c02b3 := by
  unfold BN; decide +kernel
theorem dJ0_coder_7d493_0 : decode cJ0_coder_7d493 0 = .ok (.getstatic 38, 3) := dR2 (f := Instr.getstatic) (k := 0) (i := 0) bn_cJ0_coder_7d493_0 dop_178 38 (by decide +kernel)
theorem dJ0_coder_7d493_3 : decode cJ0_coder_7d493 3 = .ok (.ifCond .eq 10, 3) := dR2s (f := Instr.ifCond .eq) (k := 0) (i := 3) bn_cJ0_coder_7d493_0 dop_153 10 10 (by decide +kernel)
theorem dJ0_coder_7d493_6 : decode cJ0_coder_7d493 6 = .ok (.aload_n 0, 1) := dR0 (k := 0) (i := 6) bn_cJ0_coder_7d493_0 dop_42 (by decide +kernel)
theorem dJ0_coder_7d493_7 : decode cJ0_coder_7d493 7 = .ok (.getfield 15, 3) := dR2 (f := Instr.getfield) (k := 0) (i := 7) bn_cJ0_coder_7d493_0 dop_180 15 (by decide +kernel)
theorem dJ0_coder_7d493_10 : decode cJ0_coder_7d493 10 = .ok (.goto 4, 3) := dR2s (f := Instr.goto) (k := 0) (i := 10) bn_cJ0_coder_7d493_0 dop_167 4 4 (by decide +kernel)
theorem dJ0_coder_7d493_14 : decode cJ0_coder_7d493 14 = .ok (.ireturn, 1) := dR0 (k := 0) (i := 14) bn_cJ0_coder_7d493_0 dop_172 (by decide +kernel)
set_option maxHeartbeats 4000000 in
set_option maxRecDepth 100000 in
theorem c_J0_coder_7d493G (l : Launch) (D : va_G) (cI : ClassId) (aK aV : Nat → Nat) (sz : Nat) (ix : Nat) (pre0 : ix < 3) : Met l yJ0_coder_7d493 (gW yJ0_coder_7d493 cJ0_coder_7d493 1 (some .byte)) ({ frames := 0, cells := 0, slots := 0, locals := 0 } : Room) (kPreX D cI aK aV [.ref (aK ix)] [] sz) (va_Qi (fun (r : Int32) (u : Unit) => r = 0) (fun u t => kWd D cI (va_A [] sz) [] t) (va_A [] sz)) 0 0 (va_A [] sz) := by
  refine kMetIX (own := RJ0) (by decide +kernel) rfl (Nat.le_of_ble_eq_true rfl) ?_
  intro p e s m args below meth c hx hb hT hown hname hml A Q hK hP hD hS hA hN hXS hRet ls hl
  have hl : lv_has ls 1 [(0, .ref (aK ix))] := hl
  obtain ⟨hXS1, ⟨tB, hZB, hTB⟩, hXS2⟩ := id hXS
  have hix := pre0
  refine va_gets hx hb hXS.2.2.1 hS hown (hT _ mw_520) (fun _ h9 => h9) dJ0_coder_7d493_0 ?_
  refine b_if_eq hx hb zl_1 (tgt := 13) dJ0_coder_7d493_3 (by decide +kernel) (fun c_1 => by exfalso; omega) (fun c_1 => ?_)
  refine lv_aload_n hx hb dJ0_coder_7d493_6 rfl (lv_at hl 0 rfl) ?_
  refine vk_getf (v := .int 0) hx hb (hXS.1.1 ix hix).2.1 hS hown (hT _ mw_1627) (fun _ h9 => h9) dJ0_coder_7d493_7 ?_
  refine lv_goto (tgt := 14) hx hb dJ0_coder_7d493_10 (by decide +kernel) ?_
  exact hRet () [] rfl hP hD (by decide +kernel) rfl hS rfl dJ0_coder_7d493_14
theorem bn_cJ0_length_8abf5_0 : BN cJ0_length_8abf5 0 0x2b4f650012dc56bf050056a2b := by
  unfold BN; decide +kernel
theorem dJ0_length_8abf5_0 : decode cJ0_length_8abf5 0 = .ok (.aload_n 0, 1) := dR0 (k := 0) (i := 0) bn_cJ0_length_8abf5_0 dop_42 (by decide +kernel)
theorem dJ0_length_8abf5_1 : decode cJ0_length_8abf5 1 = .ok (.getfield 9, 3) := dR2 (f := Instr.getfield) (k := 0) (i := 1) bn_cJ0_length_8abf5_0 dop_180 9 (by decide +kernel)
theorem dJ0_length_8abf5_4 : decode cJ0_length_8abf5 4 = .ok (.arraylength, 1) := dR0 (k := 0) (i := 4) bn_cJ0_length_8abf5_0 dop_190 (by decide +kernel)
theorem dJ0_length_8abf5_5 : decode cJ0_length_8abf5 5 = .ok (.aload_n 0, 1) := dR0 (k := 0) (i := 5) bn_cJ0_length_8abf5_0 dop_42 (by decide +kernel)
theorem dJ0_length_8abf5_6 : decode cJ0_length_8abf5 6 = .ok (.invokevirtual 335, 3) := dR2 (f := Instr.invokevirtual) (k := 0) (i := 6) bn_cJ0_length_8abf5_0 dop_182 335 (by decide +kernel)
theorem dJ0_length_8abf5_9 : decode cJ0_length_8abf5 9 = .ok (.ishr, 1) := dR0 (k := 0) (i := 9) bn_cJ0_length_8abf5_0 dop_122 (by decide +kernel)
theorem dJ0_length_8abf5_10 : decode cJ0_length_8abf5 10 = .ok (.ireturn, 1) := dR0 (k := 0) (i := 10) bn_cJ0_length_8abf5_0 dop_172 (by decide +kernel)
set_option maxHeartbeats 4000000 in
set_option maxRecDepth 100000 in
theorem c_J0_length_8abf5G (l : Launch) (D : va_G) (cI : ClassId) (aK aV : Nat → Nat) (sz : Nat) (ix : Nat) (pre0 : ix < 3) : Met l yJ0_length_8abf5 (gW yJ0_length_8abf5 cJ0_length_8abf5 1 (some .int)) ({ frames := 1, cells := 0, slots := 0, locals := 20 } : Room) (kPreX D cI aK aV [.ref (aK ix)] [] sz) (va_Qi (fun (r : Int32) (u : Unit) => r.toInt = ((jsLen.getD ix 0 : Nat) : Int)) (fun u t => kWd D cI (va_A [] sz) [] t) (va_A [] sz)) 0 0 (va_A [] sz) := by
  refine kMetIX (own := RJ0) (by decide +kernel) rfl (Nat.le_of_ble_eq_true rfl) ?_
  intro p e s m args below meth c hx hb hT hown hname hml A Q hK hP hD hS hA hN hXS hRet ls hl
  have hl : lv_has ls 1 [(0, .ref (aK ix))] := hl
  have hix := pre0
  refine lv_aload_n hx hb dJ0_length_8abf5_0 rfl (lv_at hl 0 rfl) ?_
  refine vk_getf (v := .ref (aV ix)) hx hb (hXS.1.1 ix hix).2.2.1 hS hown (hT _ mw_1628) (fun _ h9 => h9) dJ0_length_8abf5_1 ?_
  refine va_tlen (v := Int32.ofNat (jsLen.getD ix 0)) hx hb (hXS.1.1 ix hix).2.2.2 hS rfl dJ0_length_8abf5_4 ?_
  refine lv_topi (fun v_1 ev_1 => ?_)
  have ln_v_1 := js_len hix ev_1
  have lo_v_1 := js_lo hix ev_1
  have hi_v_1 := js_hi hix ev_1
  refine lv_aload_n hx hb dJ0_length_8abf5_5 rfl (lv_at hl 0 rfl) ?_
  refine kJi (wr := []) (va_runV (As := []) (rest := [.int v_1]) ⟨hx, hb, hml, hown, hT⟩ (c_J0_coder_7d493G l D cI aK aV s.heap.size ix (by first | omega | decide | assumption | rfl)) (cwV 0 hT (gV_in mw_529 mw_526 mw_527 mw_528 mw_14) rfl rfl rfl (by decide +kernel) ⟨Nat.le_of_ble_eq_true rfl, Nat.le_of_ble_eq_true rfl⟩) (kRecvS hK hP hD hN hXS hS hA hix [] rfl (by decide +kernel)) rfl rfl hl.1 rfl (lv_room (Nat.le_of_ble_eq_true rfl)) dJ0_length_8abf5_6 ⟨Nat.le_of_ble_eq_true rfl, Nat.le_of_ble_eq_true rfl⟩) hP hD hS hA [] [] rfl rfl (by decide +kernel) (by decide +kernel) ?_
  clear hP hD hS
  intro r_2 u_4 H locs w_3 hP hD hS
  replace hP : va_P D vwCl [] H := hP
  replace hD : va_D A [] := hD
  have hr_2 := w_3
  obtain rfl : r_2 = 0 := hr_2.trans (by decide +kernel)
  refine lv_ishr hx hb dJ0_length_8abf5_9 ?_
  refine lv_topi (fun v_5 ev_5 => ?_)
  have lo_v_5 := k_lo v_5
  have hi_v_5 := k_hi v_5
  exact hRet () [] (by rw [ev_5, show ((0 : Int32) &&& 31) = 0 from by decide, Int32.shiftRight_zero]; exact ln_v_1) hP hD (by decide +kernel) rfl hS rfl dJ0_length_8abf5_10
theorem bn_cJ0_isLatin1_aae02_0 : BN cJ0_isLatin1_aae02 0 0x2b4080500aa00a0800a6c20015a8ac1e014d09c02b3 := by
  unfold BN; decide +kernel
theorem dJ0_isLatin1_aae02_0 : decode cJ0_isLatin1_aae02 0 = .ok (.getstatic 38, 3) := dR2 (f := Instr.getstatic) (k := 0) (i := 0) bn_cJ0_isLatin1_aae02_0 dop_178 38 (by decide +kernel)
theorem dJ0_isLatin1_aae02_3 : decode cJ0_isLatin1_aae02 3 = .ok (.ifCond .eq 14, 3) := dR2s (f := Instr.ifCond .eq) (k := 0) (i := 3) bn_cJ0_isLatin1_aae02_0 dop_153 14 14 (by decide +kernel)
theorem dJ0_isLatin1_aae02_6 : decode cJ0_isLatin1_aae02 6 = .ok (.aload_n 0, 1) := dR0 (k := 0) (i := 6) bn_cJ0_isLatin1_aae02_0 dop_42 (by decide +kernel)
theorem dJ0_isLatin1_aae02_7 : decode cJ0_isLatin1_aae02 7 = .ok (.getfield 15, 3) := dR2 (f := Instr.getfield) (k := 0) (i := 7) bn_cJ0_isLatin1_aae02_0 dop_180 15 (by decide +kernel)
theorem dJ0_isLatin1_aae02_10 : decode cJ0_isLatin1_aae02 10 = .ok (.ifCond .ne 7, 3) := dR2s (f := Instr.ifCond .ne) (k := 0) (i := 10) bn_cJ0_isLatin1_aae02_0 dop_154 7 7 (by decide +kernel)
theorem dJ0_isLatin1_aae02_13 : decode cJ0_isLatin1_aae02 13 = .ok (.iconst 1, 1) := dR0 (k := 0) (i := 13) bn_cJ0_isLatin1_aae02_0 dop_4 (by decide +kernel)
theorem dJ0_isLatin1_aae02_14 : decode cJ0_isLatin1_aae02 14 = .ok (.goto 4, 3) := dR2s (f := Instr.goto) (k := 0) (i := 14) bn_cJ0_isLatin1_aae02_0 dop_167 4 4 (by decide +kernel)
theorem dJ0_isLatin1_aae02_18 : decode cJ0_isLatin1_aae02 18 = .ok (.ireturn, 1) := dR0 (k := 0) (i := 18) bn_cJ0_isLatin1_aae02_0 dop_172 (by decide +kernel)
set_option maxHeartbeats 4000000 in
set_option maxRecDepth 100000 in
theorem c_J0_isLatin1_aae02G (l : Launch) (D : va_G) (cI : ClassId) (aK aV : Nat → Nat) (sz : Nat) (ix : Nat) (pre0 : ix < 3) : Met l yJ0_isLatin1_aae02 (gW yJ0_isLatin1_aae02 cJ0_isLatin1_aae02 1 (some .boolean)) ({ frames := 0, cells := 0, slots := 0, locals := 0 } : Room) (kPreX D cI aK aV [.ref (aK ix)] [] sz) (va_Qi (fun (r : Int32) (u : Unit) => r = 1) (fun u t => kWd D cI (va_A [] sz) [] t) (va_A [] sz)) 0 0 (va_A [] sz) := by
  refine kMetIX (own := RJ0) (by decide +kernel) rfl (Nat.le_of_ble_eq_true rfl) ?_
  intro p e s m args below meth c hx hb hT hown hname hml A Q hK hP hD hS hA hN hXS hRet ls hl
  have hl : lv_has ls 1 [(0, .ref (aK ix))] := hl
  obtain ⟨hXS1, ⟨tB, hZB, hTB⟩, hXS2⟩ := id hXS
  have hix := pre0
  refine va_gets hx hb hXS.2.2.1 hS hown (hT _ mw_520) (fun _ h9 => h9) dJ0_isLatin1_aae02_0 ?_
  refine b_if_eq hx hb zl_1 (tgt := 17) dJ0_isLatin1_aae02_3 (by decide +kernel) (fun c_1 => by exfalso; omega) (fun c_1 => ?_)
  refine lv_aload_n hx hb dJ0_isLatin1_aae02_6 rfl (lv_at hl 0 rfl) ?_
  refine vk_getf (v := .int 0) hx hb (hXS.1.1 ix hix).2.1 hS hown (hT _ mw_1627) (fun _ h9 => h9) dJ0_isLatin1_aae02_7 ?_
  refine b_if_ne hx hb zl_0 (tgt := 17) dJ0_isLatin1_aae02_10 (by decide +kernel) (fun c_2 => by exfalso; omega) (fun c_2 => ?_)
  refine lv_iconst (v := 1) hx hb dJ0_isLatin1_aae02_13 (by decide +kernel) ?_
  refine lv_goto (tgt := 18) hx hb dJ0_isLatin1_aae02_14 (by decide +kernel) ?_
  exact hRet () [] rfl hP hD (by decide +kernel) rfl hS rfl dJ0_isLatin1_aae02_18
theorem bn_cJ0_indexOf_7cf53_0 : BN cJ0_indexOf_7cf53 0 0xad4080d72fa012dc561d0e02802b51584402a83f00d72fa012dc561d0e02802b515850029a768096e2b := by
  unfold BN; decide +kernel
theorem dJ0_indexOf_7cf53_0 : decode cJ0_indexOf_7cf53 0 = .ok (.aload_n 0, 1) := dR0 (k := 0) (i := 0) bn_cJ0_indexOf_7cf53_0 dop_42 (by decide +kernel)
theorem dJ0_indexOf_7cf53_1 : decode cJ0_indexOf_7cf53 1 = .ok (.invokevirtual 492, 3) := dR2 (f := Instr.invokevirtual) (k := 0) (i := 1) bn_cJ0_indexOf_7cf53_0 dop_182 492 (by decide +kernel)
theorem dJ0_indexOf_7cf53_4 : decode cJ0_indexOf_7cf53 4 = .ok (.ifCond .eq 19, 3) := dR2s (f := Instr.ifCond .eq) (k := 0) (i := 4) bn_cJ0_indexOf_7cf53_0 dop_153 19 19 (by decide +kernel)
theorem dJ0_indexOf_7cf53_7 : decode cJ0_indexOf_7cf53 7 = .ok (.aload_n 0, 1) := dR0 (k := 0) (i := 7) bn_cJ0_indexOf_7cf53_0 dop_42 (by decide +kernel)
theorem dJ0_indexOf_7cf53_8 : decode cJ0_indexOf_7cf53 8 = .ok (.getfield 9, 3) := dR2 (f := Instr.getfield) (k := 0) (i := 8) bn_cJ0_indexOf_7cf53_0 dop_180 9 (by decide +kernel)
theorem dJ0_indexOf_7cf53_11 : decode cJ0_indexOf_7cf53 11 = .ok (.iload_n 1, 1) := dR0 (k := 0) (i := 11) bn_cJ0_indexOf_7cf53_0 dop_27 (by decide +kernel)
theorem dJ0_indexOf_7cf53_12 : decode cJ0_indexOf_7cf53 12 = .ok (.iload_n 2, 1) := dR0 (k := 0) (i := 12) bn_cJ0_indexOf_7cf53_0 dop_28 (by decide +kernel)
theorem dJ0_indexOf_7cf53_13 : decode cJ0_indexOf_7cf53 13 = .ok (.aload_n 0, 1) := dR0 (k := 0) (i := 13) bn_cJ0_indexOf_7cf53_0 dop_42 (by decide +kernel)
theorem dJ0_indexOf_7cf53_14 : decode cJ0_indexOf_7cf53 14 = .ok (.invokevirtual 505, 3) := dR2 (f := Instr.invokevirtual) (k := 0) (i := 14) bn_cJ0_indexOf_7cf53_0 dop_182 505 (by decide +kernel)
theorem dJ0_indexOf_7cf53_17 : decode cJ0_indexOf_7cf53 17 = .ok (.invokestatic 637, 3) := dR2 (f := Instr.invokestatic) (k := 0) (i := 17) bn_cJ0_indexOf_7cf53_0 dop_184 637 (by decide +kernel)
theorem dJ0_indexOf_7cf53_20 : decode cJ0_indexOf_7cf53 20 = .ok (.goto 16, 3) := dR2s (f := Instr.goto) (k := 0) (i := 20) bn_cJ0_indexOf_7cf53_0 dop_167 16 16 (by decide +kernel)
theorem dJ0_indexOf_7cf53_36 : decode cJ0_indexOf_7cf53 36 = .ok (.ireturn, 1) := dR0 (k := 0) (i := 36) bn_cJ0_indexOf_7cf53_0 dop_172 (by decide +kernel)
set_option maxHeartbeats 4000000 in
set_option maxRecDepth 100000 in
theorem c_J0_indexOf_7cf53G (l : Launch) (D : va_G) (cI : ClassId) (aK aV : Nat → Nat) (sz : Nat) (ix : Nat) (a0 : Int32) (a1 : Int32) (pre0 : ix < 3) (pre1 : a1.toInt = 0) (pre2 : 0 ≤ a0.toInt) (pre3 : a0.toInt ≤ 255) : Met l yJ0_indexOf_7cf53 (gW yJ0_indexOf_7cf53 cJ0_indexOf_7cf53 3 (some .int)) ({ frames := 2, cells := 0, slots := 0, locals := 63 } : Room) (kPreX D cI aK aV [.ref (aK ix), .int a0, .int a1] [] sz) (va_Qi (fun (r : Int32) (u : Unit) => JSX ix a0.toInt r.toInt) (fun u t => kWd D cI (va_A [] sz) [] t) (va_A [] sz)) 0 0 (va_A [] sz) := by
  refine kMetIX (own := RJ0) (by decide +kernel) rfl (Nat.le_of_ble_eq_true rfl) ?_
  intro p e s m args below meth c hx hb hT hown hname hml A Q hK hP hD hS hA hN hXS hRet ls hl
  have hl : lv_has ls 3 [(0, .ref (aK ix)), (1, .int a0), (2, .int a1)] := hl
  have lo_a0 := k_lo a0
  have hi_a0 := k_hi a0
  have lo_a1 := k_lo a1
  have hi_a1 := k_hi a1
  have hix := pre0
  refine lv_aload_n hx hb dJ0_indexOf_7cf53_0 rfl (lv_at hl 0 rfl) ?_
  refine kJi (wr := []) (va_runV (As := []) (rest := []) ⟨hx, hb, hml, hown, hT⟩ (c_J0_isLatin1_aae02G l D cI aK aV s.heap.size ix (by first | omega | decide | assumption | rfl)) (cwV 0 hT (gV_in mw_519 mw_516 mw_517 mw_518 mw_14) rfl rfl rfl (by decide +kernel) ⟨Nat.le_of_ble_eq_true rfl, Nat.le_of_ble_eq_true rfl⟩) (kRecvS hK hP hD hN hXS hS hA hix [] rfl (by decide +kernel)) rfl rfl hl.1 rfl (lv_room (Nat.le_of_ble_eq_true rfl)) dJ0_indexOf_7cf53_1 ⟨Nat.le_of_ble_eq_true rfl, Nat.le_of_ble_eq_true rfl⟩) hP hD hS hA [] [] rfl rfl (by decide +kernel) (by decide +kernel) ?_
  clear hP hD hS
  intro r_1 u_3 H locs w_2 hP hD hS
  replace hP : va_P D vwCl [] H := hP
  replace hD : va_D A [] := hD
  have hr_1 := w_2
  obtain rfl : r_1 = 1 := hr_1.trans (by decide +kernel)
  refine b_if_eq hx hb zl_1 (tgt := 23) dJ0_indexOf_7cf53_4 (by decide +kernel) (fun c_4 => by exfalso; omega) (fun c_4 => ?_)
  refine lv_aload_n hx hb dJ0_indexOf_7cf53_7 rfl (lv_at hl 0 rfl) ?_
  refine vk_getf (v := .ref (aV ix)) hx hb (hXS.1.1 ix hix).2.2.1 hS hown (hT _ mw_1628) (fun _ h9 => h9) dJ0_indexOf_7cf53_8 ?_
  refine lv_iload_n hx hb dJ0_indexOf_7cf53_11 rfl (lv_at hl 1 rfl) ?_
  refine lv_iload_n hx hb dJ0_indexOf_7cf53_12 rfl (lv_at hl 2 rfl) ?_
  refine lv_aload_n hx hb dJ0_indexOf_7cf53_13 rfl (lv_at hl 0 rfl) ?_
  refine kJi (wr := []) (va_runV (As := []) (rest := [.int a1, .int a0, .ref (aV ix)]) ⟨hx, hb, hml, hown, hT⟩ (c_J0_length_8abf5G l D cI aK aV H.size ix (by first | omega | decide | assumption | rfl)) (cwV 0 hT (gV_in mw_525 mw_522 mw_523 mw_524 mw_14) rfl rfl rfl (by decide +kernel) ⟨Nat.le_of_ble_eq_true rfl, Nat.le_of_ble_eq_true rfl⟩) (kRecvS hK hP hD hN hXS hS hA hix [] rfl (by decide +kernel)) rfl rfl hl.1 rfl (lv_room (Nat.le_of_ble_eq_true rfl)) dJ0_indexOf_7cf53_14 ⟨Nat.le_of_ble_eq_true rfl, Nat.le_of_ble_eq_true rfl⟩) hP hD hS hA [] [] rfl rfl (by decide +kernel) (by decide +kernel) ?_
  clear hP hD hS
  intro r_5 u_7 H locs w_6 hP hD hS
  replace hP : va_P D vwCl [] H := hP
  replace hD : va_D A [] := hD
  have h_8 := w_6
  have h_8 : r_5.toInt = ((jsLen.getD ix 0 : Nat) : Int) := h_8
  have lo_r_5 := k_lo r_5
  have hi_r_5 := k_hi r_5
  refine kJi (wr := []) (va_runS (As := [.ref (aV ix), .int a0, .int a1, .int r_5]) (rest := []) ⟨hx, hb, hml, hown, hT⟩ (c_J1_indexOf_4cfefG l D cI aK aV H.size ix a0 a1 r_5 (by first | omega | decide | assumption | rfl) (by first | omega | decide | assumption | rfl) (by first | omega | decide | assumption | rfl) (by first | omega | decide | assumption | rfl) (by first | omega | decide | assumption | rfl)) (va_cwS 4 hT (gSx_in mw_532 mw_530 mw_531 mw_15) rfl rfl rfl (by decide +kernel) ⟨Nat.le_of_ble_eq_true rfl, Nat.le_of_ble_eq_true rfl⟩) (kStatX hK hP hD hN hXS hS hA [] rfl (by decide +kernel)) rfl rfl hl.1 rfl (lv_room (Nat.le_of_ble_eq_true rfl)) dJ0_indexOf_7cf53_17 ⟨Nat.le_of_ble_eq_true rfl, Nat.le_of_ble_eq_true rfl⟩) hP hD hS hA [] [] rfl rfl (by decide +kernel) (by decide +kernel) ?_
  clear hP hD hS
  intro r_9 u_11 H locs w_10 hP hD hS
  replace hP : va_P D vwCl [] H := hP
  replace hD : va_D A [] := hD
  have h_12 := w_10
  have h_12 : JSX ix a0.toInt r_9.toInt := h_12
  have h_12 : JSX ix a0.toInt r_9.toInt := h_12
  have lo_r_9 := k_lo r_9
  have hi_r_9 := k_hi r_9
  refine lv_goto (tgt := 36) hx hb dJ0_indexOf_7cf53_20 (by decide +kernel) ?_
  exact hRet () [] h_12 hP hD (by decide +kernel) rfl hS rfl dJ0_indexOf_7cf53_36
theorem bn_cJ0_indexOf_0f7a4_0 : BN cJ0_indexOf_0f7a4 0 0x2b4f4035b810382b := by
  unfold BN; decide +kernel
theorem dJ0_indexOf_0f7a4_0 : decode cJ0_indexOf_0f7a4 0 = .ok (.aload_n 0, 1) := dR0 (k := 0) (i := 0) bn_cJ0_indexOf_0f7a4_0 dop_42 (by decide +kernel)
theorem dJ0_indexOf_0f7a4_1 : decode cJ0_indexOf_0f7a4 1 = .ok (.iload_n 1, 1) := dR0 (k := 0) (i := 1) bn_cJ0_indexOf_0f7a4_0 dop_27 (by decide +kernel)
theorem dJ0_indexOf_0f7a4_2 : decode cJ0_indexOf_0f7a4 2 = .ok (.iconst 0, 1) := dR0 (k := 0) (i := 2) bn_cJ0_indexOf_0f7a4_0 dop_3 (by decide +kernel)
theorem dJ0_indexOf_0f7a4_3 : decode cJ0_indexOf_0f7a4 3 = .ok (.invokevirtual 633, 3) := dR2 (f := Instr.invokevirtual) (k := 0) (i := 3) bn_cJ0_indexOf_0f7a4_0 dop_182 633 (by decide +kernel)
theorem dJ0_indexOf_0f7a4_6 : decode cJ0_indexOf_0f7a4 6 = .ok (.ireturn, 1) := dR0 (k := 0) (i := 6) bn_cJ0_indexOf_0f7a4_0 dop_172 (by decide +kernel)
set_option maxHeartbeats 4000000 in
set_option maxRecDepth 100000 in
theorem c_J0_indexOf_0f7a4G (l : Launch) (D : va_G) (cI : ClassId) (aK aV : Nat → Nat) (sz : Nat) (ix : Nat) (a0 : Int32) (pre0 : ix < 3) (pre1 : 0 ≤ a0.toInt) (pre2 : a0.toInt ≤ 255) : Met l yJ0_indexOf_0f7a4 (gW yJ0_indexOf_0f7a4 cJ0_indexOf_0f7a4 2 (some .int)) ({ frames := 3, cells := 0, slots := 0, locals := 85 } : Room) (kPreX D cI aK aV [.ref (aK ix), .int a0] [] sz) (va_Qi (fun (r : Int32) (u : Unit) => JSX ix a0.toInt r.toInt) (fun u t => kWd D cI (va_A [] sz) [] t) (va_A [] sz)) 0 0 (va_A [] sz) := by
  refine kMetIX (own := RJ0) (by decide +kernel) rfl (Nat.le_of_ble_eq_true rfl) ?_
  intro p e s m args below meth c hx hb hT hown hname hml A Q hK hP hD hS hA hN hXS hRet ls hl
  have hl : lv_has ls 2 [(0, .ref (aK ix)), (1, .int a0)] := hl
  have lo_a0 := k_lo a0
  have hi_a0 := k_hi a0
  have hix := pre0
  refine lv_aload_n hx hb dJ0_indexOf_0f7a4_0 rfl (lv_at hl 0 rfl) ?_
  refine lv_iload_n hx hb dJ0_indexOf_0f7a4_1 rfl (lv_at hl 1 rfl) ?_
  refine lv_iconst (v := 0) hx hb dJ0_indexOf_0f7a4_2 (by decide +kernel) ?_
  refine kJi (wr := []) (va_runV (As := [.int a0, .int 0]) (rest := []) ⟨hx, hb, hml, hown, hT⟩ (c_J0_indexOf_7cf53G l D cI aK aV s.heap.size ix a0 0 (by first | omega | (simp only [zl_0]; first | done | omega) | decide | assumption | rfl) (by first | omega | (simp only [zl_0]; first | done | omega) | decide | assumption | rfl) (by first | omega | (simp only [zl_0]; first | done | omega) | decide | assumption | rfl) (by first | omega | (simp only [zl_0]; first | done | omega) | decide | assumption | rfl)) (cwV 2 hT (gV_in mw_515 mw_512 mw_513 mw_514 mw_14) rfl rfl rfl (by decide +kernel) ⟨Nat.le_of_ble_eq_true rfl, Nat.le_of_ble_eq_true rfl⟩) (kRecvS hK hP hD hN hXS hS hA hix [] rfl (by decide +kernel)) rfl rfl hl.1 rfl (lv_room (Nat.le_of_ble_eq_true rfl)) dJ0_indexOf_0f7a4_3 ⟨Nat.le_of_ble_eq_true rfl, Nat.le_of_ble_eq_true rfl⟩) hP hD hS hA [] [] rfl rfl (by decide +kernel) (by decide +kernel) ?_
  clear hP hD hS
  intro r_1 u_3 H locs w_2 hP hD hS
  replace hP : va_P D vwCl [] H := hP
  replace hD : va_D A [] := hD
  have h_4 := w_2
  try simp only [zl_0] at h_4
  have h_4 : JSX ix a0.toInt r_1.toInt := h_4
  have h_4 : JSX ix a0.toInt r_1.toInt := h_4
  have lo_r_1 := k_lo r_1
  have hi_r_1 := k_hi r_1
  exact hRet () [] h_4 hP hD (by decide +kernel) rfl hS rfl dJ0_indexOf_0f7a4_6
