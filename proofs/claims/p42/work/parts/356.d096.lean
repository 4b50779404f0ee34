
set_option maxHeartbeats 4000000 in
set_option maxRecDepth 100000 in
theorem c_X8_storedFoodD (l : Launch) (D : va_G) (cI : ClassId) (aK aV : Nat → Nat) (k k0 k1 k2 k3 k4 k5 k6 k7 k8 : Nat) (sz : Nat) (c9 : Int32) (c0 : Nat → Int32) (c4 : Nat → Int32) (c5 : Nat → Int32) (c1 : Nat → Int32) (c2 : Nat → Int32) (c3 : Nat → Int32) (c6 : Nat → Int32) (c7 : Nat → Int32) (c8 : Nat → Int32) (gx : Nat → Int32) (pre0 : WKR c0 c1 c2 c3 c4 c5 c6 c7 c8 c9 gx) : Met l yX8_storedFood (gW yX8_storedFood cX8_storedFood 3 (some .int)) ({ frames := 0, cells := 0, slots := 0, locals := 0 } : Room) (kPreX D cI aK aV [.ref k] [(k, .inr (8, [.ref k0, .ref k1, .ref k2, .ref k3, .ref k4, .ref k5, .ref k6, .ref k7, .ref k8, .int c9])), (k0, .inl (cI, 60, .inl c0)), (k4, .inl (cI, 60, .inl c4)), (k5, .inl (cI, 60, .inl c5))] sz) (va_Qi (fun (r : Int32) (u : Unit) => r = sumN (foT gx) (gx 1).toInt.toNat) (fun u t => kWd D cI (va_A [(k, .inr (8, [.ref k0, .ref k1, .ref k2, .ref k3, .ref k4, .ref k5, .ref k6, .ref k7, .ref k8, .int c9])), (k0, .inl (cI, 60, .inl c0)), (k4, .inl (cI, 60, .inl c4)), (k5, .inl (cI, 60, .inl c5))] sz) [(k, .inr (8, [.ref k0, .ref k1, .ref k2, .ref k3, .ref k4, .ref k5, .ref k6, .ref k7, .ref k8, .int c9])), (k0, .inl (cI, 60, .inl c0)), (k4, .inl (cI, 60, .inl c4)), (k5, .inl (cI, 60, .inl c5))] t) (va_A [(k, .inr (8, [.ref k0, .ref k1, .ref k2, .ref k3, .ref k4, .ref k5, .ref k6, .ref k7, .ref k8, .int c9])), (k0, .inl (cI, 60, .inl c0)), (k4, .inl (cI, 60, .inl c4)), (k5, .inl (cI, 60, .inl c5))] sz)) 0 0 (va_A [(k, .inr (8, [.ref k0, .ref k1, .ref k2, .ref k3, .ref k4, .ref k5, .ref k6, .ref k7, .ref k8, .int c9])), (k0, .inl (cI, 60, .inl c0)), (k4, .inl (cI, 60, .inl c4)), (k5, .inl (cI, 60, .inl c5))] sz) := by
  refine kMetIX (own := RX8) (by decide) rfl (Nat.le_of_ble_eq_true rfl) ?_
  intro p e s m args below meth c hx hb hT hown hname hml A Q hK hP hD hS hA hN hXS hRet ls hl
  have hl : lv_has ls 3 [(0, .ref k)] := hl
  have lo_c9 := k_lo c9
  have hi_c9 := k_hi c9
  have pre0 : WKR c0 c1 c2 c3 c4 c5 c6 c7 c8 c9 gx := pre0
  have b_1 : 0 ≤ c9.toInt ∧ c9.toInt ≤ 60 := WKR.n0 pre0
  have t_2 : c9.toInt = (gx 1).toInt := WKR.nt pre0
  refine lv_iconst (v := 0) hx hb dX8_storedFood_0 (by decide) ?_
  refine lv_istore_n (lv' := [(1, .int 0), (0, .ref k)]) hx hb dX8_storedFood_1 rfl hl (by decide) rfl ?_
  clear hl
  intro ls hl
  refine lv_iconst (v := 0) hx hb dX8_storedFood_2 (by decide) ?_
  refine lv_istore_n (lv' := [(2, .int 0), (1, .int 0), (0, .ref k)]) hx hb dX8_storedFood_3 rfl hl (by decide) rfl ?_
  clear hl
  intro ls hl
  have hloop_4 : ∀ (fu_ : Nat) (l4_1 : Int32) (l4_2 : Int32), 0 ≤ l4_2.toInt → 0 ≤ l4_2.toInt → l4_2.toInt ≤ c9.toInt → l4_1 = sumN (foT gx) l4_2.toInt.toNat → (c9.toInt - l4_2.toInt).toNat < fu_ → ∀ (ls : Array Slot) (H : Heap) (locs : List Loc), lv_has ls 3 [(2, .int l4_2), (1, .int l4_1), (0, .ref k)] → va_P D vwCl [(k, .inr (8, [.ref k0, .ref k1, .ref k2, .ref k3, .ref k4, .ref k5, .ref k6, .ref k7, .ref k8, .int c9])), (k0, .inl (cI, 60, .inl c0)), (k4, .inl (cI, 60, .inl c4)), (k5, .inl (cI, 60, .inl c5))] H → va_D A [(k, .inr (8, [.ref k0, .ref k1, .ref k2, .ref k3, .ref k4, .ref k5, .ref k6, .ref k7, .ref k8, .int c9])), (k0, .inl (cI, 60, .inl c0)), (k4, .inl (cI, 60, .inl c4)), (k5, .inl (cI, 60, .inl c5))] → va_S A s.heap H locs → W p l e ({ frames := 0, cells := 0, slots := 0, locals := 0 } : Room) s m args below meth c H locs 0 0 Q (F0 m 4 ls []) := by
    intro fu_; induction fu_ with
    | zero => intro l4_1 l4_2 i4_0 i4_1 i4_2 i4_3 hm; exact absurd hm (by omega)
    | succ fu_ ih4 =>
        intro l4_1 l4_2 i4_0 i4_1 i4_2 i4_3 hm ls H locs hl hP hD hS
        have lo_l4_1 := k_lo l4_1
        have hi_l4_1 := k_hi l4_1
        have lo_l4_2 := k_lo l4_2
        have hi_l4_2 := k_hi l4_2
        have i4_3 : l4_1 = sumN (foT gx) l4_2.toInt.toNat := i4_3
        refine lv_iload_n hx hb dX8_storedFood_4 rfl (lv_at hl 0 rfl) ?_
        refine lv_aload_n hx hb dX8_storedFood_5 rfl (lv_at hl 2 rfl) ?_
        refine va_get (D := D) (ci := 8) (v := .int c9) (C := RX8) (T := TX8) (N := 10) hx hb hT giX8 hown hK hP 0 rfl rfl 9 (by decide) (hT (Cond.fieldLink RX8 39 "DesertWire$Works" "number" "I") mw_49) (fun _ h9 => h9) rfl dX8_storedFood_6 ?_
        refine b_icmp_ge hx hb rfl rfl (tgt := 52) dX8_storedFood_9 (by decide) (fun c_3 => ?_) (fun c_3 => ?_)
        · refine lv_iload_n hx hb dX8_storedFood_52 rfl (lv_at hl 1 rfl) ?_
          exact hRet () [0, 1, 2, 3] (by rw [show (gx 1).toInt.toNat = l4_2.toInt.toNat from by omega]; exact i4_3) hP hD (by decide) rfl hS rfl dX8_storedFood_53
        · refine lv_iload_n hx hb dX8_storedFood_12 rfl (lv_at hl 0 rfl) ?_
          refine lv_bipush (v := 60) hx hb dX8_storedFood_13 (by decide) ?_
          refine b_icmp_ge hx hb rfl zl_60 (tgt := 52) dX8_storedFood_15 (by decide) (fun c_4 => by exfalso; omega) (fun c_4 => ?_)
          refine lv_aload_n hx hb dX8_storedFood_18 rfl (lv_at hl 2 rfl) ?_
          refine va_get (D := D) (ci := 8) (v := .ref k0) (C := RX8) (T := TX8) (N := 10) hx hb hT giX8 hown hK hP 0 rfl rfl 0 (by decide) (hT (Cond.fieldLink RX8 9 "DesertWire$Works" "kinds" "[I") mw_40) (fun _ h9 => h9) rfl dX8_storedFood_19 ?_
          refine lv_iload_n hx hb dX8_storedFood_22 rfl (lv_at hl 0 rfl) ?_
          refine k_iald (v := (c0 l4_2.toNatClampNeg)) hx hb hK hP 1 0 rfl rfl (k_in (by omega) (by omega)) rfl dX8_storedFood_23 ?_
          refine lv_topi (fun v_5 ev_5 => ?_)
          have lo_v_5 := k_lo v_5
          have hi_v_5 := k_hi v_5
          have tv_5 : v_5.toInt = (c0 l4_2.toNatClampNeg).toInt := by rw [ev_5]
          have h_6 : v_5 = wW gx l4_2 0 := Eq.trans ev_5 (WKR.r0 pre0 (by omega) (by omega))
          have t_7 : v_5.toInt = (wW gx l4_2 0).toInt := by rw [h_6]
          refine lv_iconst (v := 5) hx hb dX8_storedFood_24 (by decide) ?_
          refine b_icmp_ne hx hb rfl zl_5 (tgt := 46) dX8_storedFood_25 (by decide) (fun c_8 => ?_) (fun c_8 => ?_)
          · obtain ⟨v_9, ev_9⟩ : ∃ y : Int32, y = l4_2 + 1 := ⟨_, rfl⟩
            have tv_9 : v_9.toInt = l4_2.toInt + 1 := by rw [ev_9]; exact k_addv rfl zl_1 (by omega) (by omega)
            refine lv_iinc (v := v_9) (lv' := [(2, .int v_9), (1, .int l4_1), (0, .ref k)]) hx hb dX8_storedFood_46 hl (k := 0) rfl (by rw [ev_9]; rfl) (by decide) rfl ?_
            clear hl
            intro ls hl
            refine lv_goto (tgt := 4) hx hb dX8_storedFood_49 (by decide) ?_
            exact ih4 l4_1 v_9 (by first | omega | decide | assumption | rfl) (by first | omega | decide | assumption | rfl) (by first | omega | decide | assumption | rfl) (su_n i4_3 (by omega) (by omega) (fo_n (fun z1 z2 => by omega))) (by omega) ls _ _ (lv_sub hl [0, 1, 2] rfl) (hP.sub [0, 1, 2, 3] rfl) (hD.sub [0, 1, 2, 3] (by decide) rfl) hS
          · refine lv_aload_n hx hb dX8_storedFood_28 rfl (lv_at hl 2 rfl) ?_
            refine va_get (D := D) (ci := 8) (v := .ref k5) (C := RX8) (T := TX8) (N := 10) hx hb hT giX8 hown hK hP 0 rfl rfl 5 (by decide) (hT (Cond.fieldLink RX8 27 "DesertWire$Works" "downs" "[I") mw_45) (fun _ h9 => h9) rfl dX8_storedFood_29 ?_
            refine lv_iload_n hx hb dX8_storedFood_32 rfl (lv_at hl 0 rfl) ?_
            refine k_iald (v := (c5 l4_2.toNatClampNeg)) hx hb hK hP 3 0 rfl rfl (k_in (by omega) (by omega)) rfl dX8_storedFood_33 ?_
            refine lv_topi (fun v_10 ev_10 => ?_)
            have lo_v_10 := k_lo v_10
            have hi_v_10 := k_hi v_10
            have tv_10 : v_10.toInt = (c5 l4_2.toNatClampNeg).toInt := by rw [ev_10]
            have h_11 : v_10 = wW gx l4_2 4 := Eq.trans ev_10 (WKR.r4 pre0 (by omega) (by omega))
            have t_12 : v_10.toInt = (wW gx l4_2 4).toInt := by rw [h_11]
            refine b_if_ne hx hb rfl (tgt := 46) dX8_storedFood_34 (by decide) (fun c_13 => ?_) (fun c_13 => ?_)
            · obtain ⟨v_14, ev_14⟩ : ∃ y : Int32, y = l4_2 + 1 := ⟨_, rfl⟩
              have tv_14 : v_14.toInt = l4_2.toInt + 1 := by rw [ev_14]; exact k_addv rfl zl_1 (by omega) (by omega)
              refine lv_iinc (v := v_14) (lv' := [(2, .int v_14), (1, .int l4_1), (0, .ref k)]) hx hb dX8_storedFood_46 hl (k := 0) rfl (by rw [ev_14]; rfl) (by decide) rfl ?_
              clear hl
              intro ls hl
              refine lv_goto (tgt := 4) hx hb dX8_storedFood_49 (by decide) ?_
              exact ih4 l4_1 v_14 (by first | omega | decide | assumption | rfl) (by first | omega | decide | assumption | rfl) (by first | omega | decide | assumption | rfl) (su_n i4_3 (by omega) (by omega) (fo_n (fun z1 z2 => by omega))) (by omega) ls _ _ (lv_sub hl [0, 1, 2] rfl) (hP.sub [0, 1, 2, 3] rfl) (hD.sub [0, 1, 2, 3] (by decide) rfl) hS
            · refine lv_iload_n hx hb dX8_storedFood_37 rfl (lv_at hl 1 rfl) ?_
              refine lv_aload_n hx hb dX8_storedFood_38 rfl (lv_at hl 2 rfl) ?_
              refine va_get (D := D) (ci := 8) (v := .ref k4) (C := RX8) (T := TX8) (N := 10) hx hb hT giX8 hown hK hP 0 rfl rfl 4 (by decide) (hT (Cond.fieldLink RX8 24 "DesertWire$Works" "foods" "[I") mw_44) (fun _ h9 => h9) rfl dX8_storedFood_39 ?_
              refine lv_iload_n hx hb dX8_storedFood_42 rfl (lv_at hl 0 rfl) ?_
              refine k_iald (v := (c4 l4_2.toNatClampNeg)) hx hb hK hP 2 0 rfl rfl (k_in (by omega) (by omega)) rfl dX8_storedFood_43 ?_
              refine lv_topi (fun v_15 ev_15 => ?_)
              have lo_v_15 := k_lo v_15
              have hi_v_15 := k_hi v_15
              have tv_15 : v_15.toInt = (c4 l4_2.toNatClampNeg).toInt := by rw [ev_15]
              have h_16 : v_15 = wW gx l4_2 5 := Eq.trans ev_15 (WKR.r5 pre0 (by omega) (by omega))
              have t_17 : v_15.toInt = (wW gx l4_2 5).toInt := by rw [h_16]
              refine lv_iadd hx hb dX8_storedFood_44 ?_
              refine lv_topi (fun v_18 ev_18 => ?_)
              have lo_v_18 := k_lo v_18
              have hi_v_18 := k_hi v_18
              refine lv_istore_n (lv' := [(1, .int v_18), (2, .int l4_2), (0, .ref k)]) hx hb dX8_storedFood_45 rfl hl (by decide) rfl ?_
              clear hl
              intro ls hl
              obtain ⟨v_19, ev_19⟩ : ∃ y : Int32, y = l4_2 + 1 := ⟨_, rfl⟩
              have tv_19 : v_19.toInt = l4_2.toInt + 1 := by rw [ev_19]; exact k_addv rfl zl_1 (by omega) (by omega)
              refine lv_iinc (v := v_19) (lv' := [(2, .int v_19), (1, .int v_18), (0, .ref k)]) hx hb dX8_storedFood_46 hl (k := 1) rfl (by rw [ev_19]; rfl) (by decide) rfl ?_
              clear hl
              intro ls hl
              refine lv_goto (tgt := 4) hx hb dX8_storedFood_49 (by decide) ?_
              exact ih4 v_18 v_19 (by first | omega | decide | assumption | rfl) (by first | omega | decide | assumption | rfl) (by first | omega | decide | assumption | rfl) (su_s i4_3 (by omega) (by omega) (fo_y h_16 (by omega) (by omega)) ev_18) (by omega) ls _ _ (lv_sub hl [0, 1, 2] rfl) (hP.sub [0, 1, 2, 3] rfl) (hD.sub [0, 1, 2, 3] (by decide) rfl) hS
  exact hloop_4 _ 0 0 (by first | omega | (simp only [zl_0]; first | done | omega) | decide | assumption | rfl) (by first | omega | (simp only [zl_0]; first | done | omega) | decide | assumption | rfl) (by first | omega | (simp only [zl_0]; first | done | omega) | decide | assumption | rfl) (by rw [zl_0]; rfl) (Nat.lt_succ_self _) ls _ _ (lv_sub hl [0, 1, 2] rfl) hP hD hS

set_option maxHeartbeats 4000000 in
set_option maxRecDepth 100000 in
theorem c_X3_lostD (l : Launch) (D : va_G) (cI : ClassId) (aK aV : Nat → Nat) (k k0 : Nat) (sz : Nat) (c1 : Int32) (c0 : Nat → Int32) (gx : Nat → Int32) (pre0 : PTR c0 c1 gx) : Met l yX3_lost (gW yX3_lost cX3_lost 3 (some .int)) ({ frames := 3, cells := 0, slots := 0, locals := 64 } : Room) (kPreX D cI aK aV [.ref k] [(k, .inr (3, [.ref k0, .int c1])), (k0, .inl (cI, 36, .inl c0))] sz) (va_Qi (fun (r : Int32) (u : Unit) => r = sumN (loT gx) (gx 2).toInt.toNat) (fun u t => kWd D cI (va_A [(k, .inr (3, [.ref k0, .int c1])), (k0, .inl (cI, 36, .inl c0))] sz) [(k, .inr (3, [.ref k0, .int c1])), (k0, .inl (cI, 36, .inl c0))] t) (va_A [(k, .inr (3, [.ref k0, .int c1])), (k0, .inl (cI, 36, .inl c0))] sz)) 0 0 (va_A [(k, .inr (3, [.ref k0, .int c1])), (k0, .inl (cI, 36, .inl c0))] sz) := by
  refine kMetIX (own := RX3) (by decide) rfl (Nat.le_of_ble_eq_true rfl) ?_
  intro p e s m args below meth c hx hb hT hown hname hml A Q hK hP hD hS hA hN hXS hRet ls hl
  have hl : lv_has ls 3 [(0, .ref k)] := hl
  have lo_c1 := k_lo c1
  have hi_c1 := k_hi c1
  have pre0 : PTR c0 c1 gx := pre0
  have b_1 : 0 ≤ c1.toInt ∧ c1.toInt ≤ 4 := (pre0).2.1
  have t_2 : c1.toInt = (gx 2).toInt := PTR.nt pre0
  refine lv_iconst (v := 0) hx hb dX3_lost_0 (by decide) ?_
  refine lv_istore_n (lv' := [(1, .int 0), (0, .ref k)]) hx hb dX3_lost_1 rfl hl (by decide) rfl ?_
  clear hl
  intro ls hl
  refine lv_iconst (v := 0) hx hb dX3_lost_2 (by decide) ?_
  refine lv_istore_n (lv' := [(2, .int 0), (1, .int 0), (0, .ref k)]) hx hb dX3_lost_3 rfl hl (by decide) rfl ?_
  clear hl
  intro ls hl
  have hloop_4 : ∀ (fu_ : Nat) (l4_1 : Int32) (l4_2 : Int32), 0 ≤ l4_2.toInt → 0 ≤ l4_2.toInt → l4_2.toInt ≤ c1.toInt → l4_1 = sumN (loT gx) l4_2.toInt.toNat → (c1.toInt - l4_2.toInt).toNat < fu_ → ∀ (ls : Array Slot) (H : Heap) (locs : List Loc), lv_has ls 3 [(2, .int l4_2), (1, .int l4_1), (0, .ref k)] → va_P D vwCl [(k, .inr (3, [.ref k0, .int c1])), (k0, .inl (cI, 36, .inl c0))] H → va_D A [(k, .inr (3, [.ref k0, .int c1])), (k0, .inl (cI, 36, .inl c0))] → va_S A s.heap H locs → W p l e ({ frames := 3, cells := 0, slots := 0, locals := 64 } : Room) s m args below meth c H locs 0 0 Q (F0 m 4 ls []) := by
    intro fu_; induction fu_ with
    | zero => intro l4_1 l4_2 i4_0 i4_1 i4_2 i4_3 hm; exact absurd hm (by omega)
    | succ fu_ ih4 =>
        intro l4_1 l4_2 i4_0 i4_1 i4_2 i4_3 hm ls H locs hl hP hD hS
        have lo_l4_1 := k_lo l4_1
        have hi_l4_1 := k_hi l4_1
        have lo_l4_2 := k_lo l4_2
        have hi_l4_2 := k_hi l4_2
        have i4_3 : l4_1 = sumN (loT gx) l4_2.toInt.toNat := i4_3
        refine lv_iload_n hx hb dX3_lost_4 rfl (lv_at hl 0 rfl) ?_
        refine lv_aload_n hx hb dX3_lost_5 rfl (lv_at hl 2 rfl) ?_
        refine va_get (D := D) (ci := 3) (v := .int c1) (C := RX3) (T := TX3) (N := 2) hx hb hT giX3 hown hK hP 0 rfl rfl 1 (by decide) (hT (Cond.fieldLink RX3 15 "DesertWire$Parties" "number" "I") mw_81) (fun _ h9 => h9) rfl dX3_lost_6 ?_
        refine b_icmp_ge hx hb rfl rfl (tgt := 29) dX3_lost_9 (by decide) (fun c_3 => ?_) (fun c_3 => ?_)
        · refine lv_iload_n hx hb dX3_lost_29 rfl (lv_at hl 1 rfl) ?_
          exact hRet () [0, 1] (by rw [show (gx 2).toInt.toNat = l4_2.toInt.toNat from by omega]; exact i4_3) hP hD (by decide) rfl hS rfl dX3_lost_30
        · refine lv_aload_n hx hb dX3_lost_12 rfl (lv_at hl 2 rfl) ?_
          refine lv_iload_n hx hb dX3_lost_13 rfl (lv_at hl 0 rfl) ?_
          refine kJi (wr := []) (va_runV (As := [.int l4_2]) (rest := []) ⟨hx, hb, hml, hown, hT⟩ (c_X3_isLostD l D cI aK aV k k0 H.size c1 c0 gx l4_2 pre0 (by first | omega | decide | assumption | rfl) (by first | omega | decide | assumption | rfl)) (cwV 1 hT (gV_in mw_734 mw_1133 mw_732 mw_733 mw_4) rfl rfl rfl (by decide +kernel) ⟨Nat.le_of_ble_eq_true rfl, Nat.le_of_ble_eq_true rfl⟩) (kRecvX (q0 := 0) (ci := 3) hK hP hD hN hXS hS hA rfl rfl [0, 1] rfl (by decide)) rfl rfl hl.1 rfl (lv_room (Nat.le_of_ble_eq_true rfl)) dX3_lost_14 ⟨Nat.le_of_ble_eq_true rfl, Nat.le_of_ble_eq_true rfl⟩) hP hD hS hA [0, 1] [] rfl rfl (by decide) (by decide) ?_
          clear hP hD hS
          intro r_4 u_6 H locs w_5 hP hD hS
          replace hP : va_P D vwCl [(k, .inr (3, [.ref k0, .int c1])), (k0, .inl (cI, 36, .inl c0))] H := hP
          replace hD : va_D A [(k, .inr (3, [.ref k0, .int c1])), (k0, .inl (cI, 36, .inl c0))] := hD
          rcases w_5 with ⟨hr_4, h_7⟩ | ⟨hr_4, h_8⟩
          · have h_7 : (pW gx l4_2 8).toInt = 2 := h_7
            obtain rfl : r_4 = 1 := hr_4.trans (by decide)
            refine b_if_eq hx hb zl_1 (tgt := 23) dX3_lost_17 (by decide) (fun c_9 => by exfalso; omega) (fun c_9 => ?_)
            obtain ⟨v_10, ev_10⟩ : ∃ y : Int32, y = l4_1 + 1 := ⟨_, rfl⟩
            have lo_v_10 := k_lo v_10
            have hi_v_10 := k_hi v_10
            refine lv_iinc (v := v_10) (lv' := [(1, .int v_10), (2, .int l4_2), (0, .ref k)]) hx hb dX3_lost_20 hl (k := 1) rfl (by rw [ev_10]; rfl) (by decide) rfl ?_
            clear hl
            intro ls hl
            obtain ⟨v_11, ev_11⟩ : ∃ y : Int32, y = l4_2 + 1 := ⟨_, rfl⟩
            have tv_11 : v_11.toInt = l4_2.toInt + 1 := by rw [ev_11]; exact k_addv rfl zl_1 (by omega) (by omega)
            refine lv_iinc (v := v_11) (lv' := [(2, .int v_11), (1, .int v_10), (0, .ref k)]) hx hb dX3_lost_23 hl (k := 1) rfl (by rw [ev_11]; rfl) (by decide) rfl ?_
            clear hl
            intro ls hl
            refine lv_goto (tgt := 4) hx hb dX3_lost_26 (by decide) ?_
            exact ih4 v_10 v_11 (by first | omega | decide | assumption | rfl) (by first | omega | decide | assumption | rfl) (by first | omega | decide | assumption | rfl) (su_s i4_3 (by omega) (by omega) (lo_y (f := gx) (p := l4_2) (by omega)) ev_10) (by omega) ls _ _ (lv_sub hl [0, 1, 2] rfl) (hP.sub [0, 1] rfl) (hD.sub [0, 1] (by decide) rfl) hS
          · have h_8 : (pW gx l4_2 8).toInt ≠ 2 := h_8
            obtain rfl : r_4 = 0 := hr_4.trans (by decide)
            refine b_if_eq hx hb zl_0 (tgt := 23) dX3_lost_17 (by decide) (fun c_12 => ?_) (fun c_12 => by exfalso; omega)
            obtain ⟨v_13, ev_13⟩ : ∃ y : Int32, y = l4_2 + 1 := ⟨_, rfl⟩
            have tv_13 : v_13.toInt = l4_2.toInt + 1 := by rw [ev_13]; exact k_addv rfl zl_1 (by omega) (by omega)
            refine lv_iinc (v := v_13) (lv' := [(2, .int v_13), (1, .int l4_1), (0, .ref k)]) hx hb dX3_lost_23 hl (k := 0) rfl (by rw [ev_13]; rfl) (by decide) rfl ?_
            clear hl
            intro ls hl
            refine lv_goto (tgt := 4) hx hb dX3_lost_26 (by decide) ?_
            exact ih4 l4_1 v_13 (by first | omega | decide | assumption | rfl) (by first | omega | decide | assumption | rfl) (by first | omega | decide | assumption | rfl) (su_n i4_3 (by omega) (by omega) (lo_n (by omega))) (by omega) ls _ _ (lv_sub hl [0, 1, 2] rfl) (hP.sub [0, 1] rfl) (hD.sub [0, 1] (by decide) rfl) hS
  exact hloop_4 _ 0 0 (by first | omega | (simp only [zl_0]; first | done | omega) | decide | assumption | rfl) (by first | omega | (simp only [zl_0]; first | done | omega) | decide | assumption | rfl) (by first | omega | (simp only [zl_0]; first | done | omega) | decide | assumption | rfl) (by rw [zl_0]; rfl) (Nat.lt_succ_self _) ls _ _ (lv_sub hl [0, 1, 2] rfl) hP hD hS

set_option maxHeartbeats 4000000 in
set_option maxRecDepth 100000 in
theorem c_X3_allMenD (l : Launch) (D : va_G) (cI : ClassId) (aK aV : Nat → Nat) (k k0 : Nat) (sz : Nat) (c1 : Int32) (c0 : Nat → Int32) (gx : Nat → Int32) (pre0 : PTR c0 c1 gx) : Met l yX3_allMen (gW yX3_allMen cX3_allMen 3 (some .int)) ({ frames := 2, cells := 0, slots := 0, locals := 43 } : Room) (kPreX D cI aK aV [.ref k] [(k, .inr (3, [.ref k0, .int c1])), (k0, .inl (cI, 36, .inl c0))] sz) (va_Qi (fun (r : Int32) (u : Unit) => r = sumN (meT gx) (gx 2).toInt.toNat) (fun u t => kWd D cI (va_A [(k, .inr (3, [.ref k0, .int c1])), (k0, .inl (cI, 36, .inl c0))] sz) [(k, .inr (3, [.ref k0, .int c1])), (k0, .inl (cI, 36, .inl c0))] t) (va_A [(k, .inr (3, [.ref k0, .int c1])), (k0, .inl (cI, 36, .inl c0))] sz)) 0 0 (va_A [(k, .inr (3, [.ref k0, .int c1])), (k0, .inl (cI, 36, .inl c0))] sz) := by
  refine kMetIX (own := RX3) (by decide) rfl (Nat.le_of_ble_eq_true rfl) ?_
  intro p e s m args below meth c hx hb hT hown hname hml A Q hK hP hD hS hA hN hXS hRet ls hl
  have hl : lv_has ls 3 [(0, .ref k)] := hl
  have lo_c1 := k_lo c1
  have hi_c1 := k_hi c1
  have pre0 : PTR c0 c1 gx := pre0
  have b_1 : 0 ≤ c1.toInt ∧ c1.toInt ≤ 4 := (pre0).2.1
  have t_2 : c1.toInt = (gx 2).toInt := PTR.nt pre0
  refine lv_iconst (v := 0) hx hb dX3_allMen_0 (by decide) ?_
  refine lv_istore_n (lv' := [(1, .int 0), (0, .ref k)]) hx hb dX3_allMen_1 rfl hl (by decide) rfl ?_
  clear hl
  intro ls hl
  refine lv_iconst (v := 0) hx hb dX3_allMen_2 (by decide) ?_
  refine lv_istore_n (lv' := [(2, .int 0), (1, .int 0), (0, .ref k)]) hx hb dX3_allMen_3 rfl hl (by decide) rfl ?_
  clear hl
  intro ls hl
  have hloop_4 : ∀ (fu_ : Nat) (l4_1 : Int32) (l4_2 : Int32), 0 ≤ l4_2.toInt → 0 ≤ l4_2.toInt → l4_2.toInt ≤ c1.toInt → l4_1 = sumN (meT gx) l4_2.toInt.toNat → (c1.toInt - l4_2.toInt).toNat < fu_ → ∀ (ls : Array Slot) (H : Heap) (locs : List Loc), lv_has ls 3 [(2, .int l4_2), (1, .int l4_1), (0, .ref k)] → va_P D vwCl [(k, .inr (3, [.ref k0, .int c1])), (k0, .inl (cI, 36, .inl c0))] H → va_D A [(k, .inr (3, [.ref k0, .int c1])), (k0, .inl (cI, 36, .inl c0))] → va_S A s.heap H locs → W p l e ({ frames := 2, cells := 0, slots := 0, locals := 43 } : Room) s m args below meth c H locs 0 0 Q (F0 m 4 ls []) := by
    intro fu_; induction fu_ with
    | zero => intro l4_1 l4_2 i4_0 i4_1 i4_2 i4_3 hm; exact absurd hm (by omega)
    | succ fu_ ih4 =>
        intro l4_1 l4_2 i4_0 i4_1 i4_2 i4_3 hm ls H locs hl hP hD hS
        have lo_l4_1 := k_lo l4_1
        have hi_l4_1 := k_hi l4_1
        have lo_l4_2 := k_lo l4_2
        have hi_l4_2 := k_hi l4_2
        have i4_3 : l4_1 = sumN (meT gx) l4_2.toInt.toNat := i4_3
        refine lv_iload_n hx hb dX3_allMen_4 rfl (lv_at hl 0 rfl) ?_
        refine lv_aload_n hx hb dX3_allMen_5 rfl (lv_at hl 2 rfl) ?_
        refine va_get (D := D) (ci := 3) (v := .int c1) (C := RX3) (T := TX3) (N := 2) hx hb hT giX3 hown hK hP 0 rfl rfl 1 (by decide) (hT (Cond.fieldLink RX3 15 "DesertWire$Parties" "number" "I") mw_81) (fun _ h9 => h9) rfl dX3_allMen_6 ?_
        refine b_icmp_ge hx hb rfl rfl (tgt := 27) dX3_allMen_9 (by decide) (fun c_3 => ?_) (fun c_3 => ?_)
        · refine lv_iload_n hx hb dX3_allMen_27 rfl (lv_at hl 1 rfl) ?_
          exact hRet () [0, 1] (by rw [show (gx 2).toInt.toNat = l4_2.toInt.toNat from by omega]; exact i4_3) hP hD (by decide) rfl hS rfl dX3_allMen_28
        · refine lv_iload_n hx hb dX3_allMen_12 rfl (lv_at hl 1 rfl) ?_
          refine lv_aload_n hx hb dX3_allMen_13 rfl (lv_at hl 2 rfl) ?_
          refine lv_iload_n hx hb dX3_allMen_14 rfl (lv_at hl 0 rfl) ?_
          refine lv_iconst (v := 2) hx hb dX3_allMen_15 (by decide) ?_
          refine kJi (wr := []) (va_runV (As := [.int l4_2, .int 2]) (rest := [.int l4_1]) ⟨hx, hb, hml, hown, hT⟩ (c_X3_getD2 l D cI aK aV k k0 H.size c1 c0 gx l4_2 2 pre0 (by first | omega | (simp only [zl_2]; first | done | omega) | decide | assumption | rfl) (by first | omega | (simp only [zl_2]; first | done | omega) | decide | assumption | rfl) (by first | omega | (simp only [zl_2]; first | done | omega) | decide | assumption | rfl)) (cwV 2 hT (gV_in mw_726 mw_735 mw_724 mw_725 mw_4) rfl rfl rfl (by decide +kernel) ⟨Nat.le_of_ble_eq_true rfl, Nat.le_of_ble_eq_true rfl⟩) (kRecvX (q0 := 0) (ci := 3) hK hP hD hN hXS hS hA rfl rfl [0, 1] rfl (by decide)) rfl rfl hl.1 rfl (lv_room (Nat.le_of_ble_eq_true rfl)) dX3_allMen_16 ⟨Nat.le_of_ble_eq_true rfl, Nat.le_of_ble_eq_true rfl⟩) hP hD hS hA [0, 1] [] rfl rfl (by decide) (by decide) ?_
          clear hP hD hS
          intro r_4 u_6 H locs w_5 hP hD hS
          replace hP : va_P D vwCl [(k, .inr (3, [.ref k0, .int c1])), (k0, .inl (cI, 36, .inl c0))] H := hP
          replace hD : va_D A [(k, .inr (3, [.ref k0, .int c1])), (k0, .inl (cI, 36, .inl c0))] := hD
          have h_7 := w_5
          have h_7 : r_4 = pW gx l4_2 2 := h_7
          have t_8 : r_4.toInt = (pW gx l4_2 2).toInt := by rw [h_7]
          have lo_r_4 := k_lo r_4
          have hi_r_4 := k_hi r_4
          refine lv_iadd hx hb dX3_allMen_19 ?_
          refine lv_topi (fun v_9 ev_9 => ?_)
          have lo_v_9 := k_lo v_9
          have hi_v_9 := k_hi v_9
          refine lv_istore_n (lv' := [(1, .int v_9), (2, .int l4_2), (0, .ref k)]) hx hb dX3_allMen_20 rfl hl (by decide) rfl ?_
          clear hl
          intro ls hl
          obtain ⟨v_10, ev_10⟩ : ∃ y : Int32, y = l4_2 + 1 := ⟨_, rfl⟩
          have tv_10 : v_10.toInt = l4_2.toInt + 1 := by rw [ev_10]; exact k_addv rfl zl_1 (by omega) (by omega)
          refine lv_iinc (v := v_10) (lv' := [(2, .int v_10), (1, .int v_9), (0, .ref k)]) hx hb dX3_allMen_21 hl (k := 1) rfl (by rw [ev_10]; rfl) (by decide) rfl ?_
          clear hl
          intro ls hl
          refine lv_goto (tgt := 4) hx hb dX3_allMen_24 (by decide) ?_
          exact ih4 v_9 v_10 (by first | omega | decide | assumption | rfl) (by first | omega | decide | assumption | rfl) (by first | omega | decide | assumption | rfl) (su_s i4_3 (by omega) (by omega) h_7 ev_9) (by omega) ls _ _ (lv_sub hl [0, 1, 2] rfl) (hP.sub [0, 1] rfl) (hD.sub [0, 1] (by decide) rfl) hS
  exact hloop_4 _ 0 0 (by first | omega | (simp only [zl_0]; first | done | omega) | decide | assumption | rfl) (by first | omega | (simp only [zl_0]; first | done | omega) | decide | assumption | rfl) (by first | omega | (simp only [zl_0]; first | done | omega) | decide | assumption | rfl) (by rw [zl_0]; rfl) (Nat.lt_succ_self _) ls _ _ (lv_sub hl [0, 1, 2] rfl) hP hD hS

set_option maxHeartbeats 4000000 in
set_option maxRecDepth 100000 in
theorem c_X10_countD (l : Launch) (D : va_G) (cI : ClassId) (aK aV : Nat → Nat) (k k0 k1 k2 k3 k4 k5 k6 k7 k8 k9 ka kb k00 k01 k02 k03 k04 k05 k30 k31 k32 k33 k34 k90 k040 k041 k042 k043 k044 k045 k046 k047 k048 k050 : Nat) (sz : Nat) (cc : Int32) (c06 : Int32) (c07 : Int32) (c08 : Int32) (c35 : Int32) (c36 : Int32) (c91 : Int32) (c92 : Int32) (c93 : Int32) (c94 : Int32) (cb : Nat → Int32) (c049 : Int32) (c051 : Int32) (c040 : Nat → Int32) (c044 : Nat → Int32) (c045 : Nat → Int32) (c046 : Nat → Int32) (c050 : Nat → Int32) (c00 : Nat → Int32) (c01 : Nat → Int32) (c02 : Nat → Int32) (c03 : Nat → Int32) (c041 : Nat → Int32) (c042 : Nat → Int32) (c043 : Nat → Int32) (c047 : Nat → Int32) (c048 : Nat → Int32) (gx : Nat → Int32) (a0 : Int32) (pre0 : WR c00 c01 c02 c03 c040 c041 c042 c043 c044 c045 c046 c047 c048 c049 c050 c051 c06 c07 c08 gx) : Met l yX10_count (gW yX10_count cX10_count 2 (some .int)) ({ frames := 4, cells := 0, slots := 0, locals := 86 } : Room) (kPreX D cI aK aV [.ref k, .int a0] [(k, .inr (10, [.ref k0, .ref k1, .ref k2, .ref k3, .ref k4, .ref k5, .ref k6, .ref k7, .ref k8, .ref k9, .ref ka, .ref kb, .int cc])), (k0, .inr (9, [.ref k00, .ref k01, .ref k02, .ref k03, .ref k04, .ref k05, .int c06, .int c07, .int c08])), (k3, .inr (4, [.ref k30, .ref k31, .ref k32, .ref k33, .ref k34, .int c35, .int c36])), (k9, .inr (7, [.ref k90, .int c91, .int c92, .int c93, .int c94])), (kb, .inl (cI, 6, .inl cb)), (k04, .inr (8, [.ref k040, .ref k041, .ref k042, .ref k043, .ref k044, .ref k045, .ref k046, .ref k047, .ref k048, .int c049])), (k05, .inr (3, [.ref k050, .int c051])), (k040, .inl (cI, 60, .inl c040)), (k044, .inl (cI, 60, .inl c044)), (k045, .inl (cI, 60, .inl c045)), (k046, .inl (cI, 40, .inl c046)), (k050, .inl (cI, 36, .inl c050))] sz) (va_Qi (fun (r : Int32) (u : (Nat → Int32)) => r = cntR gx a0 c36 c35 c91) (fun u t => kWd D cI (va_A [(k, .inr (10, [.ref k0, .ref k1, .ref k2, .ref k3, .ref k4, .ref k5, .ref k6, .ref k7, .ref k8, .ref k9, .ref ka, .ref kb, .int cc])), (k0, .inr (9, [.ref k00, .ref k01, .ref k02, .ref k03, .ref k04, .ref k05, .int c06, .int c07, .int c08])), (k3, .inr (4, [.ref k30, .ref k31, .ref k32, .ref k33, .ref k34, .int c35, .int c36])), (k9, .inr (7, [.ref k90, .int c91, .int c92, .int c93, .int c94])), (kb, .inl (cI, 6, .inl cb)), (k04, .inr (8, [.ref k040, .ref k041, .ref k042, .ref k043, .ref k044, .ref k045, .ref k046, .ref k047, .ref k048, .int c049])), (k05, .inr (3, [.ref k050, .int c051])), (k040, .inl (cI, 60, .inl c040)), (k044, .inl (cI, 60, .inl c044)), (k045, .inl (cI, 60, .inl c045)), (k046, .inl (cI, 40, .inl c046)), (k050, .inl (cI, 36, .inl c050))] sz) [(k, .inr (10, [.ref k0, .ref k1, .ref k2, .ref k3, .ref k4, .ref k5, .ref k6, .ref k7, .ref k8, .ref k9, .ref ka, .ref kb, .int cc])), (k0, .inr (9, [.ref k00, .ref k01, .ref k02, .ref k03, .ref k04, .ref k05, .int c06, .int c07, .int c08])), (k3, .inr (4, [.ref k30, .ref k31, .ref k32, .ref k33, .ref k34, .int c35, .int c36])), (k9, .inr (7, [.ref k90, .int c91, .int c92, .int c93, .int c94])), (kb, .inl (cI, 6, .inl u)), (k04, .inr (8, [.ref k040, .ref k041, .ref k042, .ref k043, .ref k044, .ref k045, .ref k046, .ref k047, .ref k048, .int c049])), (k05, .inr (3, [.ref k050, .int c051])), (k040, .inl (cI, 60, .inl c040)), (k044, .inl (cI, 60, .inl c044)), (k045, .inl (cI, 60, .inl c045)), (k046, .inl (cI, 40, .inl c046)), (k050, .inl (cI, 36, .inl c050))] t) (va_A [(k, .inr (10, [.ref k0, .ref k1, .ref k2, .ref k3, .ref k4, .ref k5, .ref k6, .ref k7, .ref k8, .ref k9, .ref ka, .ref kb, .int cc])), (k0, .inr (9, [.ref k00, .ref k01, .ref k02, .ref k03, .ref k04, .ref k05, .int c06, .int c07, .int c08])), (k3, .inr (4, [.ref k30, .ref k31, .ref k32, .ref k33, .ref k34, .int c35, .int c36])), (k9, .inr (7, [.ref k90, .int c91, .int c92, .int c93, .int c94])), (kb, .inl (cI, 6, .inl cb)), (k04, .inr (8, [.ref k040, .ref k041, .ref k042, .ref k043, .ref k044, .ref k045, .ref k046, .ref k047, .ref k048, .int c049])), (k05, .inr (3, [.ref k050, .int c051])), (k040, .inl (cI, 60, .inl c040)), (k044, .inl (cI, 60, .inl c044)), (k045, .inl (cI, 60, .inl c045)), (k046, .inl (cI, 40, .inl c046)), (k050, .inl (cI, 36, .inl c050))] sz)) 0 0 (va_A [(k, .inr (10, [.ref k0, .ref k1, .ref k2, .ref k3, .ref k4, .ref k5, .ref k6, .ref k7, .ref k8, .ref k9, .ref ka, .ref kb, .int cc])), (k0, .inr (9, [.ref k00, .ref k01, .ref k02, .ref k03, .ref k04, .ref k05, .int c06, .int c07, .int c08])), (k3, .inr (4, [.ref k30, .ref k31, .ref k32, .ref k33, .ref k34, .int c35, .int c36])), (k9, .inr (7, [.ref k90, .int c91, .int c92, .int c93, .int c94])), (kb, .inl (cI, 6, .inl cb)), (k04, .inr (8, [.ref k040, .ref k041, .ref k042, .ref k043, .ref k044, .ref k045, .ref k046, .ref k047, .ref k048, .int c049])), (k05, .inr (3, [.ref k050, .int c051])), (k040, .inl (cI, 60, .inl c040)), (k044, .inl (cI, 60, .inl c044)), (k045, .inl (cI, 60, .inl c045)), (k046, .inl (cI, 40, .inl c046)), (k050, .inl (cI, 36, .inl c050))] sz) := by
  refine kMetIX (own := RX10) (by decide) rfl (Nat.le_of_ble_eq_true rfl) ?_
  intro p e s m args below meth c hx hb hT hown hname hml A Q hK hP hD hS hA hN hXS hRet ls hl
  have hl : lv_has ls 2 [(0, .ref k), (1, .int a0)] := hl
  have lo_a0 := k_lo a0
  have hi_a0 := k_hi a0
  have lo_c06 := k_lo c06
  have hi_c06 := k_hi c06
  have lo_c07 := k_lo c07
  have hi_c07 := k_hi c07
  have lo_c08 := k_lo c08
  have hi_c08 := k_hi c08
  have lo_c35 := k_lo c35
  have hi_c35 := k_hi c35
  have lo_c36 := k_lo c36
  have hi_c36 := k_hi c36
  have lo_c91 := k_lo c91
  have hi_c91 := k_hi c91
  have lo_c049 := k_lo c049
  have hi_c049 := k_hi c049
  have lo_c051 := k_lo c051
  have hi_c051 := k_hi c051
  have pre0 : WR c00 c01 c02 c03 c040 c041 c042 c043 c044 c045 c046 c047 c048 c049 c050 c051 c06 c07 c08 gx := pre0
  have b_1 : 0 ≤ c049.toInt ∧ c049.toInt ≤ 60 := WKR.n0 (WR.kw pre0)
  have t_2 : c049.toInt = (gx 1).toInt := WKR.nt (WR.kw pre0)
  have b_3 : 0 ≤ c051.toInt ∧ c051.toInt ≤ 4 := ((WR.kp pre0)).2.1
  have t_4 : c051.toInt = (gx 2).toInt := PTR.nt (WR.kp pre0)
  have t_5 : c08.toInt = (gx 0).toInt := by rw [WR.dd pre0]
  refine lv_iload_n hx hb dX10_count_0 rfl (lv_at hl 1 rfl) ?_
  by_cases c_6 : a0.toInt = 0
  · refine lv_tableIn (off := 67) (tgt := 68) hx hb dX10_count_1 (by omega) (by omega) (by rw [c_6]; decide) (by decide) ?_
    refine lv_aload_n hx hb dX10_count_68 rfl (lv_at hl 0 rfl) ?_
    refine va_get (D := D) (ci := 10) (v := .ref k0) (C := RX10) (T := TX10) (N := 13) hx hb hT giX10 hown hK hP 0 rfl rfl 0 (by decide) (hT (Cond.fieldLink RX10 12 "DesertWire" "now" "LDesertWire$World;") mw_291) (fun _ h9 => h9) rfl dX10_count_69 ?_
    refine va_get (D := D) (ci := 9) (v := .ref k04) (C := RX9) (T := TX9) (N := 9) hx hb hT giX9 hown hK hP 1 rfl rfl 4 (by decide) (hT (Cond.fieldLink RX10 99 "DesertWire$World" "works" "LDesertWire$Works;") mw_99) (fun _ h9 => h9) rfl dX10_count_72 ?_
    refine va_get (D := D) (ci := 8) (v := .int c049) (C := RX8) (T := TX8) (N := 10) hx hb hT giX8 hown hK hP 5 rfl rfl 9 (by decide) (hT (Cond.fieldLink RX10 343 "DesertWire$Works" "number" "I") mw_51) (fun _ h9 => h9) rfl dX10_count_75 ?_
    exact hRet cb [0, 1, 2, 3, 4, 5, 6, 7, 8, 9, 10, 11] (by (try dsimp only); unfold cntR; (repeat (first | rw [if_pos (by omega)] | rw [if_neg (by omega)])); first | done | exact (WKR.qn (WR.kw pre0))) hP hD (by decide) rfl hS rfl dX10_count_78
  by_cases c_7 : a0.toInt = 1
  · refine lv_tableIn (off := 78) (tgt := 79) hx hb dX10_count_1 (by omega) (by omega) (by rw [c_7]; decide) (by decide) ?_
    refine lv_aload_n hx hb dX10_count_79 rfl (lv_at hl 0 rfl) ?_
    refine va_get (D := D) (ci := 10) (v := .ref k0) (C := RX10) (T := TX10) (N := 13) hx hb hT giX10 hown hK hP 0 rfl rfl 0 (by decide) (hT (Cond.fieldLink RX10 12 "DesertWire" "now" "LDesertWire$World;") mw_291) (fun _ h9 => h9) rfl dX10_count_80 ?_
    refine va_get (D := D) (ci := 9) (v := .ref k04) (C := RX9) (T := TX9) (N := 9) hx hb hT giX9 hown hK hP 1 rfl rfl 4 (by decide) (hT (Cond.fieldLink RX10 99 "DesertWire$World" "works" "LDesertWire$Works;") mw_99) (fun _ h9 => h9) rfl dX10_count_83 ?_
    refine kJi (wr := [(k, .inr (10, [.ref k0, .ref k1, .ref k2, .ref k3, .ref k4, .ref k5, .ref k6, .ref k7, .ref k8, .ref k9, .ref ka, .ref kb, .int cc])), (k0, .inr (9, [.ref k00, .ref k01, .ref k02, .ref k03, .ref k04, .ref k05, .int c06, .int c07, .int c08])), (k3, .inr (4, [.ref k30, .ref k31, .ref k32, .ref k33, .ref k34, .int c35, .int c36])), (k9, .inr (7, [.ref k90, .int c91, .int c92, .int c93, .int c94])), (kb, .inl (cI, 6, .inl cb)), (k05, .inr (3, [.ref k050, .int c051])), (k040, .inl (cI, 60, .inl c040)), (k044, .inl (cI, 60, .inl c044)), (k046, .inl (cI, 40, .inl c046)), (k050, .inl (cI, 36, .inl c050))]) (va_runV (As := []) (rest := []) ⟨hx, hb, hml, hown, hT⟩ (c_X8_fallenD l D cI aK aV k04 k040 k041 k042 k043 k044 k045 k046 k047 k048 s.heap.size c049 c045 c040 c041 c042 c043 c044 c046 c047 c048 gx (WR.kw pre0)) (cwV 0 hT (gV_in mw_1128 mw_1125 mw_1126 mw_1127 mw_3) rfl rfl rfl (by decide +kernel) ⟨Nat.le_of_ble_eq_true rfl, Nat.le_of_ble_eq_true rfl⟩) (kRecvX (q0 := 5) (ci := 8) hK hP hD hN hXS hS hA rfl rfl [5, 9] rfl (by decide)) rfl rfl hl.1 rfl (lv_room (Nat.le_of_ble_eq_true rfl)) dX10_count_86 ⟨Nat.le_of_ble_eq_true rfl, Nat.le_of_ble_eq_true rfl⟩) hP hD hS hA [5, 9] [0, 1, 2, 3, 4, 6, 7, 8, 10, 11] rfl rfl (by decide) (by decide) ?_
    clear hP hD hS
    intro r_8 u_10 H locs w_9 hP hD hS
    replace hP : va_P D vwCl [(k, .inr (10, [.ref k0, .ref k1, .ref k2, .ref k3, .ref k4, .ref k5, .ref k6, .ref k7, .ref k8, .ref k9, .ref ka, .ref kb, .int cc])), (k0, .inr (9, [.ref k00, .ref k01, .ref k02, .ref k03, .ref k04, .ref k05, .int c06, .int c07, .int c08])), (k3, .inr (4, [.ref k30, .ref k31, .ref k32, .ref k33, .ref k34, .int c35, .int c36])), (k9, .inr (7, [.ref k90, .int c91, .int c92, .int c93, .int c94])), (kb, .inl (cI, 6, .inl cb)), (k05, .inr (3, [.ref k050, .int c051])), (k040, .inl (cI, 60, .inl c040)), (k044, .inl (cI, 60, .inl c044)), (k046, .inl (cI, 40, .inl c046)), (k050, .inl (cI, 36, .inl c050)), (k04, .inr (8, [.ref k040, .ref k041, .ref k042, .ref k043, .ref k044, .ref k045, .ref k046, .ref k047, .ref k048, .int c049])), (k045, .inl (cI, 60, .inl c045))] H := hP
    replace hD : va_D A [(k, .inr (10, [.ref k0, .ref k1, .ref k2, .ref k3, .ref k4, .ref k5, .ref k6, .ref k7, .ref k8, .ref k9, .ref ka, .ref kb, .int cc])), (k0, .inr (9, [.ref k00, .ref k01, .ref k02, .ref k03, .ref k04, .ref k05, .int c06, .int c07, .int c08])), (k3, .inr (4, [.ref k30, .ref k31, .ref k32, .ref k33, .ref k34, .int c35, .int c36])), (k9, .inr (7, [.ref k90, .int c91, .int c92, .int c93, .int c94])), (kb, .inl (cI, 6, .inl cb)), (k05, .inr (3, [.ref k050, .int c051])), (k040, .inl (cI, 60, .inl c040)), (k044, .inl (cI, 60, .inl c044)), (k046, .inl (cI, 40, .inl c046)), (k050, .inl (cI, 36, .inl c050)), (k04, .inr (8, [.ref k040, .ref k041, .ref k042, .ref k043, .ref k044, .ref k045, .ref k046, .ref k047, .ref k048, .int c049])), (k045, .inl (cI, 60, .inl c045))] := hD
    have h_11 := w_9
    have h_11 : r_8 = sumN (dnT gx) (gx 1).toInt.toNat := h_11
    have h_11 : r_8 = sumN (dnT gx) (gx 1).toInt.toNat := h_11
    have lo_r_8 := k_lo r_8
    have hi_r_8 := k_hi r_8
    exact hRet cb [0, 1, 2, 3, 4, 10, 5, 6, 7, 11, 8, 9] (by (try dsimp only); unfold cntR; (repeat (first | rw [if_pos (by omega)] | rw [if_neg (by omega)])); first | done | exact (h_11)) hP hD (by decide) rfl hS rfl dX10_count_89
  by_cases c_12 : a0.toInt = 2
  · refine lv_tableIn (off := 89) (tgt := 90) hx hb dX10_count_1 (by omega) (by omega) (by rw [c_12]; decide) (by decide) ?_
    refine lv_aload_n hx hb dX10_count_90 rfl (lv_at hl 0 rfl) ?_
    refine va_get (D := D) (ci := 10) (v := .ref k0) (C := RX10) (T := TX10) (N := 13) hx hb hT giX10 hown hK hP 0 rfl rfl 0 (by decide) (hT (Cond.fieldLink RX10 12 "DesertWire" "now" "LDesertWire$World;") mw_291) (fun _ h9 => h9) rfl dX10_count_91 ?_
    refine va_get (D := D) (ci := 9) (v := .ref k05) (C := RX9) (T := TX9) (N := 9) hx hb hT giX9 hown hK hP 1 rfl rfl 5 (by decide) (hT (Cond.fieldLink RX10 193 "DesertWire$World" "parties" "LDesertWire$Parties;") mw_102) (fun _ h9 => h9) rfl dX10_count_94 ?_
    refine va_get (D := D) (ci := 3) (v := .int c051) (C := RX3) (T := TX3) (N := 2) hx hb hT giX3 hown hK hP 6 rfl rfl 1 (by decide) (hT (Cond.fieldLink RX10 390 "DesertWire$Parties" "number" "I") mw_83) (fun _ h9 => h9) rfl dX10_count_97 ?_
    exact hRet cb [0, 1, 2, 3, 4, 5, 6, 7, 8, 9, 10, 11] (by (try dsimp only); unfold cntR; (repeat (first | rw [if_pos (by omega)] | rw [if_neg (by omega)])); first | done | exact ((WR.kp pre0).1)) hP hD (by decide) rfl hS rfl dX10_count_100
  by_cases c_13 : a0.toInt = 3
  · refine lv_tableIn (off := 100) (tgt := 101) hx hb dX10_count_1 (by omega) (by omega) (by rw [c_13]; decide) (by decide) ?_
    refine lv_aload_n hx hb dX10_count_101 rfl (lv_at hl 0 rfl) ?_
    refine va_get (D := D) (ci := 10) (v := .ref k0) (C := RX10) (T := TX10) (N := 13) hx hb hT giX10 hown hK hP 0 rfl rfl 0 (by decide) (hT (Cond.fieldLink RX10 12 "DesertWire" "now" "LDesertWire$World;") mw_291) (fun _ h9 => h9) rfl dX10_count_102 ?_
    refine va_get (D := D) (ci := 9) (v := .ref k05) (C := RX9) (T := TX9) (N := 9) hx hb hT giX9 hown hK hP 1 rfl rfl 5 (by decide) (hT (Cond.fieldLink RX10 193 "DesertWire$World" "parties" "LDesertWire$Parties;") mw_102) (fun _ h9 => h9) rfl dX10_count_105 ?_
    refine kJi (wr := [(k, .inr (10, [.ref k0, .ref k1, .ref k2, .ref k3, .ref k4, .ref k5, .ref k6, .ref k7, .ref k8, .ref k9, .ref ka, .ref kb, .int cc])), (k0, .inr (9, [.ref k00, .ref k01, .ref k02, .ref k03, .ref k04, .ref k05, .int c06, .int c07, .int c08])), (k3, .inr (4, [.ref k30, .ref k31, .ref k32, .ref k33, .ref k34, .int c35, .int c36])), (k9, .inr (7, [.ref k90, .int c91, .int c92, .int c93, .int c94])), (kb, .inl (cI, 6, .inl cb)), (k04, .inr (8, [.ref k040, .ref k041, .ref k042, .ref k043, .ref k044, .ref k045, .ref k046, .ref k047, .ref k048, .int c049])), (k040, .inl (cI, 60, .inl c040)), (k044, .inl (cI, 60, .inl c044)), (k045, .inl (cI, 60, .inl c045)), (k046, .inl (cI, 40, .inl c046))]) (va_runV (As := []) (rest := []) ⟨hx, hb, hml, hown, hT⟩ (c_X3_lostD l D cI aK aV k05 k050 s.heap.size c051 c050 gx (WR.kp pre0)) (cwV 0 hT (gV_in mw_1132 mw_1129 mw_1130 mw_1131 mw_4) rfl rfl rfl (by decide +kernel) ⟨Nat.le_of_ble_eq_true rfl, Nat.le_of_ble_eq_true rfl⟩) (kRecvX (q0 := 6) (ci := 3) hK hP hD hN hXS hS hA rfl rfl [6, 11] rfl (by decide)) rfl rfl hl.1 rfl (lv_room (Nat.le_of_ble_eq_true rfl)) dX10_count_108 ⟨Nat.le_of_ble_eq_true rfl, Nat.le_of_ble_eq_true rfl⟩) hP hD hS hA [6, 11] [0, 1, 2, 3, 4, 5, 7, 8, 9, 10] rfl rfl (by decide) (by decide) ?_
    clear hP hD hS
    intro r_14 u_16 H locs w_15 hP hD hS
    replace hP : va_P D vwCl [(k, .inr (10, [.ref k0, .ref k1, .ref k2, .ref k3, .ref k4, .ref k5, .ref k6, .ref k7, .ref k8, .ref k9, .ref ka, .ref kb, .int cc])), (k0, .inr (9, [.ref k00, .ref k01, .ref k02, .ref k03, .ref k04, .ref k05, .int c06, .int c07, .int c08])), (k3, .inr (4, [.ref k30, .ref k31, .ref k32, .ref k33, .ref k34, .int c35, .int c36])), (k9, .inr (7, [.ref k90, .int c91, .int c92, .int c93, .int c94])), (kb, .inl (cI, 6, .inl cb)), (k04, .inr (8, [.ref k040, .ref k041, .ref k042, .ref k043, .ref k044, .ref k045, .ref k046, .ref k047, .ref k048, .int c049])), (k040, .inl (cI, 60, .inl c040)), (k044, .inl (cI, 60, .inl c044)), (k045, .inl (cI, 60, .inl c045)), (k046, .inl (cI, 40, .inl c046)), (k05, .inr (3, [.ref k050, .int c051])), (k050, .inl (cI, 36, .inl c050))] H := hP
    replace hD : va_D A [(k, .inr (10, [.ref k0, .ref k1, .ref k2, .ref k3, .ref k4, .ref k5, .ref k6, .ref k7, .ref k8, .ref k9, .ref ka, .ref kb, .int cc])), (k0, .inr (9, [.ref k00, .ref k01, .ref k02, .ref k03, .ref k04, .ref k05, .int c06, .int c07, .int c08])), (k3, .inr (4, [.ref k30, .ref k31, .ref k32, .ref k33, .ref k34, .int c35, .int c36])), (k9, .inr (7, [.ref k90, .int c91, .int c92, .int c93, .int c94])), (kb, .inl (cI, 6, .inl cb)), (k04, .inr (8, [.ref k040, .ref k041, .ref k042, .ref k043, .ref k044, .ref k045, .ref k046, .ref k047, .ref k048, .int c049])), (k040, .inl (cI, 60, .inl c040)), (k044, .inl (cI, 60, .inl c044)), (k045, .inl (cI, 60, .inl c045)), (k046, .inl (cI, 40, .inl c046)), (k05, .inr (3, [.ref k050, .int c051])), (k050, .inl (cI, 36, .inl c050))] := hD
    have h_17 := w_15
    have h_17 : r_14 = sumN (loT gx) (gx 2).toInt.toNat := h_17
    have h_17 : r_14 = sumN (loT gx) (gx 2).toInt.toNat := h_17
    have lo_r_14 := k_lo r_14
    have hi_r_14 := k_hi r_14
    exact hRet cb [0, 1, 2, 3, 4, 5, 10, 6, 7, 8, 9, 11] (by (try dsimp only); unfold cntR; (repeat (first | rw [if_pos (by omega)] | rw [if_neg (by omega)])); first | done | exact (h_17)) hP hD (by decide) rfl hS rfl dX10_count_111
  by_cases c_18 : a0.toInt = 4
  · refine lv_tableIn (off := 111) (tgt := 112) hx hb dX10_count_1 (by omega) (by omega) (by rw [c_18]; decide) (by decide) ?_
    refine lv_aload_n hx hb dX10_count_112 rfl (lv_at hl 0 rfl) ?_
    refine va_get (D := D) (ci := 10) (v := .ref k3) (C := RX10) (T := TX10) (N := 13) hx hb hT giX10 hown hK hP 0 rfl rfl 3 (by decide) (hT (Cond.fieldLink RX10 25 "DesertWire" "rates" "LDesertWire$Rates;") mw_294) (fun _ h9 => h9) rfl dX10_count_113 ?_
    refine va_get (D := D) (ci := 4) (v := .int c36) (C := RX4) (T := TX4) (N := 7) hx hb hT giX4 hown hK hP 2 rfl rfl 6 (by decide) (hT (Cond.fieldLink RX10 394 "DesertWire$Rates" "number" "I") mw_146) (fun _ h9 => h9) rfl dX10_count_116 ?_
    exact hRet cb [0, 1, 2, 3, 4, 5, 6, 7, 8, 9, 10, 11] (by (try dsimp only); unfold cntR; (repeat (first | rw [if_pos (by omega)] | rw [if_neg (by omega)])); first | done | exact (rfl)) hP hD (by decide) rfl hS rfl dX10_count_119
  by_cases c_19 : a0.toInt = 5
  · refine lv_tableIn (off := 119) (tgt := 120) hx hb dX10_count_1 (by omega) (by omega) (by rw [c_19]; decide) (by decide) ?_
    refine lv_aload_n hx hb dX10_count_120 rfl (lv_at hl 0 rfl) ?_
    refine va_get (D := D) (ci := 10) (v := .ref k0) (C := RX10) (T := TX10) (N := 13) hx hb hT giX10 hown hK hP 0 rfl rfl 0 (by decide) (hT (Cond.fieldLink RX10 12 "DesertWire" "now" "LDesertWire$World;") mw_291) (fun _ h9 => h9) rfl dX10_count_121 ?_
    refine va_get (D := D) (ci := 9) (v := .int c08) (C := RX9) (T := TX9) (N := 9) hx hb hT giX9 hown hK hP 1 rfl rfl 8 (by decide) (hT (Cond.fieldLink RX10 109 "DesertWire$World" "day" "I") mw_110) (fun _ h9 => h9) rfl dX10_count_124 ?_
    exact hRet cb [0, 1, 2, 3, 4, 5, 6, 7, 8, 9, 10, 11] (by (try dsimp only); unfold cntR; (repeat (first | rw [if_pos (by omega)] | rw [if_neg (by omega)])); first | done | exact (WR.dd pre0)) hP hD (by decide) rfl hS rfl dX10_count_127
  by_cases c_20 : a0.toInt = 6
  · refine lv_tableIn (off := 127) (tgt := 128) hx hb dX10_count_1 (by omega) (by omega) (by rw [c_20]; decide) (by decide) ?_
    refine lv_aload_n hx hb dX10_count_128 rfl (lv_at hl 0 rfl) ?_
    refine va_get (D := D) (ci := 10) (v := .ref k3) (C := RX10) (T := TX10) (N := 13) hx hb hT giX10 hown hK hP 0 rfl rfl 3 (by decide) (hT (Cond.fieldLink RX10 25 "DesertWire" "rates" "LDesertWire$Rates;") mw_294) (fun _ h9 => h9) rfl dX10_count_129 ?_
    refine va_get (D := D) (ci := 4) (v := .int c35) (C := RX4) (T := TX4) (N := 7) hx hb hT giX4 hown hK hP 2 rfl rfl 5 (by decide) (hT (Cond.fieldLink RX10 255 "DesertWire$Rates" "taped" "I") mw_144) (fun _ h9 => h9) rfl dX10_count_132 ?_
    exact hRet cb [0, 1, 2, 3, 4, 5, 6, 7, 8, 9, 10, 11] (by (try dsimp only); unfold cntR; (repeat (first | rw [if_pos (by omega)] | rw [if_neg (by omega)])); first | done | exact (rfl)) hP hD (by decide) rfl hS rfl dX10_count_135
  by_cases c_21 : a0.toInt = 7
  · refine lv_tableIn (off := 135) (tgt := 136) hx hb dX10_count_1 (by omega) (by omega) (by rw [c_21]; decide) (by decide) ?_
    refine lv_aload_n hx hb dX10_count_136 rfl (lv_at hl 0 rfl) ?_
    refine va_get (D := D) (ci := 10) (v := .ref k9) (C := RX10) (T := TX10) (N := 13) hx hb hT giX10 hown hK hP 0 rfl rfl 9 (by decide) (hT (Cond.fieldLink RX10 63 "DesertWire" "voices" "LDesertWire$Voices;") mw_300) (fun _ h9 => h9) rfl dX10_count_137 ?_
    refine va_get (D := D) (ci := 7) (v := .int c91) (C := RX7) (T := TX7) (N := 5) hx hb hT giX7 hown hK hP 3 rfl rfl 1 (by decide) (hT (Cond.fieldLink RX10 353 "DesertWire$Voices" "begun" "I") mw_260) (fun _ h9 => h9) rfl dX10_count_140 ?_
    exact hRet cb [0, 1, 2, 3, 4, 5, 6, 7, 8, 9, 10, 11] (by (try dsimp only); unfold cntR; (repeat (first | rw [if_pos (by omega)] | rw [if_neg (by omega)])); first | done | exact (rfl)) hP hD (by decide) rfl hS rfl dX10_count_143
  by_cases c_22 : a0.toInt = 8
  · refine lv_tableIn (off := 143) (tgt := 144) hx hb dX10_count_1 (by omega) (by omega) (by rw [c_22]; decide) (by decide) ?_
    refine lv_aload_n hx hb dX10_count_144 rfl (lv_at hl 0 rfl) ?_
    refine va_get (D := D) (ci := 10) (v := .ref k0) (C := RX10) (T := TX10) (N := 13) hx hb hT giX10 hown hK hP 0 rfl rfl 0 (by decide) (hT (Cond.fieldLink RX10 12 "DesertWire" "now" "LDesertWire$World;") mw_291) (fun _ h9 => h9) rfl dX10_count_145 ?_
    refine va_get (D := D) (ci := 9) (v := .int c06) (C := RX9) (T := TX9) (N := 9) hx hb hT giX9 hown hK hP 1 rfl rfl 6 (by decide) (hT (Cond.fieldLink RX10 381 "DesertWire$World" "waiting" "I") mw_104) (fun _ h9 => h9) rfl dX10_count_148 ?_
    exact hRet cb [0, 1, 2, 3, 4, 5, 6, 7, 8, 9, 10, 11] (by (try dsimp only); unfold cntR; (repeat (first | rw [if_pos (by omega)] | rw [if_neg (by omega)])); first | done | exact (WR.ww pre0)) hP hD (by decide) rfl hS rfl dX10_count_151
  by_cases c_23 : a0.toInt = 9
  · refine lv_tableIn (off := 151) (tgt := 152) hx hb dX10_count_1 (by omega) (by omega) (by rw [c_23]; decide) (by decide) ?_
    refine lv_aload_n hx hb dX10_count_152 rfl (lv_at hl 0 rfl) ?_
    refine va_get (D := D) (ci := 10) (v := .ref k0) (C := RX10) (T := TX10) (N := 13) hx hb hT giX10 hown hK hP 0 rfl rfl 0 (by decide) (hT (Cond.fieldLink RX10 12 "DesertWire" "now" "LDesertWire$World;") mw_291) (fun _ h9 => h9) rfl dX10_count_153 ?_
    refine va_get (D := D) (ci := 9) (v := .ref k04) (C := RX9) (T := TX9) (N := 9) hx hb hT giX9 hown hK hP 1 rfl rfl 4 (by decide) (hT (Cond.fieldLink RX10 99 "DesertWire$World" "works" "LDesertWire$Works;") mw_99) (fun _ h9 => h9) rfl dX10_count_156 ?_
    refine kJi (wr := [(k, .inr (10, [.ref k0, .ref k1, .ref k2, .ref k3, .ref k4, .ref k5, .ref k6, .ref k7, .ref k8, .ref k9, .ref ka, .ref kb, .int cc])), (k0, .inr (9, [.ref k00, .ref k01, .ref k02, .ref k03, .ref k04, .ref k05, .int c06, .int c07, .int c08])), (k3, .inr (4, [.ref k30, .ref k31, .ref k32, .ref k33, .ref k34, .int c35, .int c36])), (k9, .inr (7, [.ref k90, .int c91, .int c92, .int c93, .int c94])), (kb, .inl (cI, 6, .inl cb)), (k05, .inr (3, [.ref k050, .int c051])), (k040, .inl (cI, 60, .inl c040)), (k044, .inl (cI, 60, .inl c044)), (k045, .inl (cI, 60, .inl c045)), (k050, .inl (cI, 36, .inl c050))]) (va_runV (As := []) (rest := []) ⟨hx, hb, hml, hown, hT⟩ (c_X8_wiredMilesD l D cI aK aV k04 k040 k041 k042 k043 k044 k045 k046 k047 k048 s.heap.size c049 c046 c040 c041 c042 c043 c044 c045 c047 c048 gx (WR.kw pre0)) (cwV 0 hT (gV_in mw_1029 mw_1026 mw_1027 mw_1028 mw_3) rfl rfl rfl (by decide +kernel) ⟨Nat.le_of_ble_eq_true rfl, Nat.le_of_ble_eq_true rfl⟩) (kRecvX (q0 := 5) (ci := 8) hK hP hD hN hXS hS hA rfl rfl [5, 10] rfl (by decide)) rfl rfl hl.1 rfl (lv_room (Nat.le_of_ble_eq_true rfl)) dX10_count_159 ⟨Nat.le_of_ble_eq_true rfl, Nat.le_of_ble_eq_true rfl⟩) hP hD hS hA [5, 10] [0, 1, 2, 3, 4, 6, 7, 8, 9, 11] rfl rfl (by decide) (by decide) ?_
    clear hP hD hS
    intro r_24 u_26 H locs w_25 hP hD hS
    replace hP : va_P D vwCl [(k, .inr (10, [.ref k0, .ref k1, .ref k2, .ref k3, .ref k4, .ref k5, .ref k6, .ref k7, .ref k8, .ref k9, .ref ka, .ref kb, .int cc])), (k0, .inr (9, [.ref k00, .ref k01, .ref k02, .ref k03, .ref k04, .ref k05, .int c06, .int c07, .int c08])), (k3, .inr (4, [.ref k30, .ref k31, .ref k32, .ref k33, .ref k34, .int c35, .int c36])), (k9, .inr (7, [.ref k90, .int c91, .int c92, .int c93, .int c94])), (kb, .inl (cI, 6, .inl cb)), (k05, .inr (3, [.ref k050, .int c051])), (k040, .inl (cI, 60, .inl c040)), (k044, .inl (cI, 60, .inl c044)), (k045, .inl (cI, 60, .inl c045)), (k050, .inl (cI, 36, .inl c050)), (k04, .inr (8, [.ref k040, .ref k041, .ref k042, .ref k043, .ref k044, .ref k045, .ref k046, .ref k047, .ref k048, .int c049])), (k046, .inl (cI, 40, .inl c046))] H := hP
    replace hD : va_D A [(k, .inr (10, [.ref k0, .ref k1, .ref k2, .ref k3, .ref k4, .ref k5, .ref k6, .ref k7, .ref k8, .ref k9, .ref ka, .ref kb, .int cc])), (k0, .inr (9, [.ref k00, .ref k01, .ref k02, .ref k03, .ref k04, .ref k05, .int c06, .int c07, .int c08])), (k3, .inr (4, [.ref k30, .ref k31, .ref k32, .ref k33, .ref k34, .int c35, .int c36])), (k9, .inr (7, [.ref k90, .int c91, .int c92, .int c93, .int c94])), (kb, .inl (cI, 6, .inl cb)), (k05, .inr (3, [.ref k050, .int c051])), (k040, .inl (cI, 60, .inl c040)), (k044, .inl (cI, 60, .inl c044)), (k045, .inl (cI, 60, .inl c045)), (k050, .inl (cI, 36, .inl c050)), (k04, .inr (8, [.ref k040, .ref k041, .ref k042, .ref k043, .ref k044, .ref k045, .ref k046, .ref k047, .ref k048, .int c049])), (k046, .inl (cI, 40, .inl c046))] := hD
    have h_27 := w_25
    have h_27 : r_24 = wmN gx 40 := h_27
    have lo_r_24 := k_lo r_24
    have hi_r_24 := k_hi r_24
    exact hRet cb [0, 1, 2, 3, 4, 10, 5, 6, 7, 8, 11, 9] (by (try dsimp only); unfold cntR; (repeat (first | rw [if_pos (by omega)] | rw [if_neg (by omega)])); first | done | exact (h_27)) hP hD (by decide) rfl hS rfl dX10_count_162
  by_cases c_28 : a0.toInt = 10
  · refine lv_tableIn (off := 162) (tgt := 163) hx hb dX10_count_1 (by omega) (by omega) (by rw [c_28]; decide) (by decide) ?_
    refine lv_aload_n hx hb dX10_count_163 rfl (lv_at hl 0 rfl) ?_
    refine va_get (D := D) (ci := 10) (v := .ref k0) (C := RX10) (T := TX10) (N := 13) hx hb hT giX10 hown hK hP 0 rfl rfl 0 (by decide) (hT (Cond.fieldLink RX10 12 "DesertWire" "now" "LDesertWire$World;") mw_291) (fun _ h9 => h9) rfl dX10_count_164 ?_
    refine va_get (D := D) (ci := 9) (v := .ref k04) (C := RX9) (T := TX9) (N := 9) hx hb hT giX9 hown hK hP 1 rfl rfl 4 (by decide) (hT (Cond.fieldLink RX10 99 "DesertWire$World" "works" "LDesertWire$Works;") mw_99) (fun _ h9 => h9) rfl dX10_count_167 ?_
    refine kJi (wr := [(k, .inr (10, [.ref k0, .ref k1, .ref k2, .ref k3, .ref k4, .ref k5, .ref k6, .ref k7, .ref k8, .ref k9, .ref ka, .ref kb, .int cc])), (k0, .inr (9, [.ref k00, .ref k01, .ref k02, .ref k03, .ref k04, .ref k05, .int c06, .int c07, .int c08])), (k3, .inr (4, [.ref k30, .ref k31, .ref k32, .ref k33, .ref k34, .int c35, .int c36])), (k9, .inr (7, [.ref k90, .int c91, .int c92, .int c93, .int c94])), (kb, .inl (cI, 6, .inl cb)), (k05, .inr (3, [.ref k050, .int c051])), (k044, .inl (cI, 60, .inl c044)), (k046, .inl (cI, 40, .inl c046)), (k050, .inl (cI, 36, .inl c050))]) (va_runV (As := []) (rest := []) ⟨hx, hb, hml, hown, hT⟩ (c_X8_stationsD l D cI aK aV k04 k040 k041 k042 k043 k044 k045 k046 k047 k048 s.heap.size c049 c040 c045 c041 c042 c043 c044 c046 c047 c048 gx (WR.kw pre0)) (cwV 0 hT (gV_in mw_1137 mw_1134 mw_1135 mw_1136 mw_3) rfl rfl rfl (by decide +kernel) ⟨Nat.le_of_ble_eq_true rfl, Nat.le_of_ble_eq_true rfl⟩) (kRecvX (q0 := 5) (ci := 8) hK hP hD hN hXS hS hA rfl rfl [5, 7, 9] rfl (by decide)) rfl rfl hl.1 rfl (lv_room (Nat.le_of_ble_eq_true rfl)) dX10_count_170 ⟨Nat.le_of_ble_eq_true rfl, Nat.le_of_ble_eq_true rfl⟩) hP hD hS hA [5, 7, 9] [0, 1, 2, 3, 4, 6, 8, 10, 11] rfl rfl (by decide) (by decide) ?_
    clear hP hD hS
    intro r_29 u_31 H locs w_30 hP hD hS
    replace hP : va_P D vwCl [(k, .inr (10, [.ref k0, .ref k1, .ref k2, .ref k3, .ref k4, .ref k5, .ref k6, .ref k7, .ref k8, .ref k9, .ref ka, .ref kb, .int cc])), (k0, .inr (9, [.ref k00, .ref k01, .ref k02, .ref k03, .ref k04, .ref k05, .int c06, .int c07, .int c08])), (k3, .inr (4, [.ref k30, .ref k31, .ref k32, .ref k33, .ref k34, .int c35, .int c36])), (k9, .inr (7, [.ref k90, .int c91, .int c92, .int c93, .int c94])), (kb, .inl (cI, 6, .inl cb)), (k05, .inr (3, [.ref k050, .int c051])), (k044, .inl (cI, 60, .inl c044)), (k046, .inl (cI, 40, .inl c046)), (k050, .inl (cI, 36, .inl c050)), (k04, .inr (8, [.ref k040, .ref k041, .ref k042, .ref k043, .ref k044, .ref k045, .ref k046, .ref k047, .ref k048, .int c049])), (k040, .inl (cI, 60, .inl c040)), (k045, .inl (cI, 60, .inl c045))] H := hP
    replace hD : va_D A [(k, .inr (10, [.ref k0, .ref k1, .ref k2, .ref k3, .ref k4, .ref k5, .ref k6, .ref k7, .ref k8, .ref k9, .ref ka, .ref kb, .int cc])), (k0, .inr (9, [.ref k00, .ref k01, .ref k02, .ref k03, .ref k04, .ref k05, .int c06, .int c07, .int c08])), (k3, .inr (4, [.ref k30, .ref k31, .ref k32, .ref k33, .ref k34, .int c35, .int c36])), (k9, .inr (7, [.ref k90, .int c91, .int c92, .int c93, .int c94])), (kb, .inl (cI, 6, .inl cb)), (k05, .inr (3, [.ref k050, .int c051])), (k044, .inl (cI, 60, .inl c044)), (k046, .inl (cI, 40, .inl c046)), (k050, .inl (cI, 36, .inl c050)), (k04, .inr (8, [.ref k040, .ref k041, .ref k042, .ref k043, .ref k044, .ref k045, .ref k046, .ref k047, .ref k048, .int c049])), (k040, .inl (cI, 60, .inl c040)), (k045, .inl (cI, 60, .inl c045))] := hD
    have h_32 := w_30
    have h_32 : r_29 = sumN (saT gx) (gx 1).toInt.toNat := h_32
    have h_32 : r_29 = sumN (saT gx) (gx 1).toInt.toNat := h_32
    have lo_r_29 := k_lo r_29
    have hi_r_29 := k_hi r_29
    exact hRet cb [0, 1, 2, 3, 4, 9, 5, 10, 6, 11, 7, 8] (by (try dsimp only); unfold cntR; (repeat (first | rw [if_pos (by omega)] | rw [if_neg (by omega)])); first | done | exact (h_32)) hP hD (by decide) rfl hS rfl dX10_count_173
  by_cases c_33 : a0.toInt = 11
  · refine lv_tableIn (off := 173) (tgt := 174) hx hb dX10_count_1 (by omega) (by omega) (by rw [c_33]; decide) (by decide) ?_
    refine lv_aload_n hx hb dX10_count_174 rfl (lv_at hl 0 rfl) ?_
    refine va_get (D := D) (ci := 10) (v := .ref k0) (C := RX10) (T := TX10) (N := 13) hx hb hT giX10 hown hK hP 0 rfl rfl 0 (by decide) (hT (Cond.fieldLink RX10 12 "DesertWire" "now" "LDesertWire$World;") mw_291) (fun _ h9 => h9) rfl dX10_count_175 ?_
    refine va_get (D := D) (ci := 9) (v := .ref k05) (C := RX9) (T := TX9) (N := 9) hx hb hT giX9 hown hK hP 1 rfl rfl 5 (by decide) (hT (Cond.fieldLink RX10 193 "DesertWire$World" "parties" "LDesertWire$Parties;") mw_102) (fun _ h9 => h9) rfl dX10_count_178 ?_
    refine kJi (wr := [(k, .inr (10, [.ref k0, .ref k1, .ref k2, .ref k3, .ref k4, .ref k5, .ref k6, .ref k7, .ref k8, .ref k9, .ref ka, .ref kb, .int cc])), (k0, .inr (9, [.ref k00, .ref k01, .ref k02, .ref k03, .ref k04, .ref k05, .int c06, .int c07, .int c08])), (k3, .inr (4, [.ref k30, .ref k31, .ref k32, .ref k33, .ref k34, .int c35, .int c36])), (k9, .inr (7, [.ref k90, .int c91, .int c92, .int c93, .int c94])), (kb, .inl (cI, 6, .inl cb)), (k04, .inr (8, [.ref k040, .ref k041, .ref k042, .ref k043, .ref k044, .ref k045, .ref k046, .ref k047, .ref k048, .int c049])), (k040, .inl (cI, 60, .inl c040)), (k044, .inl (cI, 60, .inl c044)), (k045, .inl (cI, 60, .inl c045)), (k046, .inl (cI, 40, .inl c046))]) (va_runV (As := []) (rest := []) ⟨hx, hb, hml, hown, hT⟩ (c_X3_allMenD l D cI aK aV k05 k050 s.heap.size c051 c050 gx (WR.kp pre0)) (cwV 0 hT (gV_in mw_1141 mw_1138 mw_1139 mw_1140 mw_4) rfl rfl rfl (by decide +kernel) ⟨Nat.le_of_ble_eq_true rfl, Nat.le_of_ble_eq_true rfl⟩) (kRecvX (q0 := 6) (ci := 3) hK hP hD hN hXS hS hA rfl rfl [6, 11] rfl (by decide)) rfl rfl hl.1 rfl (lv_room (Nat.le_of_ble_eq_true rfl)) dX10_count_181 ⟨Nat.le_of_ble_eq_true rfl, Nat.le_of_ble_eq_true rfl⟩) hP hD hS hA [6, 11] [0, 1, 2, 3, 4, 5, 7, 8, 9, 10] rfl rfl (by decide) (by decide) ?_
    clear hP hD hS
    intro r_34 u_36 H locs w_35 hP hD hS
    replace hP : va_P D vwCl [(k, .inr (10, [.ref k0, .ref k1, .ref k2, .ref k3, .ref k4, .ref k5, .ref k6, .ref k7, .ref k8, .ref k9, .ref ka, .ref kb, .int cc])), (k0, .inr (9, [.ref k00, .ref k01, .ref k02, .ref k03, .ref k04, .ref k05, .int c06, .int c07, .int c08])), (k3, .inr (4, [.ref k30, .ref k31, .ref k32, .ref k33, .ref k34, .int c35, .int c36])), (k9, .inr (7, [.ref k90, .int c91, .int c92, .int c93, .int c94])), (kb, .inl (cI, 6, .inl cb)), (k04, .inr (8, [.ref k040, .ref k041, .ref k042, .ref k043, .ref k044, .ref k045, .ref k046, .ref k047, .ref k048, .int c049])), (k040, .inl (cI, 60, .inl c040)), (k044, .inl (cI, 60, .inl c044)), (k045, .inl (cI, 60, .inl c045)), (k046, .inl (cI, 40, .inl c046)), (k05, .inr (3, [.ref k050, .int c051])), (k050, .inl (cI, 36, .inl c050))] H := hP
    replace hD : va_D A [(k, .inr (10, [.ref k0, .ref k1, .ref k2, .ref k3, .ref k4, .ref k5, .ref k6, .ref k7, .ref k8, .ref k9, .ref ka, .ref kb, .int cc])), (k0, .inr (9, [.ref k00, .ref k01, .ref k02, .ref k03, .ref k04, .ref k05, .int c06, .int c07, .int c08])), (k3, .inr (4, [.ref k30, .ref k31, .ref k32, .ref k33, .ref k34, .int c35, .int c36])), (k9, .inr (7, [.ref k90, .int c91, .int c92, .int c93, .int c94])), (kb, .inl (cI, 6, .inl cb)), (k04, .inr (8, [.ref k040, .ref k041, .ref k042, .ref k043, .ref k044, .ref k045, .ref k046, .ref k047, .ref k048, .int c049])), (k040, .inl (cI, 60, .inl c040)), (k044, .inl (cI, 60, .inl c044)), (k045, .inl (cI, 60, .inl c045)), (k046, .inl (cI, 40, .inl c046)), (k05, .inr (3, [.ref k050, .int c051])), (k050, .inl (cI, 36, .inl c050))] := hD
    have h_37 := w_35
    have h_37 : r_34 = sumN (meT gx) (gx 2).toInt.toNat := h_37
    have h_37 : r_34 = sumN (meT gx) (gx 2).toInt.toNat := h_37
    have lo_r_34 := k_lo r_34
    have hi_r_34 := k_hi r_34
    exact hRet cb [0, 1, 2, 3, 4, 5, 10, 6, 7, 8, 9, 11] (by (try dsimp only); unfold cntR; (repeat (first | rw [if_pos (by omega)] | rw [if_neg (by omega)])); first | done | exact (h_37)) hP hD (by decide) rfl hS rfl dX10_count_184
  by_cases c_38 : a0.toInt = 12
  · refine lv_tableIn (off := 184) (tgt := 185) hx hb dX10_count_1 (by omega) (by omega) (by rw [c_38]; decide) (by decide) ?_
    refine lv_aload_n hx hb dX10_count_185 rfl (lv_at hl 0 rfl) ?_
    refine va_get (D := D) (ci := 10) (v := .ref k0) (C := RX10) (T := TX10) (N := 13) hx hb hT giX10 hown hK hP 0 rfl rfl 0 (by decide) (hT (Cond.fieldLink RX10 12 "DesertWire" "now" "LDesertWire$World;") mw_291) (fun _ h9 => h9) rfl dX10_count_186 ?_
    refine va_get (D := D) (ci := 9) (v := .ref k04) (C := RX9) (T := TX9) (N := 9) hx hb hT giX9 hown hK hP 1 rfl rfl 4 (by decide) (hT (Cond.fieldLink RX10 99 "DesertWire$World" "works" "LDesertWire$Works;") mw_99) (fun _ h9 => h9) rfl dX10_count_189 ?_
    refine kJi (wr := [(k, .inr (10, [.ref k0, .ref k1, .ref k2, .ref k3, .ref k4, .ref k5, .ref k6, .ref k7, .ref k8, .ref k9, .ref ka, .ref kb, .int cc])), (k0, .inr (9, [.ref k00, .ref k01, .ref k02, .ref k03, .ref k04, .ref k05, .int c06, .int c07, .int c08])), (k3, .inr (4, [.ref k30, .ref k31, .ref k32, .ref k33, .ref k34, .int c35, .int c36])), (k9, .inr (7, [.ref k90, .int c91, .int c92, .int c93, .int c94])), (kb, .inl (cI, 6, .inl cb)), (k05, .inr (3, [.ref k050, .int c051])), (k046, .inl (cI, 40, .inl c046)), (k050, .inl (cI, 36, .inl c050))]) (va_runV (As := []) (rest := []) ⟨hx, hb, hml, hown, hT⟩ (c_X8_storedFoodD l D cI aK aV k04 k040 k041 k042 k043 k044 k045 k046 k047 k048 s.heap.size c049 c040 c044 c045 c041 c042 c043 c046 c047 c048 gx (WR.kw pre0)) (cwV 0 hT (gV_in mw_1145 mw_1142 mw_1143 mw_1144 mw_3) rfl rfl rfl (by decide +kernel) ⟨Nat.le_of_ble_eq_true rfl, Nat.le_of_ble_eq_true rfl⟩) (kRecvX (q0 := 5) (ci := 8) hK hP hD hN hXS hS hA rfl rfl [5, 7, 8, 9] rfl (by decide)) rfl rfl hl.1 rfl (lv_room (Nat.le_of_ble_eq_true rfl)) dX10_count_192 ⟨Nat.le_of_ble_eq_true rfl, Nat.le_of_ble_eq_true rfl⟩) hP hD hS hA [5, 7, 8, 9] [0, 1, 2, 3, 4, 6, 10, 11] rfl rfl (by decide) (by decide) ?_
    clear hP hD hS
    intro r_39 u_41 H locs w_40 hP hD hS
    replace hP : va_P D vwCl [(k, .inr (10, [.ref k0, .ref k1, .ref k2, .ref k3, .ref k4, .ref k5, .ref k6, .ref k7, .ref k8, .ref k9, .ref ka, .ref kb, .int cc])), (k0, .inr (9, [.ref k00, .ref k01, .ref k02, .ref k03, .ref k04, .ref k05, .int c06, .int c07, .int c08])), (k3, .inr (4, [.ref k30, .ref k31, .ref k32, .ref k33, .ref k34, .int c35, .int c36])), (k9, .inr (7, [.ref k90, .int c91, .int c92, .int c93, .int c94])), (kb, .inl (cI, 6, .inl cb)), (k05, .inr (3, [.ref k050, .int c051])), (k046, .inl (cI, 40, .inl c046)), (k050, .inl (cI, 36, .inl c050)), (k04, .inr (8, [.ref k040, .ref k041, .ref k042, .ref k043, .ref k044, .ref k045, .ref k046, .ref k047, .ref k048, .int c049])), (k040, .inl (cI, 60, .inl c040)), (k044, .inl (cI, 60, .inl c044)), (k045, .inl (cI, 60, .inl c045))] H := hP
    replace hD : va_D A [(k, .inr (10, [.ref k0, .ref k1, .ref k2, .ref k3, .ref k4, .ref k5, .ref k6, .ref k7, .ref k8, .ref k9, .ref ka, .ref kb, .int cc])), (k0, .inr (9, [.ref k00, .ref k01, .ref k02, .ref k03, .ref k04, .ref k05, .int c06, .int c07, .int c08])), (k3, .inr (4, [.ref k30, .ref k31, .ref k32, .ref k33, .ref k34, .int c35, .int c36])), (k9, .inr (7, [.ref k90, .int c91, .int c92, .int c93, .int c94])), (kb, .inl (cI, 6, .inl cb)), (k05, .inr (3, [.ref k050, .int c051])), (k046, .inl (cI, 40, .inl c046)), (k050, .inl (cI, 36, .inl c050)), (k04, .inr (8, [.ref k040, .ref k041, .ref k042, .ref k043, .ref k044, .ref k045, .ref k046, .ref k047, .ref k048, .int c049])), (k040, .inl (cI, 60, .inl c040)), (k044, .inl (cI, 60, .inl c044)), (k045, .inl (cI, 60, .inl c045))] := hD
    have h_42 := w_40
    have h_42 : r_39 = sumN (foT gx) (gx 1).toInt.toNat := h_42
    have h_42 : r_39 = sumN (foT gx) (gx 1).toInt.toNat := h_42
    have lo_r_39 := k_lo r_39
    have hi_r_39 := k_hi r_39
    exact hRet cb [0, 1, 2, 3, 4, 8, 5, 9, 10, 11, 6, 7] (by (try dsimp only); unfold cntR; (repeat (first | rw [if_pos (by omega)] | rw [if_neg (by omega)])); first | done | exact (h_42)) hP hD (by decide) rfl hS rfl dX10_count_195
  refine lv_tableOut (tgt := 196) hx hb dX10_count_1 (by omega) (by decide) ?_
  refine lv_aload_n hx hb dX10_count_196 rfl (lv_at hl 0 rfl) ?_
  refine lv_iconst (v := 1) hx hb dX10_count_197 (by decide) ?_
  refine kJi (wr := [(k0, .inr (9, [.ref k00, .ref k01, .ref k02, .ref k03, .ref k04, .ref k05, .int c06, .int c07, .int c08])), (k3, .inr (4, [.ref k30, .ref k31, .ref k32, .ref k33, .ref k34, .int c35, .int c36])), (k9, .inr (7, [.ref k90, .int c91, .int c92, .int c93, .int c94])), (k04, .inr (8, [.ref k040, .ref k041, .ref k042, .ref k043, .ref k044, .ref k045, .ref k046, .ref k047, .ref k048, .int c049])), (k05, .inr (3, [.ref k050, .int c051])), (k040, .inl (cI, 60, .inl c040)), (k044, .inl (cI, 60, .inl c044)), (k045, .inl (cI, 60, .inl c045)), (k046, .inl (cI, 40, .inl c046)), (k050, .inl (cI, 36, .inl c050))]) (va_runV (As := [.int 1]) (rest := []) ⟨hx, hb, hml, hown, hT⟩ (c_X10_findingG l D cI aK aV k k0 k1 k2 k3 k4 k5 k6 k7 k8 k9 ka kb s.heap.size cc cb 1) (cwV 1 hT (gV_in mw_338 mw_335 mw_337 mw_p1_0 mw_1) rfl rfl rfl (by decide +kernel) ⟨Nat.le_of_ble_eq_true rfl, Nat.le_of_ble_eq_true rfl⟩) (kRecvX (q0 := 0) (ci := 10) hK hP hD hN hXS hS hA rfl rfl [0, 4] rfl (by decide)) rfl rfl hl.1 rfl (lv_room (Nat.le_of_ble_eq_true rfl)) dX10_count_198 ⟨Nat.le_of_ble_eq_true rfl, Nat.le_of_ble_eq_true rfl⟩) hP hD hS hA [0, 4] [1, 2, 3, 5, 6, 7, 8, 9, 10, 11] rfl rfl (by decide) (by decide) ?_
  clear hP hD hS
  intro r_43 scb_45 H locs w_44 hP hD hS
  replace hP : va_P D vwCl [(k0, .inr (9, [.ref k00, .ref k01, .ref k02, .ref k03, .ref k04, .ref k05, .int c06, .int c07, .int c08])), (k3, .inr (4, [.ref k30, .ref k31, .ref k32, .ref k33, .ref k34, .int c35, .int c36])), (k9, .inr (7, [.ref k90, .int c91, .int c92, .int c93, .int c94])), (k04, .inr (8, [.ref k040, .ref k041, .ref k042, .ref k043, .ref k044, .ref k045, .ref k046, .ref k047, .ref k048, .int c049])), (k05, .inr (3, [.ref k050, .int c051])), (k040, .inl (cI, 60, .inl c040)), (k044, .inl (cI, 60, .inl c044)), (k045, .inl (cI, 60, .inl c045)), (k046, .inl (cI, 40, .inl c046)), (k050, .inl (cI, 36, .inl c050)), (k, .inr (10, [.ref k0, .ref k1, .ref k2, .ref k3, .ref k4, .ref k5, .ref k6, .ref k7, .ref k8, .ref k9, .ref ka, .ref kb, .int cc])), (kb, .inl (cI, 6, .inl scb_45))] H := hP
  replace hD : va_D A [(k0, .inr (9, [.ref k00, .ref k01, .ref k02, .ref k03, .ref k04, .ref k05, .int c06, .int c07, .int c08])), (k3, .inr (4, [.ref k30, .ref k31, .ref k32, .ref k33, .ref k34, .int c35, .int c36])), (k9, .inr (7, [.ref k90, .int c91, .int c92, .int c93, .int c94])), (k04, .inr (8, [.ref k040, .ref k041, .ref k042, .ref k043, .ref k044, .ref k045, .ref k046, .ref k047, .ref k048, .int c049])), (k05, .inr (3, [.ref k050, .int c051])), (k040, .inl (cI, 60, .inl c040)), (k044, .inl (cI, 60, .inl c044)), (k045, .inl (cI, 60, .inl c045)), (k046, .inl (cI, 40, .inl c046)), (k050, .inl (cI, 36, .inl c050)), (k, .inr (10, [.ref k0, .ref k1, .ref k2, .ref k3, .ref k4, .ref k5, .ref k6, .ref k7, .ref k8, .ref k9, .ref ka, .ref kb, .int cc])), (kb, .inl (cI, 6, .inl scb_45))] := hD
  have hr_43 := w_44
  obtain rfl : r_43 = (-1000001) := hr_43.trans (by decide)
  exact hRet scb_45 [10, 0, 1, 2, 11, 3, 4, 5, 6, 7, 8, 9] (by (try dsimp only); unfold cntR; (repeat (first | rw [if_pos (by omega)] | rw [if_neg (by omega)]))) hP hD (by decide) rfl hS rfl dX10_count_201

set_option maxHeartbeats 4000000 in
set_option maxRecDepth 100000 in
theorem c_X0_surveyD (l : Launch) (D : va_G) (cI : ClassId) (aK aV : Nat → Nat) (k o k0 k1 k2 k3 k4 o0 o1 o2 o3 o4 o5 o40 o41 o42 o43 o44 o45 o46 o47 o48 : Nat) (sz : Nat) (c5 : Int32) (c0 : Nat → Int32) (c1 : Nat → Int32) (d6 : Int32) (d7 : Int32) (d8 : Int32) (d0 : Nat → Int32) (d49 : Int32) (d40 : Nat → Int32) (d41 : Nat → Int32) (d43 : Nat → Int32) (d45 : Nat → Int32) (d46 : Nat → Int32) (d1 : Nat → Int32) (d2 : Nat → Int32) (d3 : Nat → Int32) (d42 : Nat → Int32) (d44 : Nat → Int32) (d47 : Nat → Int32) (d48 : Nat → Int32) (d50 : Nat → Int32) (d51 : Int32) (gx : Nat → Int32) (pre0 : WR d0 d1 d2 d3 d40 d41 d42 d43 d44 d45 d46 d47 d48 d49 d50 d51 d6 d7 d8 gx) (pre1 : SB gx) : Met l yX0_survey (gW yX0_survey cX0_survey 4 none) ({ frames := 3, cells := 0, slots := 0, locals := 68 } : Room) (kPreX D cI aK aV [.ref k, .ref o] [(k, .inr (0, [.ref k0, .ref k1, .ref k2, .ref k3, .ref k4, .int c5])), (k0, .inl (cI, 41, .inl c0)), (k1, .inl (cI, 41, .inl c1)), (o, .inr (9, [.ref o0, .ref o1, .ref o2, .ref o3, .ref o4, .ref o5, .int d6, .int d7, .int d8])), (o0, .inl (cI, 12, .inl d0)), (o4, .inr (8, [.ref o40, .ref o41, .ref o42, .ref o43, .ref o44, .ref o45, .ref o46, .ref o47, .ref o48, .int d49])), (o40, .inl (cI, 60, .inl d40)), (o41, .inl (cI, 60, .inl d41)), (o43, .inl (cI, 60, .inl d43)), (o45, .inl (cI, 60, .inl d45)), (o46, .inl (cI, 40, .inl d46))] sz) (va_Qv (fun (u : (Nat → Int32) × (Nat → Int32)) => SVY gx u.1 u.2) (fun u t => kWd D cI (va_A [(k, .inr (0, [.ref k0, .ref k1, .ref k2, .ref k3, .ref k4, .int c5])), (k0, .inl (cI, 41, .inl c0)), (k1, .inl (cI, 41, .inl c1)), (o, .inr (9, [.ref o0, .ref o1, .ref o2, .ref o3, .ref o4, .ref o5, .int d6, .int d7, .int d8])), (o0, .inl (cI, 12, .inl d0)), (o4, .inr (8, [.ref o40, .ref o41, .ref o42, .ref o43, .ref o44, .ref o45, .ref o46, .ref o47, .ref o48, .int d49])), (o40, .inl (cI, 60, .inl d40)), (o41, .inl (cI, 60, .inl d41)), (o43, .inl (cI, 60, .inl d43)), (o45, .inl (cI, 60, .inl d45)), (o46, .inl (cI, 40, .inl d46))] sz) [(k, .inr (0, [.ref k0, .ref k1, .ref k2, .ref k3, .ref k4, .int c5])), (k0, .inl (cI, 41, .inl u.1)), (k1, .inl (cI, 41, .inl u.2)), (o, .inr (9, [.ref o0, .ref o1, .ref o2, .ref o3, .ref o4, .ref o5, .int d6, .int d7, .int d8])), (o0, .inl (cI, 12, .inl d0)), (o4, .inr (8, [.ref o40, .ref o41, .ref o42, .ref o43, .ref o44, .ref o45, .ref o46, .ref o47, .ref o48, .int d49])), (o40, .inl (cI, 60, .inl d40)), (o41, .inl (cI, 60, .inl d41)), (o43, .inl (cI, 60, .inl d43)), (o45, .inl (cI, 60, .inl d45)), (o46, .inl (cI, 40, .inl d46))] t) (va_A [(k, .inr (0, [.ref k0, .ref k1, .ref k2, .ref k3, .ref k4, .int c5])), (k0, .inl (cI, 41, .inl c0)), (k1, .inl (cI, 41, .inl c1)), (o, .inr (9, [.ref o0, .ref o1, .ref o2, .ref o3, .ref o4, .ref o5, .int d6, .int d7, .int d8])), (o0, .inl (cI, 12, .inl d0)), (o4, .inr (8, [.ref o40, .ref o41, .ref o42, .ref o43, .ref o44, .ref o45, .ref o46, .ref o47, .ref o48, .int d49])), (o40, .inl (cI, 60, .inl d40)), (o41, .inl (cI, 60, .inl d41)), (o43, .inl (cI, 60, .inl d43)), (o45, .inl (cI, 60, .inl d45)), (o46, .inl (cI, 40, .inl d46))] sz)) 0 0 (va_A [(k, .inr (0, [.ref k0, .ref k1, .ref k2, .ref k3, .ref k4, .int c5])), (k0, .inl (cI, 41, .inl c0)), (k1, .inl (cI, 41, .inl c1)), (o, .inr (9, [.ref o0, .ref o1, .ref o2, .ref o3, .ref o4, .ref o5, .int d6, .int d7, .int d8])), (o0, .inl (cI, 12, .inl d0)), (o4, .inr (8, [.ref o40, .ref o41, .ref o42, .ref o43, .ref o44, .ref o45, .ref o46, .ref o47, .ref o48, .int d49])), (o40, .inl (cI, 60, .inl d40)), (o41, .inl (cI, 60, .inl d41)), (o43, .inl (cI, 60, .inl d43)), (o45, .inl (cI, 60, .inl d45)), (o46, .inl (cI, 40, .inl d46))] sz) := by
  refine kMetVX (own := RX0) (by decide) rfl (Nat.le_of_ble_eq_true rfl) ?_
  intro p e s m args below meth c hx hb hT hown hname hml A Q hK hP hD hS hA hN hXS hRet ls hl
  have hl : lv_has ls 4 [(0, .ref k), (1, .ref o)] := hl
  have lo_d6 := k_lo d6
  have hi_d6 := k_hi d6
  have lo_d7 := k_lo d7
  have hi_d7 := k_hi d7
  have lo_d8 := k_lo d8
  have hi_d8 := k_hi d8
  have lo_d49 := k_lo d49
  have hi_d49 := k_hi d49
  have lo_d51 := k_lo d51
  have hi_d51 := k_hi d51
  have hd0 := SB.n0 pre1
  have pre0 : WR d0 d1 d2 d3 d40 d41 d42 d43 d44 d45 d46 d47 d48 d49 d50 d51 d6 d7 d8 gx := pre0
  have b_1 : 0 ≤ d49.toInt ∧ d49.toInt ≤ 60 := WKR.n0 (WR.kw pre0)
  have t_2 : d49.toInt = (gx 1).toInt := WKR.nt (WR.kw pre0)
  have b_3 : 0 ≤ d51.toInt ∧ d51.toInt ≤ 4 := ((WR.kp pre0)).2.1
  have t_4 : d51.toInt = (gx 2).toInt := PTR.nt (WR.kp pre0)
  have t_5 : d8.toInt = (gx 0).toInt := by rw [WR.dd pre0]
  have pre1 : SB gx := pre1
  refine lv_iconst (v := 0) hx hb dX0_survey_0 (by decide) ?_
  refine lv_istore_n (lv' := [(2, .int 0), (0, .ref k), (1, .ref o)]) hx hb dX0_survey_1 rfl hl (by decide) rfl ?_
  clear hl
  intro ls hl
  have hloop_2 : ∀ (fu_ : Nat) (l2_2 : Int32) (g2_k0 : Nat → Int32) (g2_k1 : Nat → Int32), 0 ≤ l2_2.toInt → l2_2.toInt ≤ 40 → 0 ≤ l2_2.toInt → SVN gx g2_k0 g2_k1 l2_2.toInt.toNat → (40 - l2_2.toInt).toNat < fu_ → ∀ (ls : Array Slot) (H : Heap) (locs : List Loc), lv_has ls 4 [(2, .int l2_2), (0, .ref k), (1, .ref o)] → va_P D vwCl [(k, .inr (0, [.ref k0, .ref k1, .ref k2, .ref k3, .ref k4, .int c5])), (k0, .inl (cI, 41, .inl g2_k0)), (k1, .inl (cI, 41, .inl g2_k1)), (o, .inr (9, [.ref o0, .ref o1, .ref o2, .ref o3, .ref o4, .ref o5, .int d6, .int d7, .int d8])), (o0, .inl (cI, 12, .inl d0)), (o4, .inr (8, [.ref o40, .ref o41, .ref o42, .ref o43, .ref o44, .ref o45, .ref o46, .ref o47, .ref o48, .int d49])), (o40, .inl (cI, 60, .inl d40)), (o41, .inl (cI, 60, .inl d41)), (o43, .inl (cI, 60, .inl d43)), (o45, .inl (cI, 60, .inl d45)), (o46, .inl (cI, 40, .inl d46))] H → va_D A [(k, .inr (0, [.ref k0, .ref k1, .ref k2, .ref k3, .ref k4, .int c5])), (k0, .inl (cI, 41, .inl g2_k0)), (k1, .inl (cI, 41, .inl g2_k1)), (o, .inr (9, [.ref o0, .ref o1, .ref o2, .ref o3, .ref o4, .ref o5, .int d6, .int d7, .int d8])), (o0, .inl (cI, 12, .inl d0)), (o4, .inr (8, [.ref o40, .ref o41, .ref o42, .ref o43, .ref o44, .ref o45, .ref o46, .ref o47, .ref o48, .int d49])), (o40, .inl (cI, 60, .inl d40)), (o41, .inl (cI, 60, .inl d41)), (o43, .inl (cI, 60, .inl d43)), (o45, .inl (cI, 60, .inl d45)), (o46, .inl (cI, 40, .inl d46))] → va_S A s.heap H locs → W p l e ({ frames := 3, cells := 0, slots := 0, locals := 68 } : Room) s m args below meth c H locs 0 0 Q (F0 m 2 ls []) := by
    intro fu_; induction fu_ with
    | zero => intro l2_2 g2_k0 g2_k1 i2_0 i2_1 i2_2 i2_3 hm; exact absurd hm (by omega)
    | succ fu_ ih2 =>
        intro l2_2 g2_k0 g2_k1 i2_0 i2_1 i2_2 i2_3 hm ls H locs hl hP hD hS
        have lo_l2_2 := k_lo l2_2
        have hi_l2_2 := k_hi l2_2
        refine lv_iload_n hx hb dX0_survey_2 rfl (lv_at hl 0 rfl) ?_
        refine lv_bipush (v := 40) hx hb dX0_survey_3 (by decide) ?_
        refine b_icmp_ge hx hb rfl zl_40 (tgt := 64) dX0_survey_5 (by decide) (fun c_6 => ?_) (fun c_6 => ?_)
        · exact hRet (g2_k0, g2_k1) [0, 1, 2, 3, 4, 5, 6, 7, 8, 9, 10] (SVN.e i2_3 (by omega)) hP hD (by decide) rfl hS dX0_survey_64
        · refine lv_aload_n hx hb dX0_survey_8 rfl (lv_at hl 2 rfl) ?_
          refine lv_iload_n hx hb dX0_survey_9 rfl (lv_at hl 0 rfl) ?_
          refine kJi (wr := [(k, .inr (0, [.ref k0, .ref k1, .ref k2, .ref k3, .ref k4, .int c5])), (k0, .inl (cI, 41, .inl g2_k0)), (k1, .inl (cI, 41, .inl g2_k1))]) (va_runV (As := [.int l2_2]) (rest := []) ⟨hx, hb, hml, hown, hT⟩ (c_X9_leakOfD l D cI aK aV o o0 o1 o2 o3 o4 o5 o40 o41 o42 o43 o44 o45 o46 o47 o48 H.size d6 d7 d8 d0 d49 d40 d41 d43 d45 d46 d1 d2 d3 d42 d44 d47 d48 d50 d51 gx l2_2 pre0 (by first | omega | decide | assumption | rfl) (by first | omega | decide | assumption | rfl) (by first | omega | decide | assumption | rfl)) (cwV 1 hT (gV_in mw_628 mw_773 mw_626 mw_627 mw_2) rfl rfl rfl (by decide +kernel) ⟨Nat.le_of_ble_eq_true rfl, Nat.le_of_ble_eq_true rfl⟩) (kRecvX (q0 := 3) (ci := 9) hK hP hD hN hXS hS hA rfl rfl [3, 4, 5, 6, 7, 8, 9, 10] rfl (by decide)) rfl rfl hl.1 rfl (lv_room (Nat.le_of_ble_eq_true rfl)) dX0_survey_10 ⟨Nat.le_of_ble_eq_true rfl, Nat.le_of_ble_eq_true rfl⟩) hP hD hS hA [3, 4, 5, 6, 7, 8, 9, 10] [0, 1, 2] rfl rfl (by decide) (by decide) ?_
          clear hP hD hS
          intro r_7 u_9 H locs w_8 hP hD hS
          replace hP : va_P D vwCl [(k, .inr (0, [.ref k0, .ref k1, .ref k2, .ref k3, .ref k4, .int c5])), (k0, .inl (cI, 41, .inl g2_k0)), (k1, .inl (cI, 41, .inl g2_k1)), (o, .inr (9, [.ref o0, .ref o1, .ref o2, .ref o3, .ref o4, .ref o5, .int d6, .int d7, .int d8])), (o0, .inl (cI, 12, .inl d0)), (o4, .inr (8, [.ref o40, .ref o41, .ref o42, .ref o43, .ref o44, .ref o45, .ref o46, .ref o47, .ref o48, .int d49])), (o40, .inl (cI, 60, .inl d40)), (o41, .inl (cI, 60, .inl d41)), (o43, .inl (cI, 60, .inl d43)), (o45, .inl (cI, 60, .inl d45)), (o46, .inl (cI, 40, .inl d46))] H := hP
          replace hD : va_D A [(k, .inr (0, [.ref k0, .ref k1, .ref k2, .ref k3, .ref k4, .int c5])), (k0, .inl (cI, 41, .inl g2_k0)), (k1, .inl (cI, 41, .inl g2_k1)), (o, .inr (9, [.ref o0, .ref o1, .ref o2, .ref o3, .ref o4, .ref o5, .int d6, .int d7, .int d8])), (o0, .inl (cI, 12, .inl d0)), (o4, .inr (8, [.ref o40, .ref o41, .ref o42, .ref o43, .ref o44, .ref o45, .ref o46, .ref o47, .ref o48, .int d49])), (o40, .inl (cI, 60, .inl d40)), (o41, .inl (cI, 60, .inl d41)), (o43, .inl (cI, 60, .inl d43)), (o45, .inl (cI, 60, .inl d45)), (o46, .inl (cI, 40, .inl d46))] := hD
          have h_10 := w_8
          have h_10 : r_7 = lkF gx l2_2.toInt := h_10
          have h_10 : r_7 = lkF gx l2_2.toInt := h_10
          have lo_r_7 := k_lo r_7
          have hi_r_7 := k_hi r_7
          refine lv_istore_n (lv' := [(3, .int r_7), (2, .int l2_2), (0, .ref k), (1, .ref o)]) hx hb dX0_survey_13 rfl hl (by decide) rfl ?_
          clear hl
          intro ls hl
          refine lv_aload_n hx hb dX0_survey_14 rfl (lv_at hl 2 rfl) ?_
          refine va_get (D := D) (ci := 0) (v := .ref k0) (C := RX0) (T := TX0) (N := 6) hx hb hT giX0 hown hK hP 0 rfl rfl 0 (by decide) (hT (Cond.fieldLink RX0 9 "DesertWire$Hands" "leaks" "[I") mw_199) (fun _ h9 => h9) rfl dX0_survey_15 ?_
          refine lv_iload_n hx hb dX0_survey_18 rfl (lv_at hl 1 rfl) ?_
          refine lv_iconst (v := 1) hx hb dX0_survey_19 (by decide) ?_
          refine lv_iadd hx hb dX0_survey_20 ?_
          refine lv_topi (fun v_11 ev_11 => ?_)
          have tv_11 : v_11.toInt = l2_2.toInt + 1 := by rw [ev_11]; exact k_addv rfl zl_1 (by omega) (by omega)
          refine lv_aload_n hx hb dX0_survey_21 rfl (lv_at hl 2 rfl) ?_
          refine va_get (D := D) (ci := 0) (v := .ref k0) (C := RX0) (T := TX0) (N := 6) hx hb hT giX0 hown hK hP 0 rfl rfl 0 (by decide) (hT (Cond.fieldLink RX0 9 "DesertWire$Hands" "leaks" "[I") mw_199) (fun _ h9 => h9) rfl dX0_survey_22 ?_
          refine lv_iload_n hx hb dX0_survey_25 rfl (lv_at hl 1 rfl) ?_
          refine k_iald (v := (g2_k0 l2_2.toNatClampNeg)) hx hb hK hP 1 0 rfl rfl (k_in (by omega) (by omega)) rfl dX0_survey_26 ?_
          refine lv_topi (fun v_12 ev_12 => ?_)
          have lo_v_12 := k_lo v_12
          have hi_v_12 := k_hi v_12
          have tv_12 : v_12.toInt = (g2_k0 l2_2.toNatClampNeg).toInt := by rw [ev_12]
          refine lv_iconst (v := 0) hx hb dX0_survey_27 (by decide) ?_
          refine lv_iload_n hx hb dX0_survey_28 rfl (lv_at hl 0 rfl) ?_
          refine va_mmax hx hb (hml.trans hl.1.symm) hown (hT _ mw_774) (hT _ mw_426) (hT _ mw_13) (hT _ mw_427) (Nat.le_of_ble_eq_true rfl) (Nat.le_of_ble_eq_true rfl) (Nat.le_of_ble_eq_true rfl) (Nat.le_of_ble_eq_true rfl) dX0_survey_29 ?_
          refine lv_topi (fun v_13 ev_13 => ?_)
          have lo_v_13 := k_lo v_13
          have hi_v_13 := k_hi v_13
          have tv_13 : v_13.toInt = k_max 0 r_7.toInt := by rw [ev_13]; exact k_mmax zl_0 rfl
          have sv_13 := k_max_spec (0) (r_7.toInt)
          refine lv_iadd hx hb dX0_survey_32 ?_
          refine lv_topi (fun v_14 ev_14 => ?_)
          have lo_v_14 := k_lo v_14
          have hi_v_14 := k_hi v_14
          refine va_iast hx hb hK hP hD hS 1 0 rfl rfl (k_in (by omega) (by omega)) dX0_survey_33 ?_
          clear hP hD hS
          intro H locs hP hD hS
          replace hP : va_P D vwCl [(k, .inr (0, [.ref k0, .ref k1, .ref k2, .ref k3, .ref k4, .int c5])), (k0, .inl (cI, 41, .inl (upd g2_k0 v_11.toNatClampNeg v_14))), (k1, .inl (cI, 41, .inl g2_k1)), (o, .inr (9, [.ref o0, .ref o1, .ref o2, .ref o3, .ref o4, .ref o5, .int d6, .int d7, .int d8])), (o0, .inl (cI, 12, .inl d0)), (o4, .inr (8, [.ref o40, .ref o41, .ref o42, .ref o43, .ref o44, .ref o45, .ref o46, .ref o47, .ref o48, .int d49])), (o40, .inl (cI, 60, .inl d40)), (o41, .inl (cI, 60, .inl d41)), (o43, .inl (cI, 60, .inl d43)), (o45, .inl (cI, 60, .inl d45)), (o46, .inl (cI, 40, .inl d46))] H := hP
          replace hD : va_D A [(k, .inr (0, [.ref k0, .ref k1, .ref k2, .ref k3, .ref k4, .int c5])), (k0, .inl (cI, 41, .inl (upd g2_k0 v_11.toNatClampNeg v_14))), (k1, .inl (cI, 41, .inl g2_k1)), (o, .inr (9, [.ref o0, .ref o1, .ref o2, .ref o3, .ref o4, .ref o5, .int d6, .int d7, .int d8])), (o0, .inl (cI, 12, .inl d0)), (o4, .inr (8, [.ref o40, .ref o41, .ref o42, .ref o43, .ref o44, .ref o45, .ref o46, .ref o47, .ref o48, .int d49])), (o40, .inl (cI, 60, .inl d40)), (o41, .inl (cI, 60, .inl d41)), (o43, .inl (cI, 60, .inl d43)), (o45, .inl (cI, 60, .inl d45)), (o46, .inl (cI, 40, .inl d46))] := hD
          obtain ⟨f_15, ef_15⟩ : ∃ g : Nat → Int32, g = upd g2_k0 v_11.toNatClampNeg v_14 := ⟨_, rfl⟩
          rw [← ef_15] at hP hD
          refine lv_aload_n hx hb dX0_survey_34 rfl (lv_at hl 2 rfl) ?_
          refine va_get (D := D) (ci := 0) (v := .ref k1) (C := RX0) (T := TX0) (N := 6) hx hb hT giX0 hown hK hP 0 rfl rfl 1 (by decide) (hT (Cond.fieldLink RX0 15 "DesertWire$Hands" "gaps" "[I") mw_200) (fun _ h9 => h9) rfl dX0_survey_35 ?_
          refine lv_iload_n hx hb dX0_survey_38 rfl (lv_at hl 1 rfl) ?_
          refine lv_iconst (v := 1) hx hb dX0_survey_39 (by decide) ?_
          refine lv_iadd hx hb dX0_survey_40 ?_
          refine lv_topi (fun v_16 ev_16 => ?_)
          have tv_16 : v_16.toInt = l2_2.toInt + 1 := by rw [ev_16]; exact k_addv rfl zl_1 (by omega) (by omega)
          refine lv_aload_n hx hb dX0_survey_41 rfl (lv_at hl 2 rfl) ?_
          refine va_get (D := D) (ci := 0) (v := .ref k1) (C := RX0) (T := TX0) (N := 6) hx hb hT giX0 hown hK hP 0 rfl rfl 1 (by decide) (hT (Cond.fieldLink RX0 15 "DesertWire$Hands" "gaps" "[I") mw_200) (fun _ h9 => h9) rfl dX0_survey_42 ?_
          refine lv_iload_n hx hb dX0_survey_45 rfl (lv_at hl 1 rfl) ?_
          refine k_iald (v := (g2_k1 l2_2.toNatClampNeg)) hx hb hK hP 2 0 rfl rfl (k_in (by omega) (by omega)) rfl dX0_survey_46 ?_
          refine lv_topi (fun v_17 ev_17 => ?_)
          have lo_v_17 := k_lo v_17
          have hi_v_17 := k_hi v_17
          have tv_17 : v_17.toInt = (g2_k1 l2_2.toNatClampNeg).toInt := by rw [ev_17]
          refine lv_iload_n hx hb dX0_survey_47 rfl (lv_at hl 0 rfl) ?_
          refine b_if_ge hx hb rfl (tgt := 55) dX0_survey_48 (by decide) (fun c_18 => ?_) (fun c_18 => ?_)
          · refine lv_iconst (v := 0) hx hb dX0_survey_55 (by decide) ?_
            refine lv_iadd hx hb dX0_survey_56 ?_
            refine lv_topi (fun v_19 ev_19 => ?_)
            have tv_19 : v_19.toInt = v_17.toInt + 0 := by rw [ev_19]; exact k_addv rfl zl_0 (by omega) (by omega)
            refine va_iast hx hb hK hP hD hS 2 0 rfl rfl (k_in (by omega) (by omega)) dX0_survey_57 ?_
            clear hP hD hS
            intro H locs hP hD hS
            replace hP : va_P D vwCl [(k, .inr (0, [.ref k0, .ref k1, .ref k2, .ref k3, .ref k4, .int c5])), (k0, .inl (cI, 41, .inl f_15)), (k1, .inl (cI, 41, .inl (upd g2_k1 v_16.toNatClampNeg v_19))), (o, .inr (9, [.ref o0, .ref o1, .ref o2, .ref o3, .ref o4, .ref o5, .int d6, .int d7, .int d8])), (o0, .inl (cI, 12, .inl d0)), (o4, .inr (8, [.ref o40, .ref o41, .ref o42, .ref o43, .ref o44, .ref o45, .ref o46, .ref o47, .ref o48, .int d49])), (o40, .inl (cI, 60, .inl d40)), (o41, .inl (cI, 60, .inl d41)), (o43, .inl (cI, 60, .inl d43)), (o45, .inl (cI, 60, .inl d45)), (o46, .inl (cI, 40, .inl d46))] H := hP
            replace hD : va_D A [(k, .inr (0, [.ref k0, .ref k1, .ref k2, .ref k3, .ref k4, .int c5])), (k0, .inl (cI, 41, .inl f_15)), (k1, .inl (cI, 41, .inl (upd g2_k1 v_16.toNatClampNeg v_19))), (o, .inr (9, [.ref o0, .ref o1, .ref o2, .ref o3, .ref o4, .ref o5, .int d6, .int d7, .int d8])), (o0, .inl (cI, 12, .inl d0)), (o4, .inr (8, [.ref o40, .ref o41, .ref o42, .ref o43, .ref o44, .ref o45, .ref o46, .ref o47, .ref o48, .int d49])), (o40, .inl (cI, 60, .inl d40)), (o41, .inl (cI, 60, .inl d41)), (o43, .inl (cI, 60, .inl d43)), (o45, .inl (cI, 60, .inl d45)), (o46, .inl (cI, 40, .inl d46))] := hD
            obtain ⟨f_20, ef_20⟩ : ∃ g : Nat → Int32, g = upd g2_k1 v_16.toNatClampNeg v_19 := ⟨_, rfl⟩
            rw [← ef_20] at hP hD
            obtain ⟨v_21, ev_21⟩ : ∃ y : Int32, y = l2_2 + 1 := ⟨_, rfl⟩
            have tv_21 : v_21.toInt = l2_2.toInt + 1 := by rw [ev_21]; exact k_addv rfl zl_1 (by omega) (by omega)
            refine lv_iinc (v := v_21) (lv' := [(2, .int v_21), (3, .int r_7), (0, .ref k), (1, .ref o)]) hx hb dX0_survey_58 hl (k := 1) rfl (by rw [ev_21]; rfl) (by decide) rfl ?_
            clear hl
            intro ls hl
            refine lv_goto (tgt := 2) hx hb dX0_survey_61 (by decide) ?_
            exact ih2 v_21 f_15 f_20 (by first | omega | decide | assumption | rfl) (by first | omega | decide | assumption | rfl) (by first | omega | decide | assumption | rfl) (SVN.s (lk := r_7) (j1 := v_11) (j2 := v_16) i2_3 (by omega) (by omega) h_10 (by omega) (by omega) ev_12 ev_14 (by unfold plV; split <;> first | rfl | (exact k_inj (by have := zl_0; omega))) ef_15 ev_17 ev_19 (by unfold ngV; first | exact (if_pos (by omega)).symm | exact (if_neg (by omega)).symm) ef_20) (by omega) ls _ _ (lv_sub hl [0, 2, 3] rfl) (hP.sub [0, 1, 2, 3, 4, 5, 6, 7, 8, 9, 10] rfl) (hD.sub [0, 1, 2, 3, 4, 5, 6, 7, 8, 9, 10] (by decide) rfl) hS
          · refine lv_iconst (v := 1) hx hb dX0_survey_51 (by decide) ?_
            refine lv_goto (tgt := 56) hx hb dX0_survey_52 (by decide) ?_
            refine lv_iadd hx hb dX0_survey_56 ?_
            refine lv_topi (fun v_22 ev_22 => ?_)
            have lo_v_22 := k_lo v_22
            have hi_v_22 := k_hi v_22
            refine va_iast hx hb hK hP hD hS 2 0 rfl rfl (k_in (by omega) (by omega)) dX0_survey_57 ?_
            clear hP hD hS
            intro H locs hP hD hS
            replace hP : va_P D vwCl [(k, .inr (0, [.ref k0, .ref k1, .ref k2, .ref k3, .ref k4, .int c5])), (k0, .inl (cI, 41, .inl f_15)), (k1, .inl (cI, 41, .inl (upd g2_k1 v_16.toNatClampNeg v_22))), (o, .inr (9, [.ref o0, .ref o1, .ref o2, .ref o3, .ref o4, .ref o5, .int d6, .int d7, .int d8])), (o0, .inl (cI, 12, .inl d0)), (o4, .inr (8, [.ref o40, .ref o41, .ref o42, .ref o43, .ref o44, .ref o45, .ref o46, .ref o47, .ref o48, .int d49])), (o40, .inl (cI, 60, .inl d40)), (o41, .inl (cI, 60, .inl d41)), (o43, .inl (cI, 60, .inl d43)), (o45, .inl (cI, 60, .inl d45)), (o46, .inl (cI, 40, .inl d46))] H := hP
            replace hD : va_D A [(k, .inr (0, [.ref k0, .ref k1, .ref k2, .ref k3, .ref k4, .int c5])), (k0, .inl (cI, 41, .inl f_15)), (k1, .inl (cI, 41, .inl (upd g2_k1 v_16.toNatClampNeg v_22))), (o, .inr (9, [.ref o0, .ref o1, .ref o2, .ref o3, .ref o4, .ref o5, .int d6, .int d7, .int d8])), (o0, .inl (cI, 12, .inl d0)), (o4, .inr (8, [.ref o40, .ref o41, .ref o42, .ref o43, .ref o44, .ref o45, .ref o46, .ref o47, .ref o48, .int d49])), (o40, .inl (cI, 60, .inl d40)), (o41, .inl (cI, 60, .inl d41)), (o43, .inl (cI, 60, .inl d43)), (o45, .inl (cI, 60, .inl d45)), (o46, .inl (cI, 40, .inl d46))] := hD
            obtain ⟨f_23, ef_23⟩ : ∃ g : Nat → Int32, g = upd g2_k1 v_16.toNatClampNeg v_22 := ⟨_, rfl⟩
            rw [← ef_23] at hP hD
            obtain ⟨v_24, ev_24⟩ : ∃ y : Int32, y = l2_2 + 1 := ⟨_, rfl⟩
            have tv_24 : v_24.toInt = l2_2.toInt + 1 := by rw [ev_24]; exact k_addv rfl zl_1 (by omega) (by omega)
            refine lv_iinc (v := v_24) (lv' := [(2, .int v_24), (3, .int r_7), (0, .ref k), (1, .ref o)]) hx hb dX0_survey_58 hl (k := 1) rfl (by rw [ev_24]; rfl) (by decide) rfl ?_
            clear hl
            intro ls hl
            refine lv_goto (tgt := 2) hx hb dX0_survey_61 (by decide) ?_
            exact ih2 v_24 f_15 f_23 (by first | omega | decide | assumption | rfl) (by first | omega | decide | assumption | rfl) (by first | omega | decide | assumption | rfl) (SVN.s (lk := r_7) (j1 := v_11) (j2 := v_16) i2_3 (by omega) (by omega) h_10 (by omega) (by omega) ev_12 ev_14 (by unfold plV; split <;> first | rfl | (exact k_inj (by have := zl_0; omega))) ef_15 ev_17 ev_22 (by unfold ngV; first | exact (if_pos (by omega)).symm | exact (if_neg (by omega)).symm) ef_23) (by omega) ls _ _ (lv_sub hl [0, 2, 3] rfl) (hP.sub [0, 1, 2, 3, 4, 5, 6, 7, 8, 9, 10] rfl) (hD.sub [0, 1, 2, 3, 4, 5, 6, 7, 8, 9, 10] (by decide) rfl) hS
  exact hloop_2 _ 0 c0 c1 (by first | omega | (simp only [zl_0]; first | done | omega) | decide | assumption | rfl) (by first | omega | (simp only [zl_0]; first | done | omega) | decide | assumption | rfl) (by first | omega | (simp only [zl_0]; first | done | omega) | decide | assumption | rfl) (SVN.z zl_0) (Nat.lt_succ_self _) ls _ _ (lv_sub hl [0, 1, 2] rfl) hP hD hS

set_option maxHeartbeats 4000000 in
set_option maxRecDepth 100000 in
theorem c_X0_canReadD (l : Launch) (D : va_G) (cI : ClassId) (aK aV : Nat → Nat) (k o k0 k1 k2 k3 k4 o0 o1 o2 o3 o4 o5 o40 o41 o42 o43 o44 o45 o46 o47 o48 : Nat) (sz : Nat) (c5 : Int32) (c0 : Nat → Int32) (c1 : Nat → Int32) (d6 : Int32) (d7 : Int32) (d8 : Int32) (d49 : Int32) (d41 : Nat → Int32) (d45 : Nat → Int32) (d0 : Nat → Int32) (d1 : Nat → Int32) (d2 : Nat → Int32) (d3 : Nat → Int32) (d40 : Nat → Int32) (d42 : Nat → Int32) (d43 : Nat → Int32) (d44 : Nat → Int32) (d46 : Nat → Int32) (d47 : Nat → Int32) (d48 : Nat → Int32) (d50 : Nat → Int32) (d51 : Int32) (gx : Nat → Int32) (a1 : Int32) (a2 : Int32) (pre0 : WR d0 d1 d2 d3 d40 d41 d42 d43 d44 d45 d46 d47 d48 d49 d50 d51 d6 d7 d8 gx) (pre1 : SB gx) (pre2 : NNG gx) (pre3 : SVY gx c0 c1) (pre4 : 0 ≤ a1.toInt) (pre5 : a1.toInt < d49.toInt) (pre6 : 0 ≤ a2.toInt) (pre7 : a2.toInt < d49.toInt) (pre8 : (wW gx a1 0).toInt = 3) (pre9 : (wW gx a2 0).toInt = 3) : Met l yX0_canRead (gW yX0_canRead cX0_canRead 8 (some .boolean)) ({ frames := 2, cells := 0, slots := 0, locals := 42 } : Room) (kPreX D cI aK aV [.ref k, .ref o, .int a1, .int a2] [(k, .inr (0, [.ref k0, .ref k1, .ref k2, .ref k3, .ref k4, .int c5])), (k0, .inl (cI, 41, .inl c0)), (k1, .inl (cI, 41, .inl c1)), (o, .inr (9, [.ref o0, .ref o1, .ref o2, .ref o3, .ref o4, .ref o5, .int d6, .int d7, .int d8])), (o4, .inr (8, [.ref o40, .ref o41, .ref o42, .ref o43, .ref o44, .ref o45, .ref o46, .ref o47, .ref o48, .int d49])), (o41, .inl (cI, 60, .inl d41)), (o45, .inl (cI, 60, .inl d45))] sz) (va_Qi (fun (r : Int32) (u : Unit) => (r = 1 ∧ crF gx a1 a2 = 1) ∨ (r = 0 ∧ crF gx a1 a2 = 0)) (fun u t => kWd D cI (va_A [(k, .inr (0, [.ref k0, .ref k1, .ref k2, .ref k3, .ref k4, .int c5])), (k0, .inl (cI, 41, .inl c0)), (k1, .inl (cI, 41, .inl c1)), (o, .inr (9, [.ref o0, .ref o1, .ref o2, .ref o3, .ref o4, .ref o5, .int d6, .int d7, .int d8])), (o4, .inr (8, [.ref o40, .ref o41, .ref o42, .ref o43, .ref o44, .ref o45, .ref o46, .ref o47, .ref o48, .int d49])), (o41, .inl (cI, 60, .inl d41)), (o45, .inl (cI, 60, .inl d45))] sz) [(k, .inr (0, [.ref k0, .ref k1, .ref k2, .ref k3, .ref k4, .int c5])), (k0, .inl (cI, 41, .inl c0)), (k1, .inl (cI, 41, .inl c1)), (o, .inr (9, [.ref o0, .ref o1, .ref o2, .ref o3, .ref o4, .ref o5, .int d6, .int d7, .int d8])), (o4, .inr (8, [.ref o40, .ref o41, .ref o42, .ref o43, .ref o44, .ref o45, .ref o46, .ref o47, .ref o48, .int d49])), (o41, .inl (cI, 60, .inl d41)), (o45, .inl (cI, 60, .inl d45))] t) (va_A [(k, .inr (0, [.ref k0, .ref k1, .ref k2, .ref k3, .ref k4, .int c5])), (k0, .inl (cI, 41, .inl c0)), (k1, .inl (cI, 41, .inl c1)), (o, .inr (9, [.ref o0, .ref o1, .ref o2, .ref o3, .ref o4, .ref o5, .int d6, .int d7, .int d8])), (o4, .inr (8, [.ref o40, .ref o41, .ref o42, .ref o43, .ref o44, .ref o45, .ref o46, .ref o47, .ref o48, .int d49])), (o41, .inl (cI, 60, .inl d41)), (o45, .inl (cI, 60, .inl d45))] sz)) 0 0 (va_A [(k, .inr (0, [.ref k0, .ref k1, .ref k2, .ref k3, .ref k4, .int c5])), (k0, .inl (cI, 41, .inl c0)), (k1, .inl (cI, 41, .inl c1)), (o, .inr (9, [.ref o0, .ref o1, .ref o2, .ref o3, .ref o4, .ref o5, .int d6, .int d7, .int d8])), (o4, .inr (8, [.ref o40, .ref o41, .ref o42, .ref o43, .ref o44, .ref o45, .ref o46, .ref o47, .ref o48, .int d49])), (o41, .inl (cI, 60, .inl d41)), (o45, .inl (cI, 60, .inl d45))] sz) := by
  refine kMetIX (own := RX0) (by decide) rfl (Nat.le_of_ble_eq_true rfl) ?_
  intro p e s m args below meth c hx hb hT hown hname hml A Q hK hP hD hS hA hN hXS hRet ls hl
  have hl : lv_has ls 8 [(0, .ref k), (1, .ref o), (2, .int a1), (3, .int a2)] := hl
  have lo_a1 := k_lo a1
  have hi_a1 := k_hi a1
  have lo_a2 := k_lo a2
  have hi_a2 := k_hi a2
  have lo_d6 := k_lo d6
  have hi_d6 := k_hi d6
  have lo_d7 := k_lo d7
  have hi_d7 := k_hi d7
  have lo_d8 := k_lo d8
  have hi_d8 := k_hi d8
  have lo_d49 := k_lo d49
  have hi_d49 := k_hi d49
  have lo_d51 := k_lo d51
  have hi_d51 := k_hi d51
  have pre0 : WR d0 d1 d2 d3 d40 d41 d42 d43 d44 d45 d46 d47 d48 d49 d50 d51 d6 d7 d8 gx := pre0
  have b_1 : 0 ≤ d49.toInt ∧ d49.toInt ≤ 60 := WKR.n0 (WR.kw pre0)
  have t_2 : d49.toInt = (gx 1).toInt := WKR.nt (WR.kw pre0)
  have b_3 : 0 ≤ d51.toInt ∧ d51.toInt ≤ 4 := ((WR.kp pre0)).2.1
  have t_4 : d51.toInt = (gx 2).toInt := PTR.nt (WR.kp pre0)
  have t_5 : d8.toInt = (gx 0).toInt := by rw [WR.dd pre0]
  have pre1 : SB gx := pre1
  refine lv_aload_n hx hb dX0_canRead_0 rfl (lv_at hl 1 rfl) ?_
  refine va_get (D := D) (ci := 9) (v := .ref o4) (C := RX9) (T := TX9) (N := 9) hx hb hT giX9 hown hK hP 3 rfl rfl 4 (by decide) (hT (Cond.fieldLink RX0 43 "DesertWire$World" "works" "LDesertWire$Works;") mw_98) (fun _ h9 => h9) rfl dX0_canRead_1 ?_
  refine lv_astore (lv' := [(4, .ref o4), (0, .ref k), (1, .ref o), (2, .int a1), (3, .int a2)]) hx hb dX0_canRead_4 hl (by decide) rfl ?_
  clear hl
  intro ls hl
  refine lv_aload hx hb dX0_canRead_6 (lv_at hl 0 rfl) ?_
  refine lv_iload_n hx hb dX0_canRead_8 rfl (lv_at hl 3 rfl) ?_
  refine kJi (wr := [(k, .inr (0, [.ref k0, .ref k1, .ref k2, .ref k3, .ref k4, .int c5])), (k0, .inl (cI, 41, .inl c0)), (k1, .inl (cI, 41, .inl c1)), (o, .inr (9, [.ref o0, .ref o1, .ref o2, .ref o3, .ref o4, .ref o5, .int d6, .int d7, .int d8])), (o41, .inl (cI, 60, .inl d41))]) (va_runV (As := [.int a1]) (rest := []) ⟨hx, hb, hml, hown, hT⟩ (c_X8_isDownD l D cI aK aV o4 o40 o41 o42 o43 o44 o45 o46 o47 o48 s.heap.size d49 d45 a1) (cwV 1 hT (gV_in mw_407 mw_779 mw_405 mw_406 mw_3) rfl rfl rfl (by decide +kernel) ⟨Nat.le_of_ble_eq_true rfl, Nat.le_of_ble_eq_true rfl⟩) (kRecvX (q0 := 4) (ci := 8) hK hP hD hN hXS hS hA rfl rfl [4, 6] rfl (by decide)) rfl rfl hl.1 rfl (lv_room (Nat.le_of_ble_eq_true rfl)) dX0_canRead_9 ⟨Nat.le_of_ble_eq_true rfl, Nat.le_of_ble_eq_true rfl⟩) hP hD hS hA [4, 6] [0, 1, 2, 3, 5] rfl rfl (by decide) (by decide) ?_
  clear hP hD hS
  intro r_6 u_8 H locs w_7 hP hD hS
  replace hP : va_P D vwCl [(k, .inr (0, [.ref k0, .ref k1, .ref k2, .ref k3, .ref k4, .int c5])), (k0, .inl (cI, 41, .inl c0)), (k1, .inl (cI, 41, .inl c1)), (o, .inr (9, [.ref o0, .ref o1, .ref o2, .ref o3, .ref o4, .ref o5, .int d6, .int d7, .int d8])), (o41, .inl (cI, 60, .inl d41)), (o4, .inr (8, [.ref o40, .ref o41, .ref o42, .ref o43, .ref o44, .ref o45, .ref o46, .ref o47, .ref o48, .int d49])), (o45, .inl (cI, 60, .inl d45))] H := hP
  replace hD : va_D A [(k, .inr (0, [.ref k0, .ref k1, .ref k2, .ref k3, .ref k4, .int c5])), (k0, .inl (cI, 41, .inl c0)), (k1, .inl (cI, 41, .inl c1)), (o, .inr (9, [.ref o0, .ref o1, .ref o2, .ref o3, .ref o4, .ref o5, .int d6, .int d7, .int d8])), (o41, .inl (cI, 60, .inl d41)), (o4, .inr (8, [.ref o40, .ref o41, .ref o42, .ref o43, .ref o44, .ref o45, .ref o46, .ref o47, .ref o48, .int d49])), (o45, .inl (cI, 60, .inl d45))] := hD
  rcases w_7 with ⟨hr_6, h_9, h_10, h_11, h_12⟩ | ⟨hr_6, h_13, h_14, h_15, h_16⟩ | ⟨hr_6, h_17⟩
  · have h_9 : 0 ≤ a1.toInt := h_9
    have h_10 : a1.toInt < d49.toInt := h_10
    have h_11 : a1.toInt ≤ 59 := h_11
    have h_12 : (d45 a1.toNatClampNeg).toInt ≠ 0 := h_12
    have t_18 : (d45 a1.toNatClampNeg).toInt = (wW gx a1 4).toInt := by rw [WKR.r4 (WR.kw pre0) (by omega) (by omega)]
    obtain rfl : r_6 = 1 := hr_6.trans (by decide)
    refine b_if_ne hx hb zl_1 (tgt := 24) dX0_canRead_12 (by decide) (fun c_19 => ?_) (fun c_19 => by exfalso; omega)
    refine lv_iconst (v := 0) hx hb dX0_canRead_24 (by decide) ?_
    exact hRet () [0, 1, 2, 3, 5, 4, 6] (Or.inr (⟨rfl, (crF_n (by first | exact Or.inl (st_30 (by omega)) | exact Or.inr (st_30 (by omega))))⟩)) hP hD (by decide) rfl hS rfl dX0_canRead_25
  · have h_13 : 0 ≤ a1.toInt := h_13
    have h_14 : a1.toInt < d49.toInt := h_14
    have h_15 : a1.toInt ≤ 59 := h_15
    have h_16 : (d45 a1.toNatClampNeg).toInt = 0 := h_16
    have t_20 : (d45 a1.toNatClampNeg).toInt = (wW gx a1 4).toInt := by rw [WKR.r4 (WR.kw pre0) (by omega) (by omega)]
    obtain rfl : r_6 = 0 := hr_6.trans (by decide)
    refine b_if_ne hx hb zl_0 (tgt := 24) dX0_canRead_12 (by decide) (fun c_21 => by exfalso; omega) (fun c_21 => ?_)
    refine lv_aload hx hb dX0_canRead_15 (lv_at hl 0 rfl) ?_
    refine lv_iload_n hx hb dX0_canRead_17 rfl (lv_at hl 4 rfl) ?_
    refine kJi (wr := [(k, .inr (0, [.ref k0, .ref k1, .ref k2, .ref k3, .ref k4, .int c5])), (k0, .inl (cI, 41, .inl c0)), (k1, .inl (cI, 41, .inl c1)), (o, .inr (9, [.ref o0, .ref o1, .ref o2, .ref o3, .ref o4, .ref o5, .int d6, .int d7, .int d8])), (o41, .inl (cI, 60, .inl d41))]) (va_runV (As := [.int a2]) (rest := []) ⟨hx, hb, hml, hown, hT⟩ (c_X8_isDownD l D cI aK aV o4 o40 o41 o42 o43 o44 o45 o46 o47 o48 H.size d49 d45 a2) (cwV 1 hT (gV_in mw_407 mw_779 mw_405 mw_406 mw_3) rfl rfl rfl (by decide +kernel) ⟨Nat.le_of_ble_eq_true rfl, Nat.le_of_ble_eq_true rfl⟩) (kRecvX (q0 := 5) (ci := 8) hK hP hD hN hXS hS hA rfl rfl [5, 6] rfl (by decide)) rfl rfl hl.1 rfl (lv_room (Nat.le_of_ble_eq_true rfl)) dX0_canRead_18 ⟨Nat.le_of_ble_eq_true rfl, Nat.le_of_ble_eq_true rfl⟩) hP hD hS hA [5, 6] [0, 1, 2, 3, 4] rfl rfl (by decide) (by decide) ?_
    clear hP hD hS
    intro r_22 u_24 H locs w_23 hP hD hS
    replace hP : va_P D vwCl [(k, .inr (0, [.ref k0, .ref k1, .ref k2, .ref k3, .ref k4, .int c5])), (k0, .inl (cI, 41, .inl c0)), (k1, .inl (cI, 41, .inl c1)), (o, .inr (9, [.ref o0, .ref o1, .ref o2, .ref o3, .ref o4, .ref o5, .int d6, .int d7, .int d8])), (o41, .inl (cI, 60, .inl d41)), (o4, .inr (8, [.ref o40, .ref o41, .ref o42, .ref o43, .ref o44, .ref o45, .ref o46, .ref o47, .ref o48, .int d49])), (o45, .inl (cI, 60, .inl d45))] H := hP
    replace hD : va_D A [(k, .inr (0, [.ref k0, .ref k1, .ref k2, .ref k3, .ref k4, .int c5])), (k0, .inl (cI, 41, .inl c0)), (k1, .inl (cI, 41, .inl c1)), (o, .inr (9, [.ref o0, .ref o1, .ref o2, .ref o3, .ref o4, .ref o5, .int d6, .int d7, .int d8])), (o41, .inl (cI, 60, .inl d41)), (o4, .inr (8, [.ref o40, .ref o41, .ref o42, .ref o43, .ref o44, .ref o45, .ref o46, .ref o47, .ref o48, .int d49])), (o45, .inl (cI, 60, .inl d45))] := hD
    rcases w_23 with ⟨hr_22, h_25, h_26, h_27, h_28⟩ | ⟨hr_22, h_29, h_30, h_31, h_32⟩ | ⟨hr_22, h_33⟩
    · have h_25 : 0 ≤ a2.toInt := h_25
      have h_26 : a2.toInt < d49.toInt := h_26
      have h_27 : a2.toInt ≤ 59 := h_27
      have h_28 : (d45 a2.toNatClampNeg).toInt ≠ 0 := h_28
      have t_34 : (d45 a2.toNatClampNeg).toInt = (wW gx a2 4).toInt := by rw [WKR.r4 (WR.kw pre0) (by omega) (by omega)]
      obtain rfl : r_22 = 1 := hr_22.trans (by decide)
      refine b_if_eq hx hb zl_1 (tgt := 26) dX0_canRead_21 (by decide) (fun c_35 => by exfalso; omega) (fun c_35 => ?_)
      refine lv_iconst (v := 0) hx hb dX0_canRead_24 (by decide) ?_
      exact hRet () [0, 1, 2, 3, 5, 4, 6] (Or.inr (⟨rfl, (crF_n (by first | exact Or.inl (st_30 (by omega)) | exact Or.inr (st_30 (by omega))))⟩)) hP hD (by decide) rfl hS rfl dX0_canRead_25
    · have h_29 : 0 ≤ a2.toInt := h_29
      have h_30 : a2.toInt < d49.toInt := h_30
      have h_31 : a2.toInt ≤ 59 := h_31
      have h_32 : (d45 a2.toNatClampNeg).toInt = 0 := h_32
      have t_36 : (d45 a2.toNatClampNeg).toInt = (wW gx a2 4).toInt := by rw [WKR.r4 (WR.kw pre0) (by omega) (by omega)]
      obtain rfl : r_22 = 0 := hr_22.trans (by decide)
      refine b_if_eq hx hb zl_0 (tgt := 26) dX0_canRead_21 (by decide) (fun c_37 => ?_) (fun c_37 => by exfalso; omega)
      refine lv_aload hx hb dX0_canRead_26 (lv_at hl 0 rfl) ?_
      refine lv_iload_n hx hb dX0_canRead_28 rfl (lv_at hl 3 rfl) ?_
      refine kJi (wr := [(k, .inr (0, [.ref k0, .ref k1, .ref k2, .ref k3, .ref k4, .int c5])), (k0, .inl (cI, 41, .inl c0)), (k1, .inl (cI, 41, .inl c1)), (o, .inr (9, [.ref o0, .ref o1, .ref o2, .ref o3, .ref o4, .ref o5, .int d6, .int d7, .int d8])), (o45, .inl (cI, 60, .inl d45))]) (va_runV (As := [.int a1]) (rest := []) ⟨hx, hb, hml, hown, hT⟩ (c_X8_mileOfD l D cI aK aV o4 o40 o41 o42 o43 o44 o45 o46 o47 o48 H.size d49 d41 a1) (cwV 1 hT (gV_in mw_367 mw_780 mw_365 mw_366 mw_3) rfl rfl rfl (by decide +kernel) ⟨Nat.le_of_ble_eq_true rfl, Nat.le_of_ble_eq_true rfl⟩) (kRecvX (q0 := 5) (ci := 8) hK hP hD hN hXS hS hA rfl rfl [5, 4] rfl (by decide)) rfl rfl hl.1 rfl (lv_room (Nat.le_of_ble_eq_true rfl)) dX0_canRead_29 ⟨Nat.le_of_ble_eq_true rfl, Nat.le_of_ble_eq_true rfl⟩) hP hD hS hA [5, 4] [0, 1, 2, 3, 6] rfl rfl (by decide) (by decide) ?_
      clear hP hD hS
      intro r_38 u_40 H locs w_39 hP hD hS
      replace hP : va_P D vwCl [(k, .inr (0, [.ref k0, .ref k1, .ref k2, .ref k3, .ref k4, .int c5])), (k0, .inl (cI, 41, .inl c0)), (k1, .inl (cI, 41, .inl c1)), (o, .inr (9, [.ref o0, .ref o1, .ref o2, .ref o3, .ref o4, .ref o5, .int d6, .int d7, .int d8])), (o45, .inl (cI, 60, .inl d45)), (o4, .inr (8, [.ref o40, .ref o41, .ref o42, .ref o43, .ref o44, .ref o45, .ref o46, .ref o47, .ref o48, .int d49])), (o41, .inl (cI, 60, .inl d41))] H := hP
      replace hD : va_D A [(k, .inr (0, [.ref k0, .ref k1, .ref k2, .ref k3, .ref k4, .int c5])), (k0, .inl (cI, 41, .inl c0)), (k1, .inl (cI, 41, .inl c1)), (o, .inr (9, [.ref o0, .ref o1, .ref o2, .ref o3, .ref o4, .ref o5, .int d6, .int d7, .int d8])), (o45, .inl (cI, 60, .inl d45)), (o4, .inr (8, [.ref o40, .ref o41, .ref o42, .ref o43, .ref o44, .ref o45, .ref o46, .ref o47, .ref o48, .int d49])), (o41, .inl (cI, 60, .inl d41))] := hD
      rcases w_39 with ⟨h_41, h_42, h_43, h_44⟩ | ⟨hr_38, h_45⟩
      · have h_41 : 0 ≤ a1.toInt := h_41
        have h_42 : a1.toInt < d49.toInt := h_42
        have h_43 : a1.toInt ≤ 59 := h_43
        have h_44 : r_38 = d41 a1.toNatClampNeg := h_44
        have h_46 : r_38 = wW gx a1 1 := Eq.trans h_44 (WKR.r1 (WR.kw pre0) (by omega) (by omega))
        have t_47 : r_38.toInt = (wW gx a1 1).toInt := by rw [h_46]
        have b_48 : 0 ≤ r_38.toInt ∧ r_38.toInt ≤ 39 := by rw [h_46]; exact SB.w1 pre1 (by omega) (by omega)
        have lo_r_38 := k_lo r_38
        have hi_r_38 := k_hi r_38
        refine lv_aload hx hb dX0_canRead_32 (lv_at hl 0 rfl) ?_
        refine lv_iload_n hx hb dX0_canRead_34 rfl (lv_at hl 4 rfl) ?_
        refine kJi (wr := [(k, .inr (0, [.ref k0, .ref k1, .ref k2, .ref k3, .ref k4, .int c5])), (k0, .inl (cI, 41, .inl c0)), (k1, .inl (cI, 41, .inl c1)), (o, .inr (9, [.ref o0, .ref o1, .ref o2, .ref o3, .ref o4, .ref o5, .int d6, .int d7, .int d8])), (o45, .inl (cI, 60, .inl d45))]) (va_runV (As := [.int a2]) (rest := [.int r_38]) ⟨hx, hb, hml, hown, hT⟩ (c_X8_mileOfD l D cI aK aV o4 o40 o41 o42 o43 o44 o45 o46 o47 o48 H.size d49 d41 a2) (cwV 1 hT (gV_in mw_367 mw_780 mw_365 mw_366 mw_3) rfl rfl rfl (by decide +kernel) ⟨Nat.le_of_ble_eq_true rfl, Nat.le_of_ble_eq_true rfl⟩) (kRecvX (q0 := 5) (ci := 8) hK hP hD hN hXS hS hA rfl rfl [5, 6] rfl (by decide)) rfl rfl hl.1 rfl (lv_room (Nat.le_of_ble_eq_true rfl)) dX0_canRead_35 ⟨Nat.le_of_ble_eq_true rfl, Nat.le_of_ble_eq_true rfl⟩) hP hD hS hA [5, 6] [0, 1, 2, 3, 4] rfl rfl (by decide) (by decide) ?_
        clear hP hD hS
        intro r_49 u_51 H locs w_50 hP hD hS
        replace hP : va_P D vwCl [(k, .inr (0, [.ref k0, .ref k1, .ref k2, .ref k3, .ref k4, .int c5])), (k0, .inl (cI, 41, .inl c0)), (k1, .inl (cI, 41, .inl c1)), (o, .inr (9, [.ref o0, .ref o1, .ref o2, .ref o3, .ref o4, .ref o5, .int d6, .int d7, .int d8])), (o45, .inl (cI, 60, .inl d45)), (o4, .inr (8, [.ref o40, .ref o41, .ref o42, .ref o43, .ref o44, .ref o45, .ref o46, .ref o47, .ref o48, .int d49])), (o41, .inl (cI, 60, .inl d41))] H := hP
        replace hD : va_D A [(k, .inr (0, [.ref k0, .ref k1, .ref k2, .ref k3, .ref k4, .int c5])), (k0, .inl (cI, 41, .inl c0)), (k1, .inl (cI, 41, .inl c1)), (o, .inr (9, [.ref o0, .ref o1, .ref o2, .ref o3, .ref o4, .ref o5, .int d6, .int d7, .int d8])), (o45, .inl (cI, 60, .inl d45)), (o4, .inr (8, [.ref o40, .ref o41, .ref o42, .ref o43, .ref o44, .ref o45, .ref o46, .ref o47, .ref o48, .int d49])), (o41, .inl (cI, 60, .inl d41))] := hD
        rcases w_50 with ⟨h_52, h_53, h_54, h_55⟩ | ⟨hr_49, h_56⟩
        · have h_52 : 0 ≤ a2.toInt := h_52
          have h_53 : a2.toInt < d49.toInt := h_53
          have h_54 : a2.toInt ≤ 59 := h_54
          have h_55 : r_49 = d41 a2.toNatClampNeg := h_55
          have h_57 : r_49 = wW gx a2 1 := Eq.trans h_55 (WKR.r1 (WR.kw pre0) (by omega) (by omega))
          have t_58 : r_49.toInt = (wW gx a2 1).toInt := by rw [h_57]
          have b_59 : 0 ≤ r_49.toInt ∧ r_49.toInt ≤ 39 := by rw [h_57]; exact SB.w1 pre1 (by omega) (by omega)
          have lo_r_49 := k_lo r_49
          have hi_r_49 := k_hi r_49
          refine va_mmin hx hb (hml.trans hl.1.symm) hown (hT _ mw_781) (hT _ mw_538) (hT _ mw_13) (hT _ mw_539) (Nat.le_of_ble_eq_true rfl) (Nat.le_of_ble_eq_true rfl) (Nat.le_of_ble_eq_true rfl) (Nat.le_of_ble_eq_true rfl) dX0_canRead_38 ?_
          refine lv_topi (fun v_60 ev_60 => ?_)
          have lo_v_60 := k_lo v_60
          have hi_v_60 := k_hi v_60
          have tv_60 : v_60.toInt = k_min r_38.toInt r_49.toInt := by rw [ev_60]; exact k_mmin rfl rfl
          have sv_60 := k_min_spec (r_38.toInt) (r_49.toInt)
          have nv_60 : 0 ≤ v_60.toInt := by omega
          refine lv_istore (lv' := [(5, .int v_60), (4, .ref o4), (0, .ref k), (1, .ref o), (2, .int a1), (3, .int a2)]) hx hb dX0_canRead_41 hl (by decide) rfl ?_
          clear hl
          intro ls hl
          refine lv_aload hx hb dX0_canRead_43 (lv_at hl 1 rfl) ?_
          refine lv_iload_n hx hb dX0_canRead_45 rfl (lv_at hl 4 rfl) ?_
          refine kJi (wr := [(k, .inr (0, [.ref k0, .ref k1, .ref k2, .ref k3, .ref k4, .int c5])), (k0, .inl (cI, 41, .inl c0)), (k1, .inl (cI, 41, .inl c1)), (o, .inr (9, [.ref o0, .ref o1, .ref o2, .ref o3, .ref o4, .ref o5, .int d6, .int d7, .int d8])), (o45, .inl (cI, 60, .inl d45))]) (va_runV (As := [.int a1]) (rest := []) ⟨hx, hb, hml, hown, hT⟩ (c_X8_mileOfD l D cI aK aV o4 o40 o41 o42 o43 o44 o45 o46 o47 o48 H.size d49 d41 a1) (cwV 1 hT (gV_in mw_367 mw_780 mw_365 mw_366 mw_3) rfl rfl rfl (by decide +kernel) ⟨Nat.le_of_ble_eq_true rfl, Nat.le_of_ble_eq_true rfl⟩) (kRecvX (q0 := 5) (ci := 8) hK hP hD hN hXS hS hA rfl rfl [5, 6] rfl (by decide)) rfl rfl hl.1 rfl (lv_room (Nat.le_of_ble_eq_true rfl)) dX0_canRead_46 ⟨Nat.le_of_ble_eq_true rfl, Nat.le_of_ble_eq_true rfl⟩) hP hD hS hA [5, 6] [0, 1, 2, 3, 4] rfl rfl (by decide) (by decide) ?_
          clear hP hD hS
          intro r_61 u_63 H locs w_62 hP hD hS
          replace hP : va_P D vwCl [(k, .inr (0, [.ref k0, .ref k1, .ref k2, .ref k3, .ref k4, .int c5])), (k0, .inl (cI, 41, .inl c0)), (k1, .inl (cI, 41, .inl c1)), (o, .inr (9, [.ref o0, .ref o1, .ref o2, .ref o3, .ref o4, .ref o5, .int d6, .int d7, .int d8])), (o45, .inl (cI, 60, .inl d45)), (o4, .inr (8, [.ref o40, .ref o41, .ref o42, .ref o43, .ref o44, .ref o45, .ref o46, .ref o47, .ref o48, .int d49])), (o41, .inl (cI, 60, .inl d41))] H := hP
          replace hD : va_D A [(k, .inr (0, [.ref k0, .ref k1, .ref k2, .ref k3, .ref k4, .int c5])), (k0, .inl (cI, 41, .inl c0)), (k1, .inl (cI, 41, .inl c1)), (o, .inr (9, [.ref o0, .ref o1, .ref o2, .ref o3, .ref o4, .ref o5, .int d6, .int d7, .int d8])), (o45, .inl (cI, 60, .inl d45)), (o4, .inr (8, [.ref o40, .ref o41, .ref o42, .ref o43, .ref o44, .ref o45, .ref o46, .ref o47, .ref o48, .int d49])), (o41, .inl (cI, 60, .inl d41))] := hD
          rcases w_62 with ⟨h_64, h_65, h_66, h_67⟩ | ⟨hr_61, h_68⟩
          · have h_64 : 0 ≤ a1.toInt := h_64
            have h_65 : a1.toInt < d49.toInt := h_65
            have h_66 : a1.toInt ≤ 59 := h_66
            have h_67 : r_61 = d41 a1.toNatClampNeg := h_67
            have h_69 : r_61 = wW gx a1 1 := Eq.trans h_67 (WKR.r1 (WR.kw pre0) (by omega) (by omega))
            have t_70 : r_61.toInt = (wW gx a1 1).toInt := by rw [h_69]
            have b_71 : 0 ≤ r_61.toInt ∧ r_61.toInt ≤ 39 := by rw [h_69]; exact SB.w1 pre1 (by omega) (by omega)
            have lo_r_61 := k_lo r_61
            have hi_r_61 := k_hi r_61
            refine lv_aload hx hb dX0_canRead_49 (lv_at hl 1 rfl) ?_
            refine lv_iload_n hx hb dX0_canRead_51 rfl (lv_at hl 5 rfl) ?_
            refine kJi (wr := [(k, .inr (0, [.ref k0, .ref k1, .ref k2, .ref k3, .ref k4, .int c5])), (k0, .inl (cI, 41, .inl c0)), (k1, .inl (cI, 41, .inl c1)), (o, .inr (9, [.ref o0, .ref o1, .ref o2, .ref o3, .ref o4, .ref o5, .int d6, .int d7, .int d8])), (o45, .inl (cI, 60, .inl d45))]) (va_runV (As := [.int a2]) (rest := [.int r_61]) ⟨hx, hb, hml, hown, hT⟩ (c_X8_mileOfD l D cI aK aV o4 o40 o41 o42 o43 o44 o45 o46 o47 o48 H.size d49 d41 a2) (cwV 1 hT (gV_in mw_367 mw_780 mw_365 mw_366 mw_3) rfl rfl rfl (by decide +kernel) ⟨Nat.le_of_ble_eq_true rfl, Nat.le_of_ble_eq_true rfl⟩) (kRecvX (q0 := 5) (ci := 8) hK hP hD hN hXS hS hA rfl rfl [5, 6] rfl (by decide)) rfl rfl hl.1 rfl (lv_room (Nat.le_of_ble_eq_true rfl)) dX0_canRead_52 ⟨Nat.le_of_ble_eq_true rfl, Nat.le_of_ble_eq_true rfl⟩) hP hD hS hA [5, 6] [0, 1, 2, 3, 4] rfl rfl (by decide) (by decide) ?_
            clear hP hD hS
            intro r_72 u_74 H locs w_73 hP hD hS
            replace hP : va_P D vwCl [(k, .inr (0, [.ref k0, .ref k1, .ref k2, .ref k3, .ref k4, .int c5])), (k0, .inl (cI, 41, .inl c0)), (k1, .inl (cI, 41, .inl c1)), (o, .inr (9, [.ref o0, .ref o1, .ref o2, .ref o3, .ref o4, .ref o5, .int d6, .int d7, .int d8])), (o45, .inl (cI, 60, .inl d45)), (o4, .inr (8, [.ref o40, .ref o41, .ref o42, .ref o43, .ref o44, .ref o45, .ref o46, .ref o47, .ref o48, .int d49])), (o41, .inl (cI, 60, .inl d41))] H := hP
            replace hD : va_D A [(k, .inr (0, [.ref k0, .ref k1, .ref k2, .ref k3, .ref k4, .int c5])), (k0, .inl (cI, 41, .inl c0)), (k1, .inl (cI, 41, .inl c1)), (o, .inr (9, [.ref o0, .ref o1, .ref o2, .ref o3, .ref o4, .ref o5, .int d6, .int d7, .int d8])), (o45, .inl (cI, 60, .inl d45)), (o4, .inr (8, [.ref o40, .ref o41, .ref o42, .ref o43, .ref o44, .ref o45, .ref o46, .ref o47, .ref o48, .int d49])), (o41, .inl (cI, 60, .inl d41))] := hD
            rcases w_73 with ⟨h_75, h_76, h_77, h_78⟩ | ⟨hr_72, h_79⟩
            · have h_75 : 0 ≤ a2.toInt := h_75
              have h_76 : a2.toInt < d49.toInt := h_76
              have h_77 : a2.toInt ≤ 59 := h_77
              have h_78 : r_72 = d41 a2.toNatClampNeg := h_78
              have h_80 : r_72 = wW gx a2 1 := Eq.trans h_78 (WKR.r1 (WR.kw pre0) (by omega) (by omega))
              have t_81 : r_72.toInt = (wW gx a2 1).toInt := by rw [h_80]
              have b_82 : 0 ≤ r_72.toInt ∧ r_72.toInt ≤ 39 := by rw [h_80]; exact SB.w1 pre1 (by omega) (by omega)
              have lo_r_72 := k_lo r_72
              have hi_r_72 := k_hi r_72
              refine va_mmax hx hb (hml.trans hl.1.symm) hown (hT _ mw_774) (hT _ mw_426) (hT _ mw_13) (hT _ mw_427) (Nat.le_of_ble_eq_true rfl) (Nat.le_of_ble_eq_true rfl) (Nat.le_of_ble_eq_true rfl) (Nat.le_of_ble_eq_true rfl) dX0_canRead_55 ?_
              refine lv_topi (fun v_83 ev_83 => ?_)
              have lo_v_83 := k_lo v_83
              have hi_v_83 := k_hi v_83
              have tv_83 : v_83.toInt = k_max r_61.toInt r_72.toInt := by rw [ev_83]; exact k_mmax rfl rfl
              have sv_83 := k_max_spec (r_61.toInt) (r_72.toInt)
              refine lv_istore (lv' := [(6, .int v_83), (5, .int v_60), (4, .ref o4), (0, .ref k), (1, .ref o), (2, .int a1), (3, .int a2)]) hx hb dX0_canRead_58 hl (by decide) rfl ?_
              clear hl
              intro ls hl
              refine lv_iload hx hb dX0_canRead_60 (lv_at hl 1 rfl) ?_
              refine lv_iload hx hb dX0_canRead_62 (lv_at hl 0 rfl) ?_
              refine b_icmp_ne hx hb rfl rfl (tgt := 69) dX0_canRead_64 (by decide) (fun c_84 => ?_) (fun c_84 => ?_)
              · refine lv_iload hx hb dX0_canRead_69 (lv_at hl 1 rfl) ?_
                refine kJi (wr := [(k, .inr (0, [.ref k0, .ref k1, .ref k2, .ref k3, .ref k4, .int c5])), (k0, .inl (cI, 41, .inl c0)), (k1, .inl (cI, 41, .inl c1)), (o, .inr (9, [.ref o0, .ref o1, .ref o2, .ref o3, .ref o4, .ref o5, .int d6, .int d7, .int d8])), (o45, .inl (cI, 60, .inl d45)), (o4, .inr (8, [.ref o40, .ref o41, .ref o42, .ref o43, .ref o44, .ref o45, .ref o46, .ref o47, .ref o48, .int d49])), (o41, .inl (cI, 60, .inl d41))]) (va_runSN (As := [.int v_60]) (rest := []) ⟨hx, hb, hml, hown, hT⟩ (c_X10_isMileG l D cI aK aV H.size v_60) ⟨va_cnB 1 hT (gW_in mw_346) rfl rfl rfl (hN _ mw_782) (hT _ mw_1) (by decide +kernel) ⟨Nat.le_of_ble_eq_true rfl, Nat.le_of_ble_eq_true rfl⟩, hT _ mw_345, trivial⟩ (kStatX hK hP hD hN hXS hS hA [] rfl (by decide)) rfl rfl hl.1 rfl (lv_room (Nat.le_of_ble_eq_true rfl)) dX0_canRead_71 ⟨Nat.le_of_ble_eq_true rfl, Nat.le_of_ble_eq_true rfl⟩) hP hD hS hA [] [0, 1, 2, 3, 4, 5, 6] rfl rfl (by decide) (by decide) ?_
                clear hP hD hS
                intro r_85 u_87 H locs w_86 hP hD hS
                replace hP : va_P D vwCl [(k, .inr (0, [.ref k0, .ref k1, .ref k2, .ref k3, .ref k4, .int c5])), (k0, .inl (cI, 41, .inl c0)), (k1, .inl (cI, 41, .inl c1)), (o, .inr (9, [.ref o0, .ref o1, .ref o2, .ref o3, .ref o4, .ref o5, .int d6, .int d7, .int d8])), (o45, .inl (cI, 60, .inl d45)), (o4, .inr (8, [.ref o40, .ref o41, .ref o42, .ref o43, .ref o44, .ref o45, .ref o46, .ref o47, .ref o48, .int d49])), (o41, .inl (cI, 60, .inl d41))] H := hP
                replace hD : va_D A [(k, .inr (0, [.ref k0, .ref k1, .ref k2, .ref k3, .ref k4, .int c5])), (k0, .inl (cI, 41, .inl c0)), (k1, .inl (cI, 41, .inl c1)), (o, .inr (9, [.ref o0, .ref o1, .ref o2, .ref o3, .ref o4, .ref o5, .int d6, .int d7, .int d8])), (o45, .inl (cI, 60, .inl d45)), (o4, .inr (8, [.ref o40, .ref o41, .ref o42, .ref o43, .ref o44, .ref o45, .ref o46, .ref o47, .ref o48, .int d49])), (o41, .inl (cI, 60, .inl d41))] := hD
                rcases w_86 with ⟨hr_85, h_88, h_89⟩ | ⟨hr_85, h_90⟩
                · have h_88 : 0 ≤ v_60.toInt := h_88
                  have h_89 : v_60.toInt ≤ 39 := h_89
                  obtain rfl : r_85 = 1 := hr_85.trans (by decide)
                  refine b_if_eq hx hb zl_1 (tgt := 89) dX0_canRead_74 (by decide) (fun c_91 => by exfalso; omega) (fun c_91 => ?_)
                  refine lv_iload hx hb dX0_canRead_77 (lv_at hl 0 rfl) ?_
                  refine kJi (wr := [(k, .inr (0, [.ref k0, .ref k1, .ref k2, .ref k3, .ref k4, .int c5])), (k0, .inl (cI, 41, .inl c0)), (k1, .inl (cI, 41, .inl c1)), (o, .inr (9, [.ref o0, .ref o1, .ref o2, .ref o3, .ref o4, .ref o5, .int d6, .int d7, .int d8])), (o45, .inl (cI, 60, .inl d45)), (o4, .inr (8, [.ref o40, .ref o41, .ref o42, .ref o43, .ref o44, .ref o45, .ref o46, .ref o47, .ref o48, .int d49])), (o41, .inl (cI, 60, .inl d41))]) (va_runSN (As := [.int v_83]) (rest := []) ⟨hx, hb, hml, hown, hT⟩ (c_X10_isMileG l D cI aK aV H.size v_83) ⟨va_cnB 1 hT (gW_in mw_346) rfl rfl rfl (hN _ mw_782) (hT _ mw_1) (by decide +kernel) ⟨Nat.le_of_ble_eq_true rfl, Nat.le_of_ble_eq_true rfl⟩, hT _ mw_345, trivial⟩ (kStatX hK hP hD hN hXS hS hA [] rfl (by decide)) rfl rfl hl.1 rfl (lv_room (Nat.le_of_ble_eq_true rfl)) dX0_canRead_79 ⟨Nat.le_of_ble_eq_true rfl, Nat.le_of_ble_eq_true rfl⟩) hP hD hS hA [] [0, 1, 2, 3, 4, 5, 6] rfl rfl (by decide) (by decide) ?_
                  clear hP hD hS
                  intro r_92 u_94 H locs w_93 hP hD hS
                  replace hP : va_P D vwCl [(k, .inr (0, [.ref k0, .ref k1, .ref k2, .ref k3, .ref k4, .int c5])), (k0, .inl (cI, 41, .inl c0)), (k1, .inl (cI, 41, .inl c1)), (o, .inr (9, [.ref o0, .ref o1, .ref o2, .ref o3, .ref o4, .ref o5, .int d6, .int d7, .int d8])), (o45, .inl (cI, 60, .inl d45)), (o4, .inr (8, [.ref o40, .ref o41, .ref o42, .ref o43, .ref o44, .ref o45, .ref o46, .ref o47, .ref o48, .int d49])), (o41, .inl (cI, 60, .inl d41))] H := hP
                  replace hD : va_D A [(k, .inr (0, [.ref k0, .ref k1, .ref k2, .ref k3, .ref k4, .int c5])), (k0, .inl (cI, 41, .inl c0)), (k1, .inl (cI, 41, .inl c1)), (o, .inr (9, [.ref o0, .ref o1, .ref o2, .ref o3, .ref o4, .ref o5, .int d6, .int d7, .int d8])), (o45, .inl (cI, 60, .inl d45)), (o4, .inr (8, [.ref o40, .ref o41, .ref o42, .ref o43, .ref o44, .ref o45, .ref o46, .ref o47, .ref o48, .int d49])), (o41, .inl (cI, 60, .inl d41))] := hD
                  rcases w_93 with ⟨hr_92, h_95, h_96⟩ | ⟨hr_92, h_97⟩
                  · have h_95 : 0 ≤ v_83.toInt := h_95
                    have h_96 : v_83.toInt ≤ 39 := h_96
                    obtain rfl : r_92 = 1 := hr_92.trans (by decide)
                    refine b_if_eq hx hb zl_1 (tgt := 89) dX0_canRead_82 (by decide) (fun c_98 => by exfalso; omega) (fun c_98 => ?_)
                    refine lv_iconst (v := 1) hx hb dX0_canRead_85 (by decide) ?_
                    refine lv_goto (tgt := 90) hx hb dX0_canRead_86 (by decide) ?_
                    refine lv_istore (lv' := [(7, .int 1), (6, .int v_83), (5, .int v_60), (4, .ref o4), (0, .ref k), (1, .ref o), (2, .int a1), (3, .int a2)]) hx hb dX0_canRead_90 hl (by decide) rfl ?_
                    clear hl
                    intro ls hl
                    refine lv_iload hx hb dX0_canRead_92 (lv_at hl 0 rfl) ?_
                    refine b_if_eq hx hb zl_1 (tgt := 144) dX0_canRead_94 (by decide) (fun c_99 => by exfalso; omega) (fun c_99 => ?_)
                    refine lv_aload_n hx hb dX0_canRead_97 rfl (lv_at hl 4 rfl) ?_
                    refine va_get (D := D) (ci := 0) (v := .ref k1) (C := RX0) (T := TX0) (N := 6) hx hb hT giX0 hown hK hP 0 rfl rfl 1 (by decide) (hT (Cond.fieldLink RX0 15 "DesertWire$Hands" "gaps" "[I") mw_200) (fun _ h9 => h9) rfl dX0_canRead_98 ?_
                    refine lv_iload hx hb dX0_canRead_101 (lv_at hl 1 rfl) ?_
                    refine lv_iconst (v := 1) hx hb dX0_canRead_103 (by decide) ?_
                    refine lv_iadd hx hb dX0_canRead_104 ?_
                    refine lv_topi (fun v_100 ev_100 => ?_)
                    have tv_100 : v_100.toInt = v_83.toInt + 1 := by rw [ev_100]; exact k_addv rfl zl_1 (by omega) (by omega)
                    refine k_iald (v := (c1 v_100.toNatClampNeg)) hx hb hK hP 2 0 rfl rfl (k_in (by omega) (by omega)) rfl dX0_canRead_105 ?_
                    refine lv_topi (fun v_101 ev_101 => ?_)
                    have lo_v_101 := k_lo v_101
                    have hi_v_101 := k_hi v_101
                    have tv_101 : v_101.toInt = (c1 v_100.toNatClampNeg).toInt := by rw [ev_101]
                    refine lv_aload_n hx hb dX0_canRead_106 rfl (lv_at hl 4 rfl) ?_
                    refine va_get (D := D) (ci := 0) (v := .ref k1) (C := RX0) (T := TX0) (N := 6) hx hb hT giX0 hown hK hP 0 rfl rfl 1 (by decide) (hT (Cond.fieldLink RX0 15 "DesertWire$Hands" "gaps" "[I") mw_200) (fun _ h9 => h9) rfl dX0_canRead_107 ?_
                    refine lv_iload hx hb dX0_canRead_110 (lv_at hl 2 rfl) ?_
                    refine k_iald (v := (c1 v_60.toNatClampNeg)) hx hb hK hP 2 0 rfl rfl (k_in (by omega) (by omega)) rfl dX0_canRead_112 ?_
                    refine lv_topi (fun v_102 ev_102 => ?_)
                    have lo_v_102 := k_lo v_102
                    have hi_v_102 := k_hi v_102
                    have tv_102 : v_102.toInt = (c1 v_60.toNatClampNeg).toInt := by rw [ev_102]
                    refine b_icmp_ne hx hb rfl rfl (tgt := 144) dX0_canRead_113 (by decide) (fun c_103 => ?_) (fun c_103 => ?_)
                    · refine lv_iconst (v := 0) hx hb dX0_canRead_144 (by decide) ?_
                      exact hRet () [0, 1, 2, 3, 5, 6, 4] (Or.inr (⟨rfl, (cr_ng (lo := v_60) (hi := v_83) pre1 pre3 (st_33 (f := gx) (w := a1) (by omega) (by omega)) (st_33 (f := gx) (w := a2) (by omega) (by omega)) (by omega) (by omega) (by omega) (by omega) (cr_e (x := wW gx a1 1) (y := wW gx a2 1) (by omega)) (by omega) (rd_in ev_101 (by omega)) (rd_in ev_102 (by omega)) (by omega))⟩)) hP hD (by decide) rfl hS rfl dX0_canRead_145
                    · refine lv_aload_n hx hb dX0_canRead_116 rfl (lv_at hl 4 rfl) ?_
                      refine va_get (D := D) (ci := 0) (v := .ref k0) (C := RX0) (T := TX0) (N := 6) hx hb hT giX0 hown hK hP 0 rfl rfl 0 (by decide) (hT (Cond.fieldLink RX0 9 "DesertWire$Hands" "leaks" "[I") mw_199) (fun _ h9 => h9) rfl dX0_canRead_117 ?_
                      refine lv_iload hx hb dX0_canRead_120 (lv_at hl 1 rfl) ?_
                      refine k_iald (v := (c0 v_83.toNatClampNeg)) hx hb hK hP 1 0 rfl rfl (k_in (by omega) (by omega)) rfl dX0_canRead_122 ?_
                      refine lv_topi (fun v_104 ev_104 => ?_)
                      have lo_v_104 := k_lo v_104
                      have hi_v_104 := k_hi v_104
                      have tv_104 : v_104.toInt = (c0 v_83.toNatClampNeg).toInt := by rw [ev_104]
                      refine lv_aload_n hx hb dX0_canRead_123 rfl (lv_at hl 4 rfl) ?_
                      refine va_get (D := D) (ci := 0) (v := .ref k0) (C := RX0) (T := TX0) (N := 6) hx hb hT giX0 hown hK hP 0 rfl rfl 0 (by decide) (hT (Cond.fieldLink RX0 9 "DesertWire$Hands" "leaks" "[I") mw_199) (fun _ h9 => h9) rfl dX0_canRead_124 ?_
                      refine lv_iload hx hb dX0_canRead_127 (lv_at hl 2 rfl) ?_
                      refine lv_iconst (v := 1) hx hb dX0_canRead_129 (by decide) ?_
                      refine lv_iadd hx hb dX0_canRead_130 ?_
                      refine lv_topi (fun v_105 ev_105 => ?_)
                      have tv_105 : v_105.toInt = v_60.toInt + 1 := by rw [ev_105]; exact k_addv rfl zl_1 (by omega) (by omega)
                      refine k_iald (v := (c0 v_105.toNatClampNeg)) hx hb hK hP 1 0 rfl rfl (k_in (by omega) (by omega)) rfl dX0_canRead_131 ?_
                      refine lv_topi (fun v_106 ev_106 => ?_)
                      have lo_v_106 := k_lo v_106
                      have hi_v_106 := k_hi v_106
                      have tv_106 : v_106.toInt = (c0 v_105.toNatClampNeg).toInt := by rw [ev_106]
                      refine lv_isub hx hb dX0_canRead_132 ?_
                      refine lv_topi (fun v_107 ev_107 => ?_)
                      have lo_v_107 := k_lo v_107
                      have hi_v_107 := k_hi v_107
                      refine lv_aload_n hx hb dX0_canRead_133 rfl (lv_at hl 5 rfl) ?_
                      refine va_get (D := D) (ci := 9) (v := .int d7) (C := RX9) (T := TX9) (N := 9) hx hb hT giX9 hown hK hP 3 rfl rfl 7 (by decide) (hT (Cond.fieldLink RX0 62 "DesertWire$World" "reach" "I") mw_106) (fun _ h9 => h9) rfl dX0_canRead_134 ?_
                      refine b_icmp_gt hx hb rfl rfl (tgt := 144) dX0_canRead_137 (by decide) (fun c_108 => ?_) (fun c_108 => ?_)
                      · refine lv_iconst (v := 0) hx hb dX0_canRead_144 (by decide) ?_
                        exact hRet () [0, 1, 2, 3, 5, 6, 4] (Or.inr (⟨rfl, (cr_nl (lo := v_60) (hi := v_83) pre1 pre3 (st_33 (f := gx) (w := a1) (by omega) (by omega)) (st_33 (f := gx) (w := a2) (by omega) (by omega)) (by omega) (by omega) (by omega) (by omega) (cr_e (x := wW gx a1 1) (y := wW gx a2 1) (by omega)) (by omega) (rd_in ev_104 (by omega)) (rd_in ev_106 (by omega)) ev_107 (by have := congrArg Int32.toInt (WR.vv pre0); omega))⟩)) hP hD (by decide) rfl hS rfl dX0_canRead_145
                      · refine lv_iconst (v := 1) hx hb dX0_canRead_140 (by decide) ?_
                        refine lv_goto (tgt := 145) hx hb dX0_canRead_141 (by decide) ?_
                        exact hRet () [0, 1, 2, 3, 5, 6, 4] (Or.inl ⟨rfl, (cr_y (lo := v_60) (hi := v_83) pre1 pre3 (st_33 (f := gx) (w := a1) (by omega) (by omega)) (st_33 (f := gx) (w := a2) (by omega) (by omega)) (by omega) (by omega) (by omega) (by omega) (cr_e (x := wW gx a1 1) (y := wW gx a2 1) (by omega)) (by omega) (rd_in ev_101 (by omega)) (rd_in ev_102 (by omega)) (rd_in ev_104 (by omega)) (rd_in ev_106 (by omega)) ev_107 (by omega) (by have := congrArg Int32.toInt (WR.vv pre0); omega))⟩) hP hD (by decide) rfl hS rfl dX0_canRead_145
                  · have h_97 : v_83.toInt < 0 ∨ 39 < v_83.toInt := h_97
                    obtain rfl : r_92 = 0 := hr_92.trans (by decide)
                    refine b_if_eq hx hb zl_0 (tgt := 89) dX0_canRead_82 (by decide) (fun c_109 => ?_) (fun c_109 => by exfalso; omega)
                    refine lv_iconst (v := 0) hx hb dX0_canRead_89 (by decide) ?_
                    refine lv_istore (lv' := [(7, .int 0), (6, .int v_83), (5, .int v_60), (4, .ref o4), (0, .ref k), (1, .ref o), (2, .int a1), (3, .int a2)]) hx hb dX0_canRead_90 hl (by decide) rfl ?_
                    clear hl
                    intro ls hl
                    refine lv_iload hx hb dX0_canRead_92 (lv_at hl 0 rfl) ?_
                    refine b_if_eq hx hb zl_0 (tgt := 144) dX0_canRead_94 (by decide) (fun c_110 => ?_) (fun c_110 => by exfalso; omega)
                    refine lv_iconst (v := 0) hx hb dX0_canRead_144 (by decide) ?_
                    exact hRet () [0, 1, 2, 3, 5, 6, 4] (Or.inr (⟨rfl, (crF_n (by first | exact Or.inl (st_30 (by omega)) | exact Or.inr (st_30 (by omega))))⟩)) hP hD (by decide) rfl hS rfl dX0_canRead_145
                · exfalso; omega
              · refine lv_iconst (v := 1) hx hb dX0_canRead_67 (by decide) ?_
                exact hRet () [0, 1, 2, 3, 5, 6, 4] (Or.inl ⟨rfl, (cr_same (a := a1) (b := a2) pre1 pre2 (by omega) (by omega) (st_33 (f := gx) (w := a1) (by omega) (by omega)) (st_33 (f := gx) (w := a2) (by omega) (by omega)) (by omega))⟩) hP hD (by decide) rfl hS rfl dX0_canRead_68
            · exfalso; omega
          · exfalso; omega
        · exfalso; omega
      · exfalso; omega
    · exfalso; omega
  · exfalso; omega

set_option maxHeartbeats 4000000 in
set_option maxRecDepth 100000 in
theorem c_X10_areTwoWorksD (l : Launch) (D : va_G) (cI : ClassId) (aK aV : Nat → Nat) (k k0 k1 k2 k3 k4 k5 k6 k7 k8 k9 ka kb k00 k01 k02 k03 k04 k05 k040 k041 k042 k043 k044 k045 k046 k047 k048 : Nat) (sz : Nat) (cc : Int32) (c06 : Int32) (c07 : Int32) (c08 : Int32) (c049 : Int32) (c00 : Nat → Int32) (c01 : Nat → Int32) (c02 : Nat → Int32) (c03 : Nat → Int32) (c040 : Nat → Int32) (c041 : Nat → Int32) (c042 : Nat → Int32) (c043 : Nat → Int32) (c044 : Nat → Int32) (c045 : Nat → Int32) (c046 : Nat → Int32) (c047 : Nat → Int32) (c048 : Nat → Int32) (c050 : Nat → Int32) (c051 : Int32) (gx : Nat → Int32) (a0 : Int32) (a1 : Int32) (pre0 : WR c00 c01 c02 c03 c040 c041 c042 c043 c044 c045 c046 c047 c048 c049 c050 c051 c06 c07 c08 gx) : Met l yX10_areTwoWorks (gW yX10_areTwoWorks cX10_areTwoWorks 3 (some .boolean)) ({ frames := 1, cells := 0, slots := 0, locals := 21 } : Room) (kPreX D cI aK aV [.ref k, .int a0, .int a1] [(k, .inr (10, [.ref k0, .ref k1, .ref k2, .ref k3, .ref k4, .ref k5, .ref k6, .ref k7, .ref k8, .ref k9, .ref ka, .ref kb, .int cc])), (k0, .inr (9, [.ref k00, .ref k01, .ref k02, .ref k03, .ref k04, .ref k05, .int c06, .int c07, .int c08])), (k04, .inr (8, [.ref k040, .ref k041, .ref k042, .ref k043, .ref k044, .ref k045, .ref k046, .ref k047, .ref k048, .int c049]))] sz) (va_Qi (fun (r : Int32) (u : Unit) => (r = 1 ∧ 0 ≤ a0.toInt ∧ a0.toInt < (gx 1).toInt ∧ 0 ≤ a1.toInt ∧ a1.toInt < (gx 1).toInt ∧ a0.toInt ≠ a1.toInt) ∨ (r = 0 ∧ (a0.toInt < 0 ∨ (gx 1).toInt ≤ a0.toInt ∨ a1.toInt < 0 ∨ (gx 1).toInt ≤ a1.toInt ∨ a0.toInt = a1.toInt))) (fun u t => kWd D cI (va_A [(k, .inr (10, [.ref k0, .ref k1, .ref k2, .ref k3, .ref k4, .ref k5, .ref k6, .ref k7, .ref k8, .ref k9, .ref ka, .ref kb, .int cc])), (k0, .inr (9, [.ref k00, .ref k01, .ref k02, .ref k03, .ref k04, .ref k05, .int c06, .int c07, .int c08])), (k04, .inr (8, [.ref k040, .ref k041, .ref k042, .ref k043, .ref k044, .ref k045, .ref k046, .ref k047, .ref k048, .int c049]))] sz) [(k, .inr (10, [.ref k0, .ref k1, .ref k2, .ref k3, .ref k4, .ref k5, .ref k6, .ref k7, .ref k8, .ref k9, .ref ka, .ref kb, .int cc])), (k0, .inr (9, [.ref k00, .ref k01, .ref k02, .ref k03, .ref k04, .ref k05, .int c06, .int c07, .int c08])), (k04, .inr (8, [.ref k040, .ref k041, .ref k042, .ref k043, .ref k044, .ref k045, .ref k046, .ref k047, .ref k048, .int c049]))] t) (va_A [(k, .inr (10, [.ref k0, .ref k1, .ref k2, .ref k3, .ref k4, .ref k5, .ref k6, .ref k7, .ref k8, .ref k9, .ref ka, .ref kb, .int cc])), (k0, .inr (9, [.ref k00, .ref k01, .ref k02, .ref k03, .ref k04, .ref k05, .int c06, .int c07, .int c08])), (k04, .inr (8, [.ref k040, .ref k041, .ref k042, .ref k043, .ref k044, .ref k045, .ref k046, .ref k047, .ref k048, .int c049]))] sz)) 0 0 (va_A [(k, .inr (10, [.ref k0, .ref k1, .ref k2, .ref k3, .ref k4, .ref k5, .ref k6, .ref k7, .ref k8, .ref k9, .ref ka, .ref kb, .int cc])), (k0, .inr (9, [.ref k00, .ref k01, .ref k02, .ref k03, .ref k04, .ref k05, .int c06, .int c07, .int c08])), (k04, .inr (8, [.ref k040, .ref k041, .ref k042, .ref k043, .ref k044, .ref k045, .ref k046, .ref k047, .ref k048, .int c049]))] sz) := by
  refine kMetIX (own := RX10) (by decide) rfl (Nat.le_of_ble_eq_true rfl) ?_
  intro p e s m args below meth c hx hb hT hown hname hml A Q hK hP hD hS hA hN hXS hRet ls hl
  have hl : lv_has ls 3 [(0, .ref k), (1, .int a0), (2, .int a1)] := hl
  have lo_a0 := k_lo a0
  have hi_a0 := k_hi a0
  have lo_a1 := k_lo a1
  have hi_a1 := k_hi a1
  have lo_c06 := k_lo c06
  have hi_c06 := k_hi c06
  have lo_c07 := k_lo c07
  have hi_c07 := k_hi c07
  have lo_c08 := k_lo c08
  have hi_c08 := k_hi c08
  have lo_c049 := k_lo c049
  have hi_c049 := k_hi c049
  have lo_c051 := k_lo c051
  have hi_c051 := k_hi c051
  have pre0 : WR c00 c01 c02 c03 c040 c041 c042 c043 c044 c045 c046 c047 c048 c049 c050 c051 c06 c07 c08 gx := pre0
  have b_1 : 0 ≤ c049.toInt ∧ c049.toInt ≤ 60 := WKR.n0 (WR.kw pre0)
  have t_2 : c049.toInt = (gx 1).toInt := WKR.nt (WR.kw pre0)
  have b_3 : 0 ≤ c051.toInt ∧ c051.toInt ≤ 4 := ((WR.kp pre0)).2.1
  have t_4 : c051.toInt = (gx 2).toInt := PTR.nt (WR.kp pre0)
  have t_5 : c08.toInt = (gx 0).toInt := by rw [WR.dd pre0]
  refine lv_aload_n hx hb dX10_areTwoWorks_0 rfl (lv_at hl 0 rfl) ?_
  refine va_get (D := D) (ci := 10) (v := .ref k0) (C := RX10) (T := TX10) (N := 13) hx hb hT giX10 hown hK hP 0 rfl rfl 0 (by decide) (hT (Cond.fieldLink RX10 12 "DesertWire" "now" "LDesertWire$World;") mw_291) (fun _ h9 => h9) rfl dX10_areTwoWorks_1 ?_
  refine va_get (D := D) (ci := 9) (v := .ref k04) (C := RX9) (T := TX9) (N := 9) hx hb hT giX9 hown hK hP 1 rfl rfl 4 (by decide) (hT (Cond.fieldLink RX10 99 "DesertWire$World" "works" "LDesertWire$Works;") mw_99) (fun _ h9 => h9) rfl dX10_areTwoWorks_4 ?_
  refine lv_iload_n hx hb dX10_areTwoWorks_7 rfl (lv_at hl 1 rfl) ?_
  refine kJi (wr := [(k, .inr (10, [.ref k0, .ref k1, .ref k2, .ref k3, .ref k4, .ref k5, .ref k6, .ref k7, .ref k8, .ref k9, .ref ka, .ref kb, .int cc])), (k0, .inr (9, [.ref k00, .ref k01, .ref k02, .ref k03, .ref k04, .ref k05, .int c06, .int c07, .int c08]))]) (va_runV (As := [.int a0]) (rest := []) ⟨hx, hb, hml, hown, hT⟩ (c_X8_hasG l D cI aK aV k04 k040 k041 k042 k043 k044 k045 k046 k047 k048 s.heap.size c049 a0) (cwV 1 hT (gV_in mw_371 mw_380 mw_369 mw_370 mw_3) rfl rfl rfl (by decide +kernel) ⟨Nat.le_of_ble_eq_true rfl, Nat.le_of_ble_eq_true rfl⟩) (kRecvX (q0 := 2) (ci := 8) hK hP hD hN hXS hS hA rfl rfl [2] rfl (by decide)) rfl rfl hl.1 rfl (lv_room (Nat.le_of_ble_eq_true rfl)) dX10_areTwoWorks_8 ⟨Nat.le_of_ble_eq_true rfl, Nat.le_of_ble_eq_true rfl⟩) hP hD hS hA [2] [0, 1] rfl rfl (by decide) (by decide) ?_
  clear hP hD hS
  intro r_6 u_8 H locs w_7 hP hD hS
  replace hP : va_P D vwCl [(k, .inr (10, [.ref k0, .ref k1, .ref k2, .ref k3, .ref k4, .ref k5, .ref k6, .ref k7, .ref k8, .ref k9, .ref ka, .ref kb, .int cc])), (k0, .inr (9, [.ref k00, .ref k01, .ref k02, .ref k03, .ref k04, .ref k05, .int c06, .int c07, .int c08])), (k04, .inr (8, [.ref k040, .ref k041, .ref k042, .ref k043, .ref k044, .ref k045, .ref k046, .ref k047, .ref k048, .int c049]))] H := hP
  replace hD : va_D A [(k, .inr (10, [.ref k0, .ref k1, .ref k2, .ref k3, .ref k4, .ref k5, .ref k6, .ref k7, .ref k8, .ref k9, .ref ka, .ref kb, .int cc])), (k0, .inr (9, [.ref k00, .ref k01, .ref k02, .ref k03, .ref k04, .ref k05, .int c06, .int c07, .int c08])), (k04, .inr (8, [.ref k040, .ref k041, .ref k042, .ref k043, .ref k044, .ref k045, .ref k046, .ref k047, .ref k048, .int c049]))] := hD
  rcases w_7 with ⟨hr_6, h_9, h_10, h_11⟩ | ⟨hr_6, h_12⟩
  · have h_9 : 0 ≤ a0.toInt := h_9
    have h_10 : a0.toInt < c049.toInt := h_10
    have h_11 : a0.toInt < 60 := h_11
    obtain rfl : r_6 = 1 := hr_6.trans (by decide)
    refine b_if_eq hx hb zl_1 (tgt := 37) dX10_areTwoWorks_11 (by decide) (fun c_13 => by exfalso; omega) (fun c_13 => ?_)
    refine lv_aload_n hx hb dX10_areTwoWorks_14 rfl (lv_at hl 0 rfl) ?_
    refine va_get (D := D) (ci := 10) (v := .ref k0) (C := RX10) (T := TX10) (N := 13) hx hb hT giX10 hown hK hP 0 rfl rfl 0 (by decide) (hT (Cond.fieldLink RX10 12 "DesertWire" "now" "LDesertWire$World;") mw_291) (fun _ h9 => h9) rfl dX10_areTwoWorks_15 ?_
    refine va_get (D := D) (ci := 9) (v := .ref k04) (C := RX9) (T := TX9) (N := 9) hx hb hT giX9 hown hK hP 1 rfl rfl 4 (by decide) (hT (Cond.fieldLink RX10 99 "DesertWire$World" "works" "LDesertWire$Works;") mw_99) (fun _ h9 => h9) rfl dX10_areTwoWorks_18 ?_
    refine lv_iload_n hx hb dX10_areTwoWorks_21 rfl (lv_at hl 2 rfl) ?_
    refine kJi (wr := [(k, .inr (10, [.ref k0, .ref k1, .ref k2, .ref k3, .ref k4, .ref k5, .ref k6, .ref k7, .ref k8, .ref k9, .ref ka, .ref kb, .int cc])), (k0, .inr (9, [.ref k00, .ref k01, .ref k02, .ref k03, .ref k04, .ref k05, .int c06, .int c07, .int c08]))]) (va_runV (As := [.int a1]) (rest := []) ⟨hx, hb, hml, hown, hT⟩ (c_X8_hasG l D cI aK aV k04 k040 k041 k042 k043 k044 k045 k046 k047 k048 H.size c049 a1) (cwV 1 hT (gV_in mw_371 mw_380 mw_369 mw_370 mw_3) rfl rfl rfl (by decide +kernel) ⟨Nat.le_of_ble_eq_true rfl, Nat.le_of_ble_eq_true rfl⟩) (kRecvX (q0 := 2) (ci := 8) hK hP hD hN hXS hS hA rfl rfl [2] rfl (by decide)) rfl rfl hl.1 rfl (lv_room (Nat.le_of_ble_eq_true rfl)) dX10_areTwoWorks_22 ⟨Nat.le_of_ble_eq_true rfl, Nat.le_of_ble_eq_true rfl⟩) hP hD hS hA [2] [0, 1] rfl rfl (by decide) (by decide) ?_
    clear hP hD hS
    intro r_14 u_16 H locs w_15 hP hD hS
    replace hP : va_P D vwCl [(k, .inr (10, [.ref k0, .ref k1, .ref k2, .ref k3, .ref k4, .ref k5, .ref k6, .ref k7, .ref k8, .ref k9, .ref ka, .ref kb, .int cc])), (k0, .inr (9, [.ref k00, .ref k01, .ref k02, .ref k03, .ref k04, .ref k05, .int c06, .int c07, .int c08])), (k04, .inr (8, [.ref k040, .ref k041, .ref k042, .ref k043, .ref k044, .ref k045, .ref k046, .ref k047, .ref k048, .int c049]))] H := hP
    replace hD : va_D A [(k, .inr (10, [.ref k0, .ref k1, .ref k2, .ref k3, .ref k4, .ref k5, .ref k6, .ref k7, .ref k8, .ref k9, .ref ka, .ref kb, .int cc])), (k0, .inr (9, [.ref k00, .ref k01, .ref k02, .ref k03, .ref k04, .ref k05, .int c06, .int c07, .int c08])), (k04, .inr (8, [.ref k040, .ref k041, .ref k042, .ref k043, .ref k044, .ref k045, .ref k046, .ref k047, .ref k048, .int c049]))] := hD
    rcases w_15 with ⟨hr_14, h_17, h_18, h_19⟩ | ⟨hr_14, h_20⟩
    · have h_17 : 0 ≤ a1.toInt := h_17
      have h_18 : a1.toInt < c049.toInt := h_18
      have h_19 : a1.toInt < 60 := h_19
      obtain rfl : r_14 = 1 := hr_14.trans (by decide)
      refine b_if_eq hx hb zl_1 (tgt := 37) dX10_areTwoWorks_25 (by decide) (fun c_21 => by exfalso; omega) (fun c_21 => ?_)
      refine lv_iload_n hx hb dX10_areTwoWorks_28 rfl (lv_at hl 1 rfl) ?_
      refine lv_iload_n hx hb dX10_areTwoWorks_29 rfl (lv_at hl 2 rfl) ?_
      refine b_icmp_eq hx hb rfl rfl (tgt := 37) dX10_areTwoWorks_30 (by decide) (fun c_22 => ?_) (fun c_22 => ?_)
      · refine lv_iconst (v := 0) hx hb dX10_areTwoWorks_37 (by decide) ?_
        exact hRet () [0, 1, 2] (Or.inr (⟨rfl, (by omega)⟩)) hP hD (by decide) rfl hS rfl dX10_areTwoWorks_38
      · refine lv_iconst (v := 1) hx hb dX10_areTwoWorks_33 (by decide) ?_
        refine lv_goto (tgt := 38) hx hb dX10_areTwoWorks_34 (by decide) ?_
        exact hRet () [0, 1, 2] (Or.inl ⟨rfl, (by omega), (by omega), (by omega), (by omega), (by omega)⟩) hP hD (by decide) rfl hS rfl dX10_areTwoWorks_38
    · have h_20 : a1.toInt < 0 ∨ c049.toInt ≤ a1.toInt ∨ 60 ≤ a1.toInt := h_20
      obtain rfl : r_14 = 0 := hr_14.trans (by decide)
      refine b_if_eq hx hb zl_0 (tgt := 37) dX10_areTwoWorks_25 (by decide) (fun c_23 => ?_) (fun c_23 => by exfalso; omega)
      refine lv_iconst (v := 0) hx hb dX10_areTwoWorks_37 (by decide) ?_
      exact hRet () [0, 1, 2] (Or.inr (⟨rfl, (by omega)⟩)) hP hD (by decide) rfl hS rfl dX10_areTwoWorks_38
  · have h_12 : a0.toInt < 0 ∨ c049.toInt ≤ a0.toInt ∨ 60 ≤ a0.toInt := h_12
    obtain rfl : r_6 = 0 := hr_6.trans (by decide)
    refine b_if_eq hx hb zl_0 (tgt := 37) dX10_areTwoWorks_11 (by decide) (fun c_24 => ?_) (fun c_24 => by exfalso; omega)
    refine lv_iconst (v := 0) hx hb dX10_areTwoWorks_37 (by decide) ?_
    exact hRet () [0, 1, 2] (Or.inr (⟨rfl, (by omega)⟩)) hP hD (by decide) rfl hS rfl dX10_areTwoWorks_38

set_option maxHeartbeats 4000000 in
set_option maxRecDepth 100000 in
theorem c_X10_areStationsD (l : Launch) (D : va_G) (cI : ClassId) (aK aV : Nat → Nat) (k k0 k1 k2 k3 k4 k5 k6 k7 k8 k9 ka kb k00 k01 k02 k03 k04 k05 k040 k041 k042 k043 k044 k045 k046 k047 k048 : Nat) (sz : Nat) (cc : Int32) (c06 : Int32) (c07 : Int32) (c08 : Int32) (c049 : Int32) (c040 : Nat → Int32) (c00 : Nat → Int32) (c01 : Nat → Int32) (c02 : Nat → Int32) (c03 : Nat → Int32) (c041 : Nat → Int32) (c042 : Nat → Int32) (c043 : Nat → Int32) (c044 : Nat → Int32) (c045 : Nat → Int32) (c046 : Nat → Int32) (c047 : Nat → Int32) (c048 : Nat → Int32) (c050 : Nat → Int32) (c051 : Int32) (gx : Nat → Int32) (a0 : Int32) (a1 : Int32) (pre0 : WR c00 c01 c02 c03 c040 c041 c042 c043 c044 c045 c046 c047 c048 c049 c050 c051 c06 c07 c08 gx) (pre1 : SB gx) (pre2 : 0 ≤ a0.toInt) (pre3 : a0.toInt < c049.toInt) (pre4 : 0 ≤ a1.toInt) (pre5 : a1.toInt < c049.toInt) : Met l yX10_areStations (gW yX10_areStations cX10_areStations 3 (some .boolean)) ({ frames := 2, cells := 0, slots := 0, locals := 42 } : Room) (kPreX D cI aK aV [.ref k, .int a0, .int a1] [(k, .inr (10, [.ref k0, .ref k1, .ref k2, .ref k3, .ref k4, .ref k5, .ref k6, .ref k7, .ref k8, .ref k9, .ref ka, .ref kb, .int cc])), (k0, .inr (9, [.ref k00, .ref k01, .ref k02, .ref k03, .ref k04, .ref k05, .int c06, .int c07, .int c08])), (k04, .inr (8, [.ref k040, .ref k041, .ref k042, .ref k043, .ref k044, .ref k045, .ref k046, .ref k047, .ref k048, .int c049])), (k040, .inl (cI, 60, .inl c040))] sz) (va_Qi (fun (r : Int32) (u : Unit) => (r = 1 ∧ (wW gx a0 0).toInt = 3 ∧ (wW gx a1 0).toInt = 3) ∨ (r = 0 ∧ ((wW gx a0 0).toInt ≠ 3 ∨ (wW gx a1 0).toInt ≠ 3))) (fun u t => kWd D cI (va_A [(k, .inr (10, [.ref k0, .ref k1, .ref k2, .ref k3, .ref k4, .ref k5, .ref k6, .ref k7, .ref k8, .ref k9, .ref ka, .ref kb, .int cc])), (k0, .inr (9, [.ref k00, .ref k01, .ref k02, .ref k03, .ref k04, .ref k05, .int c06, .int c07, .int c08])), (k04, .inr (8, [.ref k040, .ref k041, .ref k042, .ref k043, .ref k044, .ref k045, .ref k046, .ref k047, .ref k048, .int c049])), (k040, .inl (cI, 60, .inl c040))] sz) [(k, .inr (10, [.ref k0, .ref k1, .ref k2, .ref k3, .ref k4, .ref k5, .ref k6, .ref k7, .ref k8, .ref k9, .ref ka, .ref kb, .int cc])), (k0, .inr (9, [.ref k00, .ref k01, .ref k02, .ref k03, .ref k04, .ref k05, .int c06, .int c07, .int c08])), (k04, .inr (8, [.ref k040, .ref k041, .ref k042, .ref k043, .ref k044, .ref k045, .ref k046, .ref k047, .ref k048, .int c049])), (k040, .inl (cI, 60, .inl c040))] t) (va_A [(k, .inr (10, [.ref k0, .ref k1, .ref k2, .ref k3, .ref k4, .ref k5, .ref k6, .ref k7, .ref k8, .ref k9, .ref ka, .ref kb, .int cc])), (k0, .inr (9, [.ref k00, .ref k01, .ref k02, .ref k03, .ref k04, .ref k05, .int c06, .int c07, .int c08])), (k04, .inr (8, [.ref k040, .ref k041, .ref k042, .ref k043, .ref k044, .ref k045, .ref k046, .ref k047, .ref k048, .int c049])), (k040, .inl (cI, 60, .inl c040))] sz)) 0 0 (va_A [(k, .inr (10, [.ref k0, .ref k1, .ref k2, .ref k3, .ref k4, .ref k5, .ref k6, .ref k7, .ref k8, .ref k9, .ref ka, .ref kb, .int cc])), (k0, .inr (9, [.ref k00, .ref k01, .ref k02, .ref k03, .ref k04, .ref k05, .int c06, .int c07, .int c08])), (k04, .inr (8, [.ref k040, .ref k041, .ref k042, .ref k043, .ref k044, .ref k045, .ref k046, .ref k047, .ref k048, .int c049])), (k040, .inl (cI, 60, .inl c040))] sz) := by
  refine kMetIX (own := RX10) (by decide) rfl (Nat.le_of_ble_eq_true rfl) ?_
  intro p e s m args below meth c hx hb hT hown hname hml A Q hK hP hD hS hA hN hXS hRet ls hl
  have hl : lv_has ls 3 [(0, .ref k), (1, .int a0), (2, .int a1)] := hl
  have lo_a0 := k_lo a0
  have hi_a0 := k_hi a0
  have lo_a1 := k_lo a1
  have hi_a1 := k_hi a1
  have lo_c06 := k_lo c06
  have hi_c06 := k_hi c06
  have lo_c07 := k_lo c07
  have hi_c07 := k_hi c07
  have lo_c08 := k_lo c08
  have hi_c08 := k_hi c08
  have lo_c049 := k_lo c049
  have hi_c049 := k_hi c049
  have lo_c051 := k_lo c051
  have hi_c051 := k_hi c051
  have pre0 : WR c00 c01 c02 c03 c040 c041 c042 c043 c044 c045 c046 c047 c048 c049 c050 c051 c06 c07 c08 gx := pre0
  have b_1 : 0 ≤ c049.toInt ∧ c049.toInt ≤ 60 := WKR.n0 (WR.kw pre0)
  have t_2 : c049.toInt = (gx 1).toInt := WKR.nt (WR.kw pre0)
  have b_3 : 0 ≤ c051.toInt ∧ c051.toInt ≤ 4 := ((WR.kp pre0)).2.1
  have t_4 : c051.toInt = (gx 2).toInt := PTR.nt (WR.kp pre0)
  have t_5 : c08.toInt = (gx 0).toInt := by rw [WR.dd pre0]
  have pre1 : SB gx := pre1
  refine lv_aload_n hx hb dX10_areStations_0 rfl (lv_at hl 0 rfl) ?_
  refine va_get (D := D) (ci := 10) (v := .ref k0) (C := RX10) (T := TX10) (N := 13) hx hb hT giX10 hown hK hP 0 rfl rfl 0 (by decide) (hT (Cond.fieldLink RX10 12 "DesertWire" "now" "LDesertWire$World;") mw_291) (fun _ h9 => h9) rfl dX10_areStations_1 ?_
  refine va_get (D := D) (ci := 9) (v := .ref k04) (C := RX9) (T := TX9) (N := 9) hx hb hT giX9 hown hK hP 1 rfl rfl 4 (by decide) (hT (Cond.fieldLink RX10 99 "DesertWire$World" "works" "LDesertWire$Works;") mw_99) (fun _ h9 => h9) rfl dX10_areStations_4 ?_
  refine lv_iload_n hx hb dX10_areStations_7 rfl (lv_at hl 1 rfl) ?_
  refine kJi (wr := [(k, .inr (10, [.ref k0, .ref k1, .ref k2, .ref k3, .ref k4, .ref k5, .ref k6, .ref k7, .ref k8, .ref k9, .ref ka, .ref kb, .int cc])), (k0, .inr (9, [.ref k00, .ref k01, .ref k02, .ref k03, .ref k04, .ref k05, .int c06, .int c07, .int c08]))]) (va_runV (As := [.int a0]) (rest := []) ⟨hx, hb, hml, hown, hT⟩ (c_X8_kindOfD l D cI aK aV k04 k040 k041 k042 k043 k044 k045 k046 k047 k048 s.heap.size c049 c040 a0) (cwV 1 hT (gV_in mw_384 mw_381 mw_382 mw_383 mw_3) rfl rfl rfl (by decide +kernel) ⟨Nat.le_of_ble_eq_true rfl, Nat.le_of_ble_eq_true rfl⟩) (kRecvX (q0 := 2) (ci := 8) hK hP hD hN hXS hS hA rfl rfl [2, 3] rfl (by decide)) rfl rfl hl.1 rfl (lv_room (Nat.le_of_ble_eq_true rfl)) dX10_areStations_8 ⟨Nat.le_of_ble_eq_true rfl, Nat.le_of_ble_eq_true rfl⟩) hP hD hS hA [2, 3] [0, 1] rfl rfl (by decide) (by decide) ?_
  clear hP hD hS
  intro r_6 u_8 H locs w_7 hP hD hS
  replace hP : va_P D vwCl [(k, .inr (10, [.ref k0, .ref k1, .ref k2, .ref k3, .ref k4, .ref k5, .ref k6, .ref k7, .ref k8, .ref k9, .ref ka, .ref kb, .int cc])), (k0, .inr (9, [.ref k00, .ref k01, .ref k02, .ref k03, .ref k04, .ref k05, .int c06, .int c07, .int c08])), (k04, .inr (8, [.ref k040, .ref k041, .ref k042, .ref k043, .ref k044, .ref k045, .ref k046, .ref k047, .ref k048, .int c049])), (k040, .inl (cI, 60, .inl c040))] H := hP
  replace hD : va_D A [(k, .inr (10, [.ref k0, .ref k1, .ref k2, .ref k3, .ref k4, .ref k5, .ref k6, .ref k7, .ref k8, .ref k9, .ref ka, .ref kb, .int cc])), (k0, .inr (9, [.ref k00, .ref k01, .ref k02, .ref k03, .ref k04, .ref k05, .int c06, .int c07, .int c08])), (k04, .inr (8, [.ref k040, .ref k041, .ref k042, .ref k043, .ref k044, .ref k045, .ref k046, .ref k047, .ref k048, .int c049])), (k040, .inl (cI, 60, .inl c040))] := hD
  rcases w_7 with ⟨h_9, h_10, h_11, h_12⟩ | ⟨hr_6, h_13⟩
  · have h_9 : 0 ≤ a0.toInt := h_9
    have h_10 : a0.toInt < c049.toInt := h_10
    have h_11 : a0.toInt ≤ 59 := h_11
    have h_12 : r_6 = c040 a0.toNatClampNeg := h_12
    have h_14 : r_6 = wW gx a0 0 := Eq.trans h_12 (WKR.r0 (WR.kw pre0) (by omega) (by omega))
    have t_15 : r_6.toInt = (wW gx a0 0).toInt := by rw [h_14]
    have b_16 : 0 ≤ r_6.toInt ∧ r_6.toInt ≤ 5 := by rw [h_14]; exact SB.w0 pre1 (by omega) (by omega)
    have lo_r_6 := k_lo r_6
    have hi_r_6 := k_hi r_6
    refine lv_iconst (v := 3) hx hb dX10_areStations_11 (by decide) ?_
    refine b_icmp_ne hx hb rfl zl_3 (tgt := 34) dX10_areStations_12 (by decide) (fun c_17 => ?_) (fun c_17 => ?_)
    · refine lv_iconst (v := 0) hx hb dX10_areStations_34 (by decide) ?_
      exact hRet () [0, 1, 2, 3] (Or.inr (⟨rfl, (by omega)⟩)) hP hD (by decide) rfl hS rfl dX10_areStations_35
    · refine lv_aload_n hx hb dX10_areStations_15 rfl (lv_at hl 0 rfl) ?_
      refine va_get (D := D) (ci := 10) (v := .ref k0) (C := RX10) (T := TX10) (N := 13) hx hb hT giX10 hown hK hP 0 rfl rfl 0 (by decide) (hT (Cond.fieldLink RX10 12 "DesertWire" "now" "LDesertWire$World;") mw_291) (fun _ h9 => h9) rfl dX10_areStations_16 ?_
      refine va_get (D := D) (ci := 9) (v := .ref k04) (C := RX9) (T := TX9) (N := 9) hx hb hT giX9 hown hK hP 1 rfl rfl 4 (by decide) (hT (Cond.fieldLink RX10 99 "DesertWire$World" "works" "LDesertWire$Works;") mw_99) (fun _ h9 => h9) rfl dX10_areStations_19 ?_
      refine lv_iload_n hx hb dX10_areStations_22 rfl (lv_at hl 2 rfl) ?_
      refine kJi (wr := [(k, .inr (10, [.ref k0, .ref k1, .ref k2, .ref k3, .ref k4, .ref k5, .ref k6, .ref k7, .ref k8, .ref k9, .ref ka, .ref kb, .int cc])), (k0, .inr (9, [.ref k00, .ref k01, .ref k02, .ref k03, .ref k04, .ref k05, .int c06, .int c07, .int c08]))]) (va_runV (As := [.int a1]) (rest := []) ⟨hx, hb, hml, hown, hT⟩ (c_X8_kindOfD l D cI aK aV k04 k040 k041 k042 k043 k044 k045 k046 k047 k048 H.size c049 c040 a1) (cwV 1 hT (gV_in mw_384 mw_381 mw_382 mw_383 mw_3) rfl rfl rfl (by decide +kernel) ⟨Nat.le_of_ble_eq_true rfl, Nat.le_of_ble_eq_true rfl⟩) (kRecvX (q0 := 2) (ci := 8) hK hP hD hN hXS hS hA rfl rfl [2, 3] rfl (by decide)) rfl rfl hl.1 rfl (lv_room (Nat.le_of_ble_eq_true rfl)) dX10_areStations_23 ⟨Nat.le_of_ble_eq_true rfl, Nat.le_of_ble_eq_true rfl⟩) hP hD hS hA [2, 3] [0, 1] rfl rfl (by decide) (by decide) ?_
      clear hP hD hS
      intro r_18 u_20 H locs w_19 hP hD hS
      replace hP : va_P D vwCl [(k, .inr (10, [.ref k0, .ref k1, .ref k2, .ref k3, .ref k4, .ref k5, .ref k6, .ref k7, .ref k8, .ref k9, .ref ka, .ref kb, .int cc])), (k0, .inr (9, [.ref k00, .ref k01, .ref k02, .ref k03, .ref k04, .ref k05, .int c06, .int c07, .int c08])), (k04, .inr (8, [.ref k040, .ref k041, .ref k042, .ref k043, .ref k044, .ref k045, .ref k046, .ref k047, .ref k048, .int c049])), (k040, .inl (cI, 60, .inl c040))] H := hP
      replace hD : va_D A [(k, .inr (10, [.ref k0, .ref k1, .ref k2, .ref k3, .ref k4, .ref k5, .ref k6, .ref k7, .ref k8, .ref k9, .ref ka, .ref kb, .int cc])), (k0, .inr (9, [.ref k00, .ref k01, .ref k02, .ref k03, .ref k04, .ref k05, .int c06, .int c07, .int c08])), (k04, .inr (8, [.ref k040, .ref k041, .ref k042, .ref k043, .ref k044, .ref k045, .ref k046, .ref k047, .ref k048, .int c049])), (k040, .inl (cI, 60, .inl c040))] := hD
      rcases w_19 with ⟨h_21, h_22, h_23, h_24⟩ | ⟨hr_18, h_25⟩
      · have h_21 : 0 ≤ a1.toInt := h_21
        have h_22 : a1.toInt < c049.toInt := h_22
        have h_23 : a1.toInt ≤ 59 := h_23
        have h_24 : r_18 = c040 a1.toNatClampNeg := h_24
        have h_26 : r_18 = wW gx a1 0 := Eq.trans h_24 (WKR.r0 (WR.kw pre0) (by omega) (by omega))
        have t_27 : r_18.toInt = (wW gx a1 0).toInt := by rw [h_26]
        have b_28 : 0 ≤ r_18.toInt ∧ r_18.toInt ≤ 5 := by rw [h_26]; exact SB.w0 pre1 (by omega) (by omega)
        have lo_r_18 := k_lo r_18
        have hi_r_18 := k_hi r_18
        refine lv_iconst (v := 3) hx hb dX10_areStations_26 (by decide) ?_
        refine b_icmp_ne hx hb rfl zl_3 (tgt := 34) dX10_areStations_27 (by decide) (fun c_29 => ?_) (fun c_29 => ?_)
        · refine lv_iconst (v := 0) hx hb dX10_areStations_34 (by decide) ?_
          exact hRet () [0, 1, 2, 3] (Or.inr (⟨rfl, (by omega)⟩)) hP hD (by decide) rfl hS rfl dX10_areStations_35
        · refine lv_iconst (v := 1) hx hb dX10_areStations_30 (by decide) ?_
          refine lv_goto (tgt := 35) hx hb dX10_areStations_31 (by decide) ?_
          exact hRet () [0, 1, 2, 3] (Or.inl ⟨rfl, (by omega), (by omega)⟩) hP hD (by decide) rfl hS rfl dX10_areStations_35
      · exfalso; omega
  · exfalso; omega

set_option maxHeartbeats 4000000 in
set_option maxRecDepth 100000 in
theorem c_X10_readsD (l : Launch) (D : va_G) (cI : ClassId) (aK aV : Nat → Nat) (k k0 k1 k2 k3 k4 k5 k6 k7 k8 k9 ka kb k00 k01 k02 k03 k04 k05 k60 k61 k62 k63 k64 k040 k041 k042 k043 k044 k045 k046 k047 k048 : Nat) (sz : Nat) (cc : Int32) (c06 : Int32) (c07 : Int32) (c08 : Int32) (c65 : Int32) (cb : Nat → Int32) (c00 : Nat → Int32) (c049 : Int32) (c60 : Nat → Int32) (c61 : Nat → Int32) (c040 : Nat → Int32) (c041 : Nat → Int32) (c043 : Nat → Int32) (c045 : Nat → Int32) (c046 : Nat → Int32) (c01 : Nat → Int32) (c02 : Nat → Int32) (c03 : Nat → Int32) (c042 : Nat → Int32) (c044 : Nat → Int32) (c047 : Nat → Int32) (c048 : Nat → Int32) (c050 : Nat → Int32) (c051 : Int32) (gx : Nat → Int32) (a0 : Int32) (a1 : Int32) (pre0 : WR c00 c01 c02 c03 c040 c041 c042 c043 c044 c045 c046 c047 c048 c049 c050 c051 c06 c07 c08 gx) (pre1 : SB gx) (pre2 : NNG gx) : Met l yX10_reads (gW yX10_reads cX10_reads 3 (some .int)) ({ frames := 4, cells := 0, slots := 0, locals := 91 } : Room) (kPreX D cI aK aV [.ref k, .int a0, .int a1] [(k, .inr (10, [.ref k0, .ref k1, .ref k2, .ref k3, .ref k4, .ref k5, .ref k6, .ref k7, .ref k8, .ref k9, .ref ka, .ref kb, .int cc])), (k0, .inr (9, [.ref k00, .ref k01, .ref k02, .ref k03, .ref k04, .ref k05, .int c06, .int c07, .int c08])), (k6, .inr (0, [.ref k60, .ref k61, .ref k62, .ref k63, .ref k64, .int c65])), (kb, .inl (cI, 6, .inl cb)), (k00, .inl (cI, 12, .inl c00)), (k04, .inr (8, [.ref k040, .ref k041, .ref k042, .ref k043, .ref k044, .ref k045, .ref k046, .ref k047, .ref k048, .int c049])), (k60, .inl (cI, 41, .inl c60)), (k61, .inl (cI, 41, .inl c61)), (k040, .inl (cI, 60, .inl c040)), (k041, .inl (cI, 60, .inl c041)), (k043, .inl (cI, 60, .inl c043)), (k045, .inl (cI, 60, .inl c045)), (k046, .inl (cI, 40, .inl c046))] sz) (va_Qi (fun (r : Int32) (u : (Nat → Int32) × (Nat → Int32) × (Nat → Int32)) => r = rdsR gx a0 a1) (fun u t => kWd D cI (va_A [(k, .inr (10, [.ref k0, .ref k1, .ref k2, .ref k3, .ref k4, .ref k5, .ref k6, .ref k7, .ref k8, .ref k9, .ref ka, .ref kb, .int cc])), (k0, .inr (9, [.ref k00, .ref k01, .ref k02, .ref k03, .ref k04, .ref k05, .int c06, .int c07, .int c08])), (k6, .inr (0, [.ref k60, .ref k61, .ref k62, .ref k63, .ref k64, .int c65])), (kb, .inl (cI, 6, .inl cb)), (k00, .inl (cI, 12, .inl c00)), (k04, .inr (8, [.ref k040, .ref k041, .ref k042, .ref k043, .ref k044, .ref k045, .ref k046, .ref k047, .ref k048, .int c049])), (k60, .inl (cI, 41, .inl c60)), (k61, .inl (cI, 41, .inl c61)), (k040, .inl (cI, 60, .inl c040)), (k041, .inl (cI, 60, .inl c041)), (k043, .inl (cI, 60, .inl c043)), (k045, .inl (cI, 60, .inl c045)), (k046, .inl (cI, 40, .inl c046))] sz) [(k, .inr (10, [.ref k0, .ref k1, .ref k2, .ref k3, .ref k4, .ref k5, .ref k6, .ref k7, .ref k8, .ref k9, .ref ka, .ref kb, .int cc])), (k0, .inr (9, [.ref k00, .ref k01, .ref k02, .ref k03, .ref k04, .ref k05, .int c06, .int c07, .int c08])), (k6, .inr (0, [.ref k60, .ref k61, .ref k62, .ref k63, .ref k64, .int c65])), (kb, .inl (cI, 6, .inl u.1)), (k00, .inl (cI, 12, .inl c00)), (k04, .inr (8, [.ref k040, .ref k041, .ref k042, .ref k043, .ref k044, .ref k045, .ref k046, .ref k047, .ref k048, .int c049])), (k60, .inl (cI, 41, .inl u.2.1)), (k61, .inl (cI, 41, .inl u.2.2)), (k040, .inl (cI, 60, .inl c040)), (k041, .inl (cI, 60, .inl c041)), (k043, .inl (cI, 60, .inl c043)), (k045, .inl (cI, 60, .inl c045)), (k046, .inl (cI, 40, .inl c046))] t) (va_A [(k, .inr (10, [.ref k0, .ref k1, .ref k2, .ref k3, .ref k4, .ref k5, .ref k6, .ref k7, .ref k8, .ref k9, .ref ka, .ref kb, .int cc])), (k0, .inr (9, [.ref k00, .ref k01, .ref k02, .ref k03, .ref k04, .ref k05, .int c06, .int c07, .int c08])), (k6, .inr (0, [.ref k60, .ref k61, .ref k62, .ref k63, .ref k64, .int c65])), (kb, .inl (cI, 6, .inl cb)), (k00, .inl (cI, 12, .inl c00)), (k04, .inr (8, [.ref k040, .ref k041, .ref k042, .ref k043, .ref k044, .ref k045, .ref k046, .ref k047, .ref k048, .int c049])), (k60, .inl (cI, 41, .inl c60)), (k61, .inl (cI, 41, .inl c61)), (k040, .inl (cI, 60, .inl c040)), (k041, .inl (cI, 60, .inl c041)), (k043, .inl (cI, 60, .inl c043)), (k045, .inl (cI, 60, .inl c045)), (k046, .inl (cI, 40, .inl c046))] sz)) 0 0 (va_A [(k, .inr (10, [.ref k0, .ref k1, .ref k2, .ref k3, .ref k4, .ref k5, .ref k6, .ref k7, .ref k8, .ref k9, .ref ka, .ref kb, .int cc])), (k0, .inr (9, [.ref k00, .ref k01, .ref k02, .ref k03, .ref k04, .ref k05, .int c06, .int c07, .int c08])), (k6, .inr (0, [.ref k60, .ref k61, .ref k62, .ref k63, .ref k64, .int c65])), (kb, .inl (cI, 6, .inl cb)), (k00, .inl (cI, 12, .inl c00)), (k04, .inr (8, [.ref k040, .ref k041, .ref k042, .ref k043, .ref k044, .ref k045, .ref k046, .ref k047, .ref k048, .int c049])), (k60, .inl (cI, 41, .inl c60)), (k61, .inl (cI, 41, .inl c61)), (k040, .inl (cI, 60, .inl c040)), (k041, .inl (cI, 60, .inl c041)), (k043, .inl (cI, 60, .inl c043)), (k045, .inl (cI, 60, .inl c045)), (k046, .inl (cI, 40, .inl c046))] sz) := by
  refine kMetIX (own := RX10) (by decide) rfl (Nat.le_of_ble_eq_true rfl) ?_
  intro p e s m args below meth c hx hb hT hown hname hml A Q hK hP hD hS hA hN hXS hRet ls hl
  have hl : lv_has ls 3 [(0, .ref k), (1, .int a0), (2, .int a1)] := hl
  have lo_a0 := k_lo a0
  have hi_a0 := k_hi a0
  have lo_a1 := k_lo a1
  have hi_a1 := k_hi a1
  have lo_c06 := k_lo c06
  have hi_c06 := k_hi c06
  have lo_c07 := k_lo c07
  have hi_c07 := k_hi c07
  have lo_c08 := k_lo c08
  have hi_c08 := k_hi c08
  have lo_c049 := k_lo c049
  have hi_c049 := k_hi c049
  have lo_c051 := k_lo c051
  have hi_c051 := k_hi c051
  have pre0 : WR c00 c01 c02 c03 c040 c041 c042 c043 c044 c045 c046 c047 c048 c049 c050 c051 c06 c07 c08 gx := pre0
  have b_1 : 0 ≤ c049.toInt ∧ c049.toInt ≤ 60 := WKR.n0 (WR.kw pre0)
  have t_2 : c049.toInt = (gx 1).toInt := WKR.nt (WR.kw pre0)
  have b_3 : 0 ≤ c051.toInt ∧ c051.toInt ≤ 4 := ((WR.kp pre0)).2.1
  have t_4 : c051.toInt = (gx 2).toInt := PTR.nt (WR.kp pre0)
  have t_5 : c08.toInt = (gx 0).toInt := by rw [WR.dd pre0]
  have pre1 : SB gx := pre1
  have pre2 : NNG gx := pre2
  refine lv_aload_n hx hb dX10_reads_0 rfl (lv_at hl 0 rfl) ?_
  refine lv_iload_n hx hb dX10_reads_1 rfl (lv_at hl 1 rfl) ?_
  refine lv_iload_n hx hb dX10_reads_2 rfl (lv_at hl 2 rfl) ?_
  refine kJi (wr := [(k6, .inr (0, [.ref k60, .ref k61, .ref k62, .ref k63, .ref k64, .int c65])), (kb, .inl (cI, 6, .inl cb)), (k00, .inl (cI, 12, .inl c00)), (k60, .inl (cI, 41, .inl c60)), (k61, .inl (cI, 41, .inl c61)), (k040, .inl (cI, 60, .inl c040)), (k041, .inl (cI, 60, .inl c041)), (k043, .inl (cI, 60, .inl c043)), (k045, .inl (cI, 60, .inl c045)), (k046, .inl (cI, 40, .inl c046))]) (va_runV (As := [.int a0, .int a1]) (rest := []) ⟨hx, hb, hml, hown, hT⟩ (c_X10_areTwoWorksD l D cI aK aV k k0 k1 k2 k3 k4 k5 k6 k7 k8 k9 ka kb k00 k01 k02 k03 k04 k05 k040 k041 k042 k043 k044 k045 k046 k047 k048 s.heap.size cc c06 c07 c08 c049 c00 c01 c02 c03 c040 c041 c042 c043 c044 c045 c046 c047 c048 c050 c051 gx a0 a1 pre0) (cwV 2 hT (gV_in mw_764 mw_761 mw_763 mw_p2_1 mw_1) rfl rfl rfl (by decide +kernel) ⟨Nat.le_of_ble_eq_true rfl, Nat.le_of_ble_eq_true rfl⟩) (kRecvX (q0 := 0) (ci := 10) hK hP hD hN hXS hS hA rfl rfl [0, 1, 5] rfl (by decide)) rfl rfl hl.1 rfl (lv_room (Nat.le_of_ble_eq_true rfl)) dX10_reads_3 ⟨Nat.le_of_ble_eq_true rfl, Nat.le_of_ble_eq_true rfl⟩) hP hD hS hA [0, 1, 5] [2, 3, 4, 6, 7, 8, 9, 10, 11, 12] rfl rfl (by decide) (by decide) ?_
  clear hP hD hS
  intro r_6 u_8 H locs w_7 hP hD hS
  replace hP : va_P D vwCl [(k6, .inr (0, [.ref k60, .ref k61, .ref k62, .ref k63, .ref k64, .int c65])), (kb, .inl (cI, 6, .inl cb)), (k00, .inl (cI, 12, .inl c00)), (k60, .inl (cI, 41, .inl c60)), (k61, .inl (cI, 41, .inl c61)), (k040, .inl (cI, 60, .inl c040)), (k041, .inl (cI, 60, .inl c041)), (k043, .inl (cI, 60, .inl c043)), (k045, .inl (cI, 60, .inl c045)), (k046, .inl (cI, 40, .inl c046)), (k, .inr (10, [.ref k0, .ref k1, .ref k2, .ref k3, .ref k4, .ref k5, .ref k6, .ref k7, .ref k8, .ref k9, .ref ka, .ref kb, .int cc])), (k0, .inr (9, [.ref k00, .ref k01, .ref k02, .ref k03, .ref k04, .ref k05, .int c06, .int c07, .int c08])), (k04, .inr (8, [.ref k040, .ref k041, .ref k042, .ref k043, .ref k044, .ref k045, .ref k046, .ref k047, .ref k048, .int c049]))] H := hP
  replace hD : va_D A [(k6, .inr (0, [.ref k60, .ref k61, .ref k62, .ref k63, .ref k64, .int c65])), (kb, .inl (cI, 6, .inl cb)), (k00, .inl (cI, 12, .inl c00)), (k60, .inl (cI, 41, .inl c60)), (k61, .inl (cI, 41, .inl c61)), (k040, .inl (cI, 60, .inl c040)), (k041, .inl (cI, 60, .inl c041)), (k043, .inl (cI, 60, .inl c043)), (k045, .inl (cI, 60, .inl c045)), (k046, .inl (cI, 40, .inl c046)), (k, .inr (10, [.ref k0, .ref k1, .ref k2, .ref k3, .ref k4, .ref k5, .ref k6, .ref k7, .ref k8, .ref k9, .ref ka, .ref kb, .int cc])), (k0, .inr (9, [.ref k00, .ref k01, .ref k02, .ref k03, .ref k04, .ref k05, .int c06, .int c07, .int c08])), (k04, .inr (8, [.ref k040, .ref k041, .ref k042, .ref k043, .ref k044, .ref k045, .ref k046, .ref k047, .ref k048, .int c049]))] := hD
  rcases w_7 with ⟨hr_6, h_9, h_10, h_11, h_12, h_13⟩ | ⟨hr_6, h_14⟩
  · have h_9 : 0 ≤ a0.toInt := h_9
    have h_10 : a0.toInt < (gx 1).toInt := h_10
    have h_11 : 0 ≤ a1.toInt := h_11
    have h_12 : a1.toInt < (gx 1).toInt := h_12
    have h_13 : a0.toInt ≠ a1.toInt := h_13
    obtain rfl : r_6 = 1 := hr_6.trans (by decide)
    refine b_if_ne hx hb zl_1 (tgt := 15) dX10_reads_6 (by decide) (fun c_15 => ?_) (fun c_15 => by exfalso; omega)
    refine lv_aload_n hx hb dX10_reads_15 rfl (lv_at hl 0 rfl) ?_
    refine lv_iload_n hx hb dX10_reads_16 rfl (lv_at hl 1 rfl) ?_
    refine lv_iload_n hx hb dX10_reads_17 rfl (lv_at hl 2 rfl) ?_
    refine kJi (wr := [(k6, .inr (0, [.ref k60, .ref k61, .ref k62, .ref k63, .ref k64, .int c65])), (kb, .inl (cI, 6, .inl cb)), (k00, .inl (cI, 12, .inl c00)), (k60, .inl (cI, 41, .inl c60)), (k61, .inl (cI, 41, .inl c61)), (k041, .inl (cI, 60, .inl c041)), (k043, .inl (cI, 60, .inl c043)), (k045, .inl (cI, 60, .inl c045)), (k046, .inl (cI, 40, .inl c046))]) (va_runV (As := [.int a0, .int a1]) (rest := []) ⟨hx, hb, hml, hown, hT⟩ (c_X10_areStationsD l D cI aK aV k k0 k1 k2 k3 k4 k5 k6 k7 k8 k9 ka kb k00 k01 k02 k03 k04 k05 k040 k041 k042 k043 k044 k045 k046 k047 k048 H.size cc c06 c07 c08 c049 c040 c00 c01 c02 c03 c041 c042 c043 c044 c045 c046 c047 c048 c050 c051 gx a0 a1 pre0 pre1 (by first | omega | decide | assumption | rfl) (by first | omega | decide | assumption | rfl) (by first | omega | decide | assumption | rfl) (by first | omega | decide | assumption | rfl)) (cwV 2 hT (gV_in mw_768 mw_765 mw_767 mw_p2_2 mw_1) rfl rfl rfl (by decide +kernel) ⟨Nat.le_of_ble_eq_true rfl, Nat.le_of_ble_eq_true rfl⟩) (kRecvX (q0 := 10) (ci := 10) hK hP hD hN hXS hS hA rfl rfl [10, 11, 12, 5] rfl (by decide)) rfl rfl hl.1 rfl (lv_room (Nat.le_of_ble_eq_true rfl)) dX10_reads_18 ⟨Nat.le_of_ble_eq_true rfl, Nat.le_of_ble_eq_true rfl⟩) hP hD hS hA [10, 11, 12, 5] [0, 1, 2, 3, 4, 6, 7, 8, 9] rfl rfl (by decide) (by decide) ?_
    clear hP hD hS
    intro r_16 u_18 H locs w_17 hP hD hS
    replace hP : va_P D vwCl [(k6, .inr (0, [.ref k60, .ref k61, .ref k62, .ref k63, .ref k64, .int c65])), (kb, .inl (cI, 6, .inl cb)), (k00, .inl (cI, 12, .inl c00)), (k60, .inl (cI, 41, .inl c60)), (k61, .inl (cI, 41, .inl c61)), (k041, .inl (cI, 60, .inl c041)), (k043, .inl (cI, 60, .inl c043)), (k045, .inl (cI, 60, .inl c045)), (k046, .inl (cI, 40, .inl c046)), (k, .inr (10, [.ref k0, .ref k1, .ref k2, .ref k3, .ref k4, .ref k5, .ref k6, .ref k7, .ref k8, .ref k9, .ref ka, .ref kb, .int cc])), (k0, .inr (9, [.ref k00, .ref k01, .ref k02, .ref k03, .ref k04, .ref k05, .int c06, .int c07, .int c08])), (k04, .inr (8, [.ref k040, .ref k041, .ref k042, .ref k043, .ref k044, .ref k045, .ref k046, .ref k047, .ref k048, .int c049])), (k040, .inl (cI, 60, .inl c040))] H := hP
    replace hD : va_D A [(k6, .inr (0, [.ref k60, .ref k61, .ref k62, .ref k63, .ref k64, .int c65])), (kb, .inl (cI, 6, .inl cb)), (k00, .inl (cI, 12, .inl c00)), (k60, .inl (cI, 41, .inl c60)), (k61, .inl (cI, 41, .inl c61)), (k041, .inl (cI, 60, .inl c041)), (k043, .inl (cI, 60, .inl c043)), (k045, .inl (cI, 60, .inl c045)), (k046, .inl (cI, 40, .inl c046)), (k, .inr (10, [.ref k0, .ref k1, .ref k2, .ref k3, .ref k4, .ref k5, .ref k6, .ref k7, .ref k8, .ref k9, .ref ka, .ref kb, .int cc])), (k0, .inr (9, [.ref k00, .ref k01, .ref k02, .ref k03, .ref k04, .ref k05, .int c06, .int c07, .int c08])), (k04, .inr (8, [.ref k040, .ref k041, .ref k042, .ref k043, .ref k044, .ref k045, .ref k046, .ref k047, .ref k048, .int c049])), (k040, .inl (cI, 60, .inl c040))] := hD
    rcases w_17 with ⟨hr_16, h_19, h_20⟩ | ⟨hr_16, h_21⟩
    · have h_19 : (wW gx a0 0).toInt = 3 := h_19
      have h_20 : (wW gx a1 0).toInt = 3 := h_20
      obtain rfl : r_16 = 1 := hr_16.trans (by decide)
      refine b_if_ne hx hb zl_1 (tgt := 30) dX10_reads_21 (by decide) (fun c_22 => ?_) (fun c_22 => by exfalso; omega)
      refine lv_aload_n hx hb dX10_reads_30 rfl (lv_at hl 0 rfl) ?_
      refine va_get (D := D) (ci := 10) (v := .ref k6) (C := RX10) (T := TX10) (N := 13) hx hb hT giX10 hown hK hP 9 rfl rfl 6 (by decide) (hT (Cond.fieldLink RX10 42 "DesertWire" "words" "LDesertWire$Hands;") mw_297) (fun _ h9 => h9) rfl dX10_reads_31 ?_
      refine lv_aload_n hx hb dX10_reads_34 rfl (lv_at hl 0 rfl) ?_
      refine va_get (D := D) (ci := 10) (v := .ref k0) (C := RX10) (T := TX10) (N := 13) hx hb hT giX10 hown hK hP 9 rfl rfl 0 (by decide) (hT (Cond.fieldLink RX10 12 "DesertWire" "now" "LDesertWire$World;") mw_291) (fun _ h9 => h9) rfl dX10_reads_35 ?_
      refine kJv (wr := [(kb, .inl (cI, 6, .inl cb)), (k, .inr (10, [.ref k0, .ref k1, .ref k2, .ref k3, .ref k4, .ref k5, .ref k6, .ref k7, .ref k8, .ref k9, .ref ka, .ref kb, .int cc]))]) (va_runV (As := [.ref k0]) (rest := []) ⟨hx, hb, hml, hown, hT⟩ (c_X0_surveyD l D cI aK aV k6 k0 k60 k61 k62 k63 k64 k00 k01 k02 k03 k04 k05 k040 k041 k042 k043 k044 k045 k046 k047 k048 H.size c65 c60 c61 c06 c07 c08 c00 c049 c040 c041 c043 c045 c046 c01 c02 c03 c042 c044 c047 c048 c050 c051 gx pre0 pre1) (cwV 1 hT (gV_in mw_772 mw_769 mw_770 mw_771 mw_7) rfl rfl rfl (by decide +kernel) ⟨Nat.le_of_ble_eq_true rfl, Nat.le_of_ble_eq_true rfl⟩) (kRecvX (q0 := 0) (ci := 0) hK hP hD hN hXS hS hA rfl rfl [0, 3, 4, 10, 2, 11, 12, 5, 6, 7, 8] rfl (by decide)) rfl rfl hl.1 rfl (lv_room (Nat.le_of_ble_eq_true rfl)) dX10_reads_38 ⟨Nat.le_of_ble_eq_true rfl, Nat.le_of_ble_eq_true rfl⟩) hP hD hS hA [0, 3, 4, 10, 2, 11, 12, 5, 6, 7, 8] [1, 9] rfl rfl (by decide) (by decide) ?_
      clear hP hD hS
      intro u_27 H locs w_24 hP hD hS
      obtain ⟨sc0_25, sc1_26⟩ := u_27
      replace hP : va_P D vwCl [(kb, .inl (cI, 6, .inl cb)), (k, .inr (10, [.ref k0, .ref k1, .ref k2, .ref k3, .ref k4, .ref k5, .ref k6, .ref k7, .ref k8, .ref k9, .ref ka, .ref kb, .int cc])), (k6, .inr (0, [.ref k60, .ref k61, .ref k62, .ref k63, .ref k64, .int c65])), (k60, .inl (cI, 41, .inl sc0_25)), (k61, .inl (cI, 41, .inl sc1_26)), (k0, .inr (9, [.ref k00, .ref k01, .ref k02, .ref k03, .ref k04, .ref k05, .int c06, .int c07, .int c08])), (k00, .inl (cI, 12, .inl c00)), (k04, .inr (8, [.ref k040, .ref k041, .ref k042, .ref k043, .ref k044, .ref k045, .ref k046, .ref k047, .ref k048, .int c049])), (k040, .inl (cI, 60, .inl c040)), (k041, .inl (cI, 60, .inl c041)), (k043, .inl (cI, 60, .inl c043)), (k045, .inl (cI, 60, .inl c045)), (k046, .inl (cI, 40, .inl c046))] H := hP
      replace hD : va_D A [(kb, .inl (cI, 6, .inl cb)), (k, .inr (10, [.ref k0, .ref k1, .ref k2, .ref k3, .ref k4, .ref k5, .ref k6, .ref k7, .ref k8, .ref k9, .ref ka, .ref kb, .int cc])), (k6, .inr (0, [.ref k60, .ref k61, .ref k62, .ref k63, .ref k64, .int c65])), (k60, .inl (cI, 41, .inl sc0_25)), (k61, .inl (cI, 41, .inl sc1_26)), (k0, .inr (9, [.ref k00, .ref k01, .ref k02, .ref k03, .ref k04, .ref k05, .int c06, .int c07, .int c08])), (k00, .inl (cI, 12, .inl c00)), (k04, .inr (8, [.ref k040, .ref k041, .ref k042, .ref k043, .ref k044, .ref k045, .ref k046, .ref k047, .ref k048, .int c049])), (k040, .inl (cI, 60, .inl c040)), (k041, .inl (cI, 60, .inl c041)), (k043, .inl (cI, 60, .inl c043)), (k045, .inl (cI, 60, .inl c045)), (k046, .inl (cI, 40, .inl c046))] := hD
      have h_28 := w_24
      have h_28 : SVY gx sc0_25 sc1_26 := h_28
      refine lv_aload_n hx hb dX10_reads_41 rfl (lv_at hl 0 rfl) ?_
      refine va_get (D := D) (ci := 10) (v := .ref k6) (C := RX10) (T := TX10) (N := 13) hx hb hT giX10 hown hK hP 1 rfl rfl 6 (by decide) (hT (Cond.fieldLink RX10 42 "DesertWire" "words" "LDesertWire$Hands;") mw_297) (fun _ h9 => h9) rfl dX10_reads_42 ?_
      refine lv_aload_n hx hb dX10_reads_45 rfl (lv_at hl 0 rfl) ?_
      refine va_get (D := D) (ci := 10) (v := .ref k0) (C := RX10) (T := TX10) (N := 13) hx hb hT giX10 hown hK hP 1 rfl rfl 0 (by decide) (hT (Cond.fieldLink RX10 12 "DesertWire" "now" "LDesertWire$World;") mw_291) (fun _ h9 => h9) rfl dX10_reads_46 ?_
      refine lv_iload_n hx hb dX10_reads_49 rfl (lv_at hl 1 rfl) ?_
      refine lv_iload_n hx hb dX10_reads_50 rfl (lv_at hl 2 rfl) ?_
      refine kJi (wr := [(kb, .inl (cI, 6, .inl cb)), (k, .inr (10, [.ref k0, .ref k1, .ref k2, .ref k3, .ref k4, .ref k5, .ref k6, .ref k7, .ref k8, .ref k9, .ref ka, .ref kb, .int cc])), (k00, .inl (cI, 12, .inl c00)), (k040, .inl (cI, 60, .inl c040)), (k043, .inl (cI, 60, .inl c043)), (k046, .inl (cI, 40, .inl c046))]) (va_runV (As := [.ref k0, .int a0, .int a1]) (rest := []) ⟨hx, hb, hml, hown, hT⟩ (c_X0_canReadD l D cI aK aV k6 k0 k60 k61 k62 k63 k64 k00 k01 k02 k03 k04 k05 k040 k041 k042 k043 k044 k045 k046 k047 k048 H.size c65 sc0_25 sc1_26 c06 c07 c08 c049 c041 c045 c00 c01 c02 c03 c040 c042 c043 c044 c046 c047 c048 c050 c051 gx a0 a1 pre0 pre1 (by first | omega | decide | assumption | rfl) (by first | omega | decide | assumption | rfl) (by first | omega | decide | assumption | rfl) (by first | omega | decide | assumption | rfl) (by first | omega | decide | assumption | rfl) (by first | omega | decide | assumption | rfl) (by first | omega | decide | assumption | rfl) (by first | omega | decide | assumption | rfl)) (cwV 3 hT (gV_in mw_778 mw_775 mw_776 mw_777 mw_7) rfl rfl rfl (by decide +kernel) ⟨Nat.le_of_ble_eq_true rfl, Nat.le_of_ble_eq_true rfl⟩) (kRecvX (q0 := 2) (ci := 0) hK hP hD hN hXS hS hA rfl rfl [2, 3, 4, 5, 7, 9, 11] rfl (by decide)) rfl rfl hl.1 rfl (lv_room (Nat.le_of_ble_eq_true rfl)) dX10_reads_51 ⟨Nat.le_of_ble_eq_true rfl, Nat.le_of_ble_eq_true rfl⟩) hP hD hS hA [2, 3, 4, 5, 7, 9, 11] [0, 1, 6, 8, 10, 12] rfl rfl (by decide) (by decide) ?_
      clear hP hD hS
      intro r_29 u_31 H locs w_30 hP hD hS
      replace hP : va_P D vwCl [(kb, .inl (cI, 6, .inl cb)), (k, .inr (10, [.ref k0, .ref k1, .ref k2, .ref k3, .ref k4, .ref k5, .ref k6, .ref k7, .ref k8, .ref k9, .ref ka, .ref kb, .int cc])), (k00, .inl (cI, 12, .inl c00)), (k040, .inl (cI, 60, .inl c040)), (k043, .inl (cI, 60, .inl c043)), (k046, .inl (cI, 40, .inl c046)), (k6, .inr (0, [.ref k60, .ref k61, .ref k62, .ref k63, .ref k64, .int c65])), (k60, .inl (cI, 41, .inl sc0_25)), (k61, .inl (cI, 41, .inl sc1_26)), (k0, .inr (9, [.ref k00, .ref k01, .ref k02, .ref k03, .ref k04, .ref k05, .int c06, .int c07, .int c08])), (k04, .inr (8, [.ref k040, .ref k041, .ref k042, .ref k043, .ref k044, .ref k045, .ref k046, .ref k047, .ref k048, .int c049])), (k041, .inl (cI, 60, .inl c041)), (k045, .inl (cI, 60, .inl c045))] H := hP
      replace hD : va_D A [(kb, .inl (cI, 6, .inl cb)), (k, .inr (10, [.ref k0, .ref k1, .ref k2, .ref k3, .ref k4, .ref k5, .ref k6, .ref k7, .ref k8, .ref k9, .ref ka, .ref kb, .int cc])), (k00, .inl (cI, 12, .inl c00)), (k040, .inl (cI, 60, .inl c040)), (k043, .inl (cI, 60, .inl c043)), (k046, .inl (cI, 40, .inl c046)), (k6, .inr (0, [.ref k60, .ref k61, .ref k62, .ref k63, .ref k64, .int c65])), (k60, .inl (cI, 41, .inl sc0_25)), (k61, .inl (cI, 41, .inl sc1_26)), (k0, .inr (9, [.ref k00, .ref k01, .ref k02, .ref k03, .ref k04, .ref k05, .int c06, .int c07, .int c08])), (k04, .inr (8, [.ref k040, .ref k041, .ref k042, .ref k043, .ref k044, .ref k045, .ref k046, .ref k047, .ref k048, .int c049])), (k041, .inl (cI, 60, .inl c041)), (k045, .inl (cI, 60, .inl c045))] := hD
      rcases w_30 with ⟨hr_29, h_32⟩ | ⟨hr_29, h_33⟩
      · have h_32 : crF gx a0 a1 = 1 := h_32
        obtain rfl : r_29 = 1 := hr_29.trans (by decide)
        refine b_if_eq hx hb zl_1 (tgt := 61) dX10_reads_54 (by decide) (fun c_34 => by exfalso; omega) (fun c_34 => ?_)
        refine lv_iconst (v := 1) hx hb dX10_reads_57 (by decide) ?_
        refine lv_goto (tgt := 62) hx hb dX10_reads_58 (by decide) ?_
        exact hRet (cb, sc0_25, sc1_26) [1, 9, 6, 0, 2, 10, 7, 8, 3, 11, 4, 12, 5] (by unfold rdsR; (repeat (first | rw [if_pos (by omega)] | rw [if_neg (by omega)])); exact h_32.symm) hP hD (by decide) rfl hS rfl dX10_reads_62
      · have h_33 : crF gx a0 a1 = 0 := h_33
        obtain rfl : r_29 = 0 := hr_29.trans (by decide)
        refine b_if_eq hx hb zl_0 (tgt := 61) dX10_reads_54 (by decide) (fun c_35 => ?_) (fun c_35 => by exfalso; omega)
        refine lv_iconst (v := 0) hx hb dX10_reads_61 (by decide) ?_
        exact hRet (cb, sc0_25, sc1_26) [1, 9, 6, 0, 2, 10, 7, 8, 3, 11, 4, 12, 5] (by unfold rdsR; (repeat (first | rw [if_pos (by omega)] | rw [if_neg (by omega)])); exact h_33.symm) hP hD (by decide) rfl hS rfl dX10_reads_62
    · have h_21 : (wW gx a0 0).toInt ≠ 3 ∨ (wW gx a1 0).toInt ≠ 3 := h_21
      obtain rfl : r_16 = 0 := hr_16.trans (by decide)
      refine b_if_ne hx hb zl_0 (tgt := 30) dX10_reads_21 (by decide) (fun c_36 => by exfalso; omega) (fun c_36 => ?_)
      refine lv_aload_n hx hb dX10_reads_24 rfl (lv_at hl 0 rfl) ?_
      refine lv_iconst (v := 5) hx hb dX10_reads_25 (by decide) ?_
      refine kJi (wr := [(k6, .inr (0, [.ref k60, .ref k61, .ref k62, .ref k63, .ref k64, .int c65])), (k00, .inl (cI, 12, .inl c00)), (k60, .inl (cI, 41, .inl c60)), (k61, .inl (cI, 41, .inl c61)), (k041, .inl (cI, 60, .inl c041)), (k043, .inl (cI, 60, .inl c043)), (k045, .inl (cI, 60, .inl c045)), (k046, .inl (cI, 40, .inl c046)), (k0, .inr (9, [.ref k00, .ref k01, .ref k02, .ref k03, .ref k04, .ref k05, .int c06, .int c07, .int c08])), (k04, .inr (8, [.ref k040, .ref k041, .ref k042, .ref k043, .ref k044, .ref k045, .ref k046, .ref k047, .ref k048, .int c049])), (k040, .inl (cI, 60, .inl c040))]) (va_runV (As := [.int 5]) (rest := []) ⟨hx, hb, hml, hown, hT⟩ (c_X10_findingG l D cI aK aV k k0 k1 k2 k3 k4 k5 k6 k7 k8 k9 ka kb H.size cc cb 5) (cwV 1 hT (gV_in mw_338 mw_335 mw_337 mw_p1_0 mw_1) rfl rfl rfl (by decide +kernel) ⟨Nat.le_of_ble_eq_true rfl, Nat.le_of_ble_eq_true rfl⟩) (kRecvX (q0 := 9) (ci := 10) hK hP hD hN hXS hS hA rfl rfl [9, 1] rfl (by decide)) rfl rfl hl.1 rfl (lv_room (Nat.le_of_ble_eq_true rfl)) dX10_reads_26 ⟨Nat.le_of_ble_eq_true rfl, Nat.le_of_ble_eq_true rfl⟩) hP hD hS hA [9, 1] [0, 2, 3, 4, 5, 6, 7, 8, 10, 11, 12] rfl rfl (by decide) (by decide) ?_
      clear hP hD hS
      intro r_37 scb_39 H locs w_38 hP hD hS
      replace hP : va_P D vwCl [(k6, .inr (0, [.ref k60, .ref k61, .ref k62, .ref k63, .ref k64, .int c65])), (k00, .inl (cI, 12, .inl c00)), (k60, .inl (cI, 41, .inl c60)), (k61, .inl (cI, 41, .inl c61)), (k041, .inl (cI, 60, .inl c041)), (k043, .inl (cI, 60, .inl c043)), (k045, .inl (cI, 60, .inl c045)), (k046, .inl (cI, 40, .inl c046)), (k0, .inr (9, [.ref k00, .ref k01, .ref k02, .ref k03, .ref k04, .ref k05, .int c06, .int c07, .int c08])), (k04, .inr (8, [.ref k040, .ref k041, .ref k042, .ref k043, .ref k044, .ref k045, .ref k046, .ref k047, .ref k048, .int c049])), (k040, .inl (cI, 60, .inl c040)), (k, .inr (10, [.ref k0, .ref k1, .ref k2, .ref k3, .ref k4, .ref k5, .ref k6, .ref k7, .ref k8, .ref k9, .ref ka, .ref kb, .int cc])), (kb, .inl (cI, 6, .inl scb_39))] H := hP
      replace hD : va_D A [(k6, .inr (0, [.ref k60, .ref k61, .ref k62, .ref k63, .ref k64, .int c65])), (k00, .inl (cI, 12, .inl c00)), (k60, .inl (cI, 41, .inl c60)), (k61, .inl (cI, 41, .inl c61)), (k041, .inl (cI, 60, .inl c041)), (k043, .inl (cI, 60, .inl c043)), (k045, .inl (cI, 60, .inl c045)), (k046, .inl (cI, 40, .inl c046)), (k0, .inr (9, [.ref k00, .ref k01, .ref k02, .ref k03, .ref k04, .ref k05, .int c06, .int c07, .int c08])), (k04, .inr (8, [.ref k040, .ref k041, .ref k042, .ref k043, .ref k044, .ref k045, .ref k046, .ref k047, .ref k048, .int c049])), (k040, .inl (cI, 60, .inl c040)), (k, .inr (10, [.ref k0, .ref k1, .ref k2, .ref k3, .ref k4, .ref k5, .ref k6, .ref k7, .ref k8, .ref k9, .ref ka, .ref kb, .int cc])), (kb, .inl (cI, 6, .inl scb_39))] := hD
      have hr_37 := w_38
      obtain rfl : r_37 = (-1000005) := hr_37.trans (by decide)
      exact hRet (scb_39, c60, c61) [11, 8, 0, 12, 1, 9, 2, 3, 10, 4, 5, 6, 7] (by (try dsimp only); unfold rdsR; (repeat (first | rw [if_pos (by omega)] | rw [if_neg (by omega)]))) hP hD (by decide) rfl hS rfl dX10_reads_29
  · have h_14 : a0.toInt < 0 ∨ (gx 1).toInt ≤ a0.toInt ∨ a1.toInt < 0 ∨ (gx 1).toInt ≤ a1.toInt ∨ a0.toInt = a1.toInt := h_14
    obtain rfl : r_6 = 0 := hr_6.trans (by decide)
    refine b_if_ne hx hb zl_0 (tgt := 15) dX10_reads_6 (by decide) (fun c_40 => by exfalso; omega) (fun c_40 => ?_)
    refine lv_aload_n hx hb dX10_reads_9 rfl (lv_at hl 0 rfl) ?_
    refine lv_iconst (v := 1) hx hb dX10_reads_10 (by decide) ?_
    refine kJi (wr := [(k6, .inr (0, [.ref k60, .ref k61, .ref k62, .ref k63, .ref k64, .int c65])), (k00, .inl (cI, 12, .inl c00)), (k60, .inl (cI, 41, .inl c60)), (k61, .inl (cI, 41, .inl c61)), (k040, .inl (cI, 60, .inl c040)), (k041, .inl (cI, 60, .inl c041)), (k043, .inl (cI, 60, .inl c043)), (k045, .inl (cI, 60, .inl c045)), (k046, .inl (cI, 40, .inl c046)), (k0, .inr (9, [.ref k00, .ref k01, .ref k02, .ref k03, .ref k04, .ref k05, .int c06, .int c07, .int c08])), (k04, .inr (8, [.ref k040, .ref k041, .ref k042, .ref k043, .ref k044, .ref k045, .ref k046, .ref k047, .ref k048, .int c049]))]) (va_runV (As := [.int 1]) (rest := []) ⟨hx, hb, hml, hown, hT⟩ (c_X10_findingG l D cI aK aV k k0 k1 k2 k3 k4 k5 k6 k7 k8 k9 ka kb H.size cc cb 1) (cwV 1 hT (gV_in mw_338 mw_335 mw_337 mw_p1_0 mw_1) rfl rfl rfl (by decide +kernel) ⟨Nat.le_of_ble_eq_true rfl, Nat.le_of_ble_eq_true rfl⟩) (kRecvX (q0 := 10) (ci := 10) hK hP hD hN hXS hS hA rfl rfl [10, 1] rfl (by decide)) rfl rfl hl.1 rfl (lv_room (Nat.le_of_ble_eq_true rfl)) dX10_reads_11 ⟨Nat.le_of_ble_eq_true rfl, Nat.le_of_ble_eq_true rfl⟩) hP hD hS hA [10, 1] [0, 2, 3, 4, 5, 6, 7, 8, 9, 11, 12] rfl rfl (by decide) (by decide) ?_
    clear hP hD hS
    intro r_41 scb_43 H locs w_42 hP hD hS
    replace hP : va_P D vwCl [(k6, .inr (0, [.ref k60, .ref k61, .ref k62, .ref k63, .ref k64, .int c65])), (k00, .inl (cI, 12, .inl c00)), (k60, .inl (cI, 41, .inl c60)), (k61, .inl (cI, 41, .inl c61)), (k040, .inl (cI, 60, .inl c040)), (k041, .inl (cI, 60, .inl c041)), (k043, .inl (cI, 60, .inl c043)), (k045, .inl (cI, 60, .inl c045)), (k046, .inl (cI, 40, .inl c046)), (k0, .inr (9, [.ref k00, .ref k01, .ref k02, .ref k03, .ref k04, .ref k05, .int c06, .int c07, .int c08])), (k04, .inr (8, [.ref k040, .ref k041, .ref k042, .ref k043, .ref k044, .ref k045, .ref k046, .ref k047, .ref k048, .int c049])), (k, .inr (10, [.ref k0, .ref k1, .ref k2, .ref k3, .ref k4, .ref k5, .ref k6, .ref k7, .ref k8, .ref k9, .ref ka, .ref kb, .int cc])), (kb, .inl (cI, 6, .inl scb_43))] H := hP
    replace hD : va_D A [(k6, .inr (0, [.ref k60, .ref k61, .ref k62, .ref k63, .ref k64, .int c65])), (k00, .inl (cI, 12, .inl c00)), (k60, .inl (cI, 41, .inl c60)), (k61, .inl (cI, 41, .inl c61)), (k040, .inl (cI, 60, .inl c040)), (k041, .inl (cI, 60, .inl c041)), (k043, .inl (cI, 60, .inl c043)), (k045, .inl (cI, 60, .inl c045)), (k046, .inl (cI, 40, .inl c046)), (k0, .inr (9, [.ref k00, .ref k01, .ref k02, .ref k03, .ref k04, .ref k05, .int c06, .int c07, .int c08])), (k04, .inr (8, [.ref k040, .ref k041, .ref k042, .ref k043, .ref k044, .ref k045, .ref k046, .ref k047, .ref k048, .int c049])), (k, .inr (10, [.ref k0, .ref k1, .ref k2, .ref k3, .ref k4, .ref k5, .ref k6, .ref k7, .ref k8, .ref k9, .ref ka, .ref kb, .int cc])), (kb, .inl (cI, 6, .inl scb_43))] := hD
    have hr_41 := w_42
    obtain rfl : r_41 = (-1000001) := hr_41.trans (by decide)
    exact hRet (scb_43, c60, c61) [11, 9, 0, 12, 1, 10, 2, 3, 4, 5, 6, 7, 8] (by (try dsimp only); unfold rdsR; (repeat (first | rw [if_pos (by omega)] | rw [if_neg (by omega)]))) hP hD (by decide) rfl hS rfl dX10_reads_14

set_option maxHeartbeats 4000000 in
set_option maxRecDepth 100000 in
theorem c_X0_distanceOfD (l : Launch) (D : va_G) (cI : ClassId) (aK aV : Nat → Nat) (k k0 k1 k2 k3 k4 : Nat) (sz : Nat) (c5 : Int32) (c2 : Nat → Int32) (a0 : Int32) : Met l yX0_distanceOf (gW yX0_distanceOf cX0_distanceOf 2 (some .int)) ({ frames := 0, cells := 0, slots := 0, locals := 0 } : Room) (kPreX D cI aK aV [.ref k, .int a0] [(k, .inr (0, [.ref k0, .ref k1, .ref k2, .ref k3, .ref k4, .int c5])), (k2, .inl (cI, 60, .inl c2))] sz) (va_Qi (fun (r : Int32) (u : Unit) => (0 ≤ a0.toInt ∧ a0.toInt ≤ 59 ∧ r = c2 a0.toNatClampNeg) ∨ (r = 0 ∧ (a0.toInt < 0 ∨ 59 < a0.toInt))) (fun u t => kWd D cI (va_A [(k, .inr (0, [.ref k0, .ref k1, .ref k2, .ref k3, .ref k4, .int c5])), (k2, .inl (cI, 60, .inl c2))] sz) [(k, .inr (0, [.ref k0, .ref k1, .ref k2, .ref k3, .ref k4, .int c5])), (k2, .inl (cI, 60, .inl c2))] t) (va_A [(k, .inr (0, [.ref k0, .ref k1, .ref k2, .ref k3, .ref k4, .int c5])), (k2, .inl (cI, 60, .inl c2))] sz)) 0 0 (va_A [(k, .inr (0, [.ref k0, .ref k1, .ref k2, .ref k3, .ref k4, .int c5])), (k2, .inl (cI, 60, .inl c2))] sz) := by
  refine kMetIX (own := RX0) (by decide) rfl (Nat.le_of_ble_eq_true rfl) ?_
  intro p e s m args below meth c hx hb hT hown hname hml A Q hK hP hD hS hA hN hXS hRet ls hl
  have hl : lv_has ls 2 [(0, .ref k), (1, .int a0)] := hl
  have lo_a0 := k_lo a0
  have hi_a0 := k_hi a0
  refine lv_iload_n hx hb dX0_distanceOf_0 rfl (lv_at hl 1 rfl) ?_
  refine b_if_lt hx hb rfl (tgt := 19) dX0_distanceOf_1 (by decide) (fun c_1 => ?_) (fun c_1 => ?_)
  · refine lv_iconst (v := 0) hx hb dX0_distanceOf_19 (by decide) ?_
    exact hRet () [0, 1] (by first | exact Or.inl ⟨(by omega), (by omega), e0⟩ | exact Or.inr (⟨rfl, (by omega)⟩)) hP hD (by decide) rfl hS rfl dX0_distanceOf_20
  · refine lv_iload_n hx hb dX0_distanceOf_4 rfl (lv_at hl 1 rfl) ?_
    refine lv_bipush (v := 60) hx hb dX0_distanceOf_5 (by decide) ?_
    refine b_icmp_ge hx hb rfl zl_60 (tgt := 19) dX0_distanceOf_7 (by decide) (fun c_2 => ?_) (fun c_2 => ?_)
    · refine lv_iconst (v := 0) hx hb dX0_distanceOf_19 (by decide) ?_
      exact hRet () [0, 1] (by first | exact Or.inl ⟨(by omega), (by omega), e0⟩ | exact Or.inr (⟨rfl, (by omega)⟩)) hP hD (by decide) rfl hS rfl dX0_distanceOf_20
    · refine lv_aload_n hx hb dX0_distanceOf_10 rfl (lv_at hl 0 rfl) ?_
      refine va_get (D := D) (ci := 0) (v := .ref k2) (C := RX0) (T := TX0) (N := 6) hx hb hT giX0 hown hK hP 0 rfl rfl 2 (by decide) (hT (Cond.fieldLink RX0 18 "DesertWire$Hands" "far" "[I") mw_201) (fun _ h9 => h9) rfl dX0_distanceOf_11 ?_
      refine lv_iload_n hx hb dX0_distanceOf_14 rfl (lv_at hl 1 rfl) ?_
      refine k_iald (v := (c2 a0.toNatClampNeg)) hx hb hK hP 1 0 rfl rfl (k_in (by omega) (by omega)) rfl dX0_distanceOf_15 ?_
      refine lv_topi (fun v_3 ev_3 => ?_)
      have lo_v_3 := k_lo v_3
      have hi_v_3 := k_hi v_3
      have tv_3 : v_3.toInt = (c2 a0.toNatClampNeg).toInt := by rw [ev_3]
      refine lv_goto (tgt := 20) hx hb dX0_distanceOf_16 (by decide) ?_
      exact hRet () [0, 1] (by first | exact Or.inl ⟨(by omega), (by omega), ev_3⟩ | exact Or.inr (⟨ev_3, (by omega)⟩)) hP hD (by decide) rfl hS rfl dX0_distanceOf_20

set_option maxHeartbeats 4000000 in
set_option maxRecDepth 100000 in
theorem c_X0_isReadD (l : Launch) (D : va_G) (cI : ClassId) (aK aV : Nat → Nat) (k o k0 k1 k2 k3 k4 o0 o1 o2 o3 o4 o5 o40 o41 o42 o43 o44 o45 o46 o47 o48 : Nat) (sz : Nat) (c5 : Int32) (c0 : Nat → Int32) (c1 : Nat → Int32) (d6 : Int32) (d7 : Int32) (d8 : Int32) (d49 : Int32) (d40 : Nat → Int32) (d41 : Nat → Int32) (d45 : Nat → Int32) (d0 : Nat → Int32) (d1 : Nat → Int32) (d2 : Nat → Int32) (d3 : Nat → Int32) (d42 : Nat → Int32) (d43 : Nat → Int32) (d44 : Nat → Int32) (d46 : Nat → Int32) (d47 : Nat → Int32) (d48 : Nat → Int32) (d50 : Nat → Int32) (d51 : Int32) (gx : Nat → Int32) (a1 : Int32) (a2 : Int32) (pre0 : WR d0 d1 d2 d3 d40 d41 d42 d43 d44 d45 d46 d47 d48 d49 d50 d51 d6 d7 d8 gx) (pre1 : SB gx) (pre2 : NNG gx) (pre3 : SVY gx c0 c1) (pre4 : 0 ≤ a1.toInt) (pre5 : a1.toInt < d49.toInt) (pre6 : (wW gx a1 0).toInt = 3) (pre7 : 0 ≤ a2.toInt) (pre8 : a2.toInt ≤ 59) : Met l yX0_isRead (gW yX0_isRead cX0_isRead 4 (some .boolean)) ({ frames := 3, cells := 0, slots := 0, locals := 69 } : Room) (kPreX D cI aK aV [.ref k, .ref o, .int a1, .int a2] [(k, .inr (0, [.ref k0, .ref k1, .ref k2, .ref k3, .ref k4, .int c5])), (k0, .inl (cI, 41, .inl c0)), (k1, .inl (cI, 41, .inl c1)), (o, .inr (9, [.ref o0, .ref o1, .ref o2, .ref o3, .ref o4, .ref o5, .int d6, .int d7, .int d8])), (o4, .inr (8, [.ref o40, .ref o41, .ref o42, .ref o43, .ref o44, .ref o45, .ref o46, .ref o47, .ref o48, .int d49])), (o40, .inl (cI, 60, .inl d40)), (o41, .inl (cI, 60, .inl d41)), (o45, .inl (cI, 60, .inl d45))] sz) (va_Qi (fun (r : Int32) (u : Unit) => (r = 1 ∧ a2.toInt < d49.toInt ∧ (wW gx a2 0).toInt = 3 ∧ crF gx a1 a2 = 1) ∨ (r = 0 ∧ (crF gx a1 a2 = 0 ∨ (gx 1).toInt ≤ a2.toInt))) (fun u t => kWd D cI (va_A [(k, .inr (0, [.ref k0, .ref k1, .ref k2, .ref k3, .ref k4, .int c5])), (k0, .inl (cI, 41, .inl c0)), (k1, .inl (cI, 41, .inl c1)), (o, .inr (9, [.ref o0, .ref o1, .ref o2, .ref o3, .ref o4, .ref o5, .int d6, .int d7, .int d8])), (o4, .inr (8, [.ref o40, .ref o41, .ref o42, .ref o43, .ref o44, .ref o45, .ref o46, .ref o47, .ref o48, .int d49])), (o40, .inl (cI, 60, .inl d40)), (o41, .inl (cI, 60, .inl d41)), (o45, .inl (cI, 60, .inl d45))] sz) [(k, .inr (0, [.ref k0, .ref k1, .ref k2, .ref k3, .ref k4, .int c5])), (k0, .inl (cI, 41, .inl c0)), (k1, .inl (cI, 41, .inl c1)), (o, .inr (9, [.ref o0, .ref o1, .ref o2, .ref o3, .ref o4, .ref o5, .int d6, .int d7, .int d8])), (o4, .inr (8, [.ref o40, .ref o41, .ref o42, .ref o43, .ref o44, .ref o45, .ref o46, .ref o47, .ref o48, .int d49])), (o40, .inl (cI, 60, .inl d40)), (o41, .inl (cI, 60, .inl d41)), (o45, .inl (cI, 60, .inl d45))] t) (va_A [(k, .inr (0, [.ref k0, .ref k1, .ref k2, .ref k3, .ref k4, .int c5])), (k0, .inl (cI, 41, .inl c0)), (k1, .inl (cI, 41, .inl c1)), (o, .inr (9, [.ref o0, .ref o1, .ref o2, .ref o3, .ref o4, .ref o5, .int d6, .int d7, .int d8])), (o4, .inr (8, [.ref o40, .ref o41, .ref o42, .ref o43, .ref o44, .ref o45, .ref o46, .ref o47, .ref o48, .int d49])), (o40, .inl (cI, 60, .inl d40)), (o41, .inl (cI, 60, .inl d41)), (o45, .inl (cI, 60, .inl d45))] sz)) 0 0 (va_A [(k, .inr (0, [.ref k0, .ref k1, .ref k2, .ref k3, .ref k4, .int c5])), (k0, .inl (cI, 41, .inl c0)), (k1, .inl (cI, 41, .inl c1)), (o, .inr (9, [.ref o0, .ref o1, .ref o2, .ref o3, .ref o4, .ref o5, .int d6, .int d7, .int d8])), (o4, .inr (8, [.ref o40, .ref o41, .ref o42, .ref o43, .ref o44, .ref o45, .ref o46, .ref o47, .ref o48, .int d49])), (o40, .inl (cI, 60, .inl d40)), (o41, .inl (cI, 60, .inl d41)), (o45, .inl (cI, 60, .inl d45))] sz) := by
  refine kMetIX (own := RX0) (by decide) rfl (Nat.le_of_ble_eq_true rfl) ?_
  intro p e s m args below meth c hx hb hT hown hname hml A Q hK hP hD hS hA hN hXS hRet ls hl
  have hl : lv_has ls 4 [(0, .ref k), (1, .ref o), (2, .int a1), (3, .int a2)] := hl
  have lo_a1 := k_lo a1
  have hi_a1 := k_hi a1
  have lo_a2 := k_lo a2
  have hi_a2 := k_hi a2
  have lo_d6 := k_lo d6
  have hi_d6 := k_hi d6
  have lo_d7 := k_lo d7
  have hi_d7 := k_hi d7
  have lo_d8 := k_lo d8
  have hi_d8 := k_hi d8
  have lo_d49 := k_lo d49
  have hi_d49 := k_hi d49
  have lo_d51 := k_lo d51
  have hi_d51 := k_hi d51
  have pre0 : WR d0 d1 d2 d3 d40 d41 d42 d43 d44 d45 d46 d47 d48 d49 d50 d51 d6 d7 d8 gx := pre0
  have b_1 : 0 ≤ d49.toInt ∧ d49.toInt ≤ 60 := WKR.n0 (WR.kw pre0)
  have t_2 : d49.toInt = (gx 1).toInt := WKR.nt (WR.kw pre0)
  have b_3 : 0 ≤ d51.toInt ∧ d51.toInt ≤ 4 := ((WR.kp pre0)).2.1
  have t_4 : d51.toInt = (gx 2).toInt := PTR.nt (WR.kp pre0)
  have t_5 : d8.toInt = (gx 0).toInt := by rw [WR.dd pre0]
  have pre1 : SB gx := pre1
  have pre2 : NNG gx := pre2
  have pre3 : SVY gx c0 c1 := pre3
  refine lv_aload_n hx hb dX0_isRead_0 rfl (lv_at hl 1 rfl) ?_
  refine va_get (D := D) (ci := 9) (v := .ref o4) (C := RX9) (T := TX9) (N := 9) hx hb hT giX9 hown hK hP 3 rfl rfl 4 (by decide) (hT (Cond.fieldLink RX0 43 "DesertWire$World" "works" "LDesertWire$Works;") mw_98) (fun _ h9 => h9) rfl dX0_isRead_1 ?_
  refine lv_iload_n hx hb dX0_isRead_4 rfl (lv_at hl 3 rfl) ?_
  refine kJi (wr := [(k, .inr (0, [.ref k0, .ref k1, .ref k2, .ref k3, .ref k4, .int c5])), (k0, .inl (cI, 41, .inl c0)), (k1, .inl (cI, 41, .inl c1)), (o, .inr (9, [.ref o0, .ref o1, .ref o2, .ref o3, .ref o4, .ref o5, .int d6, .int d7, .int d8])), (o41, .inl (cI, 60, .inl d41)), (o45, .inl (cI, 60, .inl d45))]) (va_runV (As := [.int a2]) (rest := []) ⟨hx, hb, hml, hown, hT⟩ (c_X8_kindOfD l D cI aK aV o4 o40 o41 o42 o43 o44 o45 o46 o47 o48 s.heap.size d49 d40 a2) (cwV 1 hT (gV_in mw_384 mw_801 mw_382 mw_383 mw_3) rfl rfl rfl (by decide +kernel) ⟨Nat.le_of_ble_eq_true rfl, Nat.le_of_ble_eq_true rfl⟩) (kRecvX (q0 := 4) (ci := 8) hK hP hD hN hXS hS hA rfl rfl [4, 5] rfl (by decide)) rfl rfl hl.1 rfl (lv_room (Nat.le_of_ble_eq_true rfl)) dX0_isRead_5 ⟨Nat.le_of_ble_eq_true rfl, Nat.le_of_ble_eq_true rfl⟩) hP hD hS hA [4, 5] [0, 1, 2, 3, 6, 7] rfl rfl (by decide) (by decide) ?_
  clear hP hD hS
  intro r_6 u_8 H locs w_7 hP hD hS
  replace hP : va_P D vwCl [(k, .inr (0, [.ref k0, .ref k1, .ref k2, .ref k3, .ref k4, .int c5])), (k0, .inl (cI, 41, .inl c0)), (k1, .inl (cI, 41, .inl c1)), (o, .inr (9, [.ref o0, .ref o1, .ref o2, .ref o3, .ref o4, .ref o5, .int d6, .int d7, .int d8])), (o41, .inl (cI, 60, .inl d41)), (o45, .inl (cI, 60, .inl d45)), (o4, .inr (8, [.ref o40, .ref o41, .ref o42, .ref o43, .ref o44, .ref o45, .ref o46, .ref o47, .ref o48, .int d49])), (o40, .inl (cI, 60, .inl d40))] H := hP
  replace hD : va_D A [(k, .inr (0, [.ref k0, .ref k1, .ref k2, .ref k3, .ref k4, .int c5])), (k0, .inl (cI, 41, .inl c0)), (k1, .inl (cI, 41, .inl c1)), (o, .inr (9, [.ref o0, .ref o1, .ref o2, .ref o3, .ref o4, .ref o5, .int d6, .int d7, .int d8])), (o41, .inl (cI, 60, .inl d41)), (o45, .inl (cI, 60, .inl d45)), (o4, .inr (8, [.ref o40, .ref o41, .ref o42, .ref o43, .ref o44, .ref o45, .ref o46, .ref o47, .ref o48, .int d49])), (o40, .inl (cI, 60, .inl d40))] := hD
  rcases w_7 with ⟨h_9, h_10, h_11, h_12⟩ | ⟨hr_6, h_13⟩
  · have h_9 : 0 ≤ a2.toInt := h_9
    have h_10 : a2.toInt < d49.toInt := h_10
    have h_11 : a2.toInt ≤ 59 := h_11
    have h_12 : r_6 = d40 a2.toNatClampNeg := h_12
    have h_14 : r_6 = wW gx a2 0 := Eq.trans h_12 (WKR.r0 (WR.kw pre0) (by omega) (by omega))
    have t_15 : r_6.toInt = (wW gx a2 0).toInt := by rw [h_14]
    have b_16 : 0 ≤ r_6.toInt ∧ r_6.toInt ≤ 5 := by rw [h_14]; exact SB.w0 pre1 (by omega) (by omega)
    have lo_r_6 := k_lo r_6
    have hi_r_6 := k_hi r_6
    refine lv_iconst (v := 3) hx hb dX0_isRead_8 (by decide) ?_
    refine b_icmp_ne hx hb rfl zl_3 (tgt := 26) dX0_isRead_9 (by decide) (fun c_17 => ?_) (fun c_17 => ?_)
    · refine lv_iconst (v := 0) hx hb dX0_isRead_26 (by decide) ?_
      exact hRet () [0, 1, 2, 3, 6, 7, 4, 5] (Or.inr (⟨rfl, (by first | exact Or.inr (by omega) | exact Or.inl (crF_n (Or.inr (st_k0 (by omega)))))⟩)) hP hD (by decide) rfl hS rfl dX0_isRead_27
    · refine lv_aload_n hx hb dX0_isRead_12 rfl (lv_at hl 0 rfl) ?_
      refine lv_aload_n hx hb dX0_isRead_13 rfl (lv_at hl 1 rfl) ?_
      refine lv_iload_n hx hb dX0_isRead_14 rfl (lv_at hl 2 rfl) ?_
      refine lv_iload_n hx hb dX0_isRead_15 rfl (lv_at hl 3 rfl) ?_
      refine kJi (wr := [(o40, .inl (cI, 60, .inl d40))]) (va_runV (As := [.ref o, .int a1, .int a2]) (rest := []) ⟨hx, hb, hml, hown, hT⟩ (c_X0_canReadD l D cI aK aV k o k0 k1 k2 k3 k4 o0 o1 o2 o3 o4 o5 o40 o41 o42 o43 o44 o45 o46 o47 o48 H.size c5 c0 c1 d6 d7 d8 d49 d41 d45 d0 d1 d2 d3 d40 d42 d43 d44 d46 d47 d48 d50 d51 gx a1 a2 pre0 pre1 (by first | omega | decide | assumption | rfl) (by first | omega | decide | assumption | rfl) (by first | omega | decide | assumption | rfl) (by first | omega | decide | assumption | rfl) (by first | omega | decide | assumption | rfl) (by first | omega | decide | assumption | rfl) (by first | omega | decide | assumption | rfl) (by first | omega | decide | assumption | rfl)) (cwV 3 hT (gV_in mw_778 mw_802 mw_776 mw_777 mw_7) rfl rfl rfl (by decide +kernel) ⟨Nat.le_of_ble_eq_true rfl, Nat.le_of_ble_eq_true rfl⟩) (kRecvX (q0 := 0) (ci := 0) hK hP hD hN hXS hS hA rfl rfl [0, 1, 2, 3, 6, 4, 5] rfl (by decide)) rfl rfl hl.1 rfl (lv_room (Nat.le_of_ble_eq_true rfl)) dX0_isRead_16 ⟨Nat.le_of_ble_eq_true rfl, Nat.le_of_ble_eq_true rfl⟩) hP hD hS hA [0, 1, 2, 3, 6, 4, 5] [7] rfl rfl (by decide) (by decide) ?_
      clear hP hD hS
      intro r_18 u_20 H locs w_19 hP hD hS
      replace hP : va_P D vwCl [(o40, .inl (cI, 60, .inl d40)), (k, .inr (0, [.ref k0, .ref k1, .ref k2, .ref k3, .ref k4, .int c5])), (k0, .inl (cI, 41, .inl c0)), (k1, .inl (cI, 41, .inl c1)), (o, .inr (9, [.ref o0, .ref o1, .ref o2, .ref o3, .ref o4, .ref o5, .int d6, .int d7, .int d8])), (o4, .inr (8, [.ref o40, .ref o41, .ref o42, .ref o43, .ref o44, .ref o45, .ref o46, .ref o47, .ref o48, .int d49])), (o41, .inl (cI, 60, .inl d41)), (o45, .inl (cI, 60, .inl d45))] H := hP
      replace hD : va_D A [(o40, .inl (cI, 60, .inl d40)), (k, .inr (0, [.ref k0, .ref k1, .ref k2, .ref k3, .ref k4, .int c5])), (k0, .inl (cI, 41, .inl c0)), (k1, .inl (cI, 41, .inl c1)), (o, .inr (9, [.ref o0, .ref o1, .ref o2, .ref o3, .ref o4, .ref o5, .int d6, .int d7, .int d8])), (o4, .inr (8, [.ref o40, .ref o41, .ref o42, .ref o43, .ref o44, .ref o45, .ref o46, .ref o47, .ref o48, .int d49])), (o41, .inl (cI, 60, .inl d41)), (o45, .inl (cI, 60, .inl d45))] := hD
      rcases w_19 with ⟨hr_18, h_21⟩ | ⟨hr_18, h_22⟩
      · have h_21 : crF gx a1 a2 = 1 := h_21
        obtain rfl : r_18 = 1 := hr_18.trans (by decide)
        refine b_if_eq hx hb zl_1 (tgt := 26) dX0_isRead_19 (by decide) (fun c_23 => by exfalso; omega) (fun c_23 => ?_)
        refine lv_iconst (v := 1) hx hb dX0_isRead_22 (by decide) ?_
        refine lv_goto (tgt := 27) hx hb dX0_isRead_23 (by decide) ?_
        exact hRet () [1, 2, 3, 4, 5, 0, 6, 7] (Or.inl ⟨rfl, (by omega), (by omega), h_21⟩) hP hD (by decide) rfl hS rfl dX0_isRead_27
      · have h_22 : crF gx a1 a2 = 0 := h_22
        obtain rfl : r_18 = 0 := hr_18.trans (by decide)
        refine b_if_eq hx hb zl_0 (tgt := 26) dX0_isRead_19 (by decide) (fun c_24 => ?_) (fun c_24 => by exfalso; omega)
        refine lv_iconst (v := 0) hx hb dX0_isRead_26 (by decide) ?_
        exact hRet () [1, 2, 3, 4, 5, 0, 6, 7] (Or.inr (⟨rfl, (Or.inl h_22)⟩)) hP hD (by decide) rfl hS rfl dX0_isRead_27
  · have h_13 : a2.toInt < 0 ∨ d49.toInt ≤ a2.toInt ∨ 60 ≤ a2.toInt := h_13
    obtain rfl : r_6 = 0 := hr_6.trans (by decide)
    refine lv_iconst (v := 3) hx hb dX0_isRead_8 (by decide) ?_
    refine b_icmp_ne hx hb zl_0 zl_3 (tgt := 26) dX0_isRead_9 (by decide) (fun c_25 => ?_) (fun c_25 => by exfalso; omega)
    refine lv_iconst (v := 0) hx hb dX0_isRead_26 (by decide) ?_
    exact hRet () [0, 1, 2, 3, 6, 7, 4, 5] (Or.inr (⟨rfl, (by first | exact Or.inr (by omega) | exact Or.inl (crF_n (Or.inr (st_k0 (by omega)))))⟩)) hP hD (by decide) rfl hS rfl dX0_isRead_27

set_option maxHeartbeats 4000000 in
set_option maxRecDepth 100000 in
theorem c_X0_nextHandD (l : Launch) (D : va_G) (cI : ClassId) (aK aV : Nat → Nat) (k o k0 k1 k2 k3 k4 o0 o1 o2 o3 o4 o5 o40 o41 o42 o43 o44 o45 o46 o47 o48 : Nat) (sz : Nat) (c5 : Int32) (c0 : Nat → Int32) (c1 : Nat → Int32) (c2 : Nat → Int32) (d6 : Int32) (d7 : Int32) (d8 : Int32) (d49 : Int32) (d40 : Nat → Int32) (d41 : Nat → Int32) (d45 : Nat → Int32) (d0 : Nat → Int32) (d1 : Nat → Int32) (d2 : Nat → Int32) (d3 : Nat → Int32) (d42 : Nat → Int32) (d43 : Nat → Int32) (d44 : Nat → Int32) (d46 : Nat → Int32) (d47 : Nat → Int32) (d48 : Nat → Int32) (d50 : Nat → Int32) (d51 : Int32) (gx : Nat → Int32) (a1 : Int32) (a2 : Int32) (pre0 : WR d0 d1 d2 d3 d40 d41 d42 d43 d44 d45 d46 d47 d48 d49 d50 d51 d6 d7 d8 gx) (pre1 : SB gx) (pre2 : NNG gx) (pre3 : SVY gx c0 c1) (pre4 : 0 ≤ a1.toInt) (pre5 : a1.toInt < d49.toInt) (pre6 : (wW gx a1 0).toInt = 3) (pre7 : NXE gx (gD c2) a1) (pre8 : (c2 a1.toNatClampNeg).toInt = a2.toInt + 1) : Met l yX0_nextHand (gW yX0_nextHand cX0_nextHand 5 (some .int)) ({ frames := 4, cells := 0, slots := 0, locals := 92 } : Room) (kPreX D cI aK aV [.ref k, .ref o, .int a1, .int a2] [(k, .inr (0, [.ref k0, .ref k1, .ref k2, .ref k3, .ref k4, .int c5])), (k0, .inl (cI, 41, .inl c0)), (k1, .inl (cI, 41, .inl c1)), (k2, .inl (cI, 60, .inl c2)), (o, .inr (9, [.ref o0, .ref o1, .ref o2, .ref o3, .ref o4, .ref o5, .int d6, .int d7, .int d8])), (o4, .inr (8, [.ref o40, .ref o41, .ref o42, .ref o43, .ref o44, .ref o45, .ref o46, .ref o47, .ref o48, .int d49])), (o40, .inl (cI, 60, .inl d40)), (o41, .inl (cI, 60, .inl d41)), (o45, .inl (cI, 60, .inl d45))] sz) (va_Qi (fun (r : Int32) (u : Unit) => NXT gx (gD c2) a1 r) (fun u t => kWd D cI (va_A [(k, .inr (0, [.ref k0, .ref k1, .ref k2, .ref k3, .ref k4, .int c5])), (k0, .inl (cI, 41, .inl c0)), (k1, .inl (cI, 41, .inl c1)), (k2, .inl (cI, 60, .inl c2)), (o, .inr (9, [.ref o0, .ref o1, .ref o2, .ref o3, .ref o4, .ref o5, .int d6, .int d7, .int d8])), (o4, .inr (8, [.ref o40, .ref o41, .ref o42, .ref o43, .ref o44, .ref o45, .ref o46, .ref o47, .ref o48, .int d49])), (o40, .inl (cI, 60, .inl d40)), (o41, .inl (cI, 60, .inl d41)), (o45, .inl (cI, 60, .inl d45))] sz) [(k, .inr (0, [.ref k0, .ref k1, .ref k2, .ref k3, .ref k4, .int c5])), (k0, .inl (cI, 41, .inl c0)), (k1, .inl (cI, 41, .inl c1)), (k2, .inl (cI, 60, .inl c2)), (o, .inr (9, [.ref o0, .ref o1, .ref o2, .ref o3, .ref o4, .ref o5, .int d6, .int d7, .int d8])), (o4, .inr (8, [.ref o40, .ref o41, .ref o42, .ref o43, .ref o44, .ref o45, .ref o46, .ref o47, .ref o48, .int d49])), (o40, .inl (cI, 60, .inl d40)), (o41, .inl (cI, 60, .inl d41)), (o45, .inl (cI, 60, .inl d45))] t) (va_A [(k, .inr (0, [.ref k0, .ref k1, .ref k2, .ref k3, .ref k4, .int c5])), (k0, .inl (cI, 41, .inl c0)), (k1, .inl (cI, 41, .inl c1)), (k2, .inl (cI, 60, .inl c2)), (o, .inr (9, [.ref o0, .ref o1, .ref o2, .ref o3, .ref o4, .ref o5, .int d6, .int d7, .int d8])), (o4, .inr (8, [.ref o40, .ref o41, .ref o42, .ref o43, .ref o44, .ref o45, .ref o46, .ref o47, .ref o48, .int d49])), (o40, .inl (cI, 60, .inl d40)), (o41, .inl (cI, 60, .inl d41)), (o45, .inl (cI, 60, .inl d45))] sz)) 0 0 (va_A [(k, .inr (0, [.ref k0, .ref k1, .ref k2, .ref k3, .ref k4, .int c5])), (k0, .inl (cI, 41, .inl c0)), (k1, .inl (cI, 41, .inl c1)), (k2, .inl (cI, 60, .inl c2)), (o, .inr (9, [.ref o0, .ref o1, .ref o2, .ref o3, .ref o4, .ref o5, .int d6, .int d7, .int d8])), (o4, .inr (8, [.ref o40, .ref o41, .ref o42, .ref o43, .ref o44, .ref o45, .ref o46, .ref o47, .ref o48, .int d49])), (o40, .inl (cI, 60, .inl d40)), (o41, .inl (cI, 60, .inl d41)), (o45, .inl (cI, 60, .inl d45))] sz) := by
  refine kMetIX (own := RX0) (by decide) rfl (Nat.le_of_ble_eq_true rfl) ?_
  intro p e s m args below meth c hx hb hT hown hname hml A Q hK hP hD hS hA hN hXS hRet ls hl
  have hl : lv_has ls 5 [(0, .ref k), (1, .ref o), (2, .int a1), (3, .int a2)] := hl
  have lo_a1 := k_lo a1
  have hi_a1 := k_hi a1
  have lo_a2 := k_lo a2
  have hi_a2 := k_hi a2
  have lo_d6 := k_lo d6
  have hi_d6 := k_hi d6
  have lo_d7 := k_lo d7
  have hi_d7 := k_hi d7
  have lo_d8 := k_lo d8
  have hi_d8 := k_hi d8
  have lo_d49 := k_lo d49
  have hi_d49 := k_hi d49
  have lo_d51 := k_lo d51
  have hi_d51 := k_hi d51
  have pre0 : WR d0 d1 d2 d3 d40 d41 d42 d43 d44 d45 d46 d47 d48 d49 d50 d51 d6 d7 d8 gx := pre0
  have b_1 : 0 ≤ d49.toInt ∧ d49.toInt ≤ 60 := WKR.n0 (WR.kw pre0)
  have t_2 : d49.toInt = (gx 1).toInt := WKR.nt (WR.kw pre0)
  have b_3 : 0 ≤ d51.toInt ∧ d51.toInt ≤ 4 := ((WR.kp pre0)).2.1
  have t_4 : d51.toInt = (gx 2).toInt := PTR.nt (WR.kp pre0)
  have t_5 : d8.toInt = (gx 0).toInt := by rw [WR.dd pre0]
  have pre1 : SB gx := pre1
  have pre2 : NNG gx := pre2
  have pre3 : SVY gx c0 c1 := pre3
  have pre7 : NXE gx (gD c2) a1 := pre7
  refine lv_iconst (v := 0) hx hb dX0_nextHand_0 (by decide) ?_
  refine lv_istore (lv' := [(4, .int 0), (0, .ref k), (1, .ref o), (2, .int a1), (3, .int a2)]) hx hb dX0_nextHand_1 hl (by decide) rfl ?_
  clear hl
  intro ls hl
  have hloop_3 : ∀ (fu_ : Nat) (l3_4 : Int32), 0 ≤ l3_4.toInt → 0 ≤ l3_4.toInt → l3_4.toInt ≤ 60 → NLT gx (gD c2) a1 l3_4.toInt → (60 - l3_4.toInt).toNat < fu_ → ∀ (ls : Array Slot) (H : Heap) (locs : List Loc), lv_has ls 5 [(4, .int l3_4), (0, .ref k), (1, .ref o), (2, .int a1), (3, .int a2)] → va_P D vwCl [(k, .inr (0, [.ref k0, .ref k1, .ref k2, .ref k3, .ref k4, .int c5])), (k0, .inl (cI, 41, .inl c0)), (k1, .inl (cI, 41, .inl c1)), (k2, .inl (cI, 60, .inl c2)), (o, .inr (9, [.ref o0, .ref o1, .ref o2, .ref o3, .ref o4, .ref o5, .int d6, .int d7, .int d8])), (o4, .inr (8, [.ref o40, .ref o41, .ref o42, .ref o43, .ref o44, .ref o45, .ref o46, .ref o47, .ref o48, .int d49])), (o40, .inl (cI, 60, .inl d40)), (o41, .inl (cI, 60, .inl d41)), (o45, .inl (cI, 60, .inl d45))] H → va_D A [(k, .inr (0, [.ref k0, .ref k1, .ref k2, .ref k3, .ref k4, .int c5])), (k0, .inl (cI, 41, .inl c0)), (k1, .inl (cI, 41, .inl c1)), (k2, .inl (cI, 60, .inl c2)), (o, .inr (9, [.ref o0, .ref o1, .ref o2, .ref o3, .ref o4, .ref o5, .int d6, .int d7, .int d8])), (o4, .inr (8, [.ref o40, .ref o41, .ref o42, .ref o43, .ref o44, .ref o45, .ref o46, .ref o47, .ref o48, .int d49])), (o40, .inl (cI, 60, .inl d40)), (o41, .inl (cI, 60, .inl d41)), (o45, .inl (cI, 60, .inl d45))] → va_S A s.heap H locs → W p l e ({ frames := 4, cells := 0, slots := 0, locals := 92 } : Room) s m args below meth c H locs 0 0 Q (F0 m 3 ls []) := by
    intro fu_; induction fu_ with
    | zero => intro l3_4 i3_0 i3_1 i3_2 i3_3 hm; exact absurd hm (by omega)
    | succ fu_ ih3 =>
        intro l3_4 i3_0 i3_1 i3_2 i3_3 hm ls H locs hl hP hD hS
        have lo_l3_4 := k_lo l3_4
        have hi_l3_4 := k_hi l3_4
        have i3_3 : NLT gx (gD c2) a1 l3_4.toInt := i3_3
        refine lv_iload hx hb dX0_nextHand_3 (lv_at hl 0 rfl) ?_
        refine lv_bipush (v := 60) hx hb dX0_nextHand_5 (by decide) ?_
        refine b_icmp_ge hx hb rfl zl_60 (tgt := 41) dX0_nextHand_7 (by decide) (fun c_6 => ?_) (fun c_6 => ?_)
        · refine lv_iload_n hx hb dX0_nextHand_41 rfl (lv_at hl 3 rfl) ?_
          exact hRet () [0, 1, 2, 3, 4, 5, 6, 7, 8] (False.elim (NLT.bad i3_3 pre7 (by omega))) hP hD (by decide) rfl hS rfl dX0_nextHand_42
        · refine lv_aload_n hx hb dX0_nextHand_10 rfl (lv_at hl 1 rfl) ?_
          refine va_get (D := D) (ci := 0) (v := .ref k2) (C := RX0) (T := TX0) (N := 6) hx hb hT giX0 hown hK hP 0 rfl rfl 2 (by decide) (hT (Cond.fieldLink RX0 18 "DesertWire$Hands" "far" "[I") mw_201) (fun _ h9 => h9) rfl dX0_nextHand_11 ?_
          refine lv_iload hx hb dX0_nextHand_14 (lv_at hl 0 rfl) ?_
          refine k_iald (v := (c2 l3_4.toNatClampNeg)) hx hb hK hP 3 0 rfl rfl (k_in (by omega) (by omega)) rfl dX0_nextHand_16 ?_
          refine lv_topi (fun v_7 ev_7 => ?_)
          have lo_v_7 := k_lo v_7
          have hi_v_7 := k_hi v_7
          have tv_7 : v_7.toInt = (c2 l3_4.toNatClampNeg).toInt := by rw [ev_7]
          refine lv_iload_n hx hb dX0_nextHand_17 rfl (lv_at hl 4 rfl) ?_
          refine b_icmp_ne hx hb rfl rfl (tgt := 35) dX0_nextHand_18 (by decide) (fun c_8 => ?_) (fun c_8 => ?_)
          · obtain ⟨v_9, ev_9⟩ : ∃ y : Int32, y = l3_4 + 1 := ⟨_, rfl⟩
            have tv_9 : v_9.toInt = l3_4.toInt + 1 := by rw [ev_9]; exact k_addv rfl zl_1 (by omega) (by omega)
            refine lv_iinc (v := v_9) (lv' := [(4, .int v_9), (0, .ref k), (1, .ref o), (2, .int a1), (3, .int a2)]) hx hb dX0_nextHand_35 hl (k := 0) rfl (by rw [ev_9]; rfl) (by decide) rfl ?_
            clear hl
            intro ls hl
            refine lv_goto (tgt := 3) hx hb dX0_nextHand_38 (by decide) ?_
            exact ih3 v_9 (by first | omega | decide | assumption | rfl) (by first | omega | decide | assumption | rfl) (by first | omega | decide | assumption | rfl) (NLT.s (x := l3_4) i3_3 rfl (by omega) (Or.inl (gD_ne (by omega)))) (by omega) ls _ _ (lv_sub hl [0, 1, 2, 3, 4] rfl) (hP.sub [0, 1, 2, 3, 4, 5, 6, 7, 8] rfl) (hD.sub [0, 1, 2, 3, 4, 5, 6, 7, 8] (by decide) rfl) hS
          · refine lv_aload_n hx hb dX0_nextHand_21 rfl (lv_at hl 1 rfl) ?_
            refine lv_aload_n hx hb dX0_nextHand_22 rfl (lv_at hl 2 rfl) ?_
            refine lv_iload_n hx hb dX0_nextHand_23 rfl (lv_at hl 3 rfl) ?_
            refine lv_iload hx hb dX0_nextHand_24 (lv_at hl 0 rfl) ?_
            refine kJi (wr := [(k2, .inl (cI, 60, .inl c2))]) (va_runV (As := [.ref o, .int a1, .int l3_4]) (rest := []) ⟨hx, hb, hml, hown, hT⟩ (c_X0_isReadD l D cI aK aV k o k0 k1 k2 k3 k4 o0 o1 o2 o3 o4 o5 o40 o41 o42 o43 o44 o45 o46 o47 o48 H.size c5 c0 c1 d6 d7 d8 d49 d40 d41 d45 d0 d1 d2 d3 d42 d43 d44 d46 d47 d48 d50 d51 gx a1 l3_4 pre0 pre1 (by first | omega | decide | assumption | rfl) (by first | omega | decide | assumption | rfl) (by first | omega | decide | assumption | rfl) (by first | omega | decide | assumption | rfl) (by first | omega | decide | assumption | rfl) (by first | omega | decide | assumption | rfl) (by first | omega | decide | assumption | rfl)) (cwV 3 hT (gV_in mw_800 mw_797 mw_799 mw_p2_4 mw_7) rfl rfl rfl (by decide +kernel) ⟨Nat.le_of_ble_eq_true rfl, Nat.le_of_ble_eq_true rfl⟩) (kRecvX (q0 := 0) (ci := 0) hK hP hD hN hXS hS hA rfl rfl [0, 1, 2, 4, 5, 6, 7, 8] rfl (by decide)) rfl rfl hl.1 rfl (lv_room (Nat.le_of_ble_eq_true rfl)) dX0_nextHand_26 ⟨Nat.le_of_ble_eq_true rfl, Nat.le_of_ble_eq_true rfl⟩) hP hD hS hA [0, 1, 2, 4, 5, 6, 7, 8] [3] rfl rfl (by decide) (by decide) ?_
            clear hP hD hS
            intro r_10 u_12 H locs w_11 hP hD hS
            replace hP : va_P D vwCl [(k2, .inl (cI, 60, .inl c2)), (k, .inr (0, [.ref k0, .ref k1, .ref k2, .ref k3, .ref k4, .int c5])), (k0, .inl (cI, 41, .inl c0)), (k1, .inl (cI, 41, .inl c1)), (o, .inr (9, [.ref o0, .ref o1, .ref o2, .ref o3, .ref o4, .ref o5, .int d6, .int d7, .int d8])), (o4, .inr (8, [.ref o40, .ref o41, .ref o42, .ref o43, .ref o44, .ref o45, .ref o46, .ref o47, .ref o48, .int d49])), (o40, .inl (cI, 60, .inl d40)), (o41, .inl (cI, 60, .inl d41)), (o45, .inl (cI, 60, .inl d45))] H := hP
            replace hD : va_D A [(k2, .inl (cI, 60, .inl c2)), (k, .inr (0, [.ref k0, .ref k1, .ref k2, .ref k3, .ref k4, .int c5])), (k0, .inl (cI, 41, .inl c0)), (k1, .inl (cI, 41, .inl c1)), (o, .inr (9, [.ref o0, .ref o1, .ref o2, .ref o3, .ref o4, .ref o5, .int d6, .int d7, .int d8])), (o4, .inr (8, [.ref o40, .ref o41, .ref o42, .ref o43, .ref o44, .ref o45, .ref o46, .ref o47, .ref o48, .int d49])), (o40, .inl (cI, 60, .inl d40)), (o41, .inl (cI, 60, .inl d41)), (o45, .inl (cI, 60, .inl d45))] := hD
            rcases w_11 with ⟨hr_10, h_13, h_14, h_15⟩ | ⟨hr_10, h_16⟩
            · have h_13 : l3_4.toInt < d49.toInt := h_13
              have h_14 : (wW gx l3_4 0).toInt = 3 := h_14
              have h_15 : crF gx a1 l3_4 = 1 := h_15
              obtain rfl : r_10 = 1 := hr_10.trans (by decide)
              refine b_if_eq hx hb zl_1 (tgt := 35) dX0_nextHand_29 (by decide) (fun c_17 => by exfalso; omega) (fun c_17 => ?_)
              refine lv_iload hx hb dX0_nextHand_32 (lv_at hl 0 rfl) ?_
              exact hRet () [1, 2, 3, 0, 4, 5, 6, 7, 8] (NLT.nxt i3_3 ⟨by omega, by omega⟩ (gD_s (by omega)) h_15) hP hD (by decide) rfl hS rfl dX0_nextHand_34
            · have h_16 : crF gx a1 l3_4 = 0 ∨ (gx 1).toInt ≤ l3_4.toInt := h_16
              have h_16 : crF gx a1 l3_4 = 0 ∨ (gx 1).toInt ≤ l3_4.toInt := h_16
              obtain rfl : r_10 = 0 := hr_10.trans (by decide)
              refine b_if_eq hx hb zl_0 (tgt := 35) dX0_nextHand_29 (by decide) (fun c_18 => ?_) (fun c_18 => by exfalso; omega)
              obtain ⟨v_19, ev_19⟩ : ∃ y : Int32, y = l3_4 + 1 := ⟨_, rfl⟩
              have tv_19 : v_19.toInt = l3_4.toInt + 1 := by rw [ev_19]; exact k_addv rfl zl_1 (by omega) (by omega)
              refine lv_iinc (v := v_19) (lv' := [(4, .int v_19), (0, .ref k), (1, .ref o), (2, .int a1), (3, .int a2)]) hx hb dX0_nextHand_35 hl (k := 0) rfl (by rw [ev_19]; rfl) (by decide) rfl ?_
              clear hl
              intro ls hl
              refine lv_goto (tgt := 3) hx hb dX0_nextHand_38 (by decide) ?_
              exact ih3 v_19 (by first | omega | decide | assumption | rfl) (by first | omega | decide | assumption | rfl) (by first | omega | decide | assumption | rfl) (NLT.s (x := l3_4) i3_3 rfl (by omega) (Or.inr h_16)) (by omega) ls _ _ (lv_sub hl [0, 1, 2, 3, 4] rfl) (hP.sub [1, 2, 3, 0, 4, 5, 6, 7, 8] rfl) (hD.sub [1, 2, 3, 0, 4, 5, 6, 7, 8] (by decide) rfl) hS
  exact hloop_3 _ 0 (by first | omega | (simp only [zl_0]; first | done | omega) | decide | assumption | rfl) (by first | omega | (simp only [zl_0]; first | done | omega) | decide | assumption | rfl) (by first | omega | (simp only [zl_0]; first | done | omega) | decide | assumption | rfl) (NLT.z (by have := zl_0; omega)) (Nat.lt_succ_self _) ls _ _ (lv_sub hl [0, 1, 2, 3, 4] rfl) hP hD hS
