
set_option maxHeartbeats 4000000 in
set_option maxRecDepth 100000 in
theorem c_X0_measureD (l : Launch) (D : va_G) (cI : ClassId) (aK aV : Nat → Nat) (k o k0 k1 k2 k3 k4 o0 o1 o2 o3 o4 o5 o40 o41 o42 o43 o44 o45 o46 o47 o48 : Nat) (sz : Nat) (c5 : Int32) (c0 : Nat → Int32) (c1 : Nat → Int32) (c2 : Nat → Int32) (c3 : Nat → Int32) (d6 : Int32) (d7 : Int32) (d8 : Int32) (d49 : Int32) (d40 : Nat → Int32) (d41 : Nat → Int32) (d45 : Nat → Int32) (d0 : Nat → Int32) (d1 : Nat → Int32) (d2 : Nat → Int32) (d3 : Nat → Int32) (d42 : Nat → Int32) (d43 : Nat → Int32) (d44 : Nat → Int32) (d46 : Nat → Int32) (d47 : Nat → Int32) (d48 : Nat → Int32) (d50 : Nat → Int32) (d51 : Int32) (gx : Nat → Int32) (a1 : Int32) (pre0 : WR d0 d1 d2 d3 d40 d41 d42 d43 d44 d45 d46 d47 d48 d49 d50 d51 d6 d7 d8 gx) (pre1 : SB gx) (pre2 : NNG gx) (pre3 : SVY gx c0 c1) (pre4 : 0 ≤ a1.toInt) (pre5 : a1.toInt < d49.toInt) (pre6 : (wW gx a1 0).toInt = 3) : Met l yX0_measure (gW yX0_measure cX0_measure 7 none) ({ frames := 4, cells := 0, slots := 0, locals := 92 } : Room) (kPreX D cI aK aV [.ref k, .ref o, .int a1] [(k, .inr (0, [.ref k0, .ref k1, .ref k2, .ref k3, .ref k4, .int c5])), (k0, .inl (cI, 41, .inl c0)), (k1, .inl (cI, 41, .inl c1)), (k2, .inl (cI, 60, .inl c2)), (k3, .inl (cI, 60, .inl c3)), (o, .inr (9, [.ref o0, .ref o1, .ref o2, .ref o3, .ref o4, .ref o5, .int d6, .int d7, .int d8])), (o4, .inr (8, [.ref o40, .ref o41, .ref o42, .ref o43, .ref o44, .ref o45, .ref o46, .ref o47, .ref o48, .int d49])), (o40, .inl (cI, 60, .inl d40)), (o41, .inl (cI, 60, .inl d41)), (o45, .inl (cI, 60, .inl d45))] sz) (va_Qv (fun (u : (Nat → Int32) × (Nat → Int32)) => FAR gx a1 u.1) (fun u t => kWd D cI (va_A [(k, .inr (0, [.ref k0, .ref k1, .ref k2, .ref k3, .ref k4, .int c5])), (k0, .inl (cI, 41, .inl c0)), (k1, .inl (cI, 41, .inl c1)), (k2, .inl (cI, 60, .inl c2)), (k3, .inl (cI, 60, .inl c3)), (o, .inr (9, [.ref o0, .ref o1, .ref o2, .ref o3, .ref o4, .ref o5, .int d6, .int d7, .int d8])), (o4, .inr (8, [.ref o40, .ref o41, .ref o42, .ref o43, .ref o44, .ref o45, .ref o46, .ref o47, .ref o48, .int d49])), (o40, .inl (cI, 60, .inl d40)), (o41, .inl (cI, 60, .inl d41)), (o45, .inl (cI, 60, .inl d45))] sz) [(k, .inr (0, [.ref k0, .ref k1, .ref k2, .ref k3, .ref k4, .int c5])), (k0, .inl (cI, 41, .inl c0)), (k1, .inl (cI, 41, .inl c1)), (k2, .inl (cI, 60, .inl u.1)), (k3, .inl (cI, 60, .inl u.2)), (o, .inr (9, [.ref o0, .ref o1, .ref o2, .ref o3, .ref o4, .ref o5, .int d6, .int d7, .int d8])), (o4, .inr (8, [.ref o40, .ref o41, .ref o42, .ref o43, .ref o44, .ref o45, .ref o46, .ref o47, .ref o48, .int d49])), (o40, .inl (cI, 60, .inl d40)), (o41, .inl (cI, 60, .inl d41)), (o45, .inl (cI, 60, .inl d45))] t) (va_A [(k, .inr (0, [.ref k0, .ref k1, .ref k2, .ref k3, .ref k4, .int c5])), (k0, .inl (cI, 41, .inl c0)), (k1, .inl (cI, 41, .inl c1)), (k2, .inl (cI, 60, .inl c2)), (k3, .inl (cI, 60, .inl c3)), (o, .inr (9, [.ref o0, .ref o1, .ref o2, .ref o3, .ref o4, .ref o5, .int d6, .int d7, .int d8])), (o4, .inr (8, [.ref o40, .ref o41, .ref o42, .ref o43, .ref o44, .ref o45, .ref o46, .ref o47, .ref o48, .int d49])), (o40, .inl (cI, 60, .inl d40)), (o41, .inl (cI, 60, .inl d41)), (o45, .inl (cI, 60, .inl d45))] sz)) 0 0 (va_A [(k, .inr (0, [.ref k0, .ref k1, .ref k2, .ref k3, .ref k4, .int c5])), (k0, .inl (cI, 41, .inl c0)), (k1, .inl (cI, 41, .inl c1)), (k2, .inl (cI, 60, .inl c2)), (k3, .inl (cI, 60, .inl c3)), (o, .inr (9, [.ref o0, .ref o1, .ref o2, .ref o3, .ref o4, .ref o5, .int d6, .int d7, .int d8])), (o4, .inr (8, [.ref o40, .ref o41, .ref o42, .ref o43, .ref o44, .ref o45, .ref o46, .ref o47, .ref o48, .int d49])), (o40, .inl (cI, 60, .inl d40)), (o41, .inl (cI, 60, .inl d41)), (o45, .inl (cI, 60, .inl d45))] sz) := by
  refine kMetVX (own := RX0) (by decide) rfl (Nat.le_of_ble_eq_true rfl) ?_
  intro p e s m args below meth c hx hb hT hown hname hml A Q hK hP hD hS hA hN hXS hRet ls hl
  have hl : lv_has ls 7 [(0, .ref k), (1, .ref o), (2, .int a1)] := hl
  have lo_a1 := k_lo a1
  have hi_a1 := k_hi a1
  have lo_d6 := k_lo d6
  have hi_d6 := k_hi d6
  have lo_d7 := k_lo d7
  have hi_d7 := k_hi d7
  have lo_d8 := k_lo d8
  have hi_d8 := k_hi d8
  have lo_d49 := k_lo d49
  have hi_d49 := k_hi d49
  have lo_d51 := k_lo d51
  have hi_d51 := k_hi d51
  have pre0 : WR d0 d1 d2 d3 d40 d41 d42 d43 d44 d45 d46 d47 d48 d49 d50 d51 d6 d7 d8 gx := pre0
  have b_1 : 0 ≤ d49.toInt ∧ d49.toInt ≤ 60 := WKR.n0 (WR.kw pre0)
  have t_2 : d49.toInt = (gx 1).toInt := WKR.nt (WR.kw pre0)
  have b_3 : 0 ≤ d51.toInt ∧ d51.toInt ≤ 4 := ((WR.kp pre0)).2.1
  have t_4 : d51.toInt = (gx 2).toInt := PTR.nt (WR.kp pre0)
  have t_5 : d8.toInt = (gx 0).toInt := by rw [WR.dd pre0]
  have pre1 : SB gx := pre1
  have pre2 : NNG gx := pre2
  have pre3 : SVY gx c0 c1 := pre3
  refine lv_iconst (v := 0) hx hb dX0_measure_0 (by decide) ?_
  refine lv_istore_n (lv' := [(3, .int 0), (0, .ref k), (1, .ref o), (2, .int a1)]) hx hb dX0_measure_1 rfl hl (by decide) rfl ?_
  clear hl
  intro ls hl
  have hloop_2 : ∀ (fu_ : Nat) (l2_3 : Int32) (g2_k2 : Nat → Int32), 0 ≤ l2_3.toInt → 0 ≤ l2_3.toInt → l2_3.toInt ≤ 60 → ZRL g2_k2 l2_3.toInt → (60 - l2_3.toInt).toNat < fu_ → ∀ (ls : Array Slot) (H : Heap) (locs : List Loc), lv_has ls 7 [(3, .int l2_3), (0, .ref k), (1, .ref o), (2, .int a1)] → va_P D vwCl [(k, .inr (0, [.ref k0, .ref k1, .ref k2, .ref k3, .ref k4, .int c5])), (k0, .inl (cI, 41, .inl c0)), (k1, .inl (cI, 41, .inl c1)), (k2, .inl (cI, 60, .inl g2_k2)), (k3, .inl (cI, 60, .inl c3)), (o, .inr (9, [.ref o0, .ref o1, .ref o2, .ref o3, .ref o4, .ref o5, .int d6, .int d7, .int d8])), (o4, .inr (8, [.ref o40, .ref o41, .ref o42, .ref o43, .ref o44, .ref o45, .ref o46, .ref o47, .ref o48, .int d49])), (o40, .inl (cI, 60, .inl d40)), (o41, .inl (cI, 60, .inl d41)), (o45, .inl (cI, 60, .inl d45))] H → va_D A [(k, .inr (0, [.ref k0, .ref k1, .ref k2, .ref k3, .ref k4, .int c5])), (k0, .inl (cI, 41, .inl c0)), (k1, .inl (cI, 41, .inl c1)), (k2, .inl (cI, 60, .inl g2_k2)), (k3, .inl (cI, 60, .inl c3)), (o, .inr (9, [.ref o0, .ref o1, .ref o2, .ref o3, .ref o4, .ref o5, .int d6, .int d7, .int d8])), (o4, .inr (8, [.ref o40, .ref o41, .ref o42, .ref o43, .ref o44, .ref o45, .ref o46, .ref o47, .ref o48, .int d49])), (o40, .inl (cI, 60, .inl d40)), (o41, .inl (cI, 60, .inl d41)), (o45, .inl (cI, 60, .inl d45))] → va_S A s.heap H locs → W p l e ({ frames := 4, cells := 0, slots := 0, locals := 92 } : Room) s m args below meth c H locs 0 0 Q (F0 m 2 ls []) := by
    intro fu_; induction fu_ with
    | zero => intro l2_3 g2_k2 i2_0 i2_1 i2_2 i2_3 hm; exact absurd hm (by omega)
    | succ fu_ ih2 =>
        intro l2_3 g2_k2 i2_0 i2_1 i2_2 i2_3 hm ls H locs hl hP hD hS
        have lo_l2_3 := k_lo l2_3
        have hi_l2_3 := k_hi l2_3
        have i2_3 : ZRL g2_k2 l2_3.toInt := i2_3
        refine lv_iload_n hx hb dX0_measure_2 rfl (lv_at hl 0 rfl) ?_
        refine lv_bipush (v := 60) hx hb dX0_measure_3 (by decide) ?_
        refine b_icmp_ge hx hb rfl zl_60 (tgt := 21) dX0_measure_5 (by decide) (fun c_6 => ?_) (fun c_6 => ?_)
        · refine lv_aload_n hx hb dX0_measure_21 rfl (lv_at hl 2 rfl) ?_
          refine va_get (D := D) (ci := 9) (v := .ref o4) (C := RX9) (T := TX9) (N := 9) hx hb hT giX9 hown hK hP 5 rfl rfl 4 (by decide) (hT (Cond.fieldLink RX0 43 "DesertWire$World" "works" "LDesertWire$Works;") mw_98) (fun _ h9 => h9) rfl dX0_measure_22 ?_
          refine lv_iload_n hx hb dX0_measure_25 rfl (lv_at hl 3 rfl) ?_
          refine kJi (wr := [(k, .inr (0, [.ref k0, .ref k1, .ref k2, .ref k3, .ref k4, .int c5])), (k0, .inl (cI, 41, .inl c0)), (k1, .inl (cI, 41, .inl c1)), (k2, .inl (cI, 60, .inl g2_k2)), (k3, .inl (cI, 60, .inl c3)), (o, .inr (9, [.ref o0, .ref o1, .ref o2, .ref o3, .ref o4, .ref o5, .int d6, .int d7, .int d8])), (o40, .inl (cI, 60, .inl d40)), (o41, .inl (cI, 60, .inl d41)), (o45, .inl (cI, 60, .inl d45))]) (va_runV (As := [.int a1]) (rest := []) ⟨hx, hb, hml, hown, hT⟩ (c_X8_hasG l D cI aK aV o4 o40 o41 o42 o43 o44 o45 o46 o47 o48 H.size d49 a1) (cwV 1 hT (gV_in mw_371 mw_796 mw_369 mw_370 mw_3) rfl rfl rfl (by decide +kernel) ⟨Nat.le_of_ble_eq_true rfl, Nat.le_of_ble_eq_true rfl⟩) (kRecvX (q0 := 6) (ci := 8) hK hP hD hN hXS hS hA rfl rfl [6] rfl (by decide)) rfl rfl hl.1 rfl (lv_room (Nat.le_of_ble_eq_true rfl)) dX0_measure_26 ⟨Nat.le_of_ble_eq_true rfl, Nat.le_of_ble_eq_true rfl⟩) hP hD hS hA [6] [0, 1, 2, 3, 4, 5, 7, 8, 9] rfl rfl (by decide) (by decide) ?_
          clear hP hD hS
          intro r_7 u_9 H locs w_8 hP hD hS
          replace hP : va_P D vwCl [(k, .inr (0, [.ref k0, .ref k1, .ref k2, .ref k3, .ref k4, .int c5])), (k0, .inl (cI, 41, .inl c0)), (k1, .inl (cI, 41, .inl c1)), (k2, .inl (cI, 60, .inl g2_k2)), (k3, .inl (cI, 60, .inl c3)), (o, .inr (9, [.ref o0, .ref o1, .ref o2, .ref o3, .ref o4, .ref o5, .int d6, .int d7, .int d8])), (o40, .inl (cI, 60, .inl d40)), (o41, .inl (cI, 60, .inl d41)), (o45, .inl (cI, 60, .inl d45)), (o4, .inr (8, [.ref o40, .ref o41, .ref o42, .ref o43, .ref o44, .ref o45, .ref o46, .ref o47, .ref o48, .int d49]))] H := hP
          replace hD : va_D A [(k, .inr (0, [.ref k0, .ref k1, .ref k2, .ref k3, .ref k4, .int c5])), (k0, .inl (cI, 41, .inl c0)), (k1, .inl (cI, 41, .inl c1)), (k2, .inl (cI, 60, .inl g2_k2)), (k3, .inl (cI, 60, .inl c3)), (o, .inr (9, [.ref o0, .ref o1, .ref o2, .ref o3, .ref o4, .ref o5, .int d6, .int d7, .int d8])), (o40, .inl (cI, 60, .inl d40)), (o41, .inl (cI, 60, .inl d41)), (o45, .inl (cI, 60, .inl d45)), (o4, .inr (8, [.ref o40, .ref o41, .ref o42, .ref o43, .ref o44, .ref o45, .ref o46, .ref o47, .ref o48, .int d49]))] := hD
          rcases w_8 with ⟨hr_7, h_10, h_11, h_12⟩ | ⟨hr_7, h_13⟩
          · have h_10 : 0 ≤ a1.toInt := h_10
            have h_11 : a1.toInt < d49.toInt := h_11
            have h_12 : a1.toInt < 60 := h_12
            obtain rfl : r_7 = 1 := hr_7.trans (by decide)
            refine b_if_ne hx hb zl_1 (tgt := 33) dX0_measure_29 (by decide) (fun c_14 => ?_) (fun c_14 => by exfalso; omega)
            refine lv_aload_n hx hb dX0_measure_33 rfl (lv_at hl 1 rfl) ?_
            refine va_get (D := D) (ci := 0) (v := .ref k2) (C := RX0) (T := TX0) (N := 6) hx hb hT giX0 hown hK hP 0 rfl rfl 2 (by decide) (hT (Cond.fieldLink RX0 18 "DesertWire$Hands" "far" "[I") mw_201) (fun _ h9 => h9) rfl dX0_measure_34 ?_
            refine lv_iload_n hx hb dX0_measure_37 rfl (lv_at hl 3 rfl) ?_
            refine lv_iconst (v := 1) hx hb dX0_measure_38 (by decide) ?_
            refine va_iast hx hb hK hP hD hS 3 0 rfl rfl (k_in (by omega) (by omega)) dX0_measure_39 ?_
            clear hP hD hS
            intro H locs hP hD hS
            replace hP : va_P D vwCl [(k, .inr (0, [.ref k0, .ref k1, .ref k2, .ref k3, .ref k4, .int c5])), (k0, .inl (cI, 41, .inl c0)), (k1, .inl (cI, 41, .inl c1)), (k2, .inl (cI, 60, .inl (upd g2_k2 a1.toNatClampNeg 1))), (k3, .inl (cI, 60, .inl c3)), (o, .inr (9, [.ref o0, .ref o1, .ref o2, .ref o3, .ref o4, .ref o5, .int d6, .int d7, .int d8])), (o40, .inl (cI, 60, .inl d40)), (o41, .inl (cI, 60, .inl d41)), (o45, .inl (cI, 60, .inl d45)), (o4, .inr (8, [.ref o40, .ref o41, .ref o42, .ref o43, .ref o44, .ref o45, .ref o46, .ref o47, .ref o48, .int d49]))] H := hP
            replace hD : va_D A [(k, .inr (0, [.ref k0, .ref k1, .ref k2, .ref k3, .ref k4, .int c5])), (k0, .inl (cI, 41, .inl c0)), (k1, .inl (cI, 41, .inl c1)), (k2, .inl (cI, 60, .inl (upd g2_k2 a1.toNatClampNeg 1))), (k3, .inl (cI, 60, .inl c3)), (o, .inr (9, [.ref o0, .ref o1, .ref o2, .ref o3, .ref o4, .ref o5, .int d6, .int d7, .int d8])), (o40, .inl (cI, 60, .inl d40)), (o41, .inl (cI, 60, .inl d41)), (o45, .inl (cI, 60, .inl d45)), (o4, .inr (8, [.ref o40, .ref o41, .ref o42, .ref o43, .ref o44, .ref o45, .ref o46, .ref o47, .ref o48, .int d49]))] := hD
            obtain ⟨f_15, ef_15⟩ : ∃ g : Nat → Int32, g = upd g2_k2 a1.toNatClampNeg 1 := ⟨_, rfl⟩
            rw [← ef_15] at hP hD
            refine lv_aload_n hx hb dX0_measure_40 rfl (lv_at hl 1 rfl) ?_
            refine va_get (D := D) (ci := 0) (v := .ref k3) (C := RX0) (T := TX0) (N := 6) hx hb hT giX0 hown hK hP 0 rfl rfl 3 (by decide) (hT (Cond.fieldLink RX0 21 "DesertWire$Hands" "queue" "[I") mw_202) (fun _ h9 => h9) rfl dX0_measure_41 ?_
            refine lv_iconst (v := 0) hx hb dX0_measure_44 (by decide) ?_
            refine lv_iload_n hx hb dX0_measure_45 rfl (lv_at hl 3 rfl) ?_
            refine va_iast hx hb hK hP hD hS 4 0 rfl rfl (k_inl (by decide)) dX0_measure_46 ?_
            clear hP hD hS
            intro H locs hP hD hS
            replace hP : va_P D vwCl [(k, .inr (0, [.ref k0, .ref k1, .ref k2, .ref k3, .ref k4, .int c5])), (k0, .inl (cI, 41, .inl c0)), (k1, .inl (cI, 41, .inl c1)), (k2, .inl (cI, 60, .inl f_15)), (k3, .inl (cI, 60, .inl (upd c3 0 a1))), (o, .inr (9, [.ref o0, .ref o1, .ref o2, .ref o3, .ref o4, .ref o5, .int d6, .int d7, .int d8])), (o40, .inl (cI, 60, .inl d40)), (o41, .inl (cI, 60, .inl d41)), (o45, .inl (cI, 60, .inl d45)), (o4, .inr (8, [.ref o40, .ref o41, .ref o42, .ref o43, .ref o44, .ref o45, .ref o46, .ref o47, .ref o48, .int d49]))] H := hP
            replace hD : va_D A [(k, .inr (0, [.ref k0, .ref k1, .ref k2, .ref k3, .ref k4, .int c5])), (k0, .inl (cI, 41, .inl c0)), (k1, .inl (cI, 41, .inl c1)), (k2, .inl (cI, 60, .inl f_15)), (k3, .inl (cI, 60, .inl (upd c3 0 a1))), (o, .inr (9, [.ref o0, .ref o1, .ref o2, .ref o3, .ref o4, .ref o5, .int d6, .int d7, .int d8])), (o40, .inl (cI, 60, .inl d40)), (o41, .inl (cI, 60, .inl d41)), (o45, .inl (cI, 60, .inl d45)), (o4, .inr (8, [.ref o40, .ref o41, .ref o42, .ref o43, .ref o44, .ref o45, .ref o46, .ref o47, .ref o48, .int d49]))] := hD
            obtain ⟨f_16, ef_16⟩ : ∃ g : Nat → Int32, g = upd c3 0 a1 := ⟨_, rfl⟩
            rw [← ef_16] at hP hD
            refine lv_iconst (v := 1) hx hb dX0_measure_47 (by decide) ?_
            refine lv_istore_n (lv' := [(3, .int 1), (0, .ref k), (1, .ref o), (2, .int a1)]) hx hb dX0_measure_48 rfl hl (by decide) rfl ?_
            clear hl
            intro ls hl
            refine lv_iconst (v := 0) hx hb dX0_measure_49 (by decide) ?_
            refine lv_istore (lv' := [(4, .int 0), (3, .int 1), (0, .ref k), (1, .ref o), (2, .int a1)]) hx hb dX0_measure_50 hl (by decide) rfl ?_
            clear hl
            intro ls hl
            have hloop_52 : ∀ (fu_ : Nat) (l52_3 : Int32) (l52_4 : Int32) (g52_k2 : Nat → Int32) (g52_k3 : Nat → Int32), 1 ≤ l52_3.toInt → 0 ≤ l52_4.toInt → 0 ≤ l52_4.toInt → l52_4.toInt ≤ l52_3.toInt → 1 ≤ l52_3.toInt → l52_3.toInt ≤ 60 → BFO gx a1 g52_k2 g52_k3 l52_4.toInt l52_3.toInt → (60 - l52_4.toInt).toNat < fu_ → ∀ (ls : Array Slot) (H : Heap) (locs : List Loc), lv_has ls 7 [(4, .int l52_4), (3, .int l52_3), (0, .ref k), (1, .ref o), (2, .int a1)] → va_P D vwCl [(k, .inr (0, [.ref k0, .ref k1, .ref k2, .ref k3, .ref k4, .int c5])), (k0, .inl (cI, 41, .inl c0)), (k1, .inl (cI, 41, .inl c1)), (k2, .inl (cI, 60, .inl g52_k2)), (k3, .inl (cI, 60, .inl g52_k3)), (o, .inr (9, [.ref o0, .ref o1, .ref o2, .ref o3, .ref o4, .ref o5, .int d6, .int d7, .int d8])), (o40, .inl (cI, 60, .inl d40)), (o41, .inl (cI, 60, .inl d41)), (o45, .inl (cI, 60, .inl d45)), (o4, .inr (8, [.ref o40, .ref o41, .ref o42, .ref o43, .ref o44, .ref o45, .ref o46, .ref o47, .ref o48, .int d49]))] H → va_D A [(k, .inr (0, [.ref k0, .ref k1, .ref k2, .ref k3, .ref k4, .int c5])), (k0, .inl (cI, 41, .inl c0)), (k1, .inl (cI, 41, .inl c1)), (k2, .inl (cI, 60, .inl g52_k2)), (k3, .inl (cI, 60, .inl g52_k3)), (o, .inr (9, [.ref o0, .ref o1, .ref o2, .ref o3, .ref o4, .ref o5, .int d6, .int d7, .int d8])), (o40, .inl (cI, 60, .inl d40)), (o41, .inl (cI, 60, .inl d41)), (o45, .inl (cI, 60, .inl d45)), (o4, .inr (8, [.ref o40, .ref o41, .ref o42, .ref o43, .ref o44, .ref o45, .ref o46, .ref o47, .ref o48, .int d49]))] → va_S A s.heap H locs → W p l e ({ frames := 4, cells := 0, slots := 0, locals := 92 } : Room) s m args below meth c H locs 0 0 Q (F0 m 52 ls []) := by
              intro fu_; induction fu_ with
              | zero => intro l52_3 l52_4 g52_k2 g52_k3 i52_0 i52_1 i52_2 i52_3 i52_4 i52_5 i52_6 hm; exact absurd hm (by omega)
              | succ fu_ ih52 =>
                  intro l52_3 l52_4 g52_k2 g52_k3 i52_0 i52_1 i52_2 i52_3 i52_4 i52_5 i52_6 hm ls H locs hl hP hD hS
                  have lo_l52_3 := k_lo l52_3
                  have hi_l52_3 := k_hi l52_3
                  have lo_l52_4 := k_lo l52_4
                  have hi_l52_4 := k_hi l52_4
                  have i52_6 : BFO gx a1 g52_k2 g52_k3 l52_4.toInt l52_3.toInt := i52_6
                  refine lv_iload hx hb dX0_measure_52 (lv_at hl 0 rfl) ?_
                  refine lv_iload_n hx hb dX0_measure_54 rfl (lv_at hl 1 rfl) ?_
                  refine b_icmp_ge hx hb rfl rfl (tgt := 150) dX0_measure_55 (by decide) (fun c_17 => ?_) (fun c_17 => ?_)
                  · exact hRet (g52_k2, g52_k3) [0, 1, 2, 3, 4, 5, 9, 6, 7, 8] (BFO.far i52_6 (by omega) (fun x y hx hy => cr_comm pre1 pre2 pre3 hx.1 hx.2 hy.1 hy.2)) hP hD (by decide) rfl hS dX0_measure_150
                  · refine lv_iload hx hb dX0_measure_58 (lv_at hl 0 rfl) ?_
                    refine lv_bipush (v := 60) hx hb dX0_measure_60 (by decide) ?_
                    refine b_icmp_ge hx hb rfl zl_60 (tgt := 150) dX0_measure_62 (by decide) (fun c_18 => by exfalso; omega) (fun c_18 => ?_)
                    refine lv_aload_n hx hb dX0_measure_65 rfl (lv_at hl 2 rfl) ?_
                    refine va_get (D := D) (ci := 0) (v := .ref k3) (C := RX0) (T := TX0) (N := 6) hx hb hT giX0 hown hK hP 0 rfl rfl 3 (by decide) (hT (Cond.fieldLink RX0 21 "DesertWire$Hands" "queue" "[I") mw_202) (fun _ h9 => h9) rfl dX0_measure_66 ?_
                    refine lv_iload hx hb dX0_measure_69 (lv_at hl 0 rfl) ?_
                    refine k_iald (v := (g52_k3 l52_4.toNatClampNeg)) hx hb hK hP 4 0 rfl rfl (k_in (by omega) (by omega)) rfl dX0_measure_71 ?_
                    refine lv_topi (fun v_19 ev_19 => ?_)
                    have lo_v_19 := k_lo v_19
                    have hi_v_19 := k_hi v_19
                    have tv_19 : v_19.toInt = (g52_k3 l52_4.toNatClampNeg).toInt := by rw [ev_19]
                    refine lv_istore (lv' := [(5, .int v_19), (4, .int l52_4), (3, .int l52_3), (0, .ref k), (1, .ref o), (2, .int a1)]) hx hb dX0_measure_72 hl (by decide) rfl ?_
                    clear hl
                    intro ls hl
                    refine lv_iconst (v := 0) hx hb dX0_measure_74 (by decide) ?_
                    refine lv_istore (lv' := [(6, .int 0), (5, .int v_19), (4, .int l52_4), (3, .int l52_3), (0, .ref k), (1, .ref o), (2, .int a1)]) hx hb dX0_measure_75 hl (by decide) rfl ?_
                    clear hl
                    intro ls hl
                    have hloop_77 : ∀ (fu_ : Nat) (l77_3 : Int32) (l77_6 : Int32) (g77_k2 : Nat → Int32) (g77_k3 : Nat → Int32), l52_3.toInt ≤ l77_3.toInt → 0 ≤ l77_6.toInt → 0 ≤ l77_6.toInt → l77_6.toInt ≤ 60 → BFN gx a1 g77_k2 g77_k3 l52_4.toInt l77_3.toInt v_19 l77_6.toInt → (60 - l77_6.toInt).toNat < fu_ → ∀ (ls : Array Slot) (H : Heap) (locs : List Loc), lv_has ls 7 [(6, .int l77_6), (5, .int v_19), (4, .int l52_4), (3, .int l77_3), (0, .ref k), (1, .ref o), (2, .int a1)] → va_P D vwCl [(k, .inr (0, [.ref k0, .ref k1, .ref k2, .ref k3, .ref k4, .int c5])), (k0, .inl (cI, 41, .inl c0)), (k1, .inl (cI, 41, .inl c1)), (k2, .inl (cI, 60, .inl g77_k2)), (k3, .inl (cI, 60, .inl g77_k3)), (o, .inr (9, [.ref o0, .ref o1, .ref o2, .ref o3, .ref o4, .ref o5, .int d6, .int d7, .int d8])), (o40, .inl (cI, 60, .inl d40)), (o41, .inl (cI, 60, .inl d41)), (o45, .inl (cI, 60, .inl d45)), (o4, .inr (8, [.ref o40, .ref o41, .ref o42, .ref o43, .ref o44, .ref o45, .ref o46, .ref o47, .ref o48, .int d49]))] H → va_D A [(k, .inr (0, [.ref k0, .ref k1, .ref k2, .ref k3, .ref k4, .int c5])), (k0, .inl (cI, 41, .inl c0)), (k1, .inl (cI, 41, .inl c1)), (k2, .inl (cI, 60, .inl g77_k2)), (k3, .inl (cI, 60, .inl g77_k3)), (o, .inr (9, [.ref o0, .ref o1, .ref o2, .ref o3, .ref o4, .ref o5, .int d6, .int d7, .int d8])), (o40, .inl (cI, 60, .inl d40)), (o41, .inl (cI, 60, .inl d41)), (o45, .inl (cI, 60, .inl d45)), (o4, .inr (8, [.ref o40, .ref o41, .ref o42, .ref o43, .ref o44, .ref o45, .ref o46, .ref o47, .ref o48, .int d49]))] → va_S A s.heap H locs → W p l e ({ frames := 4, cells := 0, slots := 0, locals := 92 } : Room) s m args below meth c H locs 0 0 Q (F0 m 77 ls []) := by
                      intro fu_; induction fu_ with
                      | zero => intro l77_3 l77_6 g77_k2 g77_k3 i77_0 i77_1 i77_2 i77_3 i77_4 hm; exact absurd hm (by omega)
                      | succ fu_ ih77 =>
                          intro l77_3 l77_6 g77_k2 g77_k3 i77_0 i77_1 i77_2 i77_3 i77_4 hm ls H locs hl hP hD hS
                          have lo_l77_3 := k_lo l77_3
                          have hi_l77_3 := k_hi l77_3
                          have lo_l77_6 := k_lo l77_6
                          have hi_l77_6 := k_hi l77_6
                          have i77_4 : BFN gx a1 g77_k2 g77_k3 l52_4.toInt l77_3.toInt v_19 l77_6.toInt := i77_4
                          have b_20 : 0 ≤ v_19.toInt ∧ v_19.toInt < (gx 1).toInt ∧ (wW gx v_19 0).toInt = 3 ∧ 1 ≤ (g77_k2 v_19.toNatClampNeg).toInt ∧ (g77_k2 v_19.toNatClampNeg).toInt ≤ 60 ∧ 1 ≤ l77_3.toInt ∧ l77_3.toInt ≤ 60 := BFN.nf i77_4
                          refine lv_iload hx hb dX0_measure_77 (lv_at hl 0 rfl) ?_
                          refine lv_bipush (v := 60) hx hb dX0_measure_79 (by decide) ?_
                          refine b_icmp_ge hx hb rfl zl_60 (tgt := 144) dX0_measure_81 (by decide) (fun c_21 => ?_) (fun c_21 => ?_)
                          · obtain ⟨v_22, ev_22⟩ : ∃ y : Int32, y = l52_4 + 1 := ⟨_, rfl⟩
                            have tv_22 : v_22.toInt = l52_4.toInt + 1 := by rw [ev_22]; exact k_addv rfl zl_1 (by omega) (by omega)
                            refine lv_iinc (v := v_22) (lv' := [(4, .int v_22), (6, .int l77_6), (5, .int v_19), (3, .int l77_3), (0, .ref k), (1, .ref o), (2, .int a1)]) hx hb dX0_measure_144 hl (k := 2) rfl (by rw [ev_22]; rfl) (by decide) rfl ?_
                            clear hl
                            intro ls hl
                            refine lv_goto (tgt := 52) hx hb dX0_measure_147 (by decide) ?_
                            exact ih52 l77_3 v_22 g77_k2 g77_k3 (by first | omega | decide | assumption | rfl) (by first | omega | decide | assumption | rfl) (by first | omega | decide | assumption | rfl) (by first | omega | decide | assumption | rfl) (by first | omega | decide | assumption | rfl) (by first | omega | decide | assumption | rfl) (BFN.done i77_4 (by omega) (by omega)) (by omega) ls _ _ (lv_sub hl [0, 3, 4, 5, 6] rfl) (hP.sub [0, 1, 2, 3, 4, 5, 6, 7, 8, 9] rfl) (hD.sub [0, 1, 2, 3, 4, 5, 6, 7, 8, 9] (by decide) rfl) hS
                          · refine lv_iload_n hx hb dX0_measure_84 rfl (lv_at hl 3 rfl) ?_
                            refine lv_bipush (v := 60) hx hb dX0_measure_85 (by decide) ?_
                            refine b_icmp_ge hx hb rfl zl_60 (tgt := 144) dX0_measure_87 (by decide) (fun c_23 => ?_) (fun c_23 => ?_)
                            · obtain ⟨v_24, ev_24⟩ : ∃ y : Int32, y = l52_4 + 1 := ⟨_, rfl⟩
                              have tv_24 : v_24.toInt = l52_4.toInt + 1 := by rw [ev_24]; exact k_addv rfl zl_1 (by omega) (by omega)
                              refine lv_iinc (v := v_24) (lv' := [(4, .int v_24), (6, .int l77_6), (5, .int v_19), (3, .int l77_3), (0, .ref k), (1, .ref o), (2, .int a1)]) hx hb dX0_measure_144 hl (k := 2) rfl (by rw [ev_24]; rfl) (by decide) rfl ?_
                              clear hl
                              intro ls hl
                              refine lv_goto (tgt := 52) hx hb dX0_measure_147 (by decide) ?_
                              exact ih52 l77_3 v_24 g77_k2 g77_k3 (by first | omega | decide | assumption | rfl) (by first | omega | decide | assumption | rfl) (by first | omega | decide | assumption | rfl) (by first | omega | decide | assumption | rfl) (by first | omega | decide | assumption | rfl) (by first | omega | decide | assumption | rfl) (BFN.done i77_4 (by omega) (by omega)) (by omega) ls _ _ (lv_sub hl [0, 3, 4, 5, 6] rfl) (hP.sub [0, 1, 2, 3, 4, 5, 6, 7, 8, 9] rfl) (hD.sub [0, 1, 2, 3, 4, 5, 6, 7, 8, 9] (by decide) rfl) hS
                            · refine lv_aload_n hx hb dX0_measure_90 rfl (lv_at hl 4 rfl) ?_
                              refine va_get (D := D) (ci := 0) (v := .ref k2) (C := RX0) (T := TX0) (N := 6) hx hb hT giX0 hown hK hP 0 rfl rfl 2 (by decide) (hT (Cond.fieldLink RX0 18 "DesertWire$Hands" "far" "[I") mw_201) (fun _ h9 => h9) rfl dX0_measure_91 ?_
                              refine lv_iload hx hb dX0_measure_94 (lv_at hl 0 rfl) ?_
                              refine k_iald (v := (g77_k2 l77_6.toNatClampNeg)) hx hb hK hP 3 0 rfl rfl (k_in (by omega) (by omega)) rfl dX0_measure_96 ?_
                              refine lv_topi (fun v_25 ev_25 => ?_)
                              have lo_v_25 := k_lo v_25
                              have hi_v_25 := k_hi v_25
                              have tv_25 : v_25.toInt = (g77_k2 l77_6.toNatClampNeg).toInt := by rw [ev_25]
                              refine b_if_ne hx hb rfl (tgt := 138) dX0_measure_97 (by decide) (fun c_26 => ?_) (fun c_26 => ?_)
                              · obtain ⟨v_27, ev_27⟩ : ∃ y : Int32, y = l77_6 + 1 := ⟨_, rfl⟩
                                have tv_27 : v_27.toInt = l77_6.toInt + 1 := by rw [ev_27]; exact k_addv rfl zl_1 (by omega) (by omega)
                                refine lv_iinc (v := v_27) (lv' := [(6, .int v_27), (5, .int v_19), (4, .int l52_4), (3, .int l77_3), (0, .ref k), (1, .ref o), (2, .int a1)]) hx hb dX0_measure_138 hl (k := 0) rfl (by rw [ev_27]; rfl) (by decide) rfl ?_
                                clear hl
                                intro ls hl
                                refine lv_goto (tgt := 77) hx hb dX0_measure_141 (by decide) ?_
                                exact ih77 l77_3 v_27 g77_k2 g77_k3 (by first | omega | decide | assumption | rfl) (by first | omega | decide | assumption | rfl) (by first | omega | decide | assumption | rfl) (by first | omega | decide | assumption | rfl) (BFN.skip (w := l77_6) i77_4 rfl (by omega) (by omega) (by omega) (Or.inl (by rw [gat_e ev_25]; omega))) (by omega) ls _ _ (lv_sub hl [0, 1, 2, 3, 4, 5, 6] rfl) (hP.sub [0, 1, 2, 3, 4, 5, 6, 7, 8, 9] rfl) (hD.sub [0, 1, 2, 3, 4, 5, 6, 7, 8, 9] (by decide) rfl) hS
                              · refine lv_aload_n hx hb dX0_measure_100 rfl (lv_at hl 4 rfl) ?_
                                refine lv_aload_n hx hb dX0_measure_101 rfl (lv_at hl 5 rfl) ?_
                                refine lv_iload hx hb dX0_measure_102 (lv_at hl 1 rfl) ?_
                                refine lv_iload hx hb dX0_measure_104 (lv_at hl 0 rfl) ?_
                                refine kJi (wr := [(k2, .inl (cI, 60, .inl g77_k2)), (k3, .inl (cI, 60, .inl g77_k3))]) (va_runV (As := [.ref o, .int v_19, .int l77_6]) (rest := []) ⟨hx, hb, hml, hown, hT⟩ (c_X0_isReadD l D cI aK aV k o k0 k1 k2 k3 k4 o0 o1 o2 o3 o4 o5 o40 o41 o42 o43 o44 o45 o46 o47 o48 H.size c5 c0 c1 d6 d7 d8 d49 d40 d41 d45 d0 d1 d2 d3 d42 d43 d44 d46 d47 d48 d50 d51 gx v_19 l77_6 pre0 pre1 (by first | omega | decide | assumption | rfl) (by first | omega | decide | assumption | rfl) (by first | omega | decide | assumption | rfl) (by first | omega | decide | assumption | rfl) (by first | omega | decide | assumption | rfl) (by first | omega | decide | assumption | rfl) (by first | omega | decide | assumption | rfl)) (cwV 3 hT (gV_in mw_800 mw_797 mw_799 mw_p2_4 mw_7) rfl rfl rfl (by decide +kernel) ⟨Nat.le_of_ble_eq_true rfl, Nat.le_of_ble_eq_true rfl⟩) (kRecvX (q0 := 0) (ci := 0) hK hP hD hN hXS hS hA rfl rfl [0, 1, 2, 5, 9, 6, 7, 8] rfl (by decide)) rfl rfl hl.1 rfl (lv_room (Nat.le_of_ble_eq_true rfl)) dX0_measure_106 ⟨Nat.le_of_ble_eq_true rfl, Nat.le_of_ble_eq_true rfl⟩) hP hD hS hA [0, 1, 2, 5, 9, 6, 7, 8] [3, 4] rfl rfl (by decide) (by decide) ?_
                                clear hP hD hS
                                intro r_28 u_30 H locs w_29 hP hD hS
                                replace hP : va_P D vwCl [(k2, .inl (cI, 60, .inl g77_k2)), (k3, .inl (cI, 60, .inl g77_k3)), (k, .inr (0, [.ref k0, .ref k1, .ref k2, .ref k3, .ref k4, .int c5])), (k0, .inl (cI, 41, .inl c0)), (k1, .inl (cI, 41, .inl c1)), (o, .inr (9, [.ref o0, .ref o1, .ref o2, .ref o3, .ref o4, .ref o5, .int d6, .int d7, .int d8])), (o4, .inr (8, [.ref o40, .ref o41, .ref o42, .ref o43, .ref o44, .ref o45, .ref o46, .ref o47, .ref o48, .int d49])), (o40, .inl (cI, 60, .inl d40)), (o41, .inl (cI, 60, .inl d41)), (o45, .inl (cI, 60, .inl d45))] H := hP
                                replace hD : va_D A [(k2, .inl (cI, 60, .inl g77_k2)), (k3, .inl (cI, 60, .inl g77_k3)), (k, .inr (0, [.ref k0, .ref k1, .ref k2, .ref k3, .ref k4, .int c5])), (k0, .inl (cI, 41, .inl c0)), (k1, .inl (cI, 41, .inl c1)), (o, .inr (9, [.ref o0, .ref o1, .ref o2, .ref o3, .ref o4, .ref o5, .int d6, .int d7, .int d8])), (o4, .inr (8, [.ref o40, .ref o41, .ref o42, .ref o43, .ref o44, .ref o45, .ref o46, .ref o47, .ref o48, .int d49])), (o40, .inl (cI, 60, .inl d40)), (o41, .inl (cI, 60, .inl d41)), (o45, .inl (cI, 60, .inl d45))] := hD
                                rcases w_29 with ⟨hr_28, h_31, h_32, h_33⟩ | ⟨hr_28, h_34⟩
                                · have h_31 : l77_6.toInt < d49.toInt := h_31
                                  have h_32 : (wW gx l77_6 0).toInt = 3 := h_32
                                  have h_33 : crF gx v_19 l77_6 = 1 := h_33
                                  obtain rfl : r_28 = 1 := hr_28.trans (by decide)
                                  refine b_if_eq hx hb zl_1 (tgt := 138) dX0_measure_109 (by decide) (fun c_35 => by exfalso; omega) (fun c_35 => ?_)
                                  refine lv_aload_n hx hb dX0_measure_112 rfl (lv_at hl 4 rfl) ?_
                                  refine va_get (D := D) (ci := 0) (v := .ref k2) (C := RX0) (T := TX0) (N := 6) hx hb hT giX0 hown hK hP 2 rfl rfl 2 (by decide) (hT (Cond.fieldLink RX0 18 "DesertWire$Hands" "far" "[I") mw_201) (fun _ h9 => h9) rfl dX0_measure_113 ?_
                                  refine lv_iload hx hb dX0_measure_116 (lv_at hl 0 rfl) ?_
                                  refine lv_aload_n hx hb dX0_measure_118 rfl (lv_at hl 4 rfl) ?_
                                  refine lv_iload hx hb dX0_measure_119 (lv_at hl 1 rfl) ?_
                                  refine kJi (wr := [(k3, .inl (cI, 60, .inl g77_k3)), (k0, .inl (cI, 41, .inl c0)), (k1, .inl (cI, 41, .inl c1)), (o, .inr (9, [.ref o0, .ref o1, .ref o2, .ref o3, .ref o4, .ref o5, .int d6, .int d7, .int d8])), (o4, .inr (8, [.ref o40, .ref o41, .ref o42, .ref o43, .ref o44, .ref o45, .ref o46, .ref o47, .ref o48, .int d49])), (o40, .inl (cI, 60, .inl d40)), (o41, .inl (cI, 60, .inl d41)), (o45, .inl (cI, 60, .inl d45))]) (va_runV (As := [.int v_19]) (rest := [.int l77_6, .ref k2]) ⟨hx, hb, hml, hown, hT⟩ (c_X0_distanceOfD l D cI aK aV k k0 k1 k2 k3 k4 H.size c5 g77_k2 v_19) (cwV 1 hT (gV_in mw_806 mw_803 mw_805 mw_p2_5 mw_7) rfl rfl rfl (by decide +kernel) ⟨Nat.le_of_ble_eq_true rfl, Nat.le_of_ble_eq_true rfl⟩) (kRecvX (q0 := 2) (ci := 0) hK hP hD hN hXS hS hA rfl rfl [2, 0] rfl (by decide)) rfl rfl hl.1 rfl (lv_room (Nat.le_of_ble_eq_true rfl)) dX0_measure_121 ⟨Nat.le_of_ble_eq_true rfl, Nat.le_of_ble_eq_true rfl⟩) hP hD hS hA [2, 0] [1, 3, 4, 5, 6, 7, 8, 9] rfl rfl (by decide) (by decide) ?_
                                  clear hP hD hS
                                  intro r_36 u_38 H locs w_37 hP hD hS
                                  replace hP : va_P D vwCl [(k3, .inl (cI, 60, .inl g77_k3)), (k0, .inl (cI, 41, .inl c0)), (k1, .inl (cI, 41, .inl c1)), (o, .inr (9, [.ref o0, .ref o1, .ref o2, .ref o3, .ref o4, .ref o5, .int d6, .int d7, .int d8])), (o4, .inr (8, [.ref o40, .ref o41, .ref o42, .ref o43, .ref o44, .ref o45, .ref o46, .ref o47, .ref o48, .int d49])), (o40, .inl (cI, 60, .inl d40)), (o41, .inl (cI, 60, .inl d41)), (o45, .inl (cI, 60, .inl d45)), (k, .inr (0, [.ref k0, .ref k1, .ref k2, .ref k3, .ref k4, .int c5])), (k2, .inl (cI, 60, .inl g77_k2))] H := hP
                                  replace hD : va_D A [(k3, .inl (cI, 60, .inl g77_k3)), (k0, .inl (cI, 41, .inl c0)), (k1, .inl (cI, 41, .inl c1)), (o, .inr (9, [.ref o0, .ref o1, .ref o2, .ref o3, .ref o4, .ref o5, .int d6, .int d7, .int d8])), (o4, .inr (8, [.ref o40, .ref o41, .ref o42, .ref o43, .ref o44, .ref o45, .ref o46, .ref o47, .ref o48, .int d49])), (o40, .inl (cI, 60, .inl d40)), (o41, .inl (cI, 60, .inl d41)), (o45, .inl (cI, 60, .inl d45)), (k, .inr (0, [.ref k0, .ref k1, .ref k2, .ref k3, .ref k4, .int c5])), (k2, .inl (cI, 60, .inl g77_k2))] := hD
                                  rcases w_37 with ⟨h_39, h_40, h_41⟩ | ⟨hr_36, h_42⟩
                                  · have h_39 : 0 ≤ v_19.toInt := h_39
                                    have h_40 : v_19.toInt ≤ 59 := h_40
                                    have h_41 : r_36 = g77_k2 v_19.toNatClampNeg := h_41
                                    have t_43 : r_36.toInt = (g77_k2 v_19.toNatClampNeg).toInt := by rw [h_41]
                                    have lo_r_36 := k_lo r_36
                                    have hi_r_36 := k_hi r_36
                                    refine lv_iconst (v := 1) hx hb dX0_measure_124 (by decide) ?_
                                    refine lv_iadd hx hb dX0_measure_125 ?_
                                    refine lv_topi (fun v_44 ev_44 => ?_)
                                    have tv_44 : v_44.toInt = r_36.toInt + 1 := by rw [ev_44]; exact k_addv rfl zl_1 (by omega) (by omega)
                                    refine va_iast hx hb hK hP hD hS 9 0 rfl rfl (k_in (by omega) (by omega)) dX0_measure_126 ?_
                                    clear hP hD hS
                                    intro H locs hP hD hS
                                    replace hP : va_P D vwCl [(k3, .inl (cI, 60, .inl g77_k3)), (k0, .inl (cI, 41, .inl c0)), (k1, .inl (cI, 41, .inl c1)), (o, .inr (9, [.ref o0, .ref o1, .ref o2, .ref o3, .ref o4, .ref o5, .int d6, .int d7, .int d8])), (o4, .inr (8, [.ref o40, .ref o41, .ref o42, .ref o43, .ref o44, .ref o45, .ref o46, .ref o47, .ref o48, .int d49])), (o40, .inl (cI, 60, .inl d40)), (o41, .inl (cI, 60, .inl d41)), (o45, .inl (cI, 60, .inl d45)), (k, .inr (0, [.ref k0, .ref k1, .ref k2, .ref k3, .ref k4, .int c5])), (k2, .inl (cI, 60, .inl (upd g77_k2 l77_6.toNatClampNeg v_44)))] H := hP
                                    replace hD : va_D A [(k3, .inl (cI, 60, .inl g77_k3)), (k0, .inl (cI, 41, .inl c0)), (k1, .inl (cI, 41, .inl c1)), (o, .inr (9, [.ref o0, .ref o1, .ref o2, .ref o3, .ref o4, .ref o5, .int d6, .int d7, .int d8])), (o4, .inr (8, [.ref o40, .ref o41, .ref o42, .ref o43, .ref o44, .ref o45, .ref o46, .ref o47, .ref o48, .int d49])), (o40, .inl (cI, 60, .inl d40)), (o41, .inl (cI, 60, .inl d41)), (o45, .inl (cI, 60, .inl d45)), (k, .inr (0, [.ref k0, .ref k1, .ref k2, .ref k3, .ref k4, .int c5])), (k2, .inl (cI, 60, .inl (upd g77_k2 l77_6.toNatClampNeg v_44)))] := hD
                                    obtain ⟨f_45, ef_45⟩ : ∃ g : Nat → Int32, g = upd g77_k2 l77_6.toNatClampNeg v_44 := ⟨_, rfl⟩
                                    rw [← ef_45] at hP hD
                                    refine lv_aload_n hx hb dX0_measure_127 rfl (lv_at hl 4 rfl) ?_
                                    refine va_get (D := D) (ci := 0) (v := .ref k3) (C := RX0) (T := TX0) (N := 6) hx hb hT giX0 hown hK hP 8 rfl rfl 3 (by decide) (hT (Cond.fieldLink RX0 21 "DesertWire$Hands" "queue" "[I") mw_202) (fun _ h9 => h9) rfl dX0_measure_128 ?_
                                    refine lv_iload_n hx hb dX0_measure_131 rfl (lv_at hl 3 rfl) ?_
                                    refine lv_iload hx hb dX0_measure_132 (lv_at hl 0 rfl) ?_
                                    refine va_iast hx hb hK hP hD hS 0 0 rfl rfl (k_in (by omega) (by omega)) dX0_measure_134 ?_
                                    clear hP hD hS
                                    intro H locs hP hD hS
                                    replace hP : va_P D vwCl [(k3, .inl (cI, 60, .inl (upd g77_k3 l77_3.toNatClampNeg l77_6))), (k0, .inl (cI, 41, .inl c0)), (k1, .inl (cI, 41, .inl c1)), (o, .inr (9, [.ref o0, .ref o1, .ref o2, .ref o3, .ref o4, .ref o5, .int d6, .int d7, .int d8])), (o4, .inr (8, [.ref o40, .ref o41, .ref o42, .ref o43, .ref o44, .ref o45, .ref o46, .ref o47, .ref o48, .int d49])), (o40, .inl (cI, 60, .inl d40)), (o41, .inl (cI, 60, .inl d41)), (o45, .inl (cI, 60, .inl d45)), (k, .inr (0, [.ref k0, .ref k1, .ref k2, .ref k3, .ref k4, .int c5])), (k2, .inl (cI, 60, .inl f_45))] H := hP
                                    replace hD : va_D A [(k3, .inl (cI, 60, .inl (upd g77_k3 l77_3.toNatClampNeg l77_6))), (k0, .inl (cI, 41, .inl c0)), (k1, .inl (cI, 41, .inl c1)), (o, .inr (9, [.ref o0, .ref o1, .ref o2, .ref o3, .ref o4, .ref o5, .int d6, .int d7, .int d8])), (o4, .inr (8, [.ref o40, .ref o41, .ref o42, .ref o43, .ref o44, .ref o45, .ref o46, .ref o47, .ref o48, .int d49])), (o40, .inl (cI, 60, .inl d40)), (o41, .inl (cI, 60, .inl d41)), (o45, .inl (cI, 60, .inl d45)), (k, .inr (0, [.ref k0, .ref k1, .ref k2, .ref k3, .ref k4, .int c5])), (k2, .inl (cI, 60, .inl f_45))] := hD
                                    obtain ⟨f_46, ef_46⟩ : ∃ g : Nat → Int32, g = upd g77_k3 l77_3.toNatClampNeg l77_6 := ⟨_, rfl⟩
                                    rw [← ef_46] at hP hD
                                    obtain ⟨v_47, ev_47⟩ : ∃ y : Int32, y = l77_3 + 1 := ⟨_, rfl⟩
                                    have tv_47 : v_47.toInt = l77_3.toInt + 1 := by rw [ev_47]; exact k_addv rfl zl_1 (by omega) (by omega)
                                    refine lv_iinc (v := v_47) (lv' := [(3, .int v_47), (6, .int l77_6), (5, .int v_19), (4, .int l52_4), (0, .ref k), (1, .ref o), (2, .int a1)]) hx hb dX0_measure_135 hl (k := 3) rfl (by rw [ev_47]; rfl) (by decide) rfl ?_
                                    clear hl
                                    intro ls hl
                                    obtain ⟨v_48, ev_48⟩ : ∃ y : Int32, y = l77_6 + 1 := ⟨_, rfl⟩
                                    have tv_48 : v_48.toInt = l77_6.toInt + 1 := by rw [ev_48]; exact k_addv rfl zl_1 (by omega) (by omega)
                                    refine lv_iinc (v := v_48) (lv' := [(6, .int v_48), (3, .int v_47), (5, .int v_19), (4, .int l52_4), (0, .ref k), (1, .ref o), (2, .int a1)]) hx hb dX0_measure_138 hl (k := 1) rfl (by rw [ev_48]; rfl) (by decide) rfl ?_
                                    clear hl
                                    intro ls hl
                                    refine lv_goto (tgt := 77) hx hb dX0_measure_141 (by decide) ?_
                                    exact ih77 v_47 v_48 f_45 f_46 (by first | omega | decide | assumption | rfl) (by first | omega | decide | assumption | rfl) (by first | omega | decide | assumption | rfl) (by first | omega | decide | assumption | rfl) (BFN.add (w := l77_6) i77_4 rfl (by omega) ⟨by omega, by omega⟩ (by omega) (by omega) ((gat_e ev_25).trans (by omega)) h_33 (by rw [gat_e h_41]; omega) (by omega) (up_in ef_45 rfl) rfl (up_in ef_46 rfl) (by omega)) (by omega) ls _ _ (lv_sub hl [0, 2, 3, 1, 4, 5, 6] rfl) (hP.sub [8, 1, 2, 9, 0, 3, 5, 6, 7, 4] rfl) (hD.sub [8, 1, 2, 9, 0, 3, 5, 6, 7, 4] (by decide) rfl) hS
                                  · exfalso; omega
                                · have h_34 : crF gx v_19 l77_6 = 0 ∨ (gx 1).toInt ≤ l77_6.toInt := h_34
                                  have h_34 : crF gx v_19 l77_6 = 0 ∨ (gx 1).toInt ≤ l77_6.toInt := h_34
                                  obtain rfl : r_28 = 0 := hr_28.trans (by decide)
                                  refine b_if_eq hx hb zl_0 (tgt := 138) dX0_measure_109 (by decide) (fun c_49 => ?_) (fun c_49 => by exfalso; omega)
                                  obtain ⟨v_50, ev_50⟩ : ∃ y : Int32, y = l77_6 + 1 := ⟨_, rfl⟩
                                  have tv_50 : v_50.toInt = l77_6.toInt + 1 := by rw [ev_50]; exact k_addv rfl zl_1 (by omega) (by omega)
                                  refine lv_iinc (v := v_50) (lv' := [(6, .int v_50), (5, .int v_19), (4, .int l52_4), (3, .int l77_3), (0, .ref k), (1, .ref o), (2, .int a1)]) hx hb dX0_measure_138 hl (k := 0) rfl (by rw [ev_50]; rfl) (by decide) rfl ?_
                                  clear hl
                                  intro ls hl
                                  refine lv_goto (tgt := 77) hx hb dX0_measure_141 (by decide) ?_
                                  exact ih77 l77_3 v_50 g77_k2 g77_k3 (by first | omega | decide | assumption | rfl) (by first | omega | decide | assumption | rfl) (by first | omega | decide | assumption | rfl) (by first | omega | decide | assumption | rfl) (BFN.skip (w := l77_6) i77_4 rfl (by omega) (by omega) (by omega) (Or.inr h_34)) (by omega) ls _ _ (lv_sub hl [0, 1, 2, 3, 4, 5, 6] rfl) (hP.sub [2, 3, 4, 0, 1, 5, 7, 8, 9, 6] rfl) (hD.sub [2, 3, 4, 0, 1, 5, 7, 8, 9, 6] (by decide) rfl) hS
                    exact hloop_77 _ l52_3 0 g52_k2 g52_k3 (by first | omega | (simp only [zl_0]; first | done | omega) | decide | assumption | rfl) (by first | omega | (simp only [zl_0]; first | done | omega) | decide | assumption | rfl) (by first | omega | (simp only [zl_0]; first | done | omega) | decide | assumption | rfl) (by first | omega | (simp only [zl_0]; first | done | omega) | decide | assumption | rfl) (BFN.start i52_6 (by omega) (rd_in ev_19 rfl) (by have := zl_0; omega)) (Nat.lt_succ_self _) ls _ _ (lv_sub hl [0, 1, 2, 3, 4, 5, 6] rfl) hP hD hS
            exact hloop_52 _ 1 0 f_15 f_16 (by first | omega | (simp only [zl_0, zl_1]; first | done | omega) | decide | assumption | rfl) (by first | omega | (simp only [zl_0, zl_1]; first | done | omega) | decide | assumption | rfl) (by first | omega | (simp only [zl_0, zl_1]; first | done | omega) | decide | assumption | rfl) (by first | omega | (simp only [zl_0, zl_1]; first | done | omega) | decide | assumption | rfl) (by first | omega | (simp only [zl_0, zl_1]; first | done | omega) | decide | assumption | rfl) (by first | omega | (simp only [zl_0, zl_1]; first | done | omega) | decide | assumption | rfl) (BFO.init ⟨by omega, by omega⟩ (by omega) (by omega) (fun w hw => i2_3 w (by omega)) (up_in ef_15 rfl) zl_1 ef_16 rfl (by have := zl_0; omega) (by have := zl_1; omega)) (Nat.lt_succ_self _) ls _ _ (lv_sub hl [0, 1, 2, 3, 4] rfl) hP hD hS
          · exfalso; omega
        · refine lv_aload_n hx hb dX0_measure_8 rfl (lv_at hl 1 rfl) ?_
          refine va_get (D := D) (ci := 0) (v := .ref k2) (C := RX0) (T := TX0) (N := 6) hx hb hT giX0 hown hK hP 0 rfl rfl 2 (by decide) (hT (Cond.fieldLink RX0 18 "DesertWire$Hands" "far" "[I") mw_201) (fun _ h9 => h9) rfl dX0_measure_9 ?_
          refine lv_iload_n hx hb dX0_measure_12 rfl (lv_at hl 0 rfl) ?_
          refine lv_iconst (v := 0) hx hb dX0_measure_13 (by decide) ?_
          refine va_iast hx hb hK hP hD hS 3 0 rfl rfl (k_in (by omega) (by omega)) dX0_measure_14 ?_
          clear hP hD hS
          intro H locs hP hD hS
          replace hP : va_P D vwCl [(k, .inr (0, [.ref k0, .ref k1, .ref k2, .ref k3, .ref k4, .int c5])), (k0, .inl (cI, 41, .inl c0)), (k1, .inl (cI, 41, .inl c1)), (k2, .inl (cI, 60, .inl (upd g2_k2 l2_3.toNatClampNeg 0))), (k3, .inl (cI, 60, .inl c3)), (o, .inr (9, [.ref o0, .ref o1, .ref o2, .ref o3, .ref o4, .ref o5, .int d6, .int d7, .int d8])), (o4, .inr (8, [.ref o40, .ref o41, .ref o42, .ref o43, .ref o44, .ref o45, .ref o46, .ref o47, .ref o48, .int d49])), (o40, .inl (cI, 60, .inl d40)), (o41, .inl (cI, 60, .inl d41)), (o45, .inl (cI, 60, .inl d45))] H := hP
          replace hD : va_D A [(k, .inr (0, [.ref k0, .ref k1, .ref k2, .ref k3, .ref k4, .int c5])), (k0, .inl (cI, 41, .inl c0)), (k1, .inl (cI, 41, .inl c1)), (k2, .inl (cI, 60, .inl (upd g2_k2 l2_3.toNatClampNeg 0))), (k3, .inl (cI, 60, .inl c3)), (o, .inr (9, [.ref o0, .ref o1, .ref o2, .ref o3, .ref o4, .ref o5, .int d6, .int d7, .int d8])), (o4, .inr (8, [.ref o40, .ref o41, .ref o42, .ref o43, .ref o44, .ref o45, .ref o46, .ref o47, .ref o48, .int d49])), (o40, .inl (cI, 60, .inl d40)), (o41, .inl (cI, 60, .inl d41)), (o45, .inl (cI, 60, .inl d45))] := hD
          obtain ⟨f_51, ef_51⟩ : ∃ g : Nat → Int32, g = upd g2_k2 l2_3.toNatClampNeg 0 := ⟨_, rfl⟩
          rw [← ef_51] at hP hD
          obtain ⟨v_52, ev_52⟩ : ∃ y : Int32, y = l2_3 + 1 := ⟨_, rfl⟩
          have tv_52 : v_52.toInt = l2_3.toInt + 1 := by rw [ev_52]; exact k_addv rfl zl_1 (by omega) (by omega)
          refine lv_iinc (v := v_52) (lv' := [(3, .int v_52), (0, .ref k), (1, .ref o), (2, .int a1)]) hx hb dX0_measure_15 hl (k := 0) rfl (by rw [ev_52]; rfl) (by decide) rfl ?_
          clear hl
          intro ls hl
          refine lv_goto (tgt := 2) hx hb dX0_measure_18 (by decide) ?_
          exact ih2 v_52 f_51 (by first | omega | decide | assumption | rfl) (by first | omega | decide | assumption | rfl) (by first | omega | decide | assumption | rfl) (ZRL.s i2_3 (by omega) ef_51 zl_0 (by omega)) (by omega) ls _ _ (lv_sub hl [0, 1, 2, 3] rfl) (hP.sub [0, 1, 2, 3, 4, 5, 6, 7, 8, 9] rfl) (hD.sub [0, 1, 2, 3, 4, 5, 6, 7, 8, 9] (by decide) rfl) hS
  exact hloop_2 _ 0 c2 (by first | omega | (simp only [zl_0]; first | done | omega) | decide | assumption | rfl) (by first | omega | (simp only [zl_0]; first | done | omega) | decide | assumption | rfl) (by first | omega | (simp only [zl_0]; first | done | omega) | decide | assumption | rfl) (ZRL.z (by have := zl_0; omega)) (Nat.lt_succ_self _) ls _ _ (lv_sub hl [0, 1, 2, 3] rfl) hP hD hS

set_option maxHeartbeats 4000000 in
set_option maxRecDepth 100000 in
theorem c_X0_findD (l : Launch) (D : va_G) (cI : ClassId) (aK aV : Nat → Nat) (k o k0 k1 k2 k3 k4 o0 o1 o2 o3 o4 o5 o40 o41 o42 o43 o44 o45 o46 o47 o48 : Nat) (sz : Nat) (c5 : Int32) (c0 : Nat → Int32) (c1 : Nat → Int32) (c2 : Nat → Int32) (c3 : Nat → Int32) (c4 : Nat → Int32) (d6 : Int32) (d7 : Int32) (d8 : Int32) (d0 : Nat → Int32) (d49 : Int32) (d40 : Nat → Int32) (d41 : Nat → Int32) (d43 : Nat → Int32) (d45 : Nat → Int32) (d46 : Nat → Int32) (d1 : Nat → Int32) (d2 : Nat → Int32) (d3 : Nat → Int32) (d42 : Nat → Int32) (d44 : Nat → Int32) (d47 : Nat → Int32) (d48 : Nat → Int32) (d50 : Nat → Int32) (d51 : Int32) (gx : Nat → Int32) (a1 : Int32) (a2 : Int32) (pre0 : WR d0 d1 d2 d3 d40 d41 d42 d43 d44 d45 d46 d47 d48 d49 d50 d51 d6 d7 d8 gx) (pre1 : SB gx) (pre2 : NNG gx) (pre3 : 0 ≤ a1.toInt) (pre4 : a1.toInt < d49.toInt) (pre5 : (wW gx a1 0).toInt = 3) (pre6 : 0 ≤ a2.toInt) (pre7 : a2.toInt < d49.toInt) (pre8 : (wW gx a2 0).toInt = 3) (pre9 : a1.toInt ≠ a2.toInt) : Met l yX0_find (gW yX0_find cX0_find 6 (some .int)) ({ frames := 5, cells := 0, slots := 0, locals := 118 } : Room) (kPreX D cI aK aV [.ref k, .ref o, .int a1, .int a2] [(k, .inr (0, [.ref k0, .ref k1, .ref k2, .ref k3, .ref k4, .int c5])), (k0, .inl (cI, 41, .inl c0)), (k1, .inl (cI, 41, .inl c1)), (k2, .inl (cI, 60, .inl c2)), (k3, .inl (cI, 60, .inl c3)), (k4, .inl (cI, 60, .inl c4)), (o, .inr (9, [.ref o0, .ref o1, .ref o2, .ref o3, .ref o4, .ref o5, .int d6, .int d7, .int d8])), (o0, .inl (cI, 12, .inl d0)), (o4, .inr (8, [.ref o40, .ref o41, .ref o42, .ref o43, .ref o44, .ref o45, .ref o46, .ref o47, .ref o48, .int d49])), (o40, .inl (cI, 60, .inl d40)), (o41, .inl (cI, 60, .inl d41)), (o43, .inl (cI, 60, .inl d43)), (o45, .inl (cI, 60, .inl d45)), (o46, .inl (cI, 40, .inl d46))] sz) (va_Qi (fun (r : Int32) (u : Int32 × (Nat → Int32) × (Nat → Int32) × (Nat → Int32) × (Nat → Int32) × (Nat → Int32)) => HNF gx a1 a2 r.toInt u.2.2.2.2.2 ∧ u.1.toInt = r.toInt ∧ 0 ≤ r.toInt ∧ r.toInt ≤ 60) (fun u t => kWd D cI (va_A [(k, .inr (0, [.ref k0, .ref k1, .ref k2, .ref k3, .ref k4, .int c5])), (k0, .inl (cI, 41, .inl c0)), (k1, .inl (cI, 41, .inl c1)), (k2, .inl (cI, 60, .inl c2)), (k3, .inl (cI, 60, .inl c3)), (k4, .inl (cI, 60, .inl c4)), (o, .inr (9, [.ref o0, .ref o1, .ref o2, .ref o3, .ref o4, .ref o5, .int d6, .int d7, .int d8])), (o0, .inl (cI, 12, .inl d0)), (o4, .inr (8, [.ref o40, .ref o41, .ref o42, .ref o43, .ref o44, .ref o45, .ref o46, .ref o47, .ref o48, .int d49])), (o40, .inl (cI, 60, .inl d40)), (o41, .inl (cI, 60, .inl d41)), (o43, .inl (cI, 60, .inl d43)), (o45, .inl (cI, 60, .inl d45)), (o46, .inl (cI, 40, .inl d46))] sz) [(k, .inr (0, [.ref k0, .ref k1, .ref k2, .ref k3, .ref k4, .int u.1])), (k0, .inl (cI, 41, .inl u.2.1)), (k1, .inl (cI, 41, .inl u.2.2.1)), (k2, .inl (cI, 60, .inl u.2.2.2.1)), (k3, .inl (cI, 60, .inl u.2.2.2.2.1)), (k4, .inl (cI, 60, .inl u.2.2.2.2.2)), (o, .inr (9, [.ref o0, .ref o1, .ref o2, .ref o3, .ref o4, .ref o5, .int d6, .int d7, .int d8])), (o0, .inl (cI, 12, .inl d0)), (o4, .inr (8, [.ref o40, .ref o41, .ref o42, .ref o43, .ref o44, .ref o45, .ref o46, .ref o47, .ref o48, .int d49])), (o40, .inl (cI, 60, .inl d40)), (o41, .inl (cI, 60, .inl d41)), (o43, .inl (cI, 60, .inl d43)), (o45, .inl (cI, 60, .inl d45)), (o46, .inl (cI, 40, .inl d46))] t) (va_A [(k, .inr (0, [.ref k0, .ref k1, .ref k2, .ref k3, .ref k4, .int c5])), (k0, .inl (cI, 41, .inl c0)), (k1, .inl (cI, 41, .inl c1)), (k2, .inl (cI, 60, .inl c2)), (k3, .inl (cI, 60, .inl c3)), (k4, .inl (cI, 60, .inl c4)), (o, .inr (9, [.ref o0, .ref o1, .ref o2, .ref o3, .ref o4, .ref o5, .int d6, .int d7, .int d8])), (o0, .inl (cI, 12, .inl d0)), (o4, .inr (8, [.ref o40, .ref o41, .ref o42, .ref o43, .ref o44, .ref o45, .ref o46, .ref o47, .ref o48, .int d49])), (o40, .inl (cI, 60, .inl d40)), (o41, .inl (cI, 60, .inl d41)), (o43, .inl (cI, 60, .inl d43)), (o45, .inl (cI, 60, .inl d45)), (o46, .inl (cI, 40, .inl d46))] sz)) 0 0 (va_A [(k, .inr (0, [.ref k0, .ref k1, .ref k2, .ref k3, .ref k4, .int c5])), (k0, .inl (cI, 41, .inl c0)), (k1, .inl (cI, 41, .inl c1)), (k2, .inl (cI, 60, .inl c2)), (k3, .inl (cI, 60, .inl c3)), (k4, .inl (cI, 60, .inl c4)), (o, .inr (9, [.ref o0, .ref o1, .ref o2, .ref o3, .ref o4, .ref o5, .int d6, .int d7, .int d8])), (o0, .inl (cI, 12, .inl d0)), (o4, .inr (8, [.ref o40, .ref o41, .ref o42, .ref o43, .ref o44, .ref o45, .ref o46, .ref o47, .ref o48, .int d49])), (o40, .inl (cI, 60, .inl d40)), (o41, .inl (cI, 60, .inl d41)), (o43, .inl (cI, 60, .inl d43)), (o45, .inl (cI, 60, .inl d45)), (o46, .inl (cI, 40, .inl d46))] sz) := by
  refine kMetIX (own := RX0) (by decide) rfl (Nat.le_of_ble_eq_true rfl) ?_
  intro p e s m args below meth c hx hb hT hown hname hml A Q hK hP hD hS hA hN hXS hRet ls hl
  have hl : lv_has ls 6 [(0, .ref k), (1, .ref o), (2, .int a1), (3, .int a2)] := hl
  have lo_a1 := k_lo a1
  have hi_a1 := k_hi a1
  have lo_a2 := k_lo a2
  have hi_a2 := k_hi a2
  have lo_d6 := k_lo d6
  have hi_d6 := k_hi d6
  have lo_d7 := k_lo d7
  have hi_d7 := k_hi d7
  have lo_d8 := k_lo d8
  have hi_d8 := k_hi d8
  have lo_d49 := k_lo d49
  have hi_d49 := k_hi d49
  have lo_d51 := k_lo d51
  have hi_d51 := k_hi d51
  have pre0 : WR d0 d1 d2 d3 d40 d41 d42 d43 d44 d45 d46 d47 d48 d49 d50 d51 d6 d7 d8 gx := pre0
  have b_1 : 0 ≤ d49.toInt ∧ d49.toInt ≤ 60 := WKR.n0 (WR.kw pre0)
  have t_2 : d49.toInt = (gx 1).toInt := WKR.nt (WR.kw pre0)
  have b_3 : 0 ≤ d51.toInt ∧ d51.toInt ≤ 4 := ((WR.kp pre0)).2.1
  have t_4 : d51.toInt = (gx 2).toInt := PTR.nt (WR.kp pre0)
  have t_5 : d8.toInt = (gx 0).toInt := by rw [WR.dd pre0]
  have pre1 : SB gx := pre1
  have pre2 : NNG gx := pre2
  refine lv_aload_n hx hb dX0_find_0 rfl (lv_at hl 0 rfl) ?_
  refine lv_iconst (v := 0) hx hb dX0_find_1 (by decide) ?_
  refine va_put (D := D) (ci := 0) (v := .int 0) (ty := .int) (C := RX0) (T := TX0) (N := 6) hx hb hT giX0 tyX0 tyX0_ok nmX0 hown hK hP hD hS 0 rfl rfl 5 (by decide) (hT (Cond.fieldLink RX0 27 "DesertWire$Hands" "length" "I") mw_204) (fun _ h9 => h9) rfl (by decide +kernel) rfl rfl (Nat.le_of_ble_eq_true rfl) dX0_find_2 ?_
  clear hP hD hS
  intro H locs hP hD hS
  replace hP : va_P D vwCl [(k, .inr (0, [.ref k0, .ref k1, .ref k2, .ref k3, .ref k4, .int 0])), (k0, .inl (cI, 41, .inl c0)), (k1, .inl (cI, 41, .inl c1)), (k2, .inl (cI, 60, .inl c2)), (k3, .inl (cI, 60, .inl c3)), (k4, .inl (cI, 60, .inl c4)), (o, .inr (9, [.ref o0, .ref o1, .ref o2, .ref o3, .ref o4, .ref o5, .int d6, .int d7, .int d8])), (o0, .inl (cI, 12, .inl d0)), (o4, .inr (8, [.ref o40, .ref o41, .ref o42, .ref o43, .ref o44, .ref o45, .ref o46, .ref o47, .ref o48, .int d49])), (o40, .inl (cI, 60, .inl d40)), (o41, .inl (cI, 60, .inl d41)), (o43, .inl (cI, 60, .inl d43)), (o45, .inl (cI, 60, .inl d45)), (o46, .inl (cI, 40, .inl d46))] H := hP
  replace hD : va_D A [(k, .inr (0, [.ref k0, .ref k1, .ref k2, .ref k3, .ref k4, .int 0])), (k0, .inl (cI, 41, .inl c0)), (k1, .inl (cI, 41, .inl c1)), (k2, .inl (cI, 60, .inl c2)), (k3, .inl (cI, 60, .inl c3)), (k4, .inl (cI, 60, .inl c4)), (o, .inr (9, [.ref o0, .ref o1, .ref o2, .ref o3, .ref o4, .ref o5, .int d6, .int d7, .int d8])), (o0, .inl (cI, 12, .inl d0)), (o4, .inr (8, [.ref o40, .ref o41, .ref o42, .ref o43, .ref o44, .ref o45, .ref o46, .ref o47, .ref o48, .int d49])), (o40, .inl (cI, 60, .inl d40)), (o41, .inl (cI, 60, .inl d41)), (o43, .inl (cI, 60, .inl d43)), (o45, .inl (cI, 60, .inl d45)), (o46, .inl (cI, 40, .inl d46))] := hD
  refine lv_aload_n hx hb dX0_find_5 rfl (lv_at hl 0 rfl) ?_
  refine lv_aload_n hx hb dX0_find_6 rfl (lv_at hl 1 rfl) ?_
  refine kJv (wr := [(k2, .inl (cI, 60, .inl c2)), (k3, .inl (cI, 60, .inl c3)), (k4, .inl (cI, 60, .inl c4))]) (va_runV (As := [.ref o]) (rest := []) ⟨hx, hb, hml, hown, hT⟩ (c_X0_surveyD l D cI aK aV k o k0 k1 k2 k3 k4 o0 o1 o2 o3 o4 o5 o40 o41 o42 o43 o44 o45 o46 o47 o48 H.size 0 c0 c1 d6 d7 d8 d0 d49 d40 d41 d43 d45 d46 d1 d2 d3 d42 d44 d47 d48 d50 d51 gx pre0 pre1) (cwV 1 hT (gV_in mw_772 mw_791 mw_770 mw_771 mw_7) rfl rfl rfl (by decide +kernel) ⟨Nat.le_of_ble_eq_true rfl, Nat.le_of_ble_eq_true rfl⟩) (kRecvX (q0 := 0) (ci := 0) hK hP hD hN hXS hS hA rfl rfl [0, 1, 2, 6, 7, 8, 9, 10, 11, 12, 13] rfl (by decide)) rfl rfl hl.1 rfl (lv_room (Nat.le_of_ble_eq_true rfl)) dX0_find_7 ⟨Nat.le_of_ble_eq_true rfl, Nat.le_of_ble_eq_true rfl⟩) hP hD hS hA [0, 1, 2, 6, 7, 8, 9, 10, 11, 12, 13] [3, 4, 5] rfl rfl (by decide) (by decide) ?_
  clear hP hD hS
  intro u_10 H locs w_7 hP hD hS
  obtain ⟨sc0_8, sc1_9⟩ := u_10
  replace hP : va_P D vwCl [(k2, .inl (cI, 60, .inl c2)), (k3, .inl (cI, 60, .inl c3)), (k4, .inl (cI, 60, .inl c4)), (k, .inr (0, [.ref k0, .ref k1, .ref k2, .ref k3, .ref k4, .int 0])), (k0, .inl (cI, 41, .inl sc0_8)), (k1, .inl (cI, 41, .inl sc1_9)), (o, .inr (9, [.ref o0, .ref o1, .ref o2, .ref o3, .ref o4, .ref o5, .int d6, .int d7, .int d8])), (o0, .inl (cI, 12, .inl d0)), (o4, .inr (8, [.ref o40, .ref o41, .ref o42, .ref o43, .ref o44, .ref o45, .ref o46, .ref o47, .ref o48, .int d49])), (o40, .inl (cI, 60, .inl d40)), (o41, .inl (cI, 60, .inl d41)), (o43, .inl (cI, 60, .inl d43)), (o45, .inl (cI, 60, .inl d45)), (o46, .inl (cI, 40, .inl d46))] H := hP
  replace hD : va_D A [(k2, .inl (cI, 60, .inl c2)), (k3, .inl (cI, 60, .inl c3)), (k4, .inl (cI, 60, .inl c4)), (k, .inr (0, [.ref k0, .ref k1, .ref k2, .ref k3, .ref k4, .int 0])), (k0, .inl (cI, 41, .inl sc0_8)), (k1, .inl (cI, 41, .inl sc1_9)), (o, .inr (9, [.ref o0, .ref o1, .ref o2, .ref o3, .ref o4, .ref o5, .int d6, .int d7, .int d8])), (o0, .inl (cI, 12, .inl d0)), (o4, .inr (8, [.ref o40, .ref o41, .ref o42, .ref o43, .ref o44, .ref o45, .ref o46, .ref o47, .ref o48, .int d49])), (o40, .inl (cI, 60, .inl d40)), (o41, .inl (cI, 60, .inl d41)), (o43, .inl (cI, 60, .inl d43)), (o45, .inl (cI, 60, .inl d45)), (o46, .inl (cI, 40, .inl d46))] := hD
  have h_11 := w_7
  have h_11 : SVY gx sc0_8 sc1_9 := h_11
  refine lv_aload_n hx hb dX0_find_10 rfl (lv_at hl 0 rfl) ?_
  refine lv_aload_n hx hb dX0_find_11 rfl (lv_at hl 1 rfl) ?_
  refine lv_iload_n hx hb dX0_find_12 rfl (lv_at hl 3 rfl) ?_
  refine kJv (wr := [(k4, .inl (cI, 60, .inl c4)), (o0, .inl (cI, 12, .inl d0)), (o43, .inl (cI, 60, .inl d43)), (o46, .inl (cI, 40, .inl d46))]) (va_runV (As := [.ref o, .int a2]) (rest := []) ⟨hx, hb, hml, hown, hT⟩ (c_X0_measureD l D cI aK aV k o k0 k1 k2 k3 k4 o0 o1 o2 o3 o4 o5 o40 o41 o42 o43 o44 o45 o46 o47 o48 H.size 0 sc0_8 sc1_9 c2 c3 d6 d7 d8 d49 d40 d41 d45 d0 d1 d2 d3 d42 d43 d44 d46 d47 d48 d50 d51 gx a2 pre0 pre1 (by first | omega | (simp only [zl_0]; first | done | omega) | decide | assumption | rfl) (by first | omega | (simp only [zl_0]; first | done | omega) | decide | assumption | rfl) (by first | omega | (simp only [zl_0]; first | done | omega) | decide | assumption | rfl) (by first | omega | (simp only [zl_0]; first | done | omega) | decide | assumption | rfl) (by first | omega | (simp only [zl_0]; first | done | omega) | decide | assumption | rfl)) (cwV 2 hT (gV_in mw_795 mw_792 mw_794 mw_p2_3 mw_7) rfl rfl rfl (by decide +kernel) ⟨Nat.le_of_ble_eq_true rfl, Nat.le_of_ble_eq_true rfl⟩) (kRecvX (q0 := 3) (ci := 0) hK hP hD hN hXS hS hA rfl rfl [3, 4, 5, 0, 1, 6, 8, 9, 10, 12] rfl (by decide)) rfl rfl hl.1 rfl (lv_room (Nat.le_of_ble_eq_true rfl)) dX0_find_13 ⟨Nat.le_of_ble_eq_true rfl, Nat.le_of_ble_eq_true rfl⟩) hP hD hS hA [3, 4, 5, 0, 1, 6, 8, 9, 10, 12] [2, 7, 11, 13] rfl rfl (by decide) (by decide) ?_
  clear hP hD hS
  intro u_16 H locs w_13 hP hD hS
  obtain ⟨sc2_14, sc3_15⟩ := u_16
  replace hP : va_P D vwCl [(k4, .inl (cI, 60, .inl c4)), (o0, .inl (cI, 12, .inl d0)), (o43, .inl (cI, 60, .inl d43)), (o46, .inl (cI, 40, .inl d46)), (k, .inr (0, [.ref k0, .ref k1, .ref k2, .ref k3, .ref k4, .int 0])), (k0, .inl (cI, 41, .inl sc0_8)), (k1, .inl (cI, 41, .inl sc1_9)), (k2, .inl (cI, 60, .inl sc2_14)), (k3, .inl (cI, 60, .inl sc3_15)), (o, .inr (9, [.ref o0, .ref o1, .ref o2, .ref o3, .ref o4, .ref o5, .int d6, .int d7, .int d8])), (o4, .inr (8, [.ref o40, .ref o41, .ref o42, .ref o43, .ref o44, .ref o45, .ref o46, .ref o47, .ref o48, .int d49])), (o40, .inl (cI, 60, .inl d40)), (o41, .inl (cI, 60, .inl d41)), (o45, .inl (cI, 60, .inl d45))] H := hP
  replace hD : va_D A [(k4, .inl (cI, 60, .inl c4)), (o0, .inl (cI, 12, .inl d0)), (o43, .inl (cI, 60, .inl d43)), (o46, .inl (cI, 40, .inl d46)), (k, .inr (0, [.ref k0, .ref k1, .ref k2, .ref k3, .ref k4, .int 0])), (k0, .inl (cI, 41, .inl sc0_8)), (k1, .inl (cI, 41, .inl sc1_9)), (k2, .inl (cI, 60, .inl sc2_14)), (k3, .inl (cI, 60, .inl sc3_15)), (o, .inr (9, [.ref o0, .ref o1, .ref o2, .ref o3, .ref o4, .ref o5, .int d6, .int d7, .int d8])), (o4, .inr (8, [.ref o40, .ref o41, .ref o42, .ref o43, .ref o44, .ref o45, .ref o46, .ref o47, .ref o48, .int d49])), (o40, .inl (cI, 60, .inl d40)), (o41, .inl (cI, 60, .inl d41)), (o45, .inl (cI, 60, .inl d45))] := hD
  have h_17 := w_13
  have h_17 : FAR gx a2 sc2_14 := h_17
  have b_18 : 0 ≤ (sc2_14 a1.toNatClampNeg).toInt ∧ (sc2_14 a1.toNatClampNeg).toInt ≤ 60 := FAR.at h_17 (by omega) (by omega)
  refine lv_aload_n hx hb dX0_find_16 rfl (lv_at hl 1 rfl) ?_
  refine va_get (D := D) (ci := 9) (v := .ref o4) (C := RX9) (T := TX9) (N := 9) hx hb hT giX9 hown hK hP 9 rfl rfl 4 (by decide) (hT (Cond.fieldLink RX0 43 "DesertWire$World" "works" "LDesertWire$Works;") mw_98) (fun _ h9 => h9) rfl dX0_find_17 ?_
  refine lv_iload_n hx hb dX0_find_20 rfl (lv_at hl 2 rfl) ?_
  refine kJi (wr := [(k4, .inl (cI, 60, .inl c4)), (o0, .inl (cI, 12, .inl d0)), (o43, .inl (cI, 60, .inl d43)), (o46, .inl (cI, 40, .inl d46)), (k, .inr (0, [.ref k0, .ref k1, .ref k2, .ref k3, .ref k4, .int 0])), (k0, .inl (cI, 41, .inl sc0_8)), (k1, .inl (cI, 41, .inl sc1_9)), (k2, .inl (cI, 60, .inl sc2_14)), (k3, .inl (cI, 60, .inl sc3_15)), (o, .inr (9, [.ref o0, .ref o1, .ref o2, .ref o3, .ref o4, .ref o5, .int d6, .int d7, .int d8])), (o40, .inl (cI, 60, .inl d40)), (o41, .inl (cI, 60, .inl d41)), (o45, .inl (cI, 60, .inl d45))]) (va_runV (As := [.int a1]) (rest := []) ⟨hx, hb, hml, hown, hT⟩ (c_X8_hasG l D cI aK aV o4 o40 o41 o42 o43 o44 o45 o46 o47 o48 H.size d49 a1) (cwV 1 hT (gV_in mw_371 mw_796 mw_369 mw_370 mw_3) rfl rfl rfl (by decide +kernel) ⟨Nat.le_of_ble_eq_true rfl, Nat.le_of_ble_eq_true rfl⟩) (kRecvX (q0 := 10) (ci := 8) hK hP hD hN hXS hS hA rfl rfl [10] rfl (by decide)) rfl rfl hl.1 rfl (lv_room (Nat.le_of_ble_eq_true rfl)) dX0_find_21 ⟨Nat.le_of_ble_eq_true rfl, Nat.le_of_ble_eq_true rfl⟩) hP hD hS hA [10] [0, 1, 2, 3, 4, 5, 6, 7, 8, 9, 11, 12, 13] rfl rfl (by decide) (by decide) ?_
  clear hP hD hS
  intro r_19 u_21 H locs w_20 hP hD hS
  replace hP : va_P D vwCl [(k4, .inl (cI, 60, .inl c4)), (o0, .inl (cI, 12, .inl d0)), (o43, .inl (cI, 60, .inl d43)), (o46, .inl (cI, 40, .inl d46)), (k, .inr (0, [.ref k0, .ref k1, .ref k2, .ref k3, .ref k4, .int 0])), (k0, .inl (cI, 41, .inl sc0_8)), (k1, .inl (cI, 41, .inl sc1_9)), (k2, .inl (cI, 60, .inl sc2_14)), (k3, .inl (cI, 60, .inl sc3_15)), (o, .inr (9, [.ref o0, .ref o1, .ref o2, .ref o3, .ref o4, .ref o5, .int d6, .int d7, .int d8])), (o40, .inl (cI, 60, .inl d40)), (o41, .inl (cI, 60, .inl d41)), (o45, .inl (cI, 60, .inl d45)), (o4, .inr (8, [.ref o40, .ref o41, .ref o42, .ref o43, .ref o44, .ref o45, .ref o46, .ref o47, .ref o48, .int d49]))] H := hP
  replace hD : va_D A [(k4, .inl (cI, 60, .inl c4)), (o0, .inl (cI, 12, .inl d0)), (o43, .inl (cI, 60, .inl d43)), (o46, .inl (cI, 40, .inl d46)), (k, .inr (0, [.ref k0, .ref k1, .ref k2, .ref k3, .ref k4, .int 0])), (k0, .inl (cI, 41, .inl sc0_8)), (k1, .inl (cI, 41, .inl sc1_9)), (k2, .inl (cI, 60, .inl sc2_14)), (k3, .inl (cI, 60, .inl sc3_15)), (o, .inr (9, [.ref o0, .ref o1, .ref o2, .ref o3, .ref o4, .ref o5, .int d6, .int d7, .int d8])), (o40, .inl (cI, 60, .inl d40)), (o41, .inl (cI, 60, .inl d41)), (o45, .inl (cI, 60, .inl d45)), (o4, .inr (8, [.ref o40, .ref o41, .ref o42, .ref o43, .ref o44, .ref o45, .ref o46, .ref o47, .ref o48, .int d49]))] := hD
  rcases w_20 with ⟨hr_19, h_22, h_23, h_24⟩ | ⟨hr_19, h_25⟩
  · have h_22 : 0 ≤ a1.toInt := h_22
    have h_23 : a1.toInt < d49.toInt := h_23
    have h_24 : a1.toInt < 60 := h_24
    obtain rfl : r_19 = 1 := hr_19.trans (by decide)
    refine b_if_eq hx hb zl_1 (tgt := 36) dX0_find_24 (by decide) (fun c_26 => by exfalso; omega) (fun c_26 => ?_)
    refine lv_aload_n hx hb dX0_find_27 rfl (lv_at hl 0 rfl) ?_
    refine va_get (D := D) (ci := 0) (v := .ref k2) (C := RX0) (T := TX0) (N := 6) hx hb hT giX0 hown hK hP 4 rfl rfl 2 (by decide) (hT (Cond.fieldLink RX0 18 "DesertWire$Hands" "far" "[I") mw_201) (fun _ h9 => h9) rfl dX0_find_28 ?_
    refine lv_iload_n hx hb dX0_find_31 rfl (lv_at hl 2 rfl) ?_
    refine k_iald (v := (sc2_14 a1.toNatClampNeg)) hx hb hK hP 7 0 rfl rfl (k_in (by omega) (by omega)) rfl dX0_find_32 ?_
    refine lv_topi (fun v_27 ev_27 => ?_)
    have lo_v_27 := k_lo v_27
    have hi_v_27 := k_hi v_27
    have tv_27 : v_27.toInt = (sc2_14 a1.toNatClampNeg).toInt := by rw [ev_27]
    refine b_if_ne hx hb rfl (tgt := 38) dX0_find_33 (by decide) (fun c_28 => ?_) (fun c_28 => ?_)
    · refine lv_iload_n hx hb dX0_find_38 rfl (lv_at hl 2 rfl) ?_
      refine lv_istore (lv' := [(4, .int a1), (0, .ref k), (1, .ref o), (2, .int a1), (3, .int a2)]) hx hb dX0_find_39 hl (by decide) rfl ?_
      clear hl
      intro ls hl
      refine lv_aload_n hx hb dX0_find_41 rfl (lv_at hl 1 rfl) ?_
      refine va_get (D := D) (ci := 0) (v := .ref k4) (C := RX0) (T := TX0) (N := 6) hx hb hT giX0 hown hK hP 4 rfl rfl 4 (by decide) (hT (Cond.fieldLink RX0 24 "DesertWire$Hands" "stations" "[I") mw_203) (fun _ h9 => h9) rfl dX0_find_42 ?_
      refine lv_iconst (v := 0) hx hb dX0_find_45 (by decide) ?_
      refine lv_iload_n hx hb dX0_find_46 rfl (lv_at hl 3 rfl) ?_
      refine va_iast hx hb hK hP hD hS 0 0 rfl rfl (k_inl (by decide)) dX0_find_47 ?_
      clear hP hD hS
      intro H locs hP hD hS
      replace hP : va_P D vwCl [(k4, .inl (cI, 60, .inl (upd c4 0 a1))), (o0, .inl (cI, 12, .inl d0)), (o43, .inl (cI, 60, .inl d43)), (o46, .inl (cI, 40, .inl d46)), (k, .inr (0, [.ref k0, .ref k1, .ref k2, .ref k3, .ref k4, .int 0])), (k0, .inl (cI, 41, .inl sc0_8)), (k1, .inl (cI, 41, .inl sc1_9)), (k2, .inl (cI, 60, .inl sc2_14)), (k3, .inl (cI, 60, .inl sc3_15)), (o, .inr (9, [.ref o0, .ref o1, .ref o2, .ref o3, .ref o4, .ref o5, .int d6, .int d7, .int d8])), (o40, .inl (cI, 60, .inl d40)), (o41, .inl (cI, 60, .inl d41)), (o45, .inl (cI, 60, .inl d45)), (o4, .inr (8, [.ref o40, .ref o41, .ref o42, .ref o43, .ref o44, .ref o45, .ref o46, .ref o47, .ref o48, .int d49]))] H := hP
      replace hD : va_D A [(k4, .inl (cI, 60, .inl (upd c4 0 a1))), (o0, .inl (cI, 12, .inl d0)), (o43, .inl (cI, 60, .inl d43)), (o46, .inl (cI, 40, .inl d46)), (k, .inr (0, [.ref k0, .ref k1, .ref k2, .ref k3, .ref k4, .int 0])), (k0, .inl (cI, 41, .inl sc0_8)), (k1, .inl (cI, 41, .inl sc1_9)), (k2, .inl (cI, 60, .inl sc2_14)), (k3, .inl (cI, 60, .inl sc3_15)), (o, .inr (9, [.ref o0, .ref o1, .ref o2, .ref o3, .ref o4, .ref o5, .int d6, .int d7, .int d8])), (o40, .inl (cI, 60, .inl d40)), (o41, .inl (cI, 60, .inl d41)), (o45, .inl (cI, 60, .inl d45)), (o4, .inr (8, [.ref o40, .ref o41, .ref o42, .ref o43, .ref o44, .ref o45, .ref o46, .ref o47, .ref o48, .int d49]))] := hD
      obtain ⟨f_29, ef_29⟩ : ∃ g : Nat → Int32, g = upd c4 0 a1 := ⟨_, rfl⟩
      rw [← ef_29] at hP hD
      refine lv_aload_n hx hb dX0_find_48 rfl (lv_at hl 1 rfl) ?_
      refine lv_iconst (v := 1) hx hb dX0_find_49 (by decide) ?_
      refine va_put (D := D) (ci := 0) (v := .int 1) (ty := .int) (C := RX0) (T := TX0) (N := 6) hx hb hT giX0 tyX0 tyX0_ok nmX0 hown hK hP hD hS 4 rfl rfl 5 (by decide) (hT (Cond.fieldLink RX0 27 "DesertWire$Hands" "length" "I") mw_204) (fun _ h9 => h9) rfl (by decide +kernel) rfl rfl (Nat.le_of_ble_eq_true rfl) dX0_find_50 ?_
      clear hP hD hS
      intro H locs hP hD hS
      replace hP : va_P D vwCl [(k4, .inl (cI, 60, .inl f_29)), (o0, .inl (cI, 12, .inl d0)), (o43, .inl (cI, 60, .inl d43)), (o46, .inl (cI, 40, .inl d46)), (k, .inr (0, [.ref k0, .ref k1, .ref k2, .ref k3, .ref k4, .int 1])), (k0, .inl (cI, 41, .inl sc0_8)), (k1, .inl (cI, 41, .inl sc1_9)), (k2, .inl (cI, 60, .inl sc2_14)), (k3, .inl (cI, 60, .inl sc3_15)), (o, .inr (9, [.ref o0, .ref o1, .ref o2, .ref o3, .ref o4, .ref o5, .int d6, .int d7, .int d8])), (o40, .inl (cI, 60, .inl d40)), (o41, .inl (cI, 60, .inl d41)), (o45, .inl (cI, 60, .inl d45)), (o4, .inr (8, [.ref o40, .ref o41, .ref o42, .ref o43, .ref o44, .ref o45, .ref o46, .ref o47, .ref o48, .int d49]))] H := hP
      replace hD : va_D A [(k4, .inl (cI, 60, .inl f_29)), (o0, .inl (cI, 12, .inl d0)), (o43, .inl (cI, 60, .inl d43)), (o46, .inl (cI, 40, .inl d46)), (k, .inr (0, [.ref k0, .ref k1, .ref k2, .ref k3, .ref k4, .int 1])), (k0, .inl (cI, 41, .inl sc0_8)), (k1, .inl (cI, 41, .inl sc1_9)), (k2, .inl (cI, 60, .inl sc2_14)), (k3, .inl (cI, 60, .inl sc3_15)), (o, .inr (9, [.ref o0, .ref o1, .ref o2, .ref o3, .ref o4, .ref o5, .int d6, .int d7, .int d8])), (o40, .inl (cI, 60, .inl d40)), (o41, .inl (cI, 60, .inl d41)), (o45, .inl (cI, 60, .inl d45)), (o4, .inr (8, [.ref o40, .ref o41, .ref o42, .ref o43, .ref o44, .ref o45, .ref o46, .ref o47, .ref o48, .int d49]))] := hD
      refine lv_aload_n hx hb dX0_find_53 rfl (lv_at hl 1 rfl) ?_
      refine va_get (D := D) (ci := 0) (v := .ref k2) (C := RX0) (T := TX0) (N := 6) hx hb hT giX0 hown hK hP 4 rfl rfl 2 (by decide) (hT (Cond.fieldLink RX0 18 "DesertWire$Hands" "far" "[I") mw_201) (fun _ h9 => h9) rfl dX0_find_54 ?_
      refine lv_iload_n hx hb dX0_find_57 rfl (lv_at hl 3 rfl) ?_
      refine k_iald (v := (sc2_14 a1.toNatClampNeg)) hx hb hK hP 7 0 rfl rfl (k_in (by omega) (by omega)) rfl dX0_find_58 ?_
      refine lv_topi (fun v_30 ev_30 => ?_)
      have lo_v_30 := k_lo v_30
      have hi_v_30 := k_hi v_30
      have tv_30 : v_30.toInt = (sc2_14 a1.toNatClampNeg).toInt := by rw [ev_30]
      refine lv_iconst (v := 1) hx hb dX0_find_59 (by decide) ?_
      refine lv_isub hx hb dX0_find_60 ?_
      refine lv_topi (fun v_31 ev_31 => ?_)
      have tv_31 : v_31.toInt = v_30.toInt - 1 := by rw [ev_31]; exact k_subv rfl zl_1 (by omega) (by omega)
      refine lv_istore (lv' := [(5, .int v_31), (4, .int a1), (0, .ref k), (1, .ref o), (2, .int a1), (3, .int a2)]) hx hb dX0_find_61 hl (by decide) rfl ?_
      clear hl
      intro ls hl
      have hloop_63 : ∀ (fu_ : Nat) (l63_4 : Int32) (l63_5 : Int32) (f63_k5 : Int32) (g63_k4 : Nat → Int32), l63_5.toInt ≤ v_31.toInt → 1 ≤ f63_k5.toInt → 1 ≤ f63_k5.toInt → f63_k5.toInt ≤ 60 → f63_k5.toInt + l63_5.toInt = (sc2_14 a1.toNatClampNeg).toInt → 0 ≤ l63_5.toInt → (sc2_14 l63_4.toNatClampNeg).toInt = l63_5.toInt + 1 → 0 ≤ l63_4.toInt → l63_4.toInt < d49.toInt → (wW gx l63_4 0).toInt = 3 → WAY gx (gD sc2_14) a1 g63_k4 f63_k5.toInt l63_4 → l63_5.toInt.toNat < fu_ → ∀ (ls : Array Slot) (H : Heap) (locs : List Loc), lv_has ls 6 [(5, .int l63_5), (4, .int l63_4), (0, .ref k), (1, .ref o), (2, .int a1), (3, .int a2)] → va_P D vwCl [(k4, .inl (cI, 60, .inl g63_k4)), (o0, .inl (cI, 12, .inl d0)), (o43, .inl (cI, 60, .inl d43)), (o46, .inl (cI, 40, .inl d46)), (k, .inr (0, [.ref k0, .ref k1, .ref k2, .ref k3, .ref k4, .int f63_k5])), (k0, .inl (cI, 41, .inl sc0_8)), (k1, .inl (cI, 41, .inl sc1_9)), (k2, .inl (cI, 60, .inl sc2_14)), (k3, .inl (cI, 60, .inl sc3_15)), (o, .inr (9, [.ref o0, .ref o1, .ref o2, .ref o3, .ref o4, .ref o5, .int d6, .int d7, .int d8])), (o40, .inl (cI, 60, .inl d40)), (o41, .inl (cI, 60, .inl d41)), (o45, .inl (cI, 60, .inl d45)), (o4, .inr (8, [.ref o40, .ref o41, .ref o42, .ref o43, .ref o44, .ref o45, .ref o46, .ref o47, .ref o48, .int d49]))] H → va_D A [(k4, .inl (cI, 60, .inl g63_k4)), (o0, .inl (cI, 12, .inl d0)), (o43, .inl (cI, 60, .inl d43)), (o46, .inl (cI, 40, .inl d46)), (k, .inr (0, [.ref k0, .ref k1, .ref k2, .ref k3, .ref k4, .int f63_k5])), (k0, .inl (cI, 41, .inl sc0_8)), (k1, .inl (cI, 41, .inl sc1_9)), (k2, .inl (cI, 60, .inl sc2_14)), (k3, .inl (cI, 60, .inl sc3_15)), (o, .inr (9, [.ref o0, .ref o1, .ref o2, .ref o3, .ref o4, .ref o5, .int d6, .int d7, .int d8])), (o40, .inl (cI, 60, .inl d40)), (o41, .inl (cI, 60, .inl d41)), (o45, .inl (cI, 60, .inl d45)), (o4, .inr (8, [.ref o40, .ref o41, .ref o42, .ref o43, .ref o44, .ref o45, .ref o46, .ref o47, .ref o48, .int d49]))] → va_S A s.heap H locs → W p l e ({ frames := 5, cells := 0, slots := 0, locals := 118 } : Room) s m args below meth c H locs 0 0 Q (F0 m 63 ls []) := by
        intro fu_; induction fu_ with
        | zero => intro l63_4 l63_5 f63_k5 g63_k4 i63_0 i63_1 i63_2 i63_3 i63_4 i63_5 i63_6 i63_7 i63_8 i63_9 i63_10 hm; exact absurd hm (by omega)
        | succ fu_ ih63 =>
            intro l63_4 l63_5 f63_k5 g63_k4 i63_0 i63_1 i63_2 i63_3 i63_4 i63_5 i63_6 i63_7 i63_8 i63_9 i63_10 hm ls H locs hl hP hD hS
            have lo_l63_4 := k_lo l63_4
            have hi_l63_4 := k_hi l63_4
            have lo_l63_5 := k_lo l63_5
            have hi_l63_5 := k_hi l63_5
            have lo_f63_k5 := k_lo f63_k5
            have hi_f63_k5 := k_hi f63_k5
            have i63_10 : WAY gx (gD sc2_14) a1 g63_k4 f63_k5.toInt l63_4 := i63_10
            refine lv_iload hx hb dX0_find_63 (lv_at hl 0 rfl) ?_
            refine b_if_le hx hb rfl (tgt := 115) dX0_find_65 (by decide) (fun c_32 => ?_) (fun c_32 => ?_)
            · refine lv_aload_n hx hb dX0_find_115 rfl (lv_at hl 2 rfl) ?_
              refine va_get (D := D) (ci := 0) (v := .int f63_k5) (C := RX0) (T := TX0) (N := 6) hx hb hT giX0 hown hK hP 4 rfl rfl 5 (by decide) (hT (Cond.fieldLink RX0 27 "DesertWire$Hands" "length" "I") mw_204) (fun _ h9 => h9) rfl dX0_find_116 ?_
              exact hRet (f63_k5, sc0_8, sc1_9, sc2_14, sc3_15, g63_k4) [4, 5, 6, 7, 8, 0, 9, 1, 13, 10, 11, 2, 12, 3] ⟨(WAY.hnf i63_10 (And.left h_17) ⟨by omega, by omega⟩ (by omega) (gD_0 (by omega))), (by first | omega | decide | assumption | rfl | (dsimp only; first | omega)), (by first | omega | decide | assumption | rfl | (dsimp only; first | omega)), (by first | omega | decide | assumption | rfl | (dsimp only; first | omega))⟩ hP hD (by decide) rfl hS rfl dX0_find_119
            · refine lv_aload_n hx hb dX0_find_68 rfl (lv_at hl 2 rfl) ?_
              refine va_get (D := D) (ci := 0) (v := .int f63_k5) (C := RX0) (T := TX0) (N := 6) hx hb hT giX0 hown hK hP 4 rfl rfl 5 (by decide) (hT (Cond.fieldLink RX0 27 "DesertWire$Hands" "length" "I") mw_204) (fun _ h9 => h9) rfl dX0_find_69 ?_
              refine lv_bipush (v := 60) hx hb dX0_find_72 (by decide) ?_
              refine b_icmp_ge hx hb rfl zl_60 (tgt := 115) dX0_find_74 (by decide) (fun c_33 => by exfalso; omega) (fun c_33 => ?_)
              refine lv_aload_n hx hb dX0_find_77 rfl (lv_at hl 2 rfl) ?_
              refine lv_aload_n hx hb dX0_find_78 rfl (lv_at hl 3 rfl) ?_
              refine lv_iload hx hb dX0_find_79 (lv_at hl 1 rfl) ?_
              refine lv_iload hx hb dX0_find_81 (lv_at hl 0 rfl) ?_
              refine kJi (wr := [(k4, .inl (cI, 60, .inl g63_k4)), (o0, .inl (cI, 12, .inl d0)), (o43, .inl (cI, 60, .inl d43)), (o46, .inl (cI, 40, .inl d46)), (k3, .inl (cI, 60, .inl sc3_15))]) (va_runV (As := [.ref o, .int l63_4, .int l63_5]) (rest := []) ⟨hx, hb, hml, hown, hT⟩ (c_X0_nextHandD l D cI aK aV k o k0 k1 k2 k3 k4 o0 o1 o2 o3 o4 o5 o40 o41 o42 o43 o44 o45 o46 o47 o48 H.size f63_k5 sc0_8 sc1_9 sc2_14 d6 d7 d8 d49 d40 d41 d45 d0 d1 d2 d3 d42 d43 d44 d46 d47 d48 d50 d51 gx l63_4 l63_5 pre0 pre1 (by first | omega | decide | assumption | rfl) (by first | omega | decide | assumption | rfl) (by first | omega | decide | assumption | rfl) (by first | omega | decide | assumption | rfl) (by first | omega | decide | assumption | rfl) (FAR.nxe h_17 (by omega) (by omega) (by omega)) (by first | omega | decide | assumption | rfl)) (cwV 3 hT (gV_in mw_810 mw_807 mw_809 mw_p2_6 mw_7) rfl rfl rfl (by decide +kernel) ⟨Nat.le_of_ble_eq_true rfl, Nat.le_of_ble_eq_true rfl⟩) (kRecvX (q0 := 4) (ci := 0) hK hP hD hN hXS hS hA rfl rfl [4, 5, 6, 7, 9, 13, 10, 11, 12] rfl (by decide)) rfl rfl hl.1 rfl (lv_room (Nat.le_of_ble_eq_true rfl)) dX0_find_83 ⟨Nat.le_of_ble_eq_true rfl, Nat.le_of_ble_eq_true rfl⟩) hP hD hS hA [4, 5, 6, 7, 9, 13, 10, 11, 12] [0, 1, 2, 3, 8] rfl rfl (by decide) (by decide) ?_
              clear hP hD hS
              intro r_34 u_36 H locs w_35 hP hD hS
              replace hP : va_P D vwCl [(k4, .inl (cI, 60, .inl g63_k4)), (o0, .inl (cI, 12, .inl d0)), (o43, .inl (cI, 60, .inl d43)), (o46, .inl (cI, 40, .inl d46)), (k3, .inl (cI, 60, .inl sc3_15)), (k, .inr (0, [.ref k0, .ref k1, .ref k2, .ref k3, .ref k4, .int f63_k5])), (k0, .inl (cI, 41, .inl sc0_8)), (k1, .inl (cI, 41, .inl sc1_9)), (k2, .inl (cI, 60, .inl sc2_14)), (o, .inr (9, [.ref o0, .ref o1, .ref o2, .ref o3, .ref o4, .ref o5, .int d6, .int d7, .int d8])), (o4, .inr (8, [.ref o40, .ref o41, .ref o42, .ref o43, .ref o44, .ref o45, .ref o46, .ref o47, .ref o48, .int d49])), (o40, .inl (cI, 60, .inl d40)), (o41, .inl (cI, 60, .inl d41)), (o45, .inl (cI, 60, .inl d45))] H := hP
              replace hD : va_D A [(k4, .inl (cI, 60, .inl g63_k4)), (o0, .inl (cI, 12, .inl d0)), (o43, .inl (cI, 60, .inl d43)), (o46, .inl (cI, 40, .inl d46)), (k3, .inl (cI, 60, .inl sc3_15)), (k, .inr (0, [.ref k0, .ref k1, .ref k2, .ref k3, .ref k4, .int f63_k5])), (k0, .inl (cI, 41, .inl sc0_8)), (k1, .inl (cI, 41, .inl sc1_9)), (k2, .inl (cI, 60, .inl sc2_14)), (o, .inr (9, [.ref o0, .ref o1, .ref o2, .ref o3, .ref o4, .ref o5, .int d6, .int d7, .int d8])), (o4, .inr (8, [.ref o40, .ref o41, .ref o42, .ref o43, .ref o44, .ref o45, .ref o46, .ref o47, .ref o48, .int d49])), (o40, .inl (cI, 60, .inl d40)), (o41, .inl (cI, 60, .inl d41)), (o45, .inl (cI, 60, .inl d45))] := hD
              have h_37 := w_35
              have h_37 : NXT gx (gD sc2_14) l63_4 r_34 := h_37
              have b_38 : 0 ≤ r_34.toInt ∧ r_34.toInt < (gx 1).toInt ∧ (wW gx r_34 0).toInt = 3 ∧ (sc2_14 r_34.toNatClampNeg).toInt + 1 = (sc2_14 l63_4.toNatClampNeg).toInt := NXT.nf h_37
              have lo_r_34 := k_lo r_34
              have hi_r_34 := k_hi r_34
              refine lv_istore (lv' := [(4, .int r_34), (5, .int l63_5), (0, .ref k), (1, .ref o), (2, .int a1), (3, .int a2)]) hx hb dX0_find_86 hl (by decide) rfl ?_
              clear hl
              intro ls hl
              refine lv_aload_n hx hb dX0_find_88 rfl (lv_at hl 2 rfl) ?_
              refine va_get (D := D) (ci := 0) (v := .ref k4) (C := RX0) (T := TX0) (N := 6) hx hb hT giX0 hown hK hP 5 rfl rfl 4 (by decide) (hT (Cond.fieldLink RX0 24 "DesertWire$Hands" "stations" "[I") mw_203) (fun _ h9 => h9) rfl dX0_find_89 ?_
              refine lv_aload_n hx hb dX0_find_92 rfl (lv_at hl 2 rfl) ?_
              refine va_get (D := D) (ci := 0) (v := .int f63_k5) (C := RX0) (T := TX0) (N := 6) hx hb hT giX0 hown hK hP 5 rfl rfl 5 (by decide) (hT (Cond.fieldLink RX0 27 "DesertWire$Hands" "length" "I") mw_204) (fun _ h9 => h9) rfl dX0_find_93 ?_
              refine lv_iload hx hb dX0_find_96 (lv_at hl 0 rfl) ?_
              refine va_iast hx hb hK hP hD hS 0 0 rfl rfl (k_in (by omega) (by omega)) dX0_find_98 ?_
              clear hP hD hS
              intro H locs hP hD hS
              replace hP : va_P D vwCl [(k4, .inl (cI, 60, .inl (upd g63_k4 f63_k5.toNatClampNeg r_34))), (o0, .inl (cI, 12, .inl d0)), (o43, .inl (cI, 60, .inl d43)), (o46, .inl (cI, 40, .inl d46)), (k3, .inl (cI, 60, .inl sc3_15)), (k, .inr (0, [.ref k0, .ref k1, .ref k2, .ref k3, .ref k4, .int f63_k5])), (k0, .inl (cI, 41, .inl sc0_8)), (k1, .inl (cI, 41, .inl sc1_9)), (k2, .inl (cI, 60, .inl sc2_14)), (o, .inr (9, [.ref o0, .ref o1, .ref o2, .ref o3, .ref o4, .ref o5, .int d6, .int d7, .int d8])), (o4, .inr (8, [.ref o40, .ref o41, .ref o42, .ref o43, .ref o44, .ref o45, .ref o46, .ref o47, .ref o48, .int d49])), (o40, .inl (cI, 60, .inl d40)), (o41, .inl (cI, 60, .inl d41)), (o45, .inl (cI, 60, .inl d45))] H := hP
              replace hD : va_D A [(k4, .inl (cI, 60, .inl (upd g63_k4 f63_k5.toNatClampNeg r_34))), (o0, .inl (cI, 12, .inl d0)), (o43, .inl (cI, 60, .inl d43)), (o46, .inl (cI, 40, .inl d46)), (k3, .inl (cI, 60, .inl sc3_15)), (k, .inr (0, [.ref k0, .ref k1, .ref k2, .ref k3, .ref k4, .int f63_k5])), (k0, .inl (cI, 41, .inl sc0_8)), (k1, .inl (cI, 41, .inl sc1_9)), (k2, .inl (cI, 60, .inl sc2_14)), (o, .inr (9, [.ref o0, .ref o1, .ref o2, .ref o3, .ref o4, .ref o5, .int d6, .int d7, .int d8])), (o4, .inr (8, [.ref o40, .ref o41, .ref o42, .ref o43, .ref o44, .ref o45, .ref o46, .ref o47, .ref o48, .int d49])), (o40, .inl (cI, 60, .inl d40)), (o41, .inl (cI, 60, .inl d41)), (o45, .inl (cI, 60, .inl d45))] := hD
              obtain ⟨f_39, ef_39⟩ : ∃ g : Nat → Int32, g = upd g63_k4 f63_k5.toNatClampNeg r_34 := ⟨_, rfl⟩
              rw [← ef_39] at hP hD
              refine lv_aload_n hx hb dX0_find_99 rfl (lv_at hl 2 rfl) ?_
              refine lv_dup hx hb dX0_find_100 rfl ?_
              refine va_get (D := D) (ci := 0) (v := .int f63_k5) (C := RX0) (T := TX0) (N := 6) hx hb hT giX0 hown hK hP 5 rfl rfl 5 (by decide) (hT (Cond.fieldLink RX0 27 "DesertWire$Hands" "length" "I") mw_204) (fun _ h9 => h9) rfl dX0_find_101 ?_
              refine lv_iconst (v := 1) hx hb dX0_find_104 (by decide) ?_
              refine lv_iadd hx hb dX0_find_105 ?_
              refine lv_topi (fun v_40 ev_40 => ?_)
              have tv_40 : v_40.toInt = f63_k5.toInt + 1 := by rw [ev_40]; exact k_addv rfl zl_1 (by omega) (by omega)
              refine va_put (D := D) (ci := 0) (v := .int v_40) (ty := .int) (C := RX0) (T := TX0) (N := 6) hx hb hT giX0 tyX0 tyX0_ok nmX0 hown hK hP hD hS 5 rfl rfl 5 (by decide) (hT (Cond.fieldLink RX0 27 "DesertWire$Hands" "length" "I") mw_204) (fun _ h9 => h9) rfl (by decide +kernel) rfl rfl (Nat.le_of_ble_eq_true rfl) dX0_find_106 ?_
              clear hP hD hS
              intro H locs hP hD hS
              replace hP : va_P D vwCl [(k4, .inl (cI, 60, .inl f_39)), (o0, .inl (cI, 12, .inl d0)), (o43, .inl (cI, 60, .inl d43)), (o46, .inl (cI, 40, .inl d46)), (k3, .inl (cI, 60, .inl sc3_15)), (k, .inr (0, [.ref k0, .ref k1, .ref k2, .ref k3, .ref k4, .int v_40])), (k0, .inl (cI, 41, .inl sc0_8)), (k1, .inl (cI, 41, .inl sc1_9)), (k2, .inl (cI, 60, .inl sc2_14)), (o, .inr (9, [.ref o0, .ref o1, .ref o2, .ref o3, .ref o4, .ref o5, .int d6, .int d7, .int d8])), (o4, .inr (8, [.ref o40, .ref o41, .ref o42, .ref o43, .ref o44, .ref o45, .ref o46, .ref o47, .ref o48, .int d49])), (o40, .inl (cI, 60, .inl d40)), (o41, .inl (cI, 60, .inl d41)), (o45, .inl (cI, 60, .inl d45))] H := hP
              replace hD : va_D A [(k4, .inl (cI, 60, .inl f_39)), (o0, .inl (cI, 12, .inl d0)), (o43, .inl (cI, 60, .inl d43)), (o46, .inl (cI, 40, .inl d46)), (k3, .inl (cI, 60, .inl sc3_15)), (k, .inr (0, [.ref k0, .ref k1, .ref k2, .ref k3, .ref k4, .int v_40])), (k0, .inl (cI, 41, .inl sc0_8)), (k1, .inl (cI, 41, .inl sc1_9)), (k2, .inl (cI, 60, .inl sc2_14)), (o, .inr (9, [.ref o0, .ref o1, .ref o2, .ref o3, .ref o4, .ref o5, .int d6, .int d7, .int d8])), (o4, .inr (8, [.ref o40, .ref o41, .ref o42, .ref o43, .ref o44, .ref o45, .ref o46, .ref o47, .ref o48, .int d49])), (o40, .inl (cI, 60, .inl d40)), (o41, .inl (cI, 60, .inl d41)), (o45, .inl (cI, 60, .inl d45))] := hD
              obtain ⟨v_41, ev_41⟩ : ∃ y : Int32, y = l63_5 + (-1) := ⟨_, rfl⟩
              have tv_41 : v_41.toInt = l63_5.toInt + (-1) := by rw [ev_41]; exact k_addv rfl zl_m1 (by omega) (by omega)
              refine lv_iinc (v := v_41) (lv' := [(5, .int v_41), (4, .int r_34), (0, .ref k), (1, .ref o), (2, .int a1), (3, .int a2)]) hx hb dX0_find_109 hl (k := 1) rfl (by rw [ev_41]; rfl) (by decide) rfl ?_
              clear hl
              intro ls hl
              refine lv_goto (tgt := 63) hx hb dX0_find_112 (by decide) ?_
              exact ih63 r_34 v_41 v_40 f_39 (by first | omega | decide | assumption | rfl) (by first | omega | decide | assumption | rfl) (by first | omega | decide | assumption | rfl) (by first | omega | decide | assumption | rfl) (by first | omega | decide | assumption | rfl) (by first | omega | decide | assumption | rfl) (by first | omega | decide | assumption | rfl) (by first | omega | decide | assumption | rfl) (by first | omega | decide | assumption | rfl) (by first | omega | decide | assumption | rfl) (WAY.step i63_10 h_37 (up_in ef_39 rfl) rfl (by omega)) (by omega) ls _ _ (lv_sub hl [0, 1, 2, 3, 4, 5] rfl) (hP.sub [0, 1, 2, 3, 5, 6, 7, 8, 4, 9, 11, 12, 13, 10] rfl) (hD.sub [0, 1, 2, 3, 5, 6, 7, 8, 4, 9, 11, 12, 13, 10] (by decide) rfl) hS
      exact hloop_63 _ a1 v_31 1 f_29 (by first | omega | (simp only [zl_1]; first | done | omega) | decide | assumption | rfl) (by first | omega | (simp only [zl_1]; first | done | omega) | decide | assumption | rfl) (by first | omega | (simp only [zl_1]; first | done | omega) | decide | assumption | rfl) (by first | omega | (simp only [zl_1]; first | done | omega) | decide | assumption | rfl) (by first | omega | (simp only [zl_1]; first | done | omega) | decide | assumption | rfl) (by first | omega | (simp only [zl_1]; first | done | omega) | decide | assumption | rfl) (by first | omega | (simp only [zl_1]; first | done | omega) | decide | assumption | rfl) (by first | omega | (simp only [zl_1]; first | done | omega) | decide | assumption | rfl) (by first | omega | (simp only [zl_1]; first | done | omega) | decide | assumption | rfl) (by first | omega | (simp only [zl_1]; first | done | omega) | decide | assumption | rfl) (WAY.init ⟨by omega, by omega⟩ ef_29 rfl (by have := zl_1; omega)) (Nat.lt_succ_self _) ls _ _ (lv_sub hl [0, 1, 2, 3, 4, 5] rfl) hP hD hS
    · refine lv_iconst (v := 0) hx hb dX0_find_36 (by decide) ?_
      exact hRet (0, sc0_8, sc1_9, sc2_14, sc3_15, c4) [4, 5, 6, 7, 8, 0, 9, 1, 13, 10, 11, 2, 12, 3] ⟨(HNF.no (And.left h_17) (gD_n (by omega)) zl_0), (by first | omega | (simp only [zl_0]; first | done | omega) | decide | assumption | rfl | (dsimp only; first | omega | (simp only [zl_0]; first | done | omega))), (by first | omega | (simp only [zl_0]; first | done | omega) | decide | assumption | rfl | (dsimp only; first | omega | (simp only [zl_0]; first | done | omega))), (by first | omega | (simp only [zl_0]; first | done | omega) | decide | assumption | rfl | (dsimp only; first | omega | (simp only [zl_0]; first | done | omega)))⟩ hP hD (by decide) rfl hS rfl dX0_find_37
  · exfalso; omega

set_option maxHeartbeats 4000000 in
set_option maxRecDepth 100000 in
theorem c_X0_stationAtD (l : Launch) (D : va_G) (cI : ClassId) (aK aV : Nat → Nat) (k k0 k1 k2 k3 k4 : Nat) (sz : Nat) (c5 : Int32) (c4 : Nat → Int32) (a0 : Int32) : Met l yX0_stationAt (gW yX0_stationAt cX0_stationAt 2 (some .int)) ({ frames := 0, cells := 0, slots := 0, locals := 0 } : Room) (kPreX D cI aK aV [.ref k, .int a0] [(k, .inr (0, [.ref k0, .ref k1, .ref k2, .ref k3, .ref k4, .int c5])), (k4, .inl (cI, 60, .inl c4))] sz) (va_Qi (fun (r : Int32) (u : Unit) => (0 ≤ a0.toInt ∧ a0.toInt < c5.toInt ∧ a0.toInt ≤ 59 ∧ r = c4 a0.toInt.toNat) ∨ (r = 0 ∧ (a0.toInt < 0 ∨ c5.toInt ≤ a0.toInt ∨ 59 < a0.toInt))) (fun u t => kWd D cI (va_A [(k, .inr (0, [.ref k0, .ref k1, .ref k2, .ref k3, .ref k4, .int c5])), (k4, .inl (cI, 60, .inl c4))] sz) [(k, .inr (0, [.ref k0, .ref k1, .ref k2, .ref k3, .ref k4, .int c5])), (k4, .inl (cI, 60, .inl c4))] t) (va_A [(k, .inr (0, [.ref k0, .ref k1, .ref k2, .ref k3, .ref k4, .int c5])), (k4, .inl (cI, 60, .inl c4))] sz)) 0 0 (va_A [(k, .inr (0, [.ref k0, .ref k1, .ref k2, .ref k3, .ref k4, .int c5])), (k4, .inl (cI, 60, .inl c4))] sz) := by
  refine kMetIX (own := RX0) (by decide) rfl (Nat.le_of_ble_eq_true rfl) ?_
  intro p e s m args below meth c hx hb hT hown hname hml A Q hK hP hD hS hA hN hXS hRet ls hl
  have hl : lv_has ls 2 [(0, .ref k), (1, .int a0)] := hl
  have lo_a0 := k_lo a0
  have hi_a0 := k_hi a0
  have lo_c5 := k_lo c5
  have hi_c5 := k_hi c5
  refine lv_iload_n hx hb dX0_stationAt_0 rfl (lv_at hl 1 rfl) ?_
  refine b_if_lt hx hb rfl (tgt := 27) dX0_stationAt_1 (by decide) (fun c_1 => ?_) (fun c_1 => ?_)
  · refine lv_iconst (v := 0) hx hb dX0_stationAt_27 (by decide) ?_
    exact hRet () [0, 1] (by first | exact Or.inl ⟨(by omega), (by omega), (by omega), (rd_in e0 rfl)⟩ | exact Or.inr (⟨rfl, (by omega)⟩)) hP hD (by decide) rfl hS rfl dX0_stationAt_28
  · refine lv_iload_n hx hb dX0_stationAt_4 rfl (lv_at hl 1 rfl) ?_
    refine lv_aload_n hx hb dX0_stationAt_5 rfl (lv_at hl 0 rfl) ?_
    refine va_get (D := D) (ci := 0) (v := .int c5) (C := RX0) (T := TX0) (N := 6) hx hb hT giX0 hown hK hP 0 rfl rfl 5 (by decide) (hT (Cond.fieldLink RX0 27 "DesertWire$Hands" "length" "I") mw_204) (fun _ h9 => h9) rfl dX0_stationAt_6 ?_
    refine b_icmp_ge hx hb rfl rfl (tgt := 27) dX0_stationAt_9 (by decide) (fun c_2 => ?_) (fun c_2 => ?_)
    · refine lv_iconst (v := 0) hx hb dX0_stationAt_27 (by decide) ?_
      exact hRet () [0, 1] (by first | exact Or.inl ⟨(by omega), (by omega), (by omega), (rd_in e0 rfl)⟩ | exact Or.inr (⟨rfl, (by omega)⟩)) hP hD (by decide) rfl hS rfl dX0_stationAt_28
    · refine lv_iload_n hx hb dX0_stationAt_12 rfl (lv_at hl 1 rfl) ?_
      refine lv_bipush (v := 60) hx hb dX0_stationAt_13 (by decide) ?_
      refine b_icmp_ge hx hb rfl zl_60 (tgt := 27) dX0_stationAt_15 (by decide) (fun c_3 => ?_) (fun c_3 => ?_)
      · refine lv_iconst (v := 0) hx hb dX0_stationAt_27 (by decide) ?_
        exact hRet () [0, 1] (by first | exact Or.inl ⟨(by omega), (by omega), (by omega), (rd_in e0 rfl)⟩ | exact Or.inr (⟨rfl, (by omega)⟩)) hP hD (by decide) rfl hS rfl dX0_stationAt_28
      · refine lv_aload_n hx hb dX0_stationAt_18 rfl (lv_at hl 0 rfl) ?_
        refine va_get (D := D) (ci := 0) (v := .ref k4) (C := RX0) (T := TX0) (N := 6) hx hb hT giX0 hown hK hP 0 rfl rfl 4 (by decide) (hT (Cond.fieldLink RX0 24 "DesertWire$Hands" "stations" "[I") mw_203) (fun _ h9 => h9) rfl dX0_stationAt_19 ?_
        refine lv_iload_n hx hb dX0_stationAt_22 rfl (lv_at hl 1 rfl) ?_
        refine k_iald (v := (c4 a0.toNatClampNeg)) hx hb hK hP 1 0 rfl rfl (k_in (by omega) (by omega)) rfl dX0_stationAt_23 ?_
        refine lv_topi (fun v_4 ev_4 => ?_)
        have lo_v_4 := k_lo v_4
        have hi_v_4 := k_hi v_4
        have tv_4 : v_4.toInt = (c4 a0.toNatClampNeg).toInt := by rw [ev_4]
        refine lv_goto (tgt := 28) hx hb dX0_stationAt_24 (by decide) ?_
        exact hRet () [0, 1] (by first | exact Or.inl ⟨(by omega), (by omega), (by omega), (rd_in ev_4 rfl)⟩ | exact Or.inr (⟨ev_4, (by omega)⟩)) hP hD (by decide) rfl hS rfl dX0_stationAt_28

set_option maxHeartbeats 4000000 in
set_option maxRecDepth 100000 in
theorem c_X10_handsD (l : Launch) (D : va_G) (cI : ClassId) (aK aV : Nat → Nat) (k k0 k1 k2 k3 k4 k5 k6 k7 k8 k9 ka kb k00 k01 k02 k03 k04 k05 k60 k61 k62 k63 k64 k040 k041 k042 k043 k044 k045 k046 k047 k048 : Nat) (sz : Nat) (cc : Int32) (c06 : Int32) (c07 : Int32) (c08 : Int32) (c65 : Int32) (cb : Nat → Int32) (c00 : Nat → Int32) (c049 : Int32) (c60 : Nat → Int32) (c61 : Nat → Int32) (c62 : Nat → Int32) (c63 : Nat → Int32) (c64 : Nat → Int32) (c040 : Nat → Int32) (c041 : Nat → Int32) (c043 : Nat → Int32) (c045 : Nat → Int32) (c046 : Nat → Int32) (c01 : Nat → Int32) (c02 : Nat → Int32) (c03 : Nat → Int32) (c042 : Nat → Int32) (c044 : Nat → Int32) (c047 : Nat → Int32) (c048 : Nat → Int32) (c050 : Nat → Int32) (c051 : Int32) (gx : Nat → Int32) (a0 : Int32) (a1 : Int32) (a2 : Int32) (pre0 : WR c00 c01 c02 c03 c040 c041 c042 c043 c044 c045 c046 c047 c048 c049 c050 c051 c06 c07 c08 gx) (pre1 : SB gx) (pre2 : NNG gx) : Met l yX10_hands (gW yX10_hands cX10_hands 5 (some .int)) ({ frames := 6, cells := 0, slots := 0, locals := 143 } : Room) (kPreX D cI aK aV [.ref k, .int a0, .int a1, .int a2] [(k, .inr (10, [.ref k0, .ref k1, .ref k2, .ref k3, .ref k4, .ref k5, .ref k6, .ref k7, .ref k8, .ref k9, .ref ka, .ref kb, .int cc])), (k0, .inr (9, [.ref k00, .ref k01, .ref k02, .ref k03, .ref k04, .ref k05, .int c06, .int c07, .int c08])), (k6, .inr (0, [.ref k60, .ref k61, .ref k62, .ref k63, .ref k64, .int c65])), (kb, .inl (cI, 6, .inl cb)), (k00, .inl (cI, 12, .inl c00)), (k04, .inr (8, [.ref k040, .ref k041, .ref k042, .ref k043, .ref k044, .ref k045, .ref k046, .ref k047, .ref k048, .int c049])), (k60, .inl (cI, 41, .inl c60)), (k61, .inl (cI, 41, .inl c61)), (k62, .inl (cI, 60, .inl c62)), (k63, .inl (cI, 60, .inl c63)), (k64, .inl (cI, 60, .inl c64)), (k040, .inl (cI, 60, .inl c040)), (k041, .inl (cI, 60, .inl c041)), (k043, .inl (cI, 60, .inl c043)), (k045, .inl (cI, 60, .inl c045)), (k046, .inl (cI, 40, .inl c046))] sz) (va_Qi (fun (r : Int32) (u : Int32 × (Nat → Int32) × (Nat → Int32) × (Nat → Int32) × (Nat → Int32) × (Nat → Int32) × (Nat → Int32)) => HND gx a0 a1 a2 r) (fun u t => kWd D cI (va_A [(k, .inr (10, [.ref k0, .ref k1, .ref k2, .ref k3, .ref k4, .ref k5, .ref k6, .ref k7, .ref k8, .ref k9, .ref ka, .ref kb, .int cc])), (k0, .inr (9, [.ref k00, .ref k01, .ref k02, .ref k03, .ref k04, .ref k05, .int c06, .int c07, .int c08])), (k6, .inr (0, [.ref k60, .ref k61, .ref k62, .ref k63, .ref k64, .int c65])), (kb, .inl (cI, 6, .inl cb)), (k00, .inl (cI, 12, .inl c00)), (k04, .inr (8, [.ref k040, .ref k041, .ref k042, .ref k043, .ref k044, .ref k045, .ref k046, .ref k047, .ref k048, .int c049])), (k60, .inl (cI, 41, .inl c60)), (k61, .inl (cI, 41, .inl c61)), (k62, .inl (cI, 60, .inl c62)), (k63, .inl (cI, 60, .inl c63)), (k64, .inl (cI, 60, .inl c64)), (k040, .inl (cI, 60, .inl c040)), (k041, .inl (cI, 60, .inl c041)), (k043, .inl (cI, 60, .inl c043)), (k045, .inl (cI, 60, .inl c045)), (k046, .inl (cI, 40, .inl c046))] sz) [(k, .inr (10, [.ref k0, .ref k1, .ref k2, .ref k3, .ref k4, .ref k5, .ref k6, .ref k7, .ref k8, .ref k9, .ref ka, .ref kb, .int cc])), (k0, .inr (9, [.ref k00, .ref k01, .ref k02, .ref k03, .ref k04, .ref k05, .int c06, .int c07, .int c08])), (k6, .inr (0, [.ref k60, .ref k61, .ref k62, .ref k63, .ref k64, .int u.1])), (kb, .inl (cI, 6, .inl u.2.1)), (k00, .inl (cI, 12, .inl c00)), (k04, .inr (8, [.ref k040, .ref k041, .ref k042, .ref k043, .ref k044, .ref k045, .ref k046, .ref k047, .ref k048, .int c049])), (k60, .inl (cI, 41, .inl u.2.2.1)), (k61, .inl (cI, 41, .inl u.2.2.2.1)), (k62, .inl (cI, 60, .inl u.2.2.2.2.1)), (k63, .inl (cI, 60, .inl u.2.2.2.2.2.1)), (k64, .inl (cI, 60, .inl u.2.2.2.2.2.2)), (k040, .inl (cI, 60, .inl c040)), (k041, .inl (cI, 60, .inl c041)), (k043, .inl (cI, 60, .inl c043)), (k045, .inl (cI, 60, .inl c045)), (k046, .inl (cI, 40, .inl c046))] t) (va_A [(k, .inr (10, [.ref k0, .ref k1, .ref k2, .ref k3, .ref k4, .ref k5, .ref k6, .ref k7, .ref k8, .ref k9, .ref ka, .ref kb, .int cc])), (k0, .inr (9, [.ref k00, .ref k01, .ref k02, .ref k03, .ref k04, .ref k05, .int c06, .int c07, .int c08])), (k6, .inr (0, [.ref k60, .ref k61, .ref k62, .ref k63, .ref k64, .int c65])), (kb, .inl (cI, 6, .inl cb)), (k00, .inl (cI, 12, .inl c00)), (k04, .inr (8, [.ref k040, .ref k041, .ref k042, .ref k043, .ref k044, .ref k045, .ref k046, .ref k047, .ref k048, .int c049])), (k60, .inl (cI, 41, .inl c60)), (k61, .inl (cI, 41, .inl c61)), (k62, .inl (cI, 60, .inl c62)), (k63, .inl (cI, 60, .inl c63)), (k64, .inl (cI, 60, .inl c64)), (k040, .inl (cI, 60, .inl c040)), (k041, .inl (cI, 60, .inl c041)), (k043, .inl (cI, 60, .inl c043)), (k045, .inl (cI, 60, .inl c045)), (k046, .inl (cI, 40, .inl c046))] sz)) 0 0 (va_A [(k, .inr (10, [.ref k0, .ref k1, .ref k2, .ref k3, .ref k4, .ref k5, .ref k6, .ref k7, .ref k8, .ref k9, .ref ka, .ref kb, .int cc])), (k0, .inr (9, [.ref k00, .ref k01, .ref k02, .ref k03, .ref k04, .ref k05, .int c06, .int c07, .int c08])), (k6, .inr (0, [.ref k60, .ref k61, .ref k62, .ref k63, .ref k64, .int c65])), (kb, .inl (cI, 6, .inl cb)), (k00, .inl (cI, 12, .inl c00)), (k04, .inr (8, [.ref k040, .ref k041, .ref k042, .ref k043, .ref k044, .ref k045, .ref k046, .ref k047, .ref k048, .int c049])), (k60, .inl (cI, 41, .inl c60)), (k61, .inl (cI, 41, .inl c61)), (k62, .inl (cI, 60, .inl c62)), (k63, .inl (cI, 60, .inl c63)), (k64, .inl (cI, 60, .inl c64)), (k040, .inl (cI, 60, .inl c040)), (k041, .inl (cI, 60, .inl c041)), (k043, .inl (cI, 60, .inl c043)), (k045, .inl (cI, 60, .inl c045)), (k046, .inl (cI, 40, .inl c046))] sz) := by
  refine kMetIX (own := RX10) (by decide) rfl (Nat.le_of_ble_eq_true rfl) ?_
  intro p e s m args below meth c hx hb hT hown hname hml A Q hK hP hD hS hA hN hXS hRet ls hl
  have hl : lv_has ls 5 [(0, .ref k), (1, .int a0), (2, .int a1), (3, .int a2)] := hl
  have lo_a0 := k_lo a0
  have hi_a0 := k_hi a0
  have lo_a1 := k_lo a1
  have hi_a1 := k_hi a1
  have lo_a2 := k_lo a2
  have hi_a2 := k_hi a2
  have lo_c06 := k_lo c06
  have hi_c06 := k_hi c06
  have lo_c07 := k_lo c07
  have hi_c07 := k_hi c07
  have lo_c08 := k_lo c08
  have hi_c08 := k_hi c08
  have lo_c049 := k_lo c049
  have hi_c049 := k_hi c049
  have lo_c051 := k_lo c051
  have hi_c051 := k_hi c051
  have pre0 : WR c00 c01 c02 c03 c040 c041 c042 c043 c044 c045 c046 c047 c048 c049 c050 c051 c06 c07 c08 gx := pre0
  have b_1 : 0 ≤ c049.toInt ∧ c049.toInt ≤ 60 := WKR.n0 (WR.kw pre0)
  have t_2 : c049.toInt = (gx 1).toInt := WKR.nt (WR.kw pre0)
  have b_3 : 0 ≤ c051.toInt ∧ c051.toInt ≤ 4 := ((WR.kp pre0)).2.1
  have t_4 : c051.toInt = (gx 2).toInt := PTR.nt (WR.kp pre0)
  have t_5 : c08.toInt = (gx 0).toInt := by rw [WR.dd pre0]
  have pre1 : SB gx := pre1
  have pre2 : NNG gx := pre2
  refine lv_aload_n hx hb dX10_hands_0 rfl (lv_at hl 0 rfl) ?_
  refine lv_iload_n hx hb dX10_hands_1 rfl (lv_at hl 1 rfl) ?_
  refine lv_iload_n hx hb dX10_hands_2 rfl (lv_at hl 2 rfl) ?_
  refine kJi (wr := [(k6, .inr (0, [.ref k60, .ref k61, .ref k62, .ref k63, .ref k64, .int c65])), (kb, .inl (cI, 6, .inl cb)), (k00, .inl (cI, 12, .inl c00)), (k60, .inl (cI, 41, .inl c60)), (k61, .inl (cI, 41, .inl c61)), (k62, .inl (cI, 60, .inl c62)), (k63, .inl (cI, 60, .inl c63)), (k64, .inl (cI, 60, .inl c64)), (k040, .inl (cI, 60, .inl c040)), (k041, .inl (cI, 60, .inl c041)), (k043, .inl (cI, 60, .inl c043)), (k045, .inl (cI, 60, .inl c045)), (k046, .inl (cI, 40, .inl c046))]) (va_runV (As := [.int a0, .int a1]) (rest := []) ⟨hx, hb, hml, hown, hT⟩ (c_X10_areTwoWorksD l D cI aK aV k k0 k1 k2 k3 k4 k5 k6 k7 k8 k9 ka kb k00 k01 k02 k03 k04 k05 k040 k041 k042 k043 k044 k045 k046 k047 k048 s.heap.size cc c06 c07 c08 c049 c00 c01 c02 c03 c040 c041 c042 c043 c044 c045 c046 c047 c048 c050 c051 gx a0 a1 pre0) (cwV 2 hT (gV_in mw_764 mw_761 mw_763 mw_p2_1 mw_1) rfl rfl rfl (by decide +kernel) ⟨Nat.le_of_ble_eq_true rfl, Nat.le_of_ble_eq_true rfl⟩) (kRecvX (q0 := 0) (ci := 10) hK hP hD hN hXS hS hA rfl rfl [0, 1, 5] rfl (by decide)) rfl rfl hl.1 rfl (lv_room (Nat.le_of_ble_eq_true rfl)) dX10_hands_3 ⟨Nat.le_of_ble_eq_true rfl, Nat.le_of_ble_eq_true rfl⟩) hP hD hS hA [0, 1, 5] [2, 3, 4, 6, 7, 8, 9, 10, 11, 12, 13, 14, 15] rfl rfl (by decide) (by decide) ?_
  clear hP hD hS
  intro r_6 u_8 H locs w_7 hP hD hS
  replace hP : va_P D vwCl [(k6, .inr (0, [.ref k60, .ref k61, .ref k62, .ref k63, .ref k64, .int c65])), (kb, .inl (cI, 6, .inl cb)), (k00, .inl (cI, 12, .inl c00)), (k60, .inl (cI, 41, .inl c60)), (k61, .inl (cI, 41, .inl c61)), (k62, .inl (cI, 60, .inl c62)), (k63, .inl (cI, 60, .inl c63)), (k64, .inl (cI, 60, .inl c64)), (k040, .inl (cI, 60, .inl c040)), (k041, .inl (cI, 60, .inl c041)), (k043, .inl (cI, 60, .inl c043)), (k045, .inl (cI, 60, .inl c045)), (k046, .inl (cI, 40, .inl c046)), (k, .inr (10, [.ref k0, .ref k1, .ref k2, .ref k3, .ref k4, .ref k5, .ref k6, .ref k7, .ref k8, .ref k9, .ref ka, .ref kb, .int cc])), (k0, .inr (9, [.ref k00, .ref k01, .ref k02, .ref k03, .ref k04, .ref k05, .int c06, .int c07, .int c08])), (k04, .inr (8, [.ref k040, .ref k041, .ref k042, .ref k043, .ref k044, .ref k045, .ref k046, .ref k047, .ref k048, .int c049]))] H := hP
  replace hD : va_D A [(k6, .inr (0, [.ref k60, .ref k61, .ref k62, .ref k63, .ref k64, .int c65])), (kb, .inl (cI, 6, .inl cb)), (k00, .inl (cI, 12, .inl c00)), (k60, .inl (cI, 41, .inl c60)), (k61, .inl (cI, 41, .inl c61)), (k62, .inl (cI, 60, .inl c62)), (k63, .inl (cI, 60, .inl c63)), (k64, .inl (cI, 60, .inl c64)), (k040, .inl (cI, 60, .inl c040)), (k041, .inl (cI, 60, .inl c041)), (k043, .inl (cI, 60, .inl c043)), (k045, .inl (cI, 60, .inl c045)), (k046, .inl (cI, 40, .inl c046)), (k, .inr (10, [.ref k0, .ref k1, .ref k2, .ref k3, .ref k4, .ref k5, .ref k6, .ref k7, .ref k8, .ref k9, .ref ka, .ref kb, .int cc])), (k0, .inr (9, [.ref k00, .ref k01, .ref k02, .ref k03, .ref k04, .ref k05, .int c06, .int c07, .int c08])), (k04, .inr (8, [.ref k040, .ref k041, .ref k042, .ref k043, .ref k044, .ref k045, .ref k046, .ref k047, .ref k048, .int c049]))] := hD
  rcases w_7 with ⟨hr_6, h_9, h_10, h_11, h_12, h_13⟩ | ⟨hr_6, h_14⟩
  · have h_9 : 0 ≤ a0.toInt := h_9
    have h_10 : a0.toInt < (gx 1).toInt := h_10
    have h_11 : 0 ≤ a1.toInt := h_11
    have h_12 : a1.toInt < (gx 1).toInt := h_12
    have h_13 : a0.toInt ≠ a1.toInt := h_13
    obtain rfl : r_6 = 1 := hr_6.trans (by decide)
    refine b_if_eq hx hb zl_1 (tgt := 14) dX10_hands_6 (by decide) (fun c_15 => by exfalso; omega) (fun c_15 => ?_)
    refine lv_iload_n hx hb dX10_hands_9 rfl (lv_at hl 3 rfl) ?_
    refine lv_iconst (v := (-1)) hx hb dX10_hands_10 (by decide) ?_
    refine b_icmp_ge hx hb rfl zl_m1 (tgt := 20) dX10_hands_11 (by decide) (fun c_16 => ?_) (fun c_16 => ?_)
    · refine lv_aload_n hx hb dX10_hands_20 rfl (lv_at hl 0 rfl) ?_
      refine lv_iload_n hx hb dX10_hands_21 rfl (lv_at hl 1 rfl) ?_
      refine lv_iload_n hx hb dX10_hands_22 rfl (lv_at hl 2 rfl) ?_
      refine kJi (wr := [(k6, .inr (0, [.ref k60, .ref k61, .ref k62, .ref k63, .ref k64, .int c65])), (kb, .inl (cI, 6, .inl cb)), (k00, .inl (cI, 12, .inl c00)), (k60, .inl (cI, 41, .inl c60)), (k61, .inl (cI, 41, .inl c61)), (k62, .inl (cI, 60, .inl c62)), (k63, .inl (cI, 60, .inl c63)), (k64, .inl (cI, 60, .inl c64)), (k041, .inl (cI, 60, .inl c041)), (k043, .inl (cI, 60, .inl c043)), (k045, .inl (cI, 60, .inl c045)), (k046, .inl (cI, 40, .inl c046))]) (va_runV (As := [.int a0, .int a1]) (rest := []) ⟨hx, hb, hml, hown, hT⟩ (c_X10_areStationsD l D cI aK aV k k0 k1 k2 k3 k4 k5 k6 k7 k8 k9 ka kb k00 k01 k02 k03 k04 k05 k040 k041 k042 k043 k044 k045 k046 k047 k048 H.size cc c06 c07 c08 c049 c040 c00 c01 c02 c03 c041 c042 c043 c044 c045 c046 c047 c048 c050 c051 gx a0 a1 pre0 pre1 (by first | omega | decide | assumption | rfl) (by first | omega | decide | assumption | rfl) (by first | omega | decide | assumption | rfl) (by first | omega | decide | assumption | rfl)) (cwV 2 hT (gV_in mw_768 mw_765 mw_767 mw_p2_2 mw_1) rfl rfl rfl (by decide +kernel) ⟨Nat.le_of_ble_eq_true rfl, Nat.le_of_ble_eq_true rfl⟩) (kRecvX (q0 := 13) (ci := 10) hK hP hD hN hXS hS hA rfl rfl [13, 14, 15, 8] rfl (by decide)) rfl rfl hl.1 rfl (lv_room (Nat.le_of_ble_eq_true rfl)) dX10_hands_23 ⟨Nat.le_of_ble_eq_true rfl, Nat.le_of_ble_eq_true rfl⟩) hP hD hS hA [13, 14, 15, 8] [0, 1, 2, 3, 4, 5, 6, 7, 9, 10, 11, 12] rfl rfl (by decide) (by decide) ?_
      clear hP hD hS
      intro r_17 u_19 H locs w_18 hP hD hS
      replace hP : va_P D vwCl [(k6, .inr (0, [.ref k60, .ref k61, .ref k62, .ref k63, .ref k64, .int c65])), (kb, .inl (cI, 6, .inl cb)), (k00, .inl (cI, 12, .inl c00)), (k60, .inl (cI, 41, .inl c60)), (k61, .inl (cI, 41, .inl c61)), (k62, .inl (cI, 60, .inl c62)), (k63, .inl (cI, 60, .inl c63)), (k64, .inl (cI, 60, .inl c64)), (k041, .inl (cI, 60, .inl c041)), (k043, .inl (cI, 60, .inl c043)), (k045, .inl (cI, 60, .inl c045)), (k046, .inl (cI, 40, .inl c046)), (k, .inr (10, [.ref k0, .ref k1, .ref k2, .ref k3, .ref k4, .ref k5, .ref k6, .ref k7, .ref k8, .ref k9, .ref ka, .ref kb, .int cc])), (k0, .inr (9, [.ref k00, .ref k01, .ref k02, .ref k03, .ref k04, .ref k05, .int c06, .int c07, .int c08])), (k04, .inr (8, [.ref k040, .ref k041, .ref k042, .ref k043, .ref k044, .ref k045, .ref k046, .ref k047, .ref k048, .int c049])), (k040, .inl (cI, 60, .inl c040))] H := hP
      replace hD : va_D A [(k6, .inr (0, [.ref k60, .ref k61, .ref k62, .ref k63, .ref k64, .int c65])), (kb, .inl (cI, 6, .inl cb)), (k00, .inl (cI, 12, .inl c00)), (k60, .inl (cI, 41, .inl c60)), (k61, .inl (cI, 41, .inl c61)), (k62, .inl (cI, 60, .inl c62)), (k63, .inl (cI, 60, .inl c63)), (k64, .inl (cI, 60, .inl c64)), (k041, .inl (cI, 60, .inl c041)), (k043, .inl (cI, 60, .inl c043)), (k045, .inl (cI, 60, .inl c045)), (k046, .inl (cI, 40, .inl c046)), (k, .inr (10, [.ref k0, .ref k1, .ref k2, .ref k3, .ref k4, .ref k5, .ref k6, .ref k7, .ref k8, .ref k9, .ref ka, .ref kb, .int cc])), (k0, .inr (9, [.ref k00, .ref k01, .ref k02, .ref k03, .ref k04, .ref k05, .int c06, .int c07, .int c08])), (k04, .inr (8, [.ref k040, .ref k041, .ref k042, .ref k043, .ref k044, .ref k045, .ref k046, .ref k047, .ref k048, .int c049])), (k040, .inl (cI, 60, .inl c040))] := hD
      rcases w_18 with ⟨hr_17, h_20, h_21⟩ | ⟨hr_17, h_22⟩
      · have h_20 : (wW gx a0 0).toInt = 3 := h_20
        have h_21 : (wW gx a1 0).toInt = 3 := h_21
        obtain rfl : r_17 = 1 := hr_17.trans (by decide)
        refine b_if_ne hx hb zl_1 (tgt := 35) dX10_hands_26 (by decide) (fun c_23 => ?_) (fun c_23 => by exfalso; omega)
        refine lv_aload_n hx hb dX10_hands_35 rfl (lv_at hl 0 rfl) ?_
        refine va_get (D := D) (ci := 10) (v := .ref k6) (C := RX10) (T := TX10) (N := 13) hx hb hT giX10 hown hK hP 12 rfl rfl 6 (by decide) (hT (Cond.fieldLink RX10 42 "DesertWire" "words" "LDesertWire$Hands;") mw_297) (fun _ h9 => h9) rfl dX10_hands_36 ?_
        refine lv_aload_n hx hb dX10_hands_39 rfl (lv_at hl 0 rfl) ?_
        refine va_get (D := D) (ci := 10) (v := .ref k0) (C := RX10) (T := TX10) (N := 13) hx hb hT giX10 hown hK hP 12 rfl rfl 0 (by decide) (hT (Cond.fieldLink RX10 12 "DesertWire" "now" "LDesertWire$World;") mw_291) (fun _ h9 => h9) rfl dX10_hands_40 ?_
        refine lv_iload_n hx hb dX10_hands_43 rfl (lv_at hl 1 rfl) ?_
        refine lv_iload_n hx hb dX10_hands_44 rfl (lv_at hl 2 rfl) ?_
        refine kJi (wr := [(kb, .inl (cI, 6, .inl cb)), (k, .inr (10, [.ref k0, .ref k1, .ref k2, .ref k3, .ref k4, .ref k5, .ref k6, .ref k7, .ref k8, .ref k9, .ref ka, .ref kb, .int cc]))]) (va_runV (As := [.ref k0, .int a0, .int a1]) (rest := []) ⟨hx, hb, hml, hown, hT⟩ (c_X0_findD l D cI aK aV k6 k0 k60 k61 k62 k63 k64 k00 k01 k02 k03 k04 k05 k040 k041 k042 k043 k044 k045 k046 k047 k048 H.size c65 c60 c61 c62 c63 c64 c06 c07 c08 c00 c049 c040 c041 c043 c045 c046 c01 c02 c03 c042 c044 c047 c048 c050 c051 gx a0 a1 pre0 pre1 (by first | omega | decide | assumption | rfl) (by first | omega | decide | assumption | rfl) (by first | omega | decide | assumption | rfl) (by first | omega | decide | assumption | rfl) (by first | omega | decide | assumption | rfl) (by first | omega | decide | assumption | rfl) (by first | omega | decide | assumption | rfl) (by first | omega | decide | assumption | rfl)) (cwV 3 hT (gV_in mw_790 mw_787 mw_788 mw_789 mw_7) rfl rfl rfl (by decide +kernel) ⟨Nat.le_of_ble_eq_true rfl, Nat.le_of_ble_eq_true rfl⟩) (kRecvX (q0 := 0) (ci := 0) hK hP hD hN hXS hS hA rfl rfl [0, 3, 4, 5, 6, 7, 13, 2, 14, 15, 8, 9, 10, 11] rfl (by decide)) rfl rfl hl.1 rfl (lv_room (Nat.le_of_ble_eq_true rfl)) dX10_hands_45 ⟨Nat.le_of_ble_eq_true rfl, Nat.le_of_ble_eq_true rfl⟩) hP hD hS hA [0, 3, 4, 5, 6, 7, 13, 2, 14, 15, 8, 9, 10, 11] [1, 12] rfl rfl (by decide) (by decide) ?_
        clear hP hD hS
        intro r_24 u_32 H locs w_25 hP hD hS
        obtain ⟨sc5_26, sc0_27, sc1_28, sc2_29, sc3_30, sc4_31⟩ := u_32
        replace hP : va_P D vwCl [(kb, .inl (cI, 6, .inl cb)), (k, .inr (10, [.ref k0, .ref k1, .ref k2, .ref k3, .ref k4, .ref k5, .ref k6, .ref k7, .ref k8, .ref k9, .ref ka, .ref kb, .int cc])), (k6, .inr (0, [.ref k60, .ref k61, .ref k62, .ref k63, .ref k64, .int sc5_26])), (k60, .inl (cI, 41, .inl sc0_27)), (k61, .inl (cI, 41, .inl sc1_28)), (k62, .inl (cI, 60, .inl sc2_29)), (k63, .inl (cI, 60, .inl sc3_30)), (k64, .inl (cI, 60, .inl sc4_31)), (k0, .inr (9, [.ref k00, .ref k01, .ref k02, .ref k03, .ref k04, .ref k05, .int c06, .int c07, .int c08])), (k00, .inl (cI, 12, .inl c00)), (k04, .inr (8, [.ref k040, .ref k041, .ref k042, .ref k043, .ref k044, .ref k045, .ref k046, .ref k047, .ref k048, .int c049])), (k040, .inl (cI, 60, .inl c040)), (k041, .inl (cI, 60, .inl c041)), (k043, .inl (cI, 60, .inl c043)), (k045, .inl (cI, 60, .inl c045)), (k046, .inl (cI, 40, .inl c046))] H := hP
        replace hD : va_D A [(kb, .inl (cI, 6, .inl cb)), (k, .inr (10, [.ref k0, .ref k1, .ref k2, .ref k3, .ref k4, .ref k5, .ref k6, .ref k7, .ref k8, .ref k9, .ref ka, .ref kb, .int cc])), (k6, .inr (0, [.ref k60, .ref k61, .ref k62, .ref k63, .ref k64, .int sc5_26])), (k60, .inl (cI, 41, .inl sc0_27)), (k61, .inl (cI, 41, .inl sc1_28)), (k62, .inl (cI, 60, .inl sc2_29)), (k63, .inl (cI, 60, .inl sc3_30)), (k64, .inl (cI, 60, .inl sc4_31)), (k0, .inr (9, [.ref k00, .ref k01, .ref k02, .ref k03, .ref k04, .ref k05, .int c06, .int c07, .int c08])), (k00, .inl (cI, 12, .inl c00)), (k04, .inr (8, [.ref k040, .ref k041, .ref k042, .ref k043, .ref k044, .ref k045, .ref k046, .ref k047, .ref k048, .int c049])), (k040, .inl (cI, 60, .inl c040)), (k041, .inl (cI, 60, .inl c041)), (k043, .inl (cI, 60, .inl c043)), (k045, .inl (cI, 60, .inl c045)), (k046, .inl (cI, 40, .inl c046))] := hD
        have lo_sc5_26 := k_lo sc5_26
        have hi_sc5_26 := k_hi sc5_26
        obtain ⟨h_33, h_34, h_35, h_36⟩ := w_25
        have h_33 : HNF gx a0 a1 r_24.toInt sc4_31 := h_33
        have h_33 : HNF gx a0 a1 r_24.toInt sc4_31 := h_33
        have h_34 : sc5_26.toInt = r_24.toInt := h_34
        have h_35 : 0 ≤ r_24.toInt := h_35
        have h_36 : r_24.toInt ≤ 60 := h_36
        have lo_r_24 := k_lo r_24
        have hi_r_24 := k_hi r_24
        refine lv_istore (lv' := [(4, .int r_24), (0, .ref k), (1, .int a0), (2, .int a1), (3, .int a2)]) hx hb dX10_hands_48 hl (by decide) rfl ?_
        clear hl
        intro ls hl
        refine lv_iload hx hb dX10_hands_50 (lv_at hl 0 rfl) ?_
        refine b_if_eq hx hb rfl (tgt := 61) dX10_hands_52 (by decide) (fun c_37 => ?_) (fun c_37 => ?_)
        · refine lv_aload_n hx hb dX10_hands_61 rfl (lv_at hl 1 rfl) ?_
          refine lv_iconst (v := 2) hx hb dX10_hands_62 (by decide) ?_
          refine kJi (wr := [(k6, .inr (0, [.ref k60, .ref k61, .ref k62, .ref k63, .ref k64, .int sc5_26])), (k60, .inl (cI, 41, .inl sc0_27)), (k61, .inl (cI, 41, .inl sc1_28)), (k62, .inl (cI, 60, .inl sc2_29)), (k63, .inl (cI, 60, .inl sc3_30)), (k64, .inl (cI, 60, .inl sc4_31)), (k0, .inr (9, [.ref k00, .ref k01, .ref k02, .ref k03, .ref k04, .ref k05, .int c06, .int c07, .int c08])), (k00, .inl (cI, 12, .inl c00)), (k04, .inr (8, [.ref k040, .ref k041, .ref k042, .ref k043, .ref k044, .ref k045, .ref k046, .ref k047, .ref k048, .int c049])), (k040, .inl (cI, 60, .inl c040)), (k041, .inl (cI, 60, .inl c041)), (k043, .inl (cI, 60, .inl c043)), (k045, .inl (cI, 60, .inl c045)), (k046, .inl (cI, 40, .inl c046))]) (va_runV (As := [.int 2]) (rest := []) ⟨hx, hb, hml, hown, hT⟩ (c_X10_findingG l D cI aK aV k k0 k1 k2 k3 k4 k5 k6 k7 k8 k9 ka kb H.size cc cb 2) (cwV 1 hT (gV_in mw_338 mw_335 mw_337 mw_p1_0 mw_1) rfl rfl rfl (by decide +kernel) ⟨Nat.le_of_ble_eq_true rfl, Nat.le_of_ble_eq_true rfl⟩) (kRecvX (q0 := 1) (ci := 10) hK hP hD hN hXS hS hA rfl rfl [1, 0] rfl (by decide)) rfl rfl hl.1 rfl (lv_room (Nat.le_of_ble_eq_true rfl)) dX10_hands_63 ⟨Nat.le_of_ble_eq_true rfl, Nat.le_of_ble_eq_true rfl⟩) hP hD hS hA [1, 0] [2, 3, 4, 5, 6, 7, 8, 9, 10, 11, 12, 13, 14, 15] rfl rfl (by decide) (by decide) ?_
          clear hP hD hS
          intro r_38 scb_40 H locs w_39 hP hD hS
          replace hP : va_P D vwCl [(k6, .inr (0, [.ref k60, .ref k61, .ref k62, .ref k63, .ref k64, .int sc5_26])), (k60, .inl (cI, 41, .inl sc0_27)), (k61, .inl (cI, 41, .inl sc1_28)), (k62, .inl (cI, 60, .inl sc2_29)), (k63, .inl (cI, 60, .inl sc3_30)), (k64, .inl (cI, 60, .inl sc4_31)), (k0, .inr (9, [.ref k00, .ref k01, .ref k02, .ref k03, .ref k04, .ref k05, .int c06, .int c07, .int c08])), (k00, .inl (cI, 12, .inl c00)), (k04, .inr (8, [.ref k040, .ref k041, .ref k042, .ref k043, .ref k044, .ref k045, .ref k046, .ref k047, .ref k048, .int c049])), (k040, .inl (cI, 60, .inl c040)), (k041, .inl (cI, 60, .inl c041)), (k043, .inl (cI, 60, .inl c043)), (k045, .inl (cI, 60, .inl c045)), (k046, .inl (cI, 40, .inl c046)), (k, .inr (10, [.ref k0, .ref k1, .ref k2, .ref k3, .ref k4, .ref k5, .ref k6, .ref k7, .ref k8, .ref k9, .ref ka, .ref kb, .int cc])), (kb, .inl (cI, 6, .inl scb_40))] H := hP
          replace hD : va_D A [(k6, .inr (0, [.ref k60, .ref k61, .ref k62, .ref k63, .ref k64, .int sc5_26])), (k60, .inl (cI, 41, .inl sc0_27)), (k61, .inl (cI, 41, .inl sc1_28)), (k62, .inl (cI, 60, .inl sc2_29)), (k63, .inl (cI, 60, .inl sc3_30)), (k64, .inl (cI, 60, .inl sc4_31)), (k0, .inr (9, [.ref k00, .ref k01, .ref k02, .ref k03, .ref k04, .ref k05, .int c06, .int c07, .int c08])), (k00, .inl (cI, 12, .inl c00)), (k04, .inr (8, [.ref k040, .ref k041, .ref k042, .ref k043, .ref k044, .ref k045, .ref k046, .ref k047, .ref k048, .int c049])), (k040, .inl (cI, 60, .inl c040)), (k041, .inl (cI, 60, .inl c041)), (k043, .inl (cI, 60, .inl c043)), (k045, .inl (cI, 60, .inl c045)), (k046, .inl (cI, 40, .inl c046)), (k, .inr (10, [.ref k0, .ref k1, .ref k2, .ref k3, .ref k4, .ref k5, .ref k6, .ref k7, .ref k8, .ref k9, .ref ka, .ref kb, .int cc])), (kb, .inl (cI, 6, .inl scb_40))] := hD
          have hr_38 := w_39
          obtain rfl : r_38 = (-1000002) := hr_38.trans (by decide)
          exact hRet (sc5_26, scb_40, sc0_27, sc1_28, sc2_29, sc3_30, sc4_31) [14, 6, 0, 15, 7, 8, 1, 2, 3, 4, 5, 9, 10, 11, 12, 13] (HND.n (by omega) (by omega) h_33 (by omega)) hP hD (by decide) rfl hS rfl dX10_hands_66
        · refine lv_iload_n hx hb dX10_hands_55 rfl (lv_at hl 4 rfl) ?_
          refine lv_iload hx hb dX10_hands_56 (lv_at hl 0 rfl) ?_
          refine b_icmp_lt hx hb rfl rfl (tgt := 67) dX10_hands_58 (by decide) (fun c_41 => ?_) (fun c_41 => ?_)
          · refine lv_iload_n hx hb dX10_hands_67 rfl (lv_at hl 4 rfl) ?_
            refine lv_iconst (v := (-1)) hx hb dX10_hands_68 (by decide) ?_
            refine b_icmp_ne hx hb rfl zl_m1 (tgt := 77) dX10_hands_69 (by decide) (fun c_42 => ?_) (fun c_42 => ?_)
            · refine lv_aload_n hx hb dX10_hands_77 rfl (lv_at hl 1 rfl) ?_
              refine va_get (D := D) (ci := 10) (v := .ref k6) (C := RX10) (T := TX10) (N := 13) hx hb hT giX10 hown hK hP 1 rfl rfl 6 (by decide) (hT (Cond.fieldLink RX10 42 "DesertWire" "words" "LDesertWire$Hands;") mw_297) (fun _ h9 => h9) rfl dX10_hands_78 ?_
              refine lv_iload_n hx hb dX10_hands_81 rfl (lv_at hl 4 rfl) ?_
              refine kJi (wr := [(kb, .inl (cI, 6, .inl cb)), (k, .inr (10, [.ref k0, .ref k1, .ref k2, .ref k3, .ref k4, .ref k5, .ref k6, .ref k7, .ref k8, .ref k9, .ref ka, .ref kb, .int cc])), (k60, .inl (cI, 41, .inl sc0_27)), (k61, .inl (cI, 41, .inl sc1_28)), (k62, .inl (cI, 60, .inl sc2_29)), (k63, .inl (cI, 60, .inl sc3_30)), (k0, .inr (9, [.ref k00, .ref k01, .ref k02, .ref k03, .ref k04, .ref k05, .int c06, .int c07, .int c08])), (k00, .inl (cI, 12, .inl c00)), (k04, .inr (8, [.ref k040, .ref k041, .ref k042, .ref k043, .ref k044, .ref k045, .ref k046, .ref k047, .ref k048, .int c049])), (k040, .inl (cI, 60, .inl c040)), (k041, .inl (cI, 60, .inl c041)), (k043, .inl (cI, 60, .inl c043)), (k045, .inl (cI, 60, .inl c045)), (k046, .inl (cI, 40, .inl c046))]) (va_runV (As := [.int a2]) (rest := []) ⟨hx, hb, hml, hown, hT⟩ (c_X0_stationAtD l D cI aK aV k6 k60 k61 k62 k63 k64 H.size sc5_26 sc4_31 a2) (cwV 1 hT (gV_in mw_814 mw_811 mw_812 mw_813 mw_7) rfl rfl rfl (by decide +kernel) ⟨Nat.le_of_ble_eq_true rfl, Nat.le_of_ble_eq_true rfl⟩) (kRecvX (q0 := 2) (ci := 0) hK hP hD hN hXS hS hA rfl rfl [2, 7] rfl (by decide)) rfl rfl hl.1 rfl (lv_room (Nat.le_of_ble_eq_true rfl)) dX10_hands_82 ⟨Nat.le_of_ble_eq_true rfl, Nat.le_of_ble_eq_true rfl⟩) hP hD hS hA [2, 7] [0, 1, 3, 4, 5, 6, 8, 9, 10, 11, 12, 13, 14, 15] rfl rfl (by decide) (by decide) ?_
              clear hP hD hS
              intro r_43 u_45 H locs w_44 hP hD hS
              replace hP : va_P D vwCl [(kb, .inl (cI, 6, .inl cb)), (k, .inr (10, [.ref k0, .ref k1, .ref k2, .ref k3, .ref k4, .ref k5, .ref k6, .ref k7, .ref k8, .ref k9, .ref ka, .ref kb, .int cc])), (k60, .inl (cI, 41, .inl sc0_27)), (k61, .inl (cI, 41, .inl sc1_28)), (k62, .inl (cI, 60, .inl sc2_29)), (k63, .inl (cI, 60, .inl sc3_30)), (k0, .inr (9, [.ref k00, .ref k01, .ref k02, .ref k03, .ref k04, .ref k05, .int c06, .int c07, .int c08])), (k00, .inl (cI, 12, .inl c00)), (k04, .inr (8, [.ref k040, .ref k041, .ref k042, .ref k043, .ref k044, .ref k045, .ref k046, .ref k047, .ref k048, .int c049])), (k040, .inl (cI, 60, .inl c040)), (k041, .inl (cI, 60, .inl c041)), (k043, .inl (cI, 60, .inl c043)), (k045, .inl (cI, 60, .inl c045)), (k046, .inl (cI, 40, .inl c046)), (k6, .inr (0, [.ref k60, .ref k61, .ref k62, .ref k63, .ref k64, .int sc5_26])), (k64, .inl (cI, 60, .inl sc4_31))] H := hP
              replace hD : va_D A [(kb, .inl (cI, 6, .inl cb)), (k, .inr (10, [.ref k0, .ref k1, .ref k2, .ref k3, .ref k4, .ref k5, .ref k6, .ref k7, .ref k8, .ref k9, .ref ka, .ref kb, .int cc])), (k60, .inl (cI, 41, .inl sc0_27)), (k61, .inl (cI, 41, .inl sc1_28)), (k62, .inl (cI, 60, .inl sc2_29)), (k63, .inl (cI, 60, .inl sc3_30)), (k0, .inr (9, [.ref k00, .ref k01, .ref k02, .ref k03, .ref k04, .ref k05, .int c06, .int c07, .int c08])), (k00, .inl (cI, 12, .inl c00)), (k04, .inr (8, [.ref k040, .ref k041, .ref k042, .ref k043, .ref k044, .ref k045, .ref k046, .ref k047, .ref k048, .int c049])), (k040, .inl (cI, 60, .inl c040)), (k041, .inl (cI, 60, .inl c041)), (k043, .inl (cI, 60, .inl c043)), (k045, .inl (cI, 60, .inl c045)), (k046, .inl (cI, 40, .inl c046)), (k6, .inr (0, [.ref k60, .ref k61, .ref k62, .ref k63, .ref k64, .int sc5_26])), (k64, .inl (cI, 60, .inl sc4_31))] := hD
              rcases w_44 with ⟨h_46, h_47, h_48, h_49⟩ | ⟨hr_43, h_50⟩
              · have h_46 : 0 ≤ a2.toInt := h_46
                have h_47 : a2.toInt < sc5_26.toInt := h_47
                have h_48 : a2.toInt ≤ 59 := h_48
                have h_49 : r_43 = sc4_31 a2.toInt.toNat := h_49
                have h_49 : r_43 = sc4_31 a2.toInt.toNat := h_49
                have lo_r_43 := k_lo r_43
                have hi_r_43 := k_hi r_43
                exact hRet (sc5_26, cb, sc0_27, sc1_28, sc2_29, sc3_30, sc4_31) [1, 6, 14, 0, 7, 8, 2, 3, 4, 5, 15, 9, 10, 11, 12, 13] (HND.v (by omega) (by omega) h_33 (by omega) (by omega) h_49) hP hD (by decide) rfl hS rfl dX10_hands_85
              · exfalso; omega
            · refine lv_iload hx hb dX10_hands_72 (lv_at hl 0 rfl) ?_
              refine lv_goto (tgt := 85) hx hb dX10_hands_74 (by decide) ?_
              exact hRet (sc5_26, cb, sc0_27, sc1_28, sc2_29, sc3_30, sc4_31) [1, 8, 2, 0, 9, 10, 3, 4, 5, 6, 7, 11, 12, 13, 14, 15] (HND.c (by omega) (by omega) h_33 (by omega) (by omega)) hP hD (by decide) rfl hS rfl dX10_hands_85
          · refine lv_aload_n hx hb dX10_hands_61 rfl (lv_at hl 1 rfl) ?_
            refine lv_iconst (v := 2) hx hb dX10_hands_62 (by decide) ?_
            refine kJi (wr := [(k6, .inr (0, [.ref k60, .ref k61, .ref k62, .ref k63, .ref k64, .int sc5_26])), (k60, .inl (cI, 41, .inl sc0_27)), (k61, .inl (cI, 41, .inl sc1_28)), (k62, .inl (cI, 60, .inl sc2_29)), (k63, .inl (cI, 60, .inl sc3_30)), (k64, .inl (cI, 60, .inl sc4_31)), (k0, .inr (9, [.ref k00, .ref k01, .ref k02, .ref k03, .ref k04, .ref k05, .int c06, .int c07, .int c08])), (k00, .inl (cI, 12, .inl c00)), (k04, .inr (8, [.ref k040, .ref k041, .ref k042, .ref k043, .ref k044, .ref k045, .ref k046, .ref k047, .ref k048, .int c049])), (k040, .inl (cI, 60, .inl c040)), (k041, .inl (cI, 60, .inl c041)), (k043, .inl (cI, 60, .inl c043)), (k045, .inl (cI, 60, .inl c045)), (k046, .inl (cI, 40, .inl c046))]) (va_runV (As := [.int 2]) (rest := []) ⟨hx, hb, hml, hown, hT⟩ (c_X10_findingG l D cI aK aV k k0 k1 k2 k3 k4 k5 k6 k7 k8 k9 ka kb H.size cc cb 2) (cwV 1 hT (gV_in mw_338 mw_335 mw_337 mw_p1_0 mw_1) rfl rfl rfl (by decide +kernel) ⟨Nat.le_of_ble_eq_true rfl, Nat.le_of_ble_eq_true rfl⟩) (kRecvX (q0 := 1) (ci := 10) hK hP hD hN hXS hS hA rfl rfl [1, 0] rfl (by decide)) rfl rfl hl.1 rfl (lv_room (Nat.le_of_ble_eq_true rfl)) dX10_hands_63 ⟨Nat.le_of_ble_eq_true rfl, Nat.le_of_ble_eq_true rfl⟩) hP hD hS hA [1, 0] [2, 3, 4, 5, 6, 7, 8, 9, 10, 11, 12, 13, 14, 15] rfl rfl (by decide) (by decide) ?_
            clear hP hD hS
            intro r_51 scb_53 H locs w_52 hP hD hS
            replace hP : va_P D vwCl [(k6, .inr (0, [.ref k60, .ref k61, .ref k62, .ref k63, .ref k64, .int sc5_26])), (k60, .inl (cI, 41, .inl sc0_27)), (k61, .inl (cI, 41, .inl sc1_28)), (k62, .inl (cI, 60, .inl sc2_29)), (k63, .inl (cI, 60, .inl sc3_30)), (k64, .inl (cI, 60, .inl sc4_31)), (k0, .inr (9, [.ref k00, .ref k01, .ref k02, .ref k03, .ref k04, .ref k05, .int c06, .int c07, .int c08])), (k00, .inl (cI, 12, .inl c00)), (k04, .inr (8, [.ref k040, .ref k041, .ref k042, .ref k043, .ref k044, .ref k045, .ref k046, .ref k047, .ref k048, .int c049])), (k040, .inl (cI, 60, .inl c040)), (k041, .inl (cI, 60, .inl c041)), (k043, .inl (cI, 60, .inl c043)), (k045, .inl (cI, 60, .inl c045)), (k046, .inl (cI, 40, .inl c046)), (k, .inr (10, [.ref k0, .ref k1, .ref k2, .ref k3, .ref k4, .ref k5, .ref k6, .ref k7, .ref k8, .ref k9, .ref ka, .ref kb, .int cc])), (kb, .inl (cI, 6, .inl scb_53))] H := hP
            replace hD : va_D A [(k6, .inr (0, [.ref k60, .ref k61, .ref k62, .ref k63, .ref k64, .int sc5_26])), (k60, .inl (cI, 41, .inl sc0_27)), (k61, .inl (cI, 41, .inl sc1_28)), (k62, .inl (cI, 60, .inl sc2_29)), (k63, .inl (cI, 60, .inl sc3_30)), (k64, .inl (cI, 60, .inl sc4_31)), (k0, .inr (9, [.ref k00, .ref k01, .ref k02, .ref k03, .ref k04, .ref k05, .int c06, .int c07, .int c08])), (k00, .inl (cI, 12, .inl c00)), (k04, .inr (8, [.ref k040, .ref k041, .ref k042, .ref k043, .ref k044, .ref k045, .ref k046, .ref k047, .ref k048, .int c049])), (k040, .inl (cI, 60, .inl c040)), (k041, .inl (cI, 60, .inl c041)), (k043, .inl (cI, 60, .inl c043)), (k045, .inl (cI, 60, .inl c045)), (k046, .inl (cI, 40, .inl c046)), (k, .inr (10, [.ref k0, .ref k1, .ref k2, .ref k3, .ref k4, .ref k5, .ref k6, .ref k7, .ref k8, .ref k9, .ref ka, .ref kb, .int cc])), (kb, .inl (cI, 6, .inl scb_53))] := hD
            have hr_51 := w_52
            obtain rfl : r_51 = (-1000002) := hr_51.trans (by decide)
            exact hRet (sc5_26, scb_53, sc0_27, sc1_28, sc2_29, sc3_30, sc4_31) [14, 6, 0, 15, 7, 8, 1, 2, 3, 4, 5, 9, 10, 11, 12, 13] (HND.n (by omega) (by omega) h_33 (by omega)) hP hD (by decide) rfl hS rfl dX10_hands_66
      · have h_22 : (wW gx a0 0).toInt ≠ 3 ∨ (wW gx a1 0).toInt ≠ 3 := h_22
        obtain rfl : r_17 = 0 := hr_17.trans (by decide)
        refine b_if_ne hx hb zl_0 (tgt := 35) dX10_hands_26 (by decide) (fun c_54 => by exfalso; omega) (fun c_54 => ?_)
        refine lv_aload_n hx hb dX10_hands_29 rfl (lv_at hl 0 rfl) ?_
        refine lv_iconst (v := 5) hx hb dX10_hands_30 (by decide) ?_
        refine kJi (wr := [(k6, .inr (0, [.ref k60, .ref k61, .ref k62, .ref k63, .ref k64, .int c65])), (k00, .inl (cI, 12, .inl c00)), (k60, .inl (cI, 41, .inl c60)), (k61, .inl (cI, 41, .inl c61)), (k62, .inl (cI, 60, .inl c62)), (k63, .inl (cI, 60, .inl c63)), (k64, .inl (cI, 60, .inl c64)), (k041, .inl (cI, 60, .inl c041)), (k043, .inl (cI, 60, .inl c043)), (k045, .inl (cI, 60, .inl c045)), (k046, .inl (cI, 40, .inl c046)), (k0, .inr (9, [.ref k00, .ref k01, .ref k02, .ref k03, .ref k04, .ref k05, .int c06, .int c07, .int c08])), (k04, .inr (8, [.ref k040, .ref k041, .ref k042, .ref k043, .ref k044, .ref k045, .ref k046, .ref k047, .ref k048, .int c049])), (k040, .inl (cI, 60, .inl c040))]) (va_runV (As := [.int 5]) (rest := []) ⟨hx, hb, hml, hown, hT⟩ (c_X10_findingG l D cI aK aV k k0 k1 k2 k3 k4 k5 k6 k7 k8 k9 ka kb H.size cc cb 5) (cwV 1 hT (gV_in mw_338 mw_335 mw_337 mw_p1_0 mw_1) rfl rfl rfl (by decide +kernel) ⟨Nat.le_of_ble_eq_true rfl, Nat.le_of_ble_eq_true rfl⟩) (kRecvX (q0 := 12) (ci := 10) hK hP hD hN hXS hS hA rfl rfl [12, 1] rfl (by decide)) rfl rfl hl.1 rfl (lv_room (Nat.le_of_ble_eq_true rfl)) dX10_hands_31 ⟨Nat.le_of_ble_eq_true rfl, Nat.le_of_ble_eq_true rfl⟩) hP hD hS hA [12, 1] [0, 2, 3, 4, 5, 6, 7, 8, 9, 10, 11, 13, 14, 15] rfl rfl (by decide) (by decide) ?_
        clear hP hD hS
        intro r_55 scb_57 H locs w_56 hP hD hS
        replace hP : va_P D vwCl [(k6, .inr (0, [.ref k60, .ref k61, .ref k62, .ref k63, .ref k64, .int c65])), (k00, .inl (cI, 12, .inl c00)), (k60, .inl (cI, 41, .inl c60)), (k61, .inl (cI, 41, .inl c61)), (k62, .inl (cI, 60, .inl c62)), (k63, .inl (cI, 60, .inl c63)), (k64, .inl (cI, 60, .inl c64)), (k041, .inl (cI, 60, .inl c041)), (k043, .inl (cI, 60, .inl c043)), (k045, .inl (cI, 60, .inl c045)), (k046, .inl (cI, 40, .inl c046)), (k0, .inr (9, [.ref k00, .ref k01, .ref k02, .ref k03, .ref k04, .ref k05, .int c06, .int c07, .int c08])), (k04, .inr (8, [.ref k040, .ref k041, .ref k042, .ref k043, .ref k044, .ref k045, .ref k046, .ref k047, .ref k048, .int c049])), (k040, .inl (cI, 60, .inl c040)), (k, .inr (10, [.ref k0, .ref k1, .ref k2, .ref k3, .ref k4, .ref k5, .ref k6, .ref k7, .ref k8, .ref k9, .ref ka, .ref kb, .int cc])), (kb, .inl (cI, 6, .inl scb_57))] H := hP
        replace hD : va_D A [(k6, .inr (0, [.ref k60, .ref k61, .ref k62, .ref k63, .ref k64, .int c65])), (k00, .inl (cI, 12, .inl c00)), (k60, .inl (cI, 41, .inl c60)), (k61, .inl (cI, 41, .inl c61)), (k62, .inl (cI, 60, .inl c62)), (k63, .inl (cI, 60, .inl c63)), (k64, .inl (cI, 60, .inl c64)), (k041, .inl (cI, 60, .inl c041)), (k043, .inl (cI, 60, .inl c043)), (k045, .inl (cI, 60, .inl c045)), (k046, .inl (cI, 40, .inl c046)), (k0, .inr (9, [.ref k00, .ref k01, .ref k02, .ref k03, .ref k04, .ref k05, .int c06, .int c07, .int c08])), (k04, .inr (8, [.ref k040, .ref k041, .ref k042, .ref k043, .ref k044, .ref k045, .ref k046, .ref k047, .ref k048, .int c049])), (k040, .inl (cI, 60, .inl c040)), (k, .inr (10, [.ref k0, .ref k1, .ref k2, .ref k3, .ref k4, .ref k5, .ref k6, .ref k7, .ref k8, .ref k9, .ref ka, .ref kb, .int cc])), (kb, .inl (cI, 6, .inl scb_57))] := hD
        have hr_55 := w_56
        obtain rfl : r_55 = (-1000005) := hr_55.trans (by decide)
        exact hRet (c65, scb_57, c60, c61, c62, c63, c64) [14, 11, 0, 15, 1, 12, 2, 3, 4, 5, 6, 13, 7, 8, 9, 10] (HND.k (by omega) (by omega)) hP hD (by decide) rfl hS rfl dX10_hands_34
    · refine lv_aload_n hx hb dX10_hands_14 rfl (lv_at hl 0 rfl) ?_
      refine lv_iconst (v := 1) hx hb dX10_hands_15 (by decide) ?_
      refine kJi (wr := [(k6, .inr (0, [.ref k60, .ref k61, .ref k62, .ref k63, .ref k64, .int c65])), (k00, .inl (cI, 12, .inl c00)), (k60, .inl (cI, 41, .inl c60)), (k61, .inl (cI, 41, .inl c61)), (k62, .inl (cI, 60, .inl c62)), (k63, .inl (cI, 60, .inl c63)), (k64, .inl (cI, 60, .inl c64)), (k040, .inl (cI, 60, .inl c040)), (k041, .inl (cI, 60, .inl c041)), (k043, .inl (cI, 60, .inl c043)), (k045, .inl (cI, 60, .inl c045)), (k046, .inl (cI, 40, .inl c046)), (k0, .inr (9, [.ref k00, .ref k01, .ref k02, .ref k03, .ref k04, .ref k05, .int c06, .int c07, .int c08])), (k04, .inr (8, [.ref k040, .ref k041, .ref k042, .ref k043, .ref k044, .ref k045, .ref k046, .ref k047, .ref k048, .int c049]))]) (va_runV (As := [.int 1]) (rest := []) ⟨hx, hb, hml, hown, hT⟩ (c_X10_findingG l D cI aK aV k k0 k1 k2 k3 k4 k5 k6 k7 k8 k9 ka kb H.size cc cb 1) (cwV 1 hT (gV_in mw_338 mw_335 mw_337 mw_p1_0 mw_1) rfl rfl rfl (by decide +kernel) ⟨Nat.le_of_ble_eq_true rfl, Nat.le_of_ble_eq_true rfl⟩) (kRecvX (q0 := 13) (ci := 10) hK hP hD hN hXS hS hA rfl rfl [13, 1] rfl (by decide)) rfl rfl hl.1 rfl (lv_room (Nat.le_of_ble_eq_true rfl)) dX10_hands_16 ⟨Nat.le_of_ble_eq_true rfl, Nat.le_of_ble_eq_true rfl⟩) hP hD hS hA [13, 1] [0, 2, 3, 4, 5, 6, 7, 8, 9, 10, 11, 12, 14, 15] rfl rfl (by decide) (by decide) ?_
      clear hP hD hS
      intro r_58 scb_60 H locs w_59 hP hD hS
      replace hP : va_P D vwCl [(k6, .inr (0, [.ref k60, .ref k61, .ref k62, .ref k63, .ref k64, .int c65])), (k00, .inl (cI, 12, .inl c00)), (k60, .inl (cI, 41, .inl c60)), (k61, .inl (cI, 41, .inl c61)), (k62, .inl (cI, 60, .inl c62)), (k63, .inl (cI, 60, .inl c63)), (k64, .inl (cI, 60, .inl c64)), (k040, .inl (cI, 60, .inl c040)), (k041, .inl (cI, 60, .inl c041)), (k043, .inl (cI, 60, .inl c043)), (k045, .inl (cI, 60, .inl c045)), (k046, .inl (cI, 40, .inl c046)), (k0, .inr (9, [.ref k00, .ref k01, .ref k02, .ref k03, .ref k04, .ref k05, .int c06, .int c07, .int c08])), (k04, .inr (8, [.ref k040, .ref k041, .ref k042, .ref k043, .ref k044, .ref k045, .ref k046, .ref k047, .ref k048, .int c049])), (k, .inr (10, [.ref k0, .ref k1, .ref k2, .ref k3, .ref k4, .ref k5, .ref k6, .ref k7, .ref k8, .ref k9, .ref ka, .ref kb, .int cc])), (kb, .inl (cI, 6, .inl scb_60))] H := hP
      replace hD : va_D A [(k6, .inr (0, [.ref k60, .ref k61, .ref k62, .ref k63, .ref k64, .int c65])), (k00, .inl (cI, 12, .inl c00)), (k60, .inl (cI, 41, .inl c60)), (k61, .inl (cI, 41, .inl c61)), (k62, .inl (cI, 60, .inl c62)), (k63, .inl (cI, 60, .inl c63)), (k64, .inl (cI, 60, .inl c64)), (k040, .inl (cI, 60, .inl c040)), (k041, .inl (cI, 60, .inl c041)), (k043, .inl (cI, 60, .inl c043)), (k045, .inl (cI, 60, .inl c045)), (k046, .inl (cI, 40, .inl c046)), (k0, .inr (9, [.ref k00, .ref k01, .ref k02, .ref k03, .ref k04, .ref k05, .int c06, .int c07, .int c08])), (k04, .inr (8, [.ref k040, .ref k041, .ref k042, .ref k043, .ref k044, .ref k045, .ref k046, .ref k047, .ref k048, .int c049])), (k, .inr (10, [.ref k0, .ref k1, .ref k2, .ref k3, .ref k4, .ref k5, .ref k6, .ref k7, .ref k8, .ref k9, .ref ka, .ref kb, .int cc])), (kb, .inl (cI, 6, .inl scb_60))] := hD
      have hr_58 := w_59
      obtain rfl : r_58 = (-1000001) := hr_58.trans (by decide)
      exact hRet (c65, scb_60, c60, c61, c62, c63, c64) [14, 12, 0, 15, 1, 13, 2, 3, 4, 5, 6, 7, 8, 9, 10, 11] (HND.b (by omega)) hP hD (by decide) rfl hS rfl dX10_hands_19
  · have h_14 : a0.toInt < 0 ∨ (gx 1).toInt ≤ a0.toInt ∨ a1.toInt < 0 ∨ (gx 1).toInt ≤ a1.toInt ∨ a0.toInt = a1.toInt := h_14
    obtain rfl : r_6 = 0 := hr_6.trans (by decide)
    refine b_if_eq hx hb zl_0 (tgt := 14) dX10_hands_6 (by decide) (fun c_61 => ?_) (fun c_61 => by exfalso; omega)
    refine lv_aload_n hx hb dX10_hands_14 rfl (lv_at hl 0 rfl) ?_
    refine lv_iconst (v := 1) hx hb dX10_hands_15 (by decide) ?_
    refine kJi (wr := [(k6, .inr (0, [.ref k60, .ref k61, .ref k62, .ref k63, .ref k64, .int c65])), (k00, .inl (cI, 12, .inl c00)), (k60, .inl (cI, 41, .inl c60)), (k61, .inl (cI, 41, .inl c61)), (k62, .inl (cI, 60, .inl c62)), (k63, .inl (cI, 60, .inl c63)), (k64, .inl (cI, 60, .inl c64)), (k040, .inl (cI, 60, .inl c040)), (k041, .inl (cI, 60, .inl c041)), (k043, .inl (cI, 60, .inl c043)), (k045, .inl (cI, 60, .inl c045)), (k046, .inl (cI, 40, .inl c046)), (k0, .inr (9, [.ref k00, .ref k01, .ref k02, .ref k03, .ref k04, .ref k05, .int c06, .int c07, .int c08])), (k04, .inr (8, [.ref k040, .ref k041, .ref k042, .ref k043, .ref k044, .ref k045, .ref k046, .ref k047, .ref k048, .int c049]))]) (va_runV (As := [.int 1]) (rest := []) ⟨hx, hb, hml, hown, hT⟩ (c_X10_findingG l D cI aK aV k k0 k1 k2 k3 k4 k5 k6 k7 k8 k9 ka kb H.size cc cb 1) (cwV 1 hT (gV_in mw_338 mw_335 mw_337 mw_p1_0 mw_1) rfl rfl rfl (by decide +kernel) ⟨Nat.le_of_ble_eq_true rfl, Nat.le_of_ble_eq_true rfl⟩) (kRecvX (q0 := 13) (ci := 10) hK hP hD hN hXS hS hA rfl rfl [13, 1] rfl (by decide)) rfl rfl hl.1 rfl (lv_room (Nat.le_of_ble_eq_true rfl)) dX10_hands_16 ⟨Nat.le_of_ble_eq_true rfl, Nat.le_of_ble_eq_true rfl⟩) hP hD hS hA [13, 1] [0, 2, 3, 4, 5, 6, 7, 8, 9, 10, 11, 12, 14, 15] rfl rfl (by decide) (by decide) ?_
    clear hP hD hS
    intro r_62 scb_64 H locs w_63 hP hD hS
    replace hP : va_P D vwCl [(k6, .inr (0, [.ref k60, .ref k61, .ref k62, .ref k63, .ref k64, .int c65])), (k00, .inl (cI, 12, .inl c00)), (k60, .inl (cI, 41, .inl c60)), (k61, .inl (cI, 41, .inl c61)), (k62, .inl (cI, 60, .inl c62)), (k63, .inl (cI, 60, .inl c63)), (k64, .inl (cI, 60, .inl c64)), (k040, .inl (cI, 60, .inl c040)), (k041, .inl (cI, 60, .inl c041)), (k043, .inl (cI, 60, .inl c043)), (k045, .inl (cI, 60, .inl c045)), (k046, .inl (cI, 40, .inl c046)), (k0, .inr (9, [.ref k00, .ref k01, .ref k02, .ref k03, .ref k04, .ref k05, .int c06, .int c07, .int c08])), (k04, .inr (8, [.ref k040, .ref k041, .ref k042, .ref k043, .ref k044, .ref k045, .ref k046, .ref k047, .ref k048, .int c049])), (k, .inr (10, [.ref k0, .ref k1, .ref k2, .ref k3, .ref k4, .ref k5, .ref k6, .ref k7, .ref k8, .ref k9, .ref ka, .ref kb, .int cc])), (kb, .inl (cI, 6, .inl scb_64))] H := hP
    replace hD : va_D A [(k6, .inr (0, [.ref k60, .ref k61, .ref k62, .ref k63, .ref k64, .int c65])), (k00, .inl (cI, 12, .inl c00)), (k60, .inl (cI, 41, .inl c60)), (k61, .inl (cI, 41, .inl c61)), (k62, .inl (cI, 60, .inl c62)), (k63, .inl (cI, 60, .inl c63)), (k64, .inl (cI, 60, .inl c64)), (k040, .inl (cI, 60, .inl c040)), (k041, .inl (cI, 60, .inl c041)), (k043, .inl (cI, 60, .inl c043)), (k045, .inl (cI, 60, .inl c045)), (k046, .inl (cI, 40, .inl c046)), (k0, .inr (9, [.ref k00, .ref k01, .ref k02, .ref k03, .ref k04, .ref k05, .int c06, .int c07, .int c08])), (k04, .inr (8, [.ref k040, .ref k041, .ref k042, .ref k043, .ref k044, .ref k045, .ref k046, .ref k047, .ref k048, .int c049])), (k, .inr (10, [.ref k0, .ref k1, .ref k2, .ref k3, .ref k4, .ref k5, .ref k6, .ref k7, .ref k8, .ref k9, .ref ka, .ref kb, .int cc])), (kb, .inl (cI, 6, .inl scb_64))] := hD
    have hr_62 := w_63
    obtain rfl : r_62 = (-1000001) := hr_62.trans (by decide)
    exact hRet (c65, scb_64, c60, c61, c62, c63, c64) [14, 12, 0, 15, 1, 13, 2, 3, 4, 5, 6, 7, 8, 9, 10, 11] (HND.b (by omega)) hP hD (by decide) rfl hS rfl dX10_hands_19

set_option maxHeartbeats 4000000 in
set_option maxRecDepth 100000 in
theorem c_X2_daysOfD (l : Launch) (D : va_G) (cI : ClassId) (aK aV : Nat → Nat) (sz : Nat) (a0 : Int32) (a1 : Int32) (pre0 : 1 ≤ a0.toInt) (pre1 : a0.toInt ≤ 110) (pre2 : 1 ≤ a1.toInt) (pre3 : a1.toInt ≤ 50) : Met l yX2_daysOf (gW yX2_daysOf cX2_daysOf 2 (some .int)) ({ frames := 0, cells := 0, slots := 0, locals := 0 } : Room) (kPreX D cI aK aV [.int a0, .int a1] [] sz) (va_Qi (fun (r : Int32) (u : Unit) => r = (a0 + a1 - 1) / a1 ∧ 0 ≤ r.toInt ∧ r.toInt ≤ a0.toInt) (fun u t => kWd D cI (va_A [] sz) [] t) (va_A [] sz)) 0 0 (va_A [] sz) := by
  refine kMetIX (own := RX2) (by decide) rfl (Nat.le_of_ble_eq_true rfl) ?_
  intro p e s m args below meth c hx hb hT hown hname hml A Q hK hP hD hS hA hN hXS hRet ls hl
  have hl : lv_has ls 2 [(0, .int a0), (1, .int a1)] := hl
  have lo_a0 := k_lo a0
  have hi_a0 := k_hi a0
  have lo_a1 := k_lo a1
  have hi_a1 := k_hi a1
  refine lv_iload_n hx hb dX2_daysOf_0 rfl (lv_at hl 1 rfl) ?_
  refine b_if_le hx hb rfl (tgt := 14) dX2_daysOf_1 (by decide) (fun c_1 => by exfalso; omega) (fun c_1 => ?_)
  refine lv_iload_n hx hb dX2_daysOf_4 rfl (lv_at hl 0 rfl) ?_
  refine lv_iload_n hx hb dX2_daysOf_5 rfl (lv_at hl 1 rfl) ?_
  refine lv_iadd hx hb dX2_daysOf_6 ?_
  refine lv_topi (fun v_2 ev_2 => ?_)
  have tv_2 : v_2.toInt = a0.toInt + a1.toInt := by rw [ev_2]; exact k_addv rfl rfl (by omega) (by omega)
  refine lv_iconst (v := 1) hx hb dX2_daysOf_7 (by decide) ?_
  refine lv_isub hx hb dX2_daysOf_8 ?_
  refine lv_topi (fun v_3 ev_3 => ?_)
  have tv_3 : v_3.toInt = v_2.toInt - 1 := by rw [ev_3]; exact k_subv rfl zl_1 (by omega) (by omega)
  refine lv_iload_n hx hb dX2_daysOf_9 rfl (lv_at hl 1 rfl) ?_
  refine lv_idiv hx hb dX2_daysOf_10 (k_ne0 (by omega)) ?_
  refine lv_topi (fun v_4 ev_4 => ?_)
  have lo_v_4 := k_lo v_4
  have hi_v_4 := k_hi v_4
  have q_5 := k_ceil (e := a0) ev_4 (by omega) (by omega) (by omega)
  refine lv_goto (tgt := 15) hx hb dX2_daysOf_11 (by decide) ?_
  exact hRet () [] ⟨(by rw [ev_4, ev_3, ev_2]), (by first | omega | decide | assumption | rfl), (by first | omega | decide | assumption | rfl)⟩ hP hD (by decide) rfl hS rfl dX2_daysOf_15

set_option maxHeartbeats 4000000 in
set_option maxRecDepth 100000 in
theorem c_X2_weighRowD (l : Launch) (D : va_G) (cI : ClassId) (aK aV : Nat → Nat) (k o y k0 k1 o0 o1 o2 o3 o4 o5 o50 y0 y1 y2 : Nat) (sz : Nat) (c0 : Nat → Int32) (c1 : Nat → Int32) (d6 : Int32) (d7 : Int32) (d8 : Int32) (d1 : Nat → Int32) (d51 : Int32) (d50 : Nat → Int32) (e1 : Nat → Int32) (e2 : Nat → Int32) (d0 : Nat → Int32) (d2 : Nat → Int32) (d3 : Nat → Int32) (d40 : Nat → Int32) (d41 : Nat → Int32) (d42 : Nat → Int32) (d43 : Nat → Int32) (d44 : Nat → Int32) (d45 : Nat → Int32) (d46 : Nat → Int32) (d47 : Nat → Int32) (d48 : Nat → Int32) (d49 : Int32) (gx : Nat → Int32) (a2 : Int32) (a3 : Int32) (a4 : Int32) (a5 : Int32) (pre0 : WR d0 d1 d2 d3 d40 d41 d42 d43 d44 d45 d46 d47 d48 d49 d50 d51 d6 d7 d8 gx) (pre1 : SB gx) (pre2 : 0 ≤ a2.toInt) (pre3 : a2.toInt ≤ 3) (pre4 : 0 ≤ a4.toInt) (pre5 : a4.toInt < d51.toInt) (pre6 : 0 ≤ a5.toInt) (pre7 : a5.toInt < d51.toInt) (pre8 : 1 ≤ (pW gx a4 2).toInt) (pre9 : (pW gx a4 2).toInt ≤ 50) (pre10 : 1 ≤ (pW gx a5 2).toInt) (pre11 : (pW gx a5 2).toInt ≤ 50) (pre12 : 0 ≤ (pW gx a4 0).toInt) (pre13 : (pW gx a4 0).toInt < (pW gx a5 0).toInt) (pre14 : (pW gx a5 0).toInt ≤ 39) (pre15 : allB (shv e2 a2) 0 9 (e1 a2.toNatClampNeg).toInt.toNat = true) (pre16 : (e1 a2.toNatClampNeg).toInt ≤ 36) (pre17 : 0 ≤ a3.toInt) (pre18 : a3.toInt + 12 ≤ (e1 a2.toNatClampNeg).toInt) (pre19 : ∀ k : Nat, k < 4 → 0 ≤ (e1 k).toInt ∧ (e1 k).toInt ≤ 36) : Met l yX2_weighRow (gW yX2_weighRow cX2_weighRow 13 none) ({ frames := 4, cells := 0, slots := 0, locals := 85 } : Room) (kPreX D cI aK aV [.ref k, .ref o, .ref y, .int a2, .int a3, .int a4, .int a5] [(k, .inr (2, [.ref k0, .ref k1])), (k0, .inl (cI, 40, .inl c0)), (k1, .inl (cI, 40, .inl c1)), (o, .inr (9, [.ref o0, .ref o1, .ref o2, .ref o3, .ref o4, .ref o5, .int d6, .int d7, .int d8])), (o1, .inl (cI, 40, .inl d1)), (o5, .inr (3, [.ref o50, .int d51])), (o50, .inl (cI, 36, .inl d50)), (y, .inr (6, [.ref y0, .ref y1, .ref y2])), (y1, .inl (cI, 4, .inl e1)), (y2, .inl (cI, 144, .inl e2))] sz) (va_Qv (fun (u : (Nat → Int32) × (Nat → Int32)) => MWR gx e2 a2 a3 a4 a5 c1 u.2) (fun u t => kWd D cI (va_A [(k, .inr (2, [.ref k0, .ref k1])), (k0, .inl (cI, 40, .inl c0)), (k1, .inl (cI, 40, .inl c1)), (o, .inr (9, [.ref o0, .ref o1, .ref o2, .ref o3, .ref o4, .ref o5, .int d6, .int d7, .int d8])), (o1, .inl (cI, 40, .inl d1)), (o5, .inr (3, [.ref o50, .int d51])), (o50, .inl (cI, 36, .inl d50)), (y, .inr (6, [.ref y0, .ref y1, .ref y2])), (y1, .inl (cI, 4, .inl e1)), (y2, .inl (cI, 144, .inl e2))] sz) [(k, .inr (2, [.ref k0, .ref k1])), (k0, .inl (cI, 40, .inl u.1)), (k1, .inl (cI, 40, .inl u.2)), (o, .inr (9, [.ref o0, .ref o1, .ref o2, .ref o3, .ref o4, .ref o5, .int d6, .int d7, .int d8])), (o1, .inl (cI, 40, .inl d1)), (o5, .inr (3, [.ref o50, .int d51])), (o50, .inl (cI, 36, .inl d50)), (y, .inr (6, [.ref y0, .ref y1, .ref y2])), (y1, .inl (cI, 4, .inl e1)), (y2, .inl (cI, 144, .inl e2))] t) (va_A [(k, .inr (2, [.ref k0, .ref k1])), (k0, .inl (cI, 40, .inl c0)), (k1, .inl (cI, 40, .inl c1)), (o, .inr (9, [.ref o0, .ref o1, .ref o2, .ref o3, .ref o4, .ref o5, .int d6, .int d7, .int d8])), (o1, .inl (cI, 40, .inl d1)), (o5, .inr (3, [.ref o50, .int d51])), (o50, .inl (cI, 36, .inl d50)), (y, .inr (6, [.ref y0, .ref y1, .ref y2])), (y1, .inl (cI, 4, .inl e1)), (y2, .inl (cI, 144, .inl e2))] sz)) 0 0 (va_A [(k, .inr (2, [.ref k0, .ref k1])), (k0, .inl (cI, 40, .inl c0)), (k1, .inl (cI, 40, .inl c1)), (o, .inr (9, [.ref o0, .ref o1, .ref o2, .ref o3, .ref o4, .ref o5, .int d6, .int d7, .int d8])), (o1, .inl (cI, 40, .inl d1)), (o5, .inr (3, [.ref o50, .int d51])), (o50, .inl (cI, 36, .inl d50)), (y, .inr (6, [.ref y0, .ref y1, .ref y2])), (y1, .inl (cI, 4, .inl e1)), (y2, .inl (cI, 144, .inl e2))] sz) := by
  refine kMetVX (own := RX2) (by decide) rfl (Nat.le_of_ble_eq_true rfl) ?_
  intro p e s m args below meth c hx hb hT hown hname hml A Q hK hP hD hS hA hN hXS hRet ls hl
  have hl : lv_has ls 13 [(0, .ref k), (1, .ref o), (2, .ref y), (3, .int a2), (4, .int a3), (5, .int a4), (6, .int a5)] := hl
  have lo_a2 := k_lo a2
  have hi_a2 := k_hi a2
  have lo_a3 := k_lo a3
  have hi_a3 := k_hi a3
  have lo_a4 := k_lo a4
  have hi_a4 := k_hi a4
  have lo_a5 := k_lo a5
  have hi_a5 := k_hi a5
  have lo_d6 := k_lo d6
  have hi_d6 := k_hi d6
  have lo_d7 := k_lo d7
  have hi_d7 := k_hi d7
  have lo_d8 := k_lo d8
  have hi_d8 := k_hi d8
  have lo_d51 := k_lo d51
  have hi_d51 := k_hi d51
  have lo_d49 := k_lo d49
  have hi_d49 := k_hi d49
  have hd0 := SB.n0 pre1
  have pre0 : WR d0 d1 d2 d3 d40 d41 d42 d43 d44 d45 d46 d47 d48 d49 d50 d51 d6 d7 d8 gx := pre0
  have b_1 : 0 ≤ d49.toInt ∧ d49.toInt ≤ 60 := WKR.n0 (WR.kw pre0)
  have t_2 : d49.toInt = (gx 1).toInt := WKR.nt (WR.kw pre0)
  have b_3 : 0 ≤ d51.toInt ∧ d51.toInt ≤ 4 := ((WR.kp pre0)).2.1
  have t_4 : d51.toInt = (gx 2).toInt := PTR.nt (WR.kp pre0)
  have t_5 : d8.toInt = (gx 0).toInt := by rw [WR.dd pre0]
  have pre1 : SB gx := pre1
  have pre15 : allB (shv e2 a2) 0 9 (e1 a2.toNatClampNeg).toInt.toNat = true := pre15
  refine lv_aload_n hx hb dX2_weighRow_0 rfl (lv_at hl 1 rfl) ?_
  refine va_get (D := D) (ci := 9) (v := .ref o5) (C := RX9) (T := TX9) (N := 9) hx hb hT giX9 hown hK hP 3 rfl rfl 5 (by decide) (hT (Cond.fieldLink RX2 28 "DesertWire$World" "parties" "LDesertWire$Parties;") mw_101) (fun _ h9 => h9) rfl dX2_weighRow_1 ?_
  refine lv_iload hx hb dX2_weighRow_4 (lv_at hl 5 rfl) ?_
  refine lv_iconst (v := 0) hx hb dX2_weighRow_6 (by decide) ?_
  refine kJi (wr := [(k, .inr (2, [.ref k0, .ref k1])), (k0, .inl (cI, 40, .inl c0)), (k1, .inl (cI, 40, .inl c1)), (o, .inr (9, [.ref o0, .ref o1, .ref o2, .ref o3, .ref o4, .ref o5, .int d6, .int d7, .int d8])), (o1, .inl (cI, 40, .inl d1)), (y, .inr (6, [.ref y0, .ref y1, .ref y2])), (y1, .inl (cI, 4, .inl e1)), (y2, .inl (cI, 144, .inl e2))]) (va_runV (As := [.int a4, .int 0]) (rest := []) ⟨hx, hb, hml, hown, hT⟩ (c_X3_getD0 l D cI aK aV o5 o50 s.heap.size d51 d50 gx a4 0 (WR.kp pre0) (by first | omega | (simp only [zl_0]; first | done | omega) | decide | assumption | rfl) (by first | omega | (simp only [zl_0]; first | done | omega) | decide | assumption | rfl) (by first | omega | (simp only [zl_0]; first | done | omega) | decide | assumption | rfl)) (cwV 2 hT (gV_in mw_726 mw_937 mw_724 mw_725 mw_4) rfl rfl rfl (by decide +kernel) ⟨Nat.le_of_ble_eq_true rfl, Nat.le_of_ble_eq_true rfl⟩) (kRecvX (q0 := 5) (ci := 3) hK hP hD hN hXS hS hA rfl rfl [5, 6] rfl (by decide)) rfl rfl hl.1 rfl (lv_room (Nat.le_of_ble_eq_true rfl)) dX2_weighRow_7 ⟨Nat.le_of_ble_eq_true rfl, Nat.le_of_ble_eq_true rfl⟩) hP hD hS hA [5, 6] [0, 1, 2, 3, 4, 7, 8, 9] rfl rfl (by decide) (by decide) ?_
  clear hP hD hS
  intro r_6 u_8 H locs w_7 hP hD hS
  replace hP : va_P D vwCl [(k, .inr (2, [.ref k0, .ref k1])), (k0, .inl (cI, 40, .inl c0)), (k1, .inl (cI, 40, .inl c1)), (o, .inr (9, [.ref o0, .ref o1, .ref o2, .ref o3, .ref o4, .ref o5, .int d6, .int d7, .int d8])), (o1, .inl (cI, 40, .inl d1)), (y, .inr (6, [.ref y0, .ref y1, .ref y2])), (y1, .inl (cI, 4, .inl e1)), (y2, .inl (cI, 144, .inl e2)), (o5, .inr (3, [.ref o50, .int d51])), (o50, .inl (cI, 36, .inl d50))] H := hP
  replace hD : va_D A [(k, .inr (2, [.ref k0, .ref k1])), (k0, .inl (cI, 40, .inl c0)), (k1, .inl (cI, 40, .inl c1)), (o, .inr (9, [.ref o0, .ref o1, .ref o2, .ref o3, .ref o4, .ref o5, .int d6, .int d7, .int d8])), (o1, .inl (cI, 40, .inl d1)), (y, .inr (6, [.ref y0, .ref y1, .ref y2])), (y1, .inl (cI, 4, .inl e1)), (y2, .inl (cI, 144, .inl e2)), (o5, .inr (3, [.ref o50, .int d51])), (o50, .inl (cI, 36, .inl d50))] := hD
  have h_9 := w_7
  have h_9 : r_6 = pW gx a4 0 := h_9
  have t_10 : r_6.toInt = (pW gx a4 0).toInt := by rw [h_9]
  have b_11 : 0 ≤ r_6.toInt ∧ r_6.toInt ≤ 39 := by rw [h_9]; exact SB.p0 pre1 (by omega) (by omega)
  have lo_r_6 := k_lo r_6
  have hi_r_6 := k_hi r_6
  refine lv_istore (lv' := [(7, .int r_6), (0, .ref k), (1, .ref o), (2, .ref y), (3, .int a2), (4, .int a3), (5, .int a4), (6, .int a5)]) hx hb dX2_weighRow_10 hl (by decide) rfl ?_
  clear hl
  intro ls hl
  refine lv_aload_n hx hb dX2_weighRow_12 rfl (lv_at hl 2 rfl) ?_
  refine va_get (D := D) (ci := 9) (v := .ref o5) (C := RX9) (T := TX9) (N := 9) hx hb hT giX9 hown hK hP 3 rfl rfl 5 (by decide) (hT (Cond.fieldLink RX2 28 "DesertWire$World" "parties" "LDesertWire$Parties;") mw_101) (fun _ h9 => h9) rfl dX2_weighRow_13 ?_
  refine lv_iload hx hb dX2_weighRow_16 (lv_at hl 7 rfl) ?_
  refine lv_iconst (v := 0) hx hb dX2_weighRow_18 (by decide) ?_
  refine kJi (wr := [(k, .inr (2, [.ref k0, .ref k1])), (k0, .inl (cI, 40, .inl c0)), (k1, .inl (cI, 40, .inl c1)), (o, .inr (9, [.ref o0, .ref o1, .ref o2, .ref o3, .ref o4, .ref o5, .int d6, .int d7, .int d8])), (o1, .inl (cI, 40, .inl d1)), (y, .inr (6, [.ref y0, .ref y1, .ref y2])), (y1, .inl (cI, 4, .inl e1)), (y2, .inl (cI, 144, .inl e2))]) (va_runV (As := [.int a5, .int 0]) (rest := []) ⟨hx, hb, hml, hown, hT⟩ (c_X3_getD0 l D cI aK aV o5 o50 H.size d51 d50 gx a5 0 (WR.kp pre0) (by first | omega | (simp only [zl_0]; first | done | omega) | decide | assumption | rfl) (by first | omega | (simp only [zl_0]; first | done | omega) | decide | assumption | rfl) (by first | omega | (simp only [zl_0]; first | done | omega) | decide | assumption | rfl)) (cwV 2 hT (gV_in mw_726 mw_937 mw_724 mw_725 mw_4) rfl rfl rfl (by decide +kernel) ⟨Nat.le_of_ble_eq_true rfl, Nat.le_of_ble_eq_true rfl⟩) (kRecvX (q0 := 8) (ci := 3) hK hP hD hN hXS hS hA rfl rfl [8, 9] rfl (by decide)) rfl rfl hl.1 rfl (lv_room (Nat.le_of_ble_eq_true rfl)) dX2_weighRow_19 ⟨Nat.le_of_ble_eq_true rfl, Nat.le_of_ble_eq_true rfl⟩) hP hD hS hA [8, 9] [0, 1, 2, 3, 4, 5, 6, 7] rfl rfl (by decide) (by decide) ?_
  clear hP hD hS
  intro r_12 u_14 H locs w_13 hP hD hS
  replace hP : va_P D vwCl [(k, .inr (2, [.ref k0, .ref k1])), (k0, .inl (cI, 40, .inl c0)), (k1, .inl (cI, 40, .inl c1)), (o, .inr (9, [.ref o0, .ref o1, .ref o2, .ref o3, .ref o4, .ref o5, .int d6, .int d7, .int d8])), (o1, .inl (cI, 40, .inl d1)), (y, .inr (6, [.ref y0, .ref y1, .ref y2])), (y1, .inl (cI, 4, .inl e1)), (y2, .inl (cI, 144, .inl e2)), (o5, .inr (3, [.ref o50, .int d51])), (o50, .inl (cI, 36, .inl d50))] H := hP
  replace hD : va_D A [(k, .inr (2, [.ref k0, .ref k1])), (k0, .inl (cI, 40, .inl c0)), (k1, .inl (cI, 40, .inl c1)), (o, .inr (9, [.ref o0, .ref o1, .ref o2, .ref o3, .ref o4, .ref o5, .int d6, .int d7, .int d8])), (o1, .inl (cI, 40, .inl d1)), (y, .inr (6, [.ref y0, .ref y1, .ref y2])), (y1, .inl (cI, 4, .inl e1)), (y2, .inl (cI, 144, .inl e2)), (o5, .inr (3, [.ref o50, .int d51])), (o50, .inl (cI, 36, .inl d50))] := hD
  have h_15 := w_13
  have h_15 : r_12 = pW gx a5 0 := h_15
  have t_16 : r_12.toInt = (pW gx a5 0).toInt := by rw [h_15]
  have b_17 : 0 ≤ r_12.toInt ∧ r_12.toInt ≤ 39 := by rw [h_15]; exact SB.p0 pre1 (by omega) (by omega)
  have lo_r_12 := k_lo r_12
  have hi_r_12 := k_hi r_12
  refine lv_istore (lv' := [(8, .int r_12), (7, .int r_6), (0, .ref k), (1, .ref o), (2, .ref y), (3, .int a2), (4, .int a3), (5, .int a4), (6, .int a5)]) hx hb dX2_weighRow_22 hl (by decide) rfl ?_
  clear hl
  intro ls hl
  refine lv_aload_n hx hb dX2_weighRow_24 rfl (lv_at hl 3 rfl) ?_
  refine va_get (D := D) (ci := 9) (v := .ref o5) (C := RX9) (T := TX9) (N := 9) hx hb hT giX9 hown hK hP 3 rfl rfl 5 (by decide) (hT (Cond.fieldLink RX2 28 "DesertWire$World" "parties" "LDesertWire$Parties;") mw_101) (fun _ h9 => h9) rfl dX2_weighRow_25 ?_
  refine lv_iload hx hb dX2_weighRow_28 (lv_at hl 7 rfl) ?_
  refine lv_iconst (v := 2) hx hb dX2_weighRow_30 (by decide) ?_
  refine kJi (wr := [(k, .inr (2, [.ref k0, .ref k1])), (k0, .inl (cI, 40, .inl c0)), (k1, .inl (cI, 40, .inl c1)), (o, .inr (9, [.ref o0, .ref o1, .ref o2, .ref o3, .ref o4, .ref o5, .int d6, .int d7, .int d8])), (o1, .inl (cI, 40, .inl d1)), (y, .inr (6, [.ref y0, .ref y1, .ref y2])), (y1, .inl (cI, 4, .inl e1)), (y2, .inl (cI, 144, .inl e2))]) (va_runV (As := [.int a4, .int 2]) (rest := []) ⟨hx, hb, hml, hown, hT⟩ (c_X3_getD2 l D cI aK aV o5 o50 H.size d51 d50 gx a4 2 (WR.kp pre0) (by first | omega | (simp only [zl_2]; first | done | omega) | decide | assumption | rfl) (by first | omega | (simp only [zl_2]; first | done | omega) | decide | assumption | rfl) (by first | omega | (simp only [zl_2]; first | done | omega) | decide | assumption | rfl)) (cwV 2 hT (gV_in mw_726 mw_937 mw_724 mw_725 mw_4) rfl rfl rfl (by decide +kernel) ⟨Nat.le_of_ble_eq_true rfl, Nat.le_of_ble_eq_true rfl⟩) (kRecvX (q0 := 8) (ci := 3) hK hP hD hN hXS hS hA rfl rfl [8, 9] rfl (by decide)) rfl rfl hl.1 rfl (lv_room (Nat.le_of_ble_eq_true rfl)) dX2_weighRow_31 ⟨Nat.le_of_ble_eq_true rfl, Nat.le_of_ble_eq_true rfl⟩) hP hD hS hA [8, 9] [0, 1, 2, 3, 4, 5, 6, 7] rfl rfl (by decide) (by decide) ?_
  clear hP hD hS
  intro r_18 u_20 H locs w_19 hP hD hS
  replace hP : va_P D vwCl [(k, .inr (2, [.ref k0, .ref k1])), (k0, .inl (cI, 40, .inl c0)), (k1, .inl (cI, 40, .inl c1)), (o, .inr (9, [.ref o0, .ref o1, .ref o2, .ref o3, .ref o4, .ref o5, .int d6, .int d7, .int d8])), (o1, .inl (cI, 40, .inl d1)), (y, .inr (6, [.ref y0, .ref y1, .ref y2])), (y1, .inl (cI, 4, .inl e1)), (y2, .inl (cI, 144, .inl e2)), (o5, .inr (3, [.ref o50, .int d51])), (o50, .inl (cI, 36, .inl d50))] H := hP
  replace hD : va_D A [(k, .inr (2, [.ref k0, .ref k1])), (k0, .inl (cI, 40, .inl c0)), (k1, .inl (cI, 40, .inl c1)), (o, .inr (9, [.ref o0, .ref o1, .ref o2, .ref o3, .ref o4, .ref o5, .int d6, .int d7, .int d8])), (o1, .inl (cI, 40, .inl d1)), (y, .inr (6, [.ref y0, .ref y1, .ref y2])), (y1, .inl (cI, 4, .inl e1)), (y2, .inl (cI, 144, .inl e2)), (o5, .inr (3, [.ref o50, .int d51])), (o50, .inl (cI, 36, .inl d50))] := hD
  have h_21 := w_19
  have h_21 : r_18 = pW gx a4 2 := h_21
  have t_22 : r_18.toInt = (pW gx a4 2).toInt := by rw [h_21]
  have b_23 : 0 ≤ r_18.toInt ∧ r_18.toInt ≤ 50 := by rw [h_21]; exact SB.p2 pre1 (by omega) (by omega)
  have lo_r_18 := k_lo r_18
  have hi_r_18 := k_hi r_18
  refine lv_istore (lv' := [(9, .int r_18), (8, .int r_12), (7, .int r_6), (0, .ref k), (1, .ref o), (2, .ref y), (3, .int a2), (4, .int a3), (5, .int a4), (6, .int a5)]) hx hb dX2_weighRow_34 hl (by decide) rfl ?_
  clear hl
  intro ls hl
  refine lv_iconst (v := 0) hx hb dX2_weighRow_36 (by decide) ?_
  refine lv_istore (lv' := [(10, .int 0), (9, .int r_18), (8, .int r_12), (7, .int r_6), (0, .ref k), (1, .ref o), (2, .ref y), (3, .int a2), (4, .int a3), (5, .int a4), (6, .int a5)]) hx hb dX2_weighRow_37 hl (by decide) rfl ?_
  clear hl
  intro ls hl
  refine lv_iload hx hb dX2_weighRow_39 (lv_at hl 3 rfl) ?_
  refine lv_istore (lv' := [(11, .int r_6), (10, .int 0), (9, .int r_18), (8, .int r_12), (7, .int r_6), (0, .ref k), (1, .ref o), (2, .ref y), (3, .int a2), (4, .int a3), (5, .int a4), (6, .int a5)]) hx hb dX2_weighRow_41 hl (by decide) rfl ?_
  clear hl
  intro ls hl
  have hloop_43 : ∀ (fu_ : Nat) (l43_10 : Int32) (l43_11 : Int32) (g43_k0 : Nat → Int32), 0 ≤ l43_10.toInt → r_6.toInt ≤ l43_11.toInt → (pW gx a4 0).toInt ≤ l43_11.toInt → l43_11.toInt ≤ (pW gx a5 0).toInt → 0 ≤ l43_10.toInt → l43_10.toInt + 111 * (pW gx a4 0).toInt ≤ 111 * l43_11.toInt → MGW gx e2 a2 a3 a4 l43_10 l43_11 → MDW gx e2 a2 a3 a4 g43_k0 l43_11 → (40 - l43_11.toInt).toNat < fu_ → ∀ (ls : Array Slot) (H : Heap) (locs : List Loc), lv_has ls 13 [(11, .int l43_11), (10, .int l43_10), (9, .int r_18), (8, .int r_12), (7, .int r_6), (0, .ref k), (1, .ref o), (2, .ref y), (3, .int a2), (4, .int a3), (5, .int a4), (6, .int a5)] → va_P D vwCl [(k, .inr (2, [.ref k0, .ref k1])), (k0, .inl (cI, 40, .inl g43_k0)), (k1, .inl (cI, 40, .inl c1)), (o, .inr (9, [.ref o0, .ref o1, .ref o2, .ref o3, .ref o4, .ref o5, .int d6, .int d7, .int d8])), (o1, .inl (cI, 40, .inl d1)), (y, .inr (6, [.ref y0, .ref y1, .ref y2])), (y1, .inl (cI, 4, .inl e1)), (y2, .inl (cI, 144, .inl e2)), (o5, .inr (3, [.ref o50, .int d51])), (o50, .inl (cI, 36, .inl d50))] H → va_D A [(k, .inr (2, [.ref k0, .ref k1])), (k0, .inl (cI, 40, .inl g43_k0)), (k1, .inl (cI, 40, .inl c1)), (o, .inr (9, [.ref o0, .ref o1, .ref o2, .ref o3, .ref o4, .ref o5, .int d6, .int d7, .int d8])), (o1, .inl (cI, 40, .inl d1)), (y, .inr (6, [.ref y0, .ref y1, .ref y2])), (y1, .inl (cI, 4, .inl e1)), (y2, .inl (cI, 144, .inl e2)), (o5, .inr (3, [.ref o50, .int d51])), (o50, .inl (cI, 36, .inl d50))] → va_S A s.heap H locs → W p l e ({ frames := 4, cells := 0, slots := 0, locals := 85 } : Room) s m args below meth c H locs 0 0 Q (F0 m 43 ls []) := by
    intro fu_; induction fu_ with
    | zero => intro l43_10 l43_11 g43_k0 i43_0 i43_1 i43_2 i43_3 i43_4 i43_5 i43_6 i43_7 hm; exact absurd hm (by omega)
    | succ fu_ ih43 =>
        intro l43_10 l43_11 g43_k0 i43_0 i43_1 i43_2 i43_3 i43_4 i43_5 i43_6 i43_7 hm ls H locs hl hP hD hS
        have lo_l43_10 := k_lo l43_10
        have hi_l43_10 := k_hi l43_10
        have lo_l43_11 := k_lo l43_11
        have hi_l43_11 := k_hi l43_11
        have i43_6 : MGW gx e2 a2 a3 a4 l43_10 l43_11 := i43_6
        have i43_7 : MDW gx e2 a2 a3 a4 g43_k0 l43_11 := i43_7
        refine lv_iload hx hb dX2_weighRow_43 (lv_at hl 0 rfl) ?_
        refine lv_iload hx hb dX2_weighRow_45 (lv_at hl 3 rfl) ?_
        refine b_icmp_ge hx hb rfl rfl (tgt := 117) dX2_weighRow_47 (by decide) (fun c_24 => ?_) (fun c_24 => ?_)
        · refine lv_aload_n hx hb dX2_weighRow_117 rfl (lv_at hl 6 rfl) ?_
          refine va_get (D := D) (ci := 9) (v := .ref o5) (C := RX9) (T := TX9) (N := 9) hx hb hT giX9 hown hK hP 3 rfl rfl 5 (by decide) (hT (Cond.fieldLink RX2 28 "DesertWire$World" "parties" "LDesertWire$Parties;") mw_101) (fun _ h9 => h9) rfl dX2_weighRow_118 ?_
          refine lv_iload hx hb dX2_weighRow_121 (lv_at hl 11 rfl) ?_
          refine lv_iconst (v := 2) hx hb dX2_weighRow_123 (by decide) ?_
          refine kJi (wr := [(k, .inr (2, [.ref k0, .ref k1])), (k0, .inl (cI, 40, .inl g43_k0)), (k1, .inl (cI, 40, .inl c1)), (o, .inr (9, [.ref o0, .ref o1, .ref o2, .ref o3, .ref o4, .ref o5, .int d6, .int d7, .int d8])), (o1, .inl (cI, 40, .inl d1)), (y, .inr (6, [.ref y0, .ref y1, .ref y2])), (y1, .inl (cI, 4, .inl e1)), (y2, .inl (cI, 144, .inl e2))]) (va_runV (As := [.int a5, .int 2]) (rest := []) ⟨hx, hb, hml, hown, hT⟩ (c_X3_getD2 l D cI aK aV o5 o50 H.size d51 d50 gx a5 2 (WR.kp pre0) (by first | omega | (simp only [zl_2]; first | done | omega) | decide | assumption | rfl) (by first | omega | (simp only [zl_2]; first | done | omega) | decide | assumption | rfl) (by first | omega | (simp only [zl_2]; first | done | omega) | decide | assumption | rfl)) (cwV 2 hT (gV_in mw_726 mw_937 mw_724 mw_725 mw_4) rfl rfl rfl (by decide +kernel) ⟨Nat.le_of_ble_eq_true rfl, Nat.le_of_ble_eq_true rfl⟩) (kRecvX (q0 := 8) (ci := 3) hK hP hD hN hXS hS hA rfl rfl [8, 9] rfl (by decide)) rfl rfl hl.1 rfl (lv_room (Nat.le_of_ble_eq_true rfl)) dX2_weighRow_124 ⟨Nat.le_of_ble_eq_true rfl, Nat.le_of_ble_eq_true rfl⟩) hP hD hS hA [8, 9] [0, 1, 2, 3, 4, 5, 6, 7] rfl rfl (by decide) (by decide) ?_
          clear hP hD hS
          intro r_25 u_27 H locs w_26 hP hD hS
          replace hP : va_P D vwCl [(k, .inr (2, [.ref k0, .ref k1])), (k0, .inl (cI, 40, .inl g43_k0)), (k1, .inl (cI, 40, .inl c1)), (o, .inr (9, [.ref o0, .ref o1, .ref o2, .ref o3, .ref o4, .ref o5, .int d6, .int d7, .int d8])), (o1, .inl (cI, 40, .inl d1)), (y, .inr (6, [.ref y0, .ref y1, .ref y2])), (y1, .inl (cI, 4, .inl e1)), (y2, .inl (cI, 144, .inl e2)), (o5, .inr (3, [.ref o50, .int d51])), (o50, .inl (cI, 36, .inl d50))] H := hP
          replace hD : va_D A [(k, .inr (2, [.ref k0, .ref k1])), (k0, .inl (cI, 40, .inl g43_k0)), (k1, .inl (cI, 40, .inl c1)), (o, .inr (9, [.ref o0, .ref o1, .ref o2, .ref o3, .ref o4, .ref o5, .int d6, .int d7, .int d8])), (o1, .inl (cI, 40, .inl d1)), (y, .inr (6, [.ref y0, .ref y1, .ref y2])), (y1, .inl (cI, 4, .inl e1)), (y2, .inl (cI, 144, .inl e2)), (o5, .inr (3, [.ref o50, .int d51])), (o50, .inl (cI, 36, .inl d50))] := hD
          have h_28 := w_26
          have h_28 : r_25 = pW gx a5 2 := h_28
          have t_29 : r_25.toInt = (pW gx a5 2).toInt := by rw [h_28]
          have b_30 : 0 ≤ r_25.toInt ∧ r_25.toInt ≤ 50 := by rw [h_28]; exact SB.p2 pre1 (by omega) (by omega)
          have lo_r_25 := k_lo r_25
          have hi_r_25 := k_hi r_25
          refine lv_istore (lv' := [(9, .int r_25), (11, .int l43_11), (10, .int l43_10), (8, .int r_12), (7, .int r_6), (0, .ref k), (1, .ref o), (2, .ref y), (3, .int a2), (4, .int a3), (5, .int a4), (6, .int a5)]) hx hb dX2_weighRow_127 hl (by decide) rfl ?_
          clear hl
          intro ls hl
          refine lv_iconst (v := 0) hx hb dX2_weighRow_129 (by decide) ?_
          refine lv_istore (lv' := [(10, .int 0), (9, .int r_25), (11, .int l43_11), (8, .int r_12), (7, .int r_6), (0, .ref k), (1, .ref o), (2, .ref y), (3, .int a2), (4, .int a3), (5, .int a4), (6, .int a5)]) hx hb dX2_weighRow_130 hl (by decide) rfl ?_
          clear hl
          intro ls hl
          refine lv_iload hx hb dX2_weighRow_132 (lv_at hl 3 rfl) ?_
          refine lv_iconst (v := 1) hx hb dX2_weighRow_134 (by decide) ?_
          refine lv_isub hx hb dX2_weighRow_135 ?_
          refine lv_topi (fun v_31 ev_31 => ?_)
          have tv_31 : v_31.toInt = r_12.toInt - 1 := by rw [ev_31]; exact k_subv rfl zl_1 (by omega) (by omega)
          refine lv_istore (lv' := [(11, .int v_31), (10, .int 0), (9, .int r_25), (8, .int r_12), (7, .int r_6), (0, .ref k), (1, .ref o), (2, .ref y), (3, .int a2), (4, .int a3), (5, .int a4), (6, .int a5)]) hx hb dX2_weighRow_136 hl (by decide) rfl ?_
          clear hl
          intro ls hl
          have hloop_138 : ∀ (fu_ : Nat) (l138_10 : Int32) (l138_11 : Int32) (g138_k1 : Nat → Int32), 0 ≤ l138_10.toInt → l138_11.toInt ≤ v_31.toInt → l138_11.toInt ≤ (pW gx a5 0).toInt - 1 → (pW gx a4 0).toInt - 1 ≤ l138_11.toInt → 0 ≤ l138_10.toInt → l138_10.toInt + 111 * l138_11.toInt ≤ 111 * (pW gx a5 0).toInt → MGB gx e2 a2 a3 a5 l138_10 l138_11 → MWB gx e2 a2 a3 a4 a5 c1 g138_k1 l138_11 → (l138_11.toInt + 1).toNat < fu_ → ∀ (ls : Array Slot) (H : Heap) (locs : List Loc), lv_has ls 13 [(11, .int l138_11), (10, .int l138_10), (9, .int r_25), (8, .int r_12), (7, .int r_6), (0, .ref k), (1, .ref o), (2, .ref y), (3, .int a2), (4, .int a3), (5, .int a4), (6, .int a5)] → va_P D vwCl [(k, .inr (2, [.ref k0, .ref k1])), (k0, .inl (cI, 40, .inl g43_k0)), (k1, .inl (cI, 40, .inl g138_k1)), (o, .inr (9, [.ref o0, .ref o1, .ref o2, .ref o3, .ref o4, .ref o5, .int d6, .int d7, .int d8])), (o1, .inl (cI, 40, .inl d1)), (y, .inr (6, [.ref y0, .ref y1, .ref y2])), (y1, .inl (cI, 4, .inl e1)), (y2, .inl (cI, 144, .inl e2)), (o5, .inr (3, [.ref o50, .int d51])), (o50, .inl (cI, 36, .inl d50))] H → va_D A [(k, .inr (2, [.ref k0, .ref k1])), (k0, .inl (cI, 40, .inl g43_k0)), (k1, .inl (cI, 40, .inl g138_k1)), (o, .inr (9, [.ref o0, .ref o1, .ref o2, .ref o3, .ref o4, .ref o5, .int d6, .int d7, .int d8])), (o1, .inl (cI, 40, .inl d1)), (y, .inr (6, [.ref y0, .ref y1, .ref y2])), (y1, .inl (cI, 4, .inl e1)), (y2, .inl (cI, 144, .inl e2)), (o5, .inr (3, [.ref o50, .int d51])), (o50, .inl (cI, 36, .inl d50))] → va_S A s.heap H locs → W p l e ({ frames := 4, cells := 0, slots := 0, locals := 85 } : Room) s m args below meth c H locs 0 0 Q (F0 m 138 ls []) := by
            intro fu_; induction fu_ with
            | zero => intro l138_10 l138_11 g138_k1 i138_0 i138_1 i138_2 i138_3 i138_4 i138_5 i138_6 i138_7 hm; exact absurd hm (by omega)
            | succ fu_ ih138 =>
                intro l138_10 l138_11 g138_k1 i138_0 i138_1 i138_2 i138_3 i138_4 i138_5 i138_6 i138_7 hm ls H locs hl hP hD hS
                have lo_l138_10 := k_lo l138_10
                have hi_l138_10 := k_hi l138_10
                have lo_l138_11 := k_lo l138_11
                have hi_l138_11 := k_hi l138_11
                have i138_6 : MGB gx e2 a2 a3 a5 l138_10 l138_11 := i138_6
                have i138_7 : MWB gx e2 a2 a3 a4 a5 c1 g138_k1 l138_11 := i138_7
                refine lv_iload hx hb dX2_weighRow_138 (lv_at hl 0 rfl) ?_
                refine lv_iload hx hb dX2_weighRow_140 (lv_at hl 4 rfl) ?_
                refine b_icmp_lt hx hb rfl rfl (tgt := 234) dX2_weighRow_142 (by decide) (fun c_32 => ?_) (fun c_32 => ?_)
                · exact hRet (g43_k0, g138_k1) [0, 1, 2, 3, 4, 8, 9, 5, 6, 7] (MWB.e i138_7 (by omega)) hP hD (by decide) rfl hS dX2_weighRow_234
                · refine lv_iload hx hb dX2_weighRow_145 (lv_at hl 0 rfl) ?_
                  refine kJi (wr := [(k, .inr (2, [.ref k0, .ref k1])), (k0, .inl (cI, 40, .inl g43_k0)), (k1, .inl (cI, 40, .inl g138_k1)), (o, .inr (9, [.ref o0, .ref o1, .ref o2, .ref o3, .ref o4, .ref o5, .int d6, .int d7, .int d8])), (o1, .inl (cI, 40, .inl d1)), (y, .inr (6, [.ref y0, .ref y1, .ref y2])), (y1, .inl (cI, 4, .inl e1)), (y2, .inl (cI, 144, .inl e2)), (o5, .inr (3, [.ref o50, .int d51])), (o50, .inl (cI, 36, .inl d50))]) (va_runSN (As := [.int l138_11]) (rest := []) ⟨hx, hb, hml, hown, hT⟩ (c_X10_isMileG l D cI aK aV H.size l138_11) ⟨va_cnB 1 hT (gW_in mw_346) rfl rfl rfl (hN _ mw_938) (hT _ mw_1) (by decide +kernel) ⟨Nat.le_of_ble_eq_true rfl, Nat.le_of_ble_eq_true rfl⟩, hT _ mw_345, trivial⟩ (kStatX hK hP hD hN hXS hS hA [] rfl (by decide)) rfl rfl hl.1 rfl (lv_room (Nat.le_of_ble_eq_true rfl)) dX2_weighRow_147 ⟨Nat.le_of_ble_eq_true rfl, Nat.le_of_ble_eq_true rfl⟩) hP hD hS hA [] [0, 1, 2, 3, 4, 5, 6, 7, 8, 9] rfl rfl (by decide) (by decide) ?_
                  clear hP hD hS
                  intro r_33 u_35 H locs w_34 hP hD hS
                  replace hP : va_P D vwCl [(k, .inr (2, [.ref k0, .ref k1])), (k0, .inl (cI, 40, .inl g43_k0)), (k1, .inl (cI, 40, .inl g138_k1)), (o, .inr (9, [.ref o0, .ref o1, .ref o2, .ref o3, .ref o4, .ref o5, .int d6, .int d7, .int d8])), (o1, .inl (cI, 40, .inl d1)), (y, .inr (6, [.ref y0, .ref y1, .ref y2])), (y1, .inl (cI, 4, .inl e1)), (y2, .inl (cI, 144, .inl e2)), (o5, .inr (3, [.ref o50, .int d51])), (o50, .inl (cI, 36, .inl d50))] H := hP
                  replace hD : va_D A [(k, .inr (2, [.ref k0, .ref k1])), (k0, .inl (cI, 40, .inl g43_k0)), (k1, .inl (cI, 40, .inl g138_k1)), (o, .inr (9, [.ref o0, .ref o1, .ref o2, .ref o3, .ref o4, .ref o5, .int d6, .int d7, .int d8])), (o1, .inl (cI, 40, .inl d1)), (y, .inr (6, [.ref y0, .ref y1, .ref y2])), (y1, .inl (cI, 4, .inl e1)), (y2, .inl (cI, 144, .inl e2)), (o5, .inr (3, [.ref o50, .int d51])), (o50, .inl (cI, 36, .inl d50))] := hD
                  rcases w_34 with ⟨hr_33, h_36, h_37⟩ | ⟨hr_33, h_38⟩
                  · have h_36 : 0 ≤ l138_11.toInt := h_36
                    have h_37 : l138_11.toInt ≤ 39 := h_37
                    obtain rfl : r_33 = 1 := hr_33.trans (by decide)
                    refine b_if_eq hx hb zl_1 (tgt := 234) dX2_weighRow_150 (by decide) (fun c_39 => by exfalso; omega) (fun c_39 => ?_)
                    refine lv_aload_n hx hb dX2_weighRow_153 rfl (lv_at hl 7 rfl) ?_
                    refine lv_iload_n hx hb dX2_weighRow_154 rfl (lv_at hl 8 rfl) ?_
                    refine lv_iload hx hb dX2_weighRow_155 (lv_at hl 9 rfl) ?_
                    refine lv_aload_n hx hb dX2_weighRow_157 rfl (lv_at hl 6 rfl) ?_
                    refine va_get (D := D) (ci := 9) (v := .int d8) (C := RX9) (T := TX9) (N := 9) hx hb hT giX9 hown hK hP 3 rfl rfl 8 (by decide) (hT (Cond.fieldLink RX2 44 "DesertWire$World" "day" "I") mw_109) (fun _ h9 => h9) rfl dX2_weighRow_158 ?_
                    refine lv_iload hx hb dX2_weighRow_161 (lv_at hl 1 rfl) ?_
                    refine lv_iadd hx hb dX2_weighRow_163 ?_
                    refine lv_topi (fun v_40 ev_40 => ?_)
                    have tv_40 : v_40.toInt = d8.toInt + l138_10.toInt := by rw [ev_40]; exact k_addv rfl rfl (by omega) (by omega)
                    refine kJi (wr := [(k, .inr (2, [.ref k0, .ref k1])), (k0, .inl (cI, 40, .inl g43_k0)), (k1, .inl (cI, 40, .inl g138_k1)), (o, .inr (9, [.ref o0, .ref o1, .ref o2, .ref o3, .ref o4, .ref o5, .int d6, .int d7, .int d8])), (o1, .inl (cI, 40, .inl d1)), (y, .inr (6, [.ref y0, .ref y1, .ref y2])), (y1, .inl (cI, 4, .inl e1)), (y2, .inl (cI, 144, .inl e2)), (o5, .inr (3, [.ref o50, .int d51])), (o50, .inl (cI, 36, .inl d50))]) (va_runSN (As := [.int v_40]) (rest := [.int a3, .int a2, .ref y]) ⟨hx, hb, hml, hown, hT⟩ (c_X10_monthOfD l D cI aK aV H.size v_40 (by first | omega | decide | assumption | rfl)) ⟨va_cnB 1 hT (gW_in mw_636) rfl rfl rfl (hN _ mw_939) (hT _ mw_1) (by decide +kernel) ⟨Nat.le_of_ble_eq_true rfl, Nat.le_of_ble_eq_true rfl⟩, hT _ mw_635, trivial⟩ (kStatX hK hP hD hN hXS hS hA [] rfl (by decide)) rfl rfl hl.1 rfl (lv_room (Nat.le_of_ble_eq_true rfl)) dX2_weighRow_164 ⟨Nat.le_of_ble_eq_true rfl, Nat.le_of_ble_eq_true rfl⟩) hP hD hS hA [] [0, 1, 2, 3, 4, 5, 6, 7, 8, 9] rfl rfl (by decide) (by decide) ?_
                    clear hP hD hS
                    intro r_41 u_43 H locs w_42 hP hD hS
                    replace hP : va_P D vwCl [(k, .inr (2, [.ref k0, .ref k1])), (k0, .inl (cI, 40, .inl g43_k0)), (k1, .inl (cI, 40, .inl g138_k1)), (o, .inr (9, [.ref o0, .ref o1, .ref o2, .ref o3, .ref o4, .ref o5, .int d6, .int d7, .int d8])), (o1, .inl (cI, 40, .inl d1)), (y, .inr (6, [.ref y0, .ref y1, .ref y2])), (y1, .inl (cI, 4, .inl e1)), (y2, .inl (cI, 144, .inl e2)), (o5, .inr (3, [.ref o50, .int d51])), (o50, .inl (cI, 36, .inl d50))] H := hP
                    replace hD : va_D A [(k, .inr (2, [.ref k0, .ref k1])), (k0, .inl (cI, 40, .inl g43_k0)), (k1, .inl (cI, 40, .inl g138_k1)), (o, .inr (9, [.ref o0, .ref o1, .ref o2, .ref o3, .ref o4, .ref o5, .int d6, .int d7, .int d8])), (o1, .inl (cI, 40, .inl d1)), (y, .inr (6, [.ref y0, .ref y1, .ref y2])), (y1, .inl (cI, 4, .inl e1)), (y2, .inl (cI, 144, .inl e2)), (o5, .inr (3, [.ref o50, .int d51])), (o50, .inl (cI, 36, .inl d50))] := hD
                    obtain ⟨h_44, h_45, h_46⟩ := w_42
                    have h_44 : r_41.toInt = v_40.toInt / 30 % 12 := h_44
                    have h_45 : 0 ≤ r_41.toInt := h_45
                    have h_46 : r_41.toInt ≤ 11 := h_46
                    have lo_r_41 := k_lo r_41
                    have hi_r_41 := k_hi r_41
                    refine lv_iadd hx hb dX2_weighRow_167 ?_
                    refine lv_topi (fun v_47 ev_47 => ?_)
                    have tv_47 : v_47.toInt = a3.toInt + r_41.toInt := by rw [ev_47]; exact k_addv rfl rfl (by omega) (by omega)
                    refine kJi (wr := [(k, .inr (2, [.ref k0, .ref k1])), (k0, .inl (cI, 40, .inl g43_k0)), (k1, .inl (cI, 40, .inl g138_k1)), (o, .inr (9, [.ref o0, .ref o1, .ref o2, .ref o3, .ref o4, .ref o5, .int d6, .int d7, .int d8])), (o1, .inl (cI, 40, .inl d1)), (o5, .inr (3, [.ref o50, .int d51])), (o50, .inl (cI, 36, .inl d50))]) (va_runV (As := [.int a2, .int v_47]) (rest := []) ⟨hx, hb, hml, hown, hT⟩ (c_X6_numberAtG l D cI aK aV y y0 y1 y2 H.size e1 e2 a2 v_47 (by first | omega | decide | assumption | rfl)) (cwV 2 hT (gV_in mw_684 mw_940 mw_682 mw_683 mw_11) rfl rfl rfl (by decide +kernel) ⟨Nat.le_of_ble_eq_true rfl, Nat.le_of_ble_eq_true rfl⟩) (kRecvX (q0 := 5) (ci := 6) hK hP hD hN hXS hS hA rfl rfl [5, 6, 7] rfl (by decide)) rfl rfl hl.1 rfl (lv_room (Nat.le_of_ble_eq_true rfl)) dX2_weighRow_168 ⟨Nat.le_of_ble_eq_true rfl, Nat.le_of_ble_eq_true rfl⟩) hP hD hS hA [5, 6, 7] [0, 1, 2, 3, 4, 8, 9] rfl rfl (by decide) (by decide) ?_
                    clear hP hD hS
                    intro r_48 u_50 H locs w_49 hP hD hS
                    replace hP : va_P D vwCl [(k, .inr (2, [.ref k0, .ref k1])), (k0, .inl (cI, 40, .inl g43_k0)), (k1, .inl (cI, 40, .inl g138_k1)), (o, .inr (9, [.ref o0, .ref o1, .ref o2, .ref o3, .ref o4, .ref o5, .int d6, .int d7, .int d8])), (o1, .inl (cI, 40, .inl d1)), (o5, .inr (3, [.ref o50, .int d51])), (o50, .inl (cI, 36, .inl d50)), (y, .inr (6, [.ref y0, .ref y1, .ref y2])), (y1, .inl (cI, 4, .inl e1)), (y2, .inl (cI, 144, .inl e2))] H := hP
                    replace hD : va_D A [(k, .inr (2, [.ref k0, .ref k1])), (k0, .inl (cI, 40, .inl g43_k0)), (k1, .inl (cI, 40, .inl g138_k1)), (o, .inr (9, [.ref o0, .ref o1, .ref o2, .ref o3, .ref o4, .ref o5, .int d6, .int d7, .int d8])), (o1, .inl (cI, 40, .inl d1)), (o5, .inr (3, [.ref o50, .int d51])), (o50, .inl (cI, 36, .inl d50)), (y, .inr (6, [.ref y0, .ref y1, .ref y2])), (y1, .inl (cI, 4, .inl e1)), (y2, .inl (cI, 144, .inl e2))] := hD
                    have h_51 := w_49
                    have h_51 : r_48 = kNum e1 e2 a2 v_47 := h_51
                    have h_52 : r_48 = shv e2 a2 v_47.toInt.toNat := h_51.trans (kNum_shv (by omega) (by omega) (by omega) (by omega) (by omega))
                    have b_53 : 0 ≤ r_48.toInt ∧ r_48.toInt ≤ 9 := by rw [h_52]; exact allB_all _ pre15 v_47.toInt.toNat (by omega)
                    have lo_r_48 := k_lo r_48
                    have hi_r_48 := k_hi r_48
                    refine lv_istore (lv' := [(12, .int r_48), (11, .int l138_11), (10, .int l138_10), (9, .int r_25), (8, .int r_12), (7, .int r_6), (0, .ref k), (1, .ref o), (2, .ref y), (3, .int a2), (4, .int a3), (5, .int a4), (6, .int a5)]) hx hb dX2_weighRow_171 hl (by decide) rfl ?_
                    clear hl
                    intro ls hl
                    refine lv_iload hx hb dX2_weighRow_173 (lv_at hl 2 rfl) ?_
                    refine lv_aload_n hx hb dX2_weighRow_175 rfl (lv_at hl 7 rfl) ?_
                    refine lv_iload hx hb dX2_weighRow_176 (lv_at hl 1 rfl) ?_
                    refine lv_iconst (v := 1) hx hb dX2_weighRow_178 (by decide) ?_
                    refine lv_iadd hx hb dX2_weighRow_179 ?_
                    refine lv_topi (fun v_54 ev_54 => ?_)
                    have tv_54 : v_54.toInt = l138_11.toInt + 1 := by rw [ev_54]; exact k_addv rfl zl_1 (by omega) (by omega)
                    refine kJi (wr := [(k, .inr (2, [.ref k0, .ref k1])), (k0, .inl (cI, 40, .inl g43_k0)), (k1, .inl (cI, 40, .inl g138_k1)), (o5, .inr (3, [.ref o50, .int d51])), (o50, .inl (cI, 36, .inl d50)), (y, .inr (6, [.ref y0, .ref y1, .ref y2])), (y1, .inl (cI, 4, .inl e1)), (y2, .inl (cI, 144, .inl e2))]) (va_runV (As := [.int v_54]) (rest := [.int l138_10]) ⟨hx, hb, hml, hown, hT⟩ (c_X9_soilOfD l D cI aK aV o o0 o1 o2 o3 o4 o5 H.size d6 d7 d8 d1 v_54) (cwV 1 hT (gV_in mw_423 mw_941 mw_421 mw_422 mw_2) rfl rfl rfl (by decide +kernel) ⟨Nat.le_of_ble_eq_true rfl, Nat.le_of_ble_eq_true rfl⟩) (kRecvX (q0 := 3) (ci := 9) hK hP hD hN hXS hS hA rfl rfl [3, 4] rfl (by decide)) rfl rfl hl.1 rfl (lv_room (Nat.le_of_ble_eq_true rfl)) dX2_weighRow_180 ⟨Nat.le_of_ble_eq_true rfl, Nat.le_of_ble_eq_true rfl⟩) hP hD hS hA [3, 4] [0, 1, 2, 5, 6, 7, 8, 9] rfl rfl (by decide) (by decide) ?_
                    clear hP hD hS
                    intro r_55 u_57 H locs w_56 hP hD hS
                    replace hP : va_P D vwCl [(k, .inr (2, [.ref k0, .ref k1])), (k0, .inl (cI, 40, .inl g43_k0)), (k1, .inl (cI, 40, .inl g138_k1)), (o5, .inr (3, [.ref o50, .int d51])), (o50, .inl (cI, 36, .inl d50)), (y, .inr (6, [.ref y0, .ref y1, .ref y2])), (y1, .inl (cI, 4, .inl e1)), (y2, .inl (cI, 144, .inl e2)), (o, .inr (9, [.ref o0, .ref o1, .ref o2, .ref o3, .ref o4, .ref o5, .int d6, .int d7, .int d8])), (o1, .inl (cI, 40, .inl d1))] H := hP
                    replace hD : va_D A [(k, .inr (2, [.ref k0, .ref k1])), (k0, .inl (cI, 40, .inl g43_k0)), (k1, .inl (cI, 40, .inl g138_k1)), (o5, .inr (3, [.ref o50, .int d51])), (o50, .inl (cI, 36, .inl d50)), (y, .inr (6, [.ref y0, .ref y1, .ref y2])), (y1, .inl (cI, 4, .inl e1)), (y2, .inl (cI, 144, .inl e2)), (o, .inr (9, [.ref o0, .ref o1, .ref o2, .ref o3, .ref o4, .ref o5, .int d6, .int d7, .int d8])), (o1, .inl (cI, 40, .inl d1))] := hD
                    rcases w_56 with ⟨h_58, h_59, h_60⟩ | ⟨hr_55, h_61⟩
                    · have h_58 : 0 ≤ v_54.toInt := h_58
                      have h_59 : v_54.toInt ≤ 39 := h_59
                      have h_60 : r_55 = d1 v_54.toNatClampNeg := h_60
                      have h_62 : r_55 = gx (19 + v_54.toInt.toNat) := Eq.trans h_60 (WR.qso pre0 (by omega) (by omega))
                      have b_63 : 0 ≤ r_55.toInt ∧ r_55.toInt ≤ 2 := by rw [h_62]; exact SB.so pre1 (by omega)
                      have lo_r_55 := k_lo r_55
                      have hi_r_55 := k_hi r_55
                      refine lv_iload hx hb dX2_weighRow_183 (lv_at hl 0 rfl) ?_
                      refine kJi (wr := [(k, .inr (2, [.ref k0, .ref k1])), (k0, .inl (cI, 40, .inl g43_k0)), (k1, .inl (cI, 40, .inl g138_k1)), (o5, .inr (3, [.ref o50, .int d51])), (o50, .inl (cI, 36, .inl d50)), (y, .inr (6, [.ref y0, .ref y1, .ref y2])), (y1, .inl (cI, 4, .inl e1)), (y2, .inl (cI, 144, .inl e2)), (o, .inr (9, [.ref o0, .ref o1, .ref o2, .ref o3, .ref o4, .ref o5, .int d6, .int d7, .int d8])), (o1, .inl (cI, 40, .inl d1))]) (va_runSN (As := [.int r_55, .int r_48]) (rest := [.int l138_10]) ⟨hx, hb, hml, hown, hT⟩ (c_X10_effortInD l D cI aK aV H.size r_55 r_48) ⟨va_cnB 2 hT (gW_in mw_651) rfl rfl rfl (hN _ mw_942) (hT _ mw_1) (by decide +kernel) ⟨Nat.le_of_ble_eq_true rfl, Nat.le_of_ble_eq_true rfl⟩, hT _ mw_650, trivial⟩ (kStatX hK hP hD hN hXS hS hA [] rfl (by decide)) rfl rfl hl.1 rfl (lv_room (Nat.le_of_ble_eq_true rfl)) dX2_weighRow_185 ⟨Nat.le_of_ble_eq_true rfl, Nat.le_of_ble_eq_true rfl⟩) hP hD hS hA [] [0, 1, 2, 3, 4, 5, 6, 7, 8, 9] rfl rfl (by decide) (by decide) ?_
                      clear hP hD hS
                      intro r_64 u_66 H locs w_65 hP hD hS
                      replace hP : va_P D vwCl [(k, .inr (2, [.ref k0, .ref k1])), (k0, .inl (cI, 40, .inl g43_k0)), (k1, .inl (cI, 40, .inl g138_k1)), (o5, .inr (3, [.ref o50, .int d51])), (o50, .inl (cI, 36, .inl d50)), (y, .inr (6, [.ref y0, .ref y1, .ref y2])), (y1, .inl (cI, 4, .inl e1)), (y2, .inl (cI, 144, .inl e2)), (o, .inr (9, [.ref o0, .ref o1, .ref o2, .ref o3, .ref o4, .ref o5, .int d6, .int d7, .int d8])), (o1, .inl (cI, 40, .inl d1))] H := hP
                      replace hD : va_D A [(k, .inr (2, [.ref k0, .ref k1])), (k0, .inl (cI, 40, .inl g43_k0)), (k1, .inl (cI, 40, .inl g138_k1)), (o5, .inr (3, [.ref o50, .int d51])), (o50, .inl (cI, 36, .inl d50)), (y, .inr (6, [.ref y0, .ref y1, .ref y2])), (y1, .inl (cI, 4, .inl e1)), (y2, .inl (cI, 144, .inl e2)), (o, .inr (9, [.ref o0, .ref o1, .ref o2, .ref o3, .ref o4, .ref o5, .int d6, .int d7, .int d8])), (o1, .inl (cI, 40, .inl d1))] := hD
                      rcases w_65 with ⟨hr_64, h_67⟩ | ⟨h_68, h_69⟩ | ⟨hr_64, h_70, h_71⟩
                      · have h_67 : r_55.toInt = 1 := h_67
                        obtain rfl : r_64 = 40 := hr_64.trans (by decide)
                        refine lv_iload hx hb dX2_weighRow_188 (lv_at hl 3 rfl) ?_
                        refine kJi (wr := [(k, .inr (2, [.ref k0, .ref k1])), (k0, .inl (cI, 40, .inl g43_k0)), (k1, .inl (cI, 40, .inl g138_k1)), (o5, .inr (3, [.ref o50, .int d51])), (o50, .inl (cI, 36, .inl d50)), (y, .inr (6, [.ref y0, .ref y1, .ref y2])), (y1, .inl (cI, 4, .inl e1)), (y2, .inl (cI, 144, .inl e2)), (o, .inr (9, [.ref o0, .ref o1, .ref o2, .ref o3, .ref o4, .ref o5, .int d6, .int d7, .int d8])), (o1, .inl (cI, 40, .inl d1))]) (va_runS (As := [.int 40, .int r_25]) (rest := [.int l138_10]) ⟨hx, hb, hml, hown, hT⟩ (c_X2_daysOfD l D cI aK aV H.size 40 r_25 (by first | omega | (simp only [zl_40]; first | done | omega) | decide | assumption | rfl) (by first | omega | (simp only [zl_40]; first | done | omega) | decide | assumption | rfl) (by first | omega | (simp only [zl_40]; first | done | omega) | decide | assumption | rfl) (by first | omega | (simp only [zl_40]; first | done | omega) | decide | assumption | rfl)) (cwS 2 hT (gS_in mw_945 mw_943 mw_944 mw_9) rfl rfl rfl (by decide +kernel) ⟨Nat.le_of_ble_eq_true rfl, Nat.le_of_ble_eq_true rfl⟩) (kStatX hK hP hD hN hXS hS hA [] rfl (by decide)) rfl rfl hl.1 rfl (lv_room (Nat.le_of_ble_eq_true rfl)) dX2_weighRow_190 ⟨Nat.le_of_ble_eq_true rfl, Nat.le_of_ble_eq_true rfl⟩) hP hD hS hA [] [0, 1, 2, 3, 4, 5, 6, 7, 8, 9] rfl rfl (by decide) (by decide) ?_
                        clear hP hD hS
                        intro r_72 u_74 H locs w_73 hP hD hS
                        replace hP : va_P D vwCl [(k, .inr (2, [.ref k0, .ref k1])), (k0, .inl (cI, 40, .inl g43_k0)), (k1, .inl (cI, 40, .inl g138_k1)), (o5, .inr (3, [.ref o50, .int d51])), (o50, .inl (cI, 36, .inl d50)), (y, .inr (6, [.ref y0, .ref y1, .ref y2])), (y1, .inl (cI, 4, .inl e1)), (y2, .inl (cI, 144, .inl e2)), (o, .inr (9, [.ref o0, .ref o1, .ref o2, .ref o3, .ref o4, .ref o5, .int d6, .int d7, .int d8])), (o1, .inl (cI, 40, .inl d1))] H := hP
                        replace hD : va_D A [(k, .inr (2, [.ref k0, .ref k1])), (k0, .inl (cI, 40, .inl g43_k0)), (k1, .inl (cI, 40, .inl g138_k1)), (o5, .inr (3, [.ref o50, .int d51])), (o50, .inl (cI, 36, .inl d50)), (y, .inr (6, [.ref y0, .ref y1, .ref y2])), (y1, .inl (cI, 4, .inl e1)), (y2, .inl (cI, 144, .inl e2)), (o, .inr (9, [.ref o0, .ref o1, .ref o2, .ref o3, .ref o4, .ref o5, .int d6, .int d7, .int d8])), (o1, .inl (cI, 40, .inl d1))] := hD
                        obtain ⟨h_75, h_76, h_77⟩ := w_73
                        try simp only [zl_40] at h_75
                        have h_75 : r_72 = (40 + r_25 - 1) / r_25 := h_75
                        try simp only [zl_40] at h_76
                        have h_76 : 0 ≤ r_72.toInt := h_76
                        try simp only [zl_40] at h_77
                        have h_77 : r_72.toInt ≤ 40 := h_77
                        have lo_r_72 := k_lo r_72
                        have hi_r_72 := k_hi r_72
                        refine lv_iadd hx hb dX2_weighRow_193 ?_
                        refine lv_topi (fun v_78 ev_78 => ?_)
                        have tv_78 : v_78.toInt = l138_10.toInt + r_72.toInt := by rw [ev_78]; exact k_addv rfl rfl (by omega) (by omega)
                        refine lv_istore (lv' := [(10, .int v_78), (12, .int r_48), (11, .int l138_11), (9, .int r_25), (8, .int r_12), (7, .int r_6), (0, .ref k), (1, .ref o), (2, .ref y), (3, .int a2), (4, .int a3), (5, .int a4), (6, .int a5)]) hx hb dX2_weighRow_194 hl (by decide) rfl ?_
                        clear hl
                        intro ls hl
                        refine lv_aload_n hx hb dX2_weighRow_196 rfl (lv_at hl 6 rfl) ?_
                        refine va_get (D := D) (ci := 2) (v := .ref k1) (C := RX2) (T := TX2) (N := 2) hx hb hT giX2 hown hK hP 0 rfl rfl 1 (by decide) (hT (Cond.fieldLink RX2 15 "DesertWire$Meetings" "worst" "[I") mw_246) (fun _ h9 => h9) rfl dX2_weighRow_197 ?_
                        refine lv_iload hx hb dX2_weighRow_200 (lv_at hl 2 rfl) ?_
                        refine lv_aload_n hx hb dX2_weighRow_202 rfl (lv_at hl 6 rfl) ?_
                        refine va_get (D := D) (ci := 2) (v := .ref k1) (C := RX2) (T := TX2) (N := 2) hx hb hT giX2 hown hK hP 0 rfl rfl 1 (by decide) (hT (Cond.fieldLink RX2 15 "DesertWire$Meetings" "worst" "[I") mw_246) (fun _ h9 => h9) rfl dX2_weighRow_203 ?_
                        refine lv_iload hx hb dX2_weighRow_206 (lv_at hl 2 rfl) ?_
                        refine k_iald (v := (g138_k1 l138_11.toNatClampNeg)) hx hb hK hP 2 0 rfl rfl (k_in (by omega) (by omega)) rfl dX2_weighRow_208 ?_
                        refine lv_topi (fun v_79 ev_79 => ?_)
                        have lo_v_79 := k_lo v_79
                        have hi_v_79 := k_hi v_79
                        have tv_79 : v_79.toInt = (g138_k1 l138_11.toNatClampNeg).toInt := by rw [ev_79]
                        refine lv_aload_n hx hb dX2_weighRow_209 rfl (lv_at hl 6 rfl) ?_
                        refine va_get (D := D) (ci := 2) (v := .ref k0) (C := RX2) (T := TX2) (N := 2) hx hb hT giX2 hown hK hP 0 rfl rfl 0 (by decide) (hT (Cond.fieldLink RX2 9 "DesertWire$Meetings" "done" "[I") mw_245) (fun _ h9 => h9) rfl dX2_weighRow_210 ?_
                        refine lv_iload hx hb dX2_weighRow_213 (lv_at hl 2 rfl) ?_
                        refine k_iald (v := (g43_k0 l138_11.toNatClampNeg)) hx hb hK hP 1 0 rfl rfl (k_in (by omega) (by omega)) rfl dX2_weighRow_215 ?_
                        refine lv_topi (fun v_80 ev_80 => ?_)
                        have lo_v_80 := k_lo v_80
                        have hi_v_80 := k_hi v_80
                        have tv_80 : v_80.toInt = (g43_k0 l138_11.toNatClampNeg).toInt := by rw [ev_80]
                        refine lv_iload hx hb dX2_weighRow_216 (lv_at hl 0 rfl) ?_
                        refine va_mmax hx hb (hml.trans hl.1.symm) hown (hT _ mw_946) (hT _ mw_426) (hT _ mw_13) (hT _ mw_427) (Nat.le_of_ble_eq_true rfl) (Nat.le_of_ble_eq_true rfl) (Nat.le_of_ble_eq_true rfl) (Nat.le_of_ble_eq_true rfl) dX2_weighRow_218 ?_
                        refine lv_topi (fun v_81 ev_81 => ?_)
                        have lo_v_81 := k_lo v_81
                        have hi_v_81 := k_hi v_81
                        have tv_81 : v_81.toInt = k_max v_80.toInt v_78.toInt := by rw [ev_81]; exact k_mmax rfl rfl
                        try rw [tv_80] at tv_81
                        try rw [tv_78] at tv_81
                        have sv_81 := k_max_spec (v_80.toInt) (v_78.toInt)
                        try rw [tv_80] at sv_81
                        try rw [tv_78] at sv_81
                        refine va_mmax hx hb (hml.trans hl.1.symm) hown (hT _ mw_946) (hT _ mw_426) (hT _ mw_13) (hT _ mw_427) (Nat.le_of_ble_eq_true rfl) (Nat.le_of_ble_eq_true rfl) (Nat.le_of_ble_eq_true rfl) (Nat.le_of_ble_eq_true rfl) dX2_weighRow_221 ?_
                        refine lv_topi (fun v_82 ev_82 => ?_)
                        have lo_v_82 := k_lo v_82
                        have hi_v_82 := k_hi v_82
                        have tv_82 : v_82.toInt = k_max v_79.toInt v_81.toInt := by rw [ev_82]; exact k_mmax rfl rfl
                        try rw [tv_79] at tv_82
                        try rw [tv_81] at tv_82
                        have sv_82 := k_max_spec (v_79.toInt) (v_81.toInt)
                        try rw [tv_79] at sv_82
                        try rw [tv_81] at sv_82
                        refine va_iast hx hb hK hP hD hS 2 0 rfl rfl (k_in (by omega) (by omega)) dX2_weighRow_224 ?_
                        clear hP hD hS
                        intro H locs hP hD hS
                        replace hP : va_P D vwCl [(k, .inr (2, [.ref k0, .ref k1])), (k0, .inl (cI, 40, .inl g43_k0)), (k1, .inl (cI, 40, .inl (upd g138_k1 l138_11.toNatClampNeg v_82))), (o5, .inr (3, [.ref o50, .int d51])), (o50, .inl (cI, 36, .inl d50)), (y, .inr (6, [.ref y0, .ref y1, .ref y2])), (y1, .inl (cI, 4, .inl e1)), (y2, .inl (cI, 144, .inl e2)), (o, .inr (9, [.ref o0, .ref o1, .ref o2, .ref o3, .ref o4, .ref o5, .int d6, .int d7, .int d8])), (o1, .inl (cI, 40, .inl d1))] H := hP
                        replace hD : va_D A [(k, .inr (2, [.ref k0, .ref k1])), (k0, .inl (cI, 40, .inl g43_k0)), (k1, .inl (cI, 40, .inl (upd g138_k1 l138_11.toNatClampNeg v_82))), (o5, .inr (3, [.ref o50, .int d51])), (o50, .inl (cI, 36, .inl d50)), (y, .inr (6, [.ref y0, .ref y1, .ref y2])), (y1, .inl (cI, 4, .inl e1)), (y2, .inl (cI, 144, .inl e2)), (o, .inr (9, [.ref o0, .ref o1, .ref o2, .ref o3, .ref o4, .ref o5, .int d6, .int d7, .int d8])), (o1, .inl (cI, 40, .inl d1))] := hD
                        obtain ⟨f_83, ef_83⟩ : ∃ g : Nat → Int32, g = upd g138_k1 l138_11.toNatClampNeg v_82 := ⟨_, rfl⟩
                        rw [← ef_83] at hP hD
                        obtain ⟨v_84, ev_84⟩ : ∃ y : Int32, y = v_78 + 1 := ⟨_, rfl⟩
                        have tv_84 : v_84.toInt = v_78.toInt + 1 := by rw [ev_84]; exact k_addv rfl zl_1 (by omega) (by omega)
                        refine lv_iinc (v := v_84) (lv' := [(10, .int v_84), (12, .int r_48), (11, .int l138_11), (9, .int r_25), (8, .int r_12), (7, .int r_6), (0, .ref k), (1, .ref o), (2, .ref y), (3, .int a2), (4, .int a3), (5, .int a4), (6, .int a5)]) hx hb dX2_weighRow_225 hl (k := 0) rfl (by rw [ev_84]; rfl) (by decide) rfl ?_
                        clear hl
                        intro ls hl
                        obtain ⟨v_85, ev_85⟩ : ∃ y : Int32, y = l138_11 + (-1) := ⟨_, rfl⟩
                        have tv_85 : v_85.toInt = l138_11.toInt + (-1) := by rw [ev_85]; exact k_addv rfl zl_m1 (by omega) (by omega)
                        refine lv_iinc (v := v_85) (lv' := [(11, .int v_85), (10, .int v_84), (12, .int r_48), (9, .int r_25), (8, .int r_12), (7, .int r_6), (0, .ref k), (1, .ref o), (2, .ref y), (3, .int a2), (4, .int a3), (5, .int a4), (6, .int a5)]) hx hb dX2_weighRow_228 hl (k := 2) rfl (by rw [ev_85]; rfl) (by decide) rfl ?_
                        clear hl
                        intro ls hl
                        refine lv_goto (tgt := 138) hx hb dX2_weighRow_231 (by decide) ?_
                        exact ih138 v_84 v_85 f_83 (by first | omega | decide | assumption | rfl) (by first | omega | decide | assumption | rfl) (by first | omega | decide | assumption | rfl) (by first | omega | decide | assumption | rfl) (by first | omega | decide | assumption | rfl) (by first | omega | decide | assumption | rfl) (MGB.n (MGB.a (m := v_54) (d := v_40) (mo := r_41) (rain := r_48) (e := 40) (q := r_72) i138_6 (by omega) (by rw [ev_40, WR.dd pre0]) (by omega) (by rw [h_52]; unfold shv; congr 1; omega) (ef_at (s := r_55) (r := r_48) h_62 (by first | exact Or.inl ⟨by omega, rfl⟩ | exact Or.inr (Or.inl ⟨by omega, by assumption⟩) | exact Or.inr (Or.inr ⟨by omega, by omega, rfl⟩)) b_63) (by omega) (by rw [h_75, h_28]) ev_78) ev_84 (by omega) (by omega)) (MWB.s (x := l138_11) (t := v_81) (by omega) i138_7 i43_7 (by omega) (by omega) (by omega) (MGB.a (m := v_54) (d := v_40) (mo := r_41) (rain := r_48) (e := 40) (q := r_72) i138_6 (by omega) (by rw [ev_40, WR.dd pre0]) (by omega) (by rw [h_52]; unfold shv; congr 1; omega) (ef_at (s := r_55) (r := r_48) h_62 (by first | exact Or.inl ⟨by omega, rfl⟩ | exact Or.inr (Or.inl ⟨by omega, by assumption⟩) | exact Or.inr (Or.inr ⟨by omega, by omega, rfl⟩)) b_63) (by omega) (by rw [h_75, h_28]) ev_78) ev_80 (mxk (by omega)) ev_79 (mxk (by omega)) ef_83 (by omega)) (by omega) ls _ _ (lv_sub hl [0, 1, 3, 4, 5, 6, 7, 8, 9, 10, 11, 12] rfl) (hP.sub [0, 1, 2, 8, 9, 5, 6, 7, 3, 4] rfl) (hD.sub [0, 1, 2, 8, 9, 5, 6, 7, 3, 4] (by decide) rfl) hS
                      · have h_68 : r_55.toInt = 2 := h_68
                        have h_69 : r_64 = 20 + 10 * r_48 := h_69
                        have b_86 : 20 ≤ r_64.toInt ∧ r_64.toInt ≤ 110 := ef_t h_69 (by omega) (by omega)
                        have lo_r_64 := k_lo r_64
                        have hi_r_64 := k_hi r_64
                        refine lv_iload hx hb dX2_weighRow_188 (lv_at hl 3 rfl) ?_
                        refine kJi (wr := [(k, .inr (2, [.ref k0, .ref k1])), (k0, .inl (cI, 40, .inl g43_k0)), (k1, .inl (cI, 40, .inl g138_k1)), (o5, .inr (3, [.ref o50, .int d51])), (o50, .inl (cI, 36, .inl d50)), (y, .inr (6, [.ref y0, .ref y1, .ref y2])), (y1, .inl (cI, 4, .inl e1)), (y2, .inl (cI, 144, .inl e2)), (o, .inr (9, [.ref o0, .ref o1, .ref o2, .ref o3, .ref o4, .ref o5, .int d6, .int d7, .int d8])), (o1, .inl (cI, 40, .inl d1))]) (va_runS (As := [.int r_64, .int r_25]) (rest := [.int l138_10]) ⟨hx, hb, hml, hown, hT⟩ (c_X2_daysOfD l D cI aK aV H.size r_64 r_25 (by first | omega | decide | assumption | rfl) (by first | omega | decide | assumption | rfl) (by first | omega | decide | assumption | rfl) (by first | omega | decide | assumption | rfl)) (cwS 2 hT (gS_in mw_945 mw_943 mw_944 mw_9) rfl rfl rfl (by decide +kernel) ⟨Nat.le_of_ble_eq_true rfl, Nat.le_of_ble_eq_true rfl⟩) (kStatX hK hP hD hN hXS hS hA [] rfl (by decide)) rfl rfl hl.1 rfl (lv_room (Nat.le_of_ble_eq_true rfl)) dX2_weighRow_190 ⟨Nat.le_of_ble_eq_true rfl, Nat.le_of_ble_eq_true rfl⟩) hP hD hS hA [] [0, 1, 2, 3, 4, 5, 6, 7, 8, 9] rfl rfl (by decide) (by decide) ?_
                        clear hP hD hS
                        intro r_87 u_89 H locs w_88 hP hD hS
                        replace hP : va_P D vwCl [(k, .inr (2, [.ref k0, .ref k1])), (k0, .inl (cI, 40, .inl g43_k0)), (k1, .inl (cI, 40, .inl g138_k1)), (o5, .inr (3, [.ref o50, .int d51])), (o50, .inl (cI, 36, .inl d50)), (y, .inr (6, [.ref y0, .ref y1, .ref y2])), (y1, .inl (cI, 4, .inl e1)), (y2, .inl (cI, 144, .inl e2)), (o, .inr (9, [.ref o0, .ref o1, .ref o2, .ref o3, .ref o4, .ref o5, .int d6, .int d7, .int d8])), (o1, .inl (cI, 40, .inl d1))] H := hP
                        replace hD : va_D A [(k, .inr (2, [.ref k0, .ref k1])), (k0, .inl (cI, 40, .inl g43_k0)), (k1, .inl (cI, 40, .inl g138_k1)), (o5, .inr (3, [.ref o50, .int d51])), (o50, .inl (cI, 36, .inl d50)), (y, .inr (6, [.ref y0, .ref y1, .ref y2])), (y1, .inl (cI, 4, .inl e1)), (y2, .inl (cI, 144, .inl e2)), (o, .inr (9, [.ref o0, .ref o1, .ref o2, .ref o3, .ref o4, .ref o5, .int d6, .int d7, .int d8])), (o1, .inl (cI, 40, .inl d1))] := hD
                        obtain ⟨h_90, h_91, h_92⟩ := w_88
                        have h_90 : r_87 = (r_64 + r_25 - 1) / r_25 := h_90
                        have h_91 : 0 ≤ r_87.toInt := h_91
                        have h_92 : r_87.toInt ≤ r_64.toInt := h_92
                        have lo_r_87 := k_lo r_87
                        have hi_r_87 := k_hi r_87
                        refine lv_iadd hx hb dX2_weighRow_193 ?_
                        refine lv_topi (fun v_93 ev_93 => ?_)
                        have tv_93 : v_93.toInt = l138_10.toInt + r_87.toInt := by rw [ev_93]; exact k_addv rfl rfl (by omega) (by omega)
                        refine lv_istore (lv' := [(10, .int v_93), (12, .int r_48), (11, .int l138_11), (9, .int r_25), (8, .int r_12), (7, .int r_6), (0, .ref k), (1, .ref o), (2, .ref y), (3, .int a2), (4, .int a3), (5, .int a4), (6, .int a5)]) hx hb dX2_weighRow_194 hl (by decide) rfl ?_
                        clear hl
                        intro ls hl
                        refine lv_aload_n hx hb dX2_weighRow_196 rfl (lv_at hl 6 rfl) ?_
                        refine va_get (D := D) (ci := 2) (v := .ref k1) (C := RX2) (T := TX2) (N := 2) hx hb hT giX2 hown hK hP 0 rfl rfl 1 (by decide) (hT (Cond.fieldLink RX2 15 "DesertWire$Meetings" "worst" "[I") mw_246) (fun _ h9 => h9) rfl dX2_weighRow_197 ?_
                        refine lv_iload hx hb dX2_weighRow_200 (lv_at hl 2 rfl) ?_
                        refine lv_aload_n hx hb dX2_weighRow_202 rfl (lv_at hl 6 rfl) ?_
                        refine va_get (D := D) (ci := 2) (v := .ref k1) (C := RX2) (T := TX2) (N := 2) hx hb hT giX2 hown hK hP 0 rfl rfl 1 (by decide) (hT (Cond.fieldLink RX2 15 "DesertWire$Meetings" "worst" "[I") mw_246) (fun _ h9 => h9) rfl dX2_weighRow_203 ?_
                        refine lv_iload hx hb dX2_weighRow_206 (lv_at hl 2 rfl) ?_
                        refine k_iald (v := (g138_k1 l138_11.toNatClampNeg)) hx hb hK hP 2 0 rfl rfl (k_in (by omega) (by omega)) rfl dX2_weighRow_208 ?_
                        refine lv_topi (fun v_94 ev_94 => ?_)
                        have lo_v_94 := k_lo v_94
                        have hi_v_94 := k_hi v_94
                        have tv_94 : v_94.toInt = (g138_k1 l138_11.toNatClampNeg).toInt := by rw [ev_94]
                        refine lv_aload_n hx hb dX2_weighRow_209 rfl (lv_at hl 6 rfl) ?_
                        refine va_get (D := D) (ci := 2) (v := .ref k0) (C := RX2) (T := TX2) (N := 2) hx hb hT giX2 hown hK hP 0 rfl rfl 0 (by decide) (hT (Cond.fieldLink RX2 9 "DesertWire$Meetings" "done" "[I") mw_245) (fun _ h9 => h9) rfl dX2_weighRow_210 ?_
                        refine lv_iload hx hb dX2_weighRow_213 (lv_at hl 2 rfl) ?_
                        refine k_iald (v := (g43_k0 l138_11.toNatClampNeg)) hx hb hK hP 1 0 rfl rfl (k_in (by omega) (by omega)) rfl dX2_weighRow_215 ?_
                        refine lv_topi (fun v_95 ev_95 => ?_)
                        have lo_v_95 := k_lo v_95
                        have hi_v_95 := k_hi v_95
                        have tv_95 : v_95.toInt = (g43_k0 l138_11.toNatClampNeg).toInt := by rw [ev_95]
                        refine lv_iload hx hb dX2_weighRow_216 (lv_at hl 0 rfl) ?_
                        refine va_mmax hx hb (hml.trans hl.1.symm) hown (hT _ mw_946) (hT _ mw_426) (hT _ mw_13) (hT _ mw_427) (Nat.le_of_ble_eq_true rfl) (Nat.le_of_ble_eq_true rfl) (Nat.le_of_ble_eq_true rfl) (Nat.le_of_ble_eq_true rfl) dX2_weighRow_218 ?_
                        refine lv_topi (fun v_96 ev_96 => ?_)
                        have lo_v_96 := k_lo v_96
                        have hi_v_96 := k_hi v_96
                        have tv_96 : v_96.toInt = k_max v_95.toInt v_93.toInt := by rw [ev_96]; exact k_mmax rfl rfl
                        try rw [tv_95] at tv_96
                        try rw [tv_93] at tv_96
                        have sv_96 := k_max_spec (v_95.toInt) (v_93.toInt)
                        try rw [tv_95] at sv_96
                        try rw [tv_93] at sv_96
                        refine va_mmax hx hb (hml.trans hl.1.symm) hown (hT _ mw_946) (hT _ mw_426) (hT _ mw_13) (hT _ mw_427) (Nat.le_of_ble_eq_true rfl) (Nat.le_of_ble_eq_true rfl) (Nat.le_of_ble_eq_true rfl) (Nat.le_of_ble_eq_true rfl) dX2_weighRow_221 ?_
                        refine lv_topi (fun v_97 ev_97 => ?_)
                        have lo_v_97 := k_lo v_97
                        have hi_v_97 := k_hi v_97
                        have tv_97 : v_97.toInt = k_max v_94.toInt v_96.toInt := by rw [ev_97]; exact k_mmax rfl rfl
                        try rw [tv_94] at tv_97
                        try rw [tv_96] at tv_97
                        have sv_97 := k_max_spec (v_94.toInt) (v_96.toInt)
                        try rw [tv_94] at sv_97
                        try rw [tv_96] at sv_97
                        refine va_iast hx hb hK hP hD hS 2 0 rfl rfl (k_in (by omega) (by omega)) dX2_weighRow_224 ?_
                        clear hP hD hS
                        intro H locs hP hD hS
                        replace hP : va_P D vwCl [(k, .inr (2, [.ref k0, .ref k1])), (k0, .inl (cI, 40, .inl g43_k0)), (k1, .inl (cI, 40, .inl (upd g138_k1 l138_11.toNatClampNeg v_97))), (o5, .inr (3, [.ref o50, .int d51])), (o50, .inl (cI, 36, .inl d50)), (y, .inr (6, [.ref y0, .ref y1, .ref y2])), (y1, .inl (cI, 4, .inl e1)), (y2, .inl (cI, 144, .inl e2)), (o, .inr (9, [.ref o0, .ref o1, .ref o2, .ref o3, .ref o4, .ref o5, .int d6, .int d7, .int d8])), (o1, .inl (cI, 40, .inl d1))] H := hP
                        replace hD : va_D A [(k, .inr (2, [.ref k0, .ref k1])), (k0, .inl (cI, 40, .inl g43_k0)), (k1, .inl (cI, 40, .inl (upd g138_k1 l138_11.toNatClampNeg v_97))), (o5, .inr (3, [.ref o50, .int d51])), (o50, .inl (cI, 36, .inl d50)), (y, .inr (6, [.ref y0, .ref y1, .ref y2])), (y1, .inl (cI, 4, .inl e1)), (y2, .inl (cI, 144, .inl e2)), (o, .inr (9, [.ref o0, .ref o1, .ref o2, .ref o3, .ref o4, .ref o5, .int d6, .int d7, .int d8])), (o1, .inl (cI, 40, .inl d1))] := hD
                        obtain ⟨f_98, ef_98⟩ : ∃ g : Nat → Int32, g = upd g138_k1 l138_11.toNatClampNeg v_97 := ⟨_, rfl⟩
                        rw [← ef_98] at hP hD
                        obtain ⟨v_99, ev_99⟩ : ∃ y : Int32, y = v_93 + 1 := ⟨_, rfl⟩
                        have tv_99 : v_99.toInt = v_93.toInt + 1 := by rw [ev_99]; exact k_addv rfl zl_1 (by omega) (by omega)
                        refine lv_iinc (v := v_99) (lv' := [(10, .int v_99), (12, .int r_48), (11, .int l138_11), (9, .int r_25), (8, .int r_12), (7, .int r_6), (0, .ref k), (1, .ref o), (2, .ref y), (3, .int a2), (4, .int a3), (5, .int a4), (6, .int a5)]) hx hb dX2_weighRow_225 hl (k := 0) rfl (by rw [ev_99]; rfl) (by decide) rfl ?_
                        clear hl
                        intro ls hl
                        obtain ⟨v_100, ev_100⟩ : ∃ y : Int32, y = l138_11 + (-1) := ⟨_, rfl⟩
                        have tv_100 : v_100.toInt = l138_11.toInt + (-1) := by rw [ev_100]; exact k_addv rfl zl_m1 (by omega) (by omega)
                        refine lv_iinc (v := v_100) (lv' := [(11, .int v_100), (10, .int v_99), (12, .int r_48), (9, .int r_25), (8, .int r_12), (7, .int r_6), (0, .ref k), (1, .ref o), (2, .ref y), (3, .int a2), (4, .int a3), (5, .int a4), (6, .int a5)]) hx hb dX2_weighRow_228 hl (k := 2) rfl (by rw [ev_100]; rfl) (by decide) rfl ?_
                        clear hl
                        intro ls hl
                        refine lv_goto (tgt := 138) hx hb dX2_weighRow_231 (by decide) ?_
                        exact ih138 v_99 v_100 f_98 (by first | omega | decide | assumption | rfl) (by first | omega | decide | assumption | rfl) (by first | omega | decide | assumption | rfl) (by first | omega | decide | assumption | rfl) (by first | omega | decide | assumption | rfl) (by first | omega | decide | assumption | rfl) (MGB.n (MGB.a (m := v_54) (d := v_40) (mo := r_41) (rain := r_48) (e := r_64) (q := r_87) i138_6 (by omega) (by rw [ev_40, WR.dd pre0]) (by omega) (by rw [h_52]; unfold shv; congr 1; omega) (ef_at (s := r_55) (r := r_48) h_62 (by first | exact Or.inl ⟨by omega, rfl⟩ | exact Or.inr (Or.inl ⟨by omega, by assumption⟩) | exact Or.inr (Or.inr ⟨by omega, by omega, rfl⟩)) b_63) (by omega) (by rw [h_90, h_28]) ev_93) ev_99 (by omega) (by omega)) (MWB.s (x := l138_11) (t := v_96) (by omega) i138_7 i43_7 (by omega) (by omega) (by omega) (MGB.a (m := v_54) (d := v_40) (mo := r_41) (rain := r_48) (e := r_64) (q := r_87) i138_6 (by omega) (by rw [ev_40, WR.dd pre0]) (by omega) (by rw [h_52]; unfold shv; congr 1; omega) (ef_at (s := r_55) (r := r_48) h_62 (by first | exact Or.inl ⟨by omega, rfl⟩ | exact Or.inr (Or.inl ⟨by omega, by assumption⟩) | exact Or.inr (Or.inr ⟨by omega, by omega, rfl⟩)) b_63) (by omega) (by rw [h_90, h_28]) ev_93) ev_95 (mxk (by omega)) ev_94 (mxk (by omega)) ef_98 (by omega)) (by omega) ls _ _ (lv_sub hl [0, 1, 3, 4, 5, 6, 7, 8, 9, 10, 11, 12] rfl) (hP.sub [0, 1, 2, 8, 9, 5, 6, 7, 3, 4] rfl) (hD.sub [0, 1, 2, 8, 9, 5, 6, 7, 3, 4] (by decide) rfl) hS
                      · have h_70 : r_55.toInt ≠ 1 := h_70
                        have h_71 : r_55.toInt ≠ 2 := h_71
                        obtain rfl : r_64 = 10 := hr_64.trans (by decide)
                        refine lv_iload hx hb dX2_weighRow_188 (lv_at hl 3 rfl) ?_
                        refine kJi (wr := [(k, .inr (2, [.ref k0, .ref k1])), (k0, .inl (cI, 40, .inl g43_k0)), (k1, .inl (cI, 40, .inl g138_k1)), (o5, .inr (3, [.ref o50, .int d51])), (o50, .inl (cI, 36, .inl d50)), (y, .inr (6, [.ref y0, .ref y1, .ref y2])), (y1, .inl (cI, 4, .inl e1)), (y2, .inl (cI, 144, .inl e2)), (o, .inr (9, [.ref o0, .ref o1, .ref o2, .ref o3, .ref o4, .ref o5, .int d6, .int d7, .int d8])), (o1, .inl (cI, 40, .inl d1))]) (va_runS (As := [.int 10, .int r_25]) (rest := [.int l138_10]) ⟨hx, hb, hml, hown, hT⟩ (c_X2_daysOfD l D cI aK aV H.size 10 r_25 (by first | omega | (simp only [zl_10]; first | done | omega) | decide | assumption | rfl) (by first | omega | (simp only [zl_10]; first | done | omega) | decide | assumption | rfl) (by first | omega | (simp only [zl_10]; first | done | omega) | decide | assumption | rfl) (by first | omega | (simp only [zl_10]; first | done | omega) | decide | assumption | rfl)) (cwS 2 hT (gS_in mw_945 mw_943 mw_944 mw_9) rfl rfl rfl (by decide +kernel) ⟨Nat.le_of_ble_eq_true rfl, Nat.le_of_ble_eq_true rfl⟩) (kStatX hK hP hD hN hXS hS hA [] rfl (by decide)) rfl rfl hl.1 rfl (lv_room (Nat.le_of_ble_eq_true rfl)) dX2_weighRow_190 ⟨Nat.le_of_ble_eq_true rfl, Nat.le_of_ble_eq_true rfl⟩) hP hD hS hA [] [0, 1, 2, 3, 4, 5, 6, 7, 8, 9] rfl rfl (by decide) (by decide) ?_
                        clear hP hD hS
                        intro r_101 u_103 H locs w_102 hP hD hS
                        replace hP : va_P D vwCl [(k, .inr (2, [.ref k0, .ref k1])), (k0, .inl (cI, 40, .inl g43_k0)), (k1, .inl (cI, 40, .inl g138_k1)), (o5, .inr (3, [.ref o50, .int d51])), (o50, .inl (cI, 36, .inl d50)), (y, .inr (6, [.ref y0, .ref y1, .ref y2])), (y1, .inl (cI, 4, .inl e1)), (y2, .inl (cI, 144, .inl e2)), (o, .inr (9, [.ref o0, .ref o1, .ref o2, .ref o3, .ref o4, .ref o5, .int d6, .int d7, .int d8])), (o1, .inl (cI, 40, .inl d1))] H := hP
                        replace hD : va_D A [(k, .inr (2, [.ref k0, .ref k1])), (k0, .inl (cI, 40, .inl g43_k0)), (k1, .inl (cI, 40, .inl g138_k1)), (o5, .inr (3, [.ref o50, .int d51])), (o50, .inl (cI, 36, .inl d50)), (y, .inr (6, [.ref y0, .ref y1, .ref y2])), (y1, .inl (cI, 4, .inl e1)), (y2, .inl (cI, 144, .inl e2)), (o, .inr (9, [.ref o0, .ref o1, .ref o2, .ref o3, .ref o4, .ref o5, .int d6, .int d7, .int d8])), (o1, .inl (cI, 40, .inl d1))] := hD
                        obtain ⟨h_104, h_105, h_106⟩ := w_102
                        try simp only [zl_10] at h_104
                        have h_104 : r_101 = (10 + r_25 - 1) / r_25 := h_104
                        try simp only [zl_10] at h_105
                        have h_105 : 0 ≤ r_101.toInt := h_105
                        try simp only [zl_10] at h_106
                        have h_106 : r_101.toInt ≤ 10 := h_106
                        have lo_r_101 := k_lo r_101
                        have hi_r_101 := k_hi r_101
                        refine lv_iadd hx hb dX2_weighRow_193 ?_
                        refine lv_topi (fun v_107 ev_107 => ?_)
                        have tv_107 : v_107.toInt = l138_10.toInt + r_101.toInt := by rw [ev_107]; exact k_addv rfl rfl (by omega) (by omega)
                        refine lv_istore (lv' := [(10, .int v_107), (12, .int r_48), (11, .int l138_11), (9, .int r_25), (8, .int r_12), (7, .int r_6), (0, .ref k), (1, .ref o), (2, .ref y), (3, .int a2), (4, .int a3), (5, .int a4), (6, .int a5)]) hx hb dX2_weighRow_194 hl (by decide) rfl ?_
                        clear hl
                        intro ls hl
                        refine lv_aload_n hx hb dX2_weighRow_196 rfl (lv_at hl 6 rfl) ?_
                        refine va_get (D := D) (ci := 2) (v := .ref k1) (C := RX2) (T := TX2) (N := 2) hx hb hT giX2 hown hK hP 0 rfl rfl 1 (by decide) (hT (Cond.fieldLink RX2 15 "DesertWire$Meetings" "worst" "[I") mw_246) (fun _ h9 => h9) rfl dX2_weighRow_197 ?_
                        refine lv_iload hx hb dX2_weighRow_200 (lv_at hl 2 rfl) ?_
                        refine lv_aload_n hx hb dX2_weighRow_202 rfl (lv_at hl 6 rfl) ?_
                        refine va_get (D := D) (ci := 2) (v := .ref k1) (C := RX2) (T := TX2) (N := 2) hx hb hT giX2 hown hK hP 0 rfl rfl 1 (by decide) (hT (Cond.fieldLink RX2 15 "DesertWire$Meetings" "worst" "[I") mw_246) (fun _ h9 => h9) rfl dX2_weighRow_203 ?_
                        refine lv_iload hx hb dX2_weighRow_206 (lv_at hl 2 rfl) ?_
                        refine k_iald (v := (g138_k1 l138_11.toNatClampNeg)) hx hb hK hP 2 0 rfl rfl (k_in (by omega) (by omega)) rfl dX2_weighRow_208 ?_
                        refine lv_topi (fun v_108 ev_108 => ?_)
                        have lo_v_108 := k_lo v_108
                        have hi_v_108 := k_hi v_108
                        have tv_108 : v_108.toInt = (g138_k1 l138_11.toNatClampNeg).toInt := by rw [ev_108]
                        refine lv_aload_n hx hb dX2_weighRow_209 rfl (lv_at hl 6 rfl) ?_
                        refine va_get (D := D) (ci := 2) (v := .ref k0) (C := RX2) (T := TX2) (N := 2) hx hb hT giX2 hown hK hP 0 rfl rfl 0 (by decide) (hT (Cond.fieldLink RX2 9 "DesertWire$Meetings" "done" "[I") mw_245) (fun _ h9 => h9) rfl dX2_weighRow_210 ?_
                        refine lv_iload hx hb dX2_weighRow_213 (lv_at hl 2 rfl) ?_
                        refine k_iald (v := (g43_k0 l138_11.toNatClampNeg)) hx hb hK hP 1 0 rfl rfl (k_in (by omega) (by omega)) rfl dX2_weighRow_215 ?_
                        refine lv_topi (fun v_109 ev_109 => ?_)
                        have lo_v_109 := k_lo v_109
                        have hi_v_109 := k_hi v_109
                        have tv_109 : v_109.toInt = (g43_k0 l138_11.toNatClampNeg).toInt := by rw [ev_109]
                        refine lv_iload hx hb dX2_weighRow_216 (lv_at hl 0 rfl) ?_
                        refine va_mmax hx hb (hml.trans hl.1.symm) hown (hT _ mw_946) (hT _ mw_426) (hT _ mw_13) (hT _ mw_427) (Nat.le_of_ble_eq_true rfl) (Nat.le_of_ble_eq_true rfl) (Nat.le_of_ble_eq_true rfl) (Nat.le_of_ble_eq_true rfl) dX2_weighRow_218 ?_
                        refine lv_topi (fun v_110 ev_110 => ?_)
                        have lo_v_110 := k_lo v_110
                        have hi_v_110 := k_hi v_110
                        have tv_110 : v_110.toInt = k_max v_109.toInt v_107.toInt := by rw [ev_110]; exact k_mmax rfl rfl
                        try rw [tv_109] at tv_110
                        try rw [tv_107] at tv_110
                        have sv_110 := k_max_spec (v_109.toInt) (v_107.toInt)
                        try rw [tv_109] at sv_110
                        try rw [tv_107] at sv_110
                        refine va_mmax hx hb (hml.trans hl.1.symm) hown (hT _ mw_946) (hT _ mw_426) (hT _ mw_13) (hT _ mw_427) (Nat.le_of_ble_eq_true rfl) (Nat.le_of_ble_eq_true rfl) (Nat.le_of_ble_eq_true rfl) (Nat.le_of_ble_eq_true rfl) dX2_weighRow_221 ?_
                        refine lv_topi (fun v_111 ev_111 => ?_)
                        have lo_v_111 := k_lo v_111
                        have hi_v_111 := k_hi v_111
                        have tv_111 : v_111.toInt = k_max v_108.toInt v_110.toInt := by rw [ev_111]; exact k_mmax rfl rfl
                        try rw [tv_108] at tv_111
                        try rw [tv_110] at tv_111
                        have sv_111 := k_max_spec (v_108.toInt) (v_110.toInt)
                        try rw [tv_108] at sv_111
                        try rw [tv_110] at sv_111
                        refine va_iast hx hb hK hP hD hS 2 0 rfl rfl (k_in (by omega) (by omega)) dX2_weighRow_224 ?_
                        clear hP hD hS
                        intro H locs hP hD hS
                        replace hP : va_P D vwCl [(k, .inr (2, [.ref k0, .ref k1])), (k0, .inl (cI, 40, .inl g43_k0)), (k1, .inl (cI, 40, .inl (upd g138_k1 l138_11.toNatClampNeg v_111))), (o5, .inr (3, [.ref o50, .int d51])), (o50, .inl (cI, 36, .inl d50)), (y, .inr (6, [.ref y0, .ref y1, .ref y2])), (y1, .inl (cI, 4, .inl e1)), (y2, .inl (cI, 144, .inl e2)), (o, .inr (9, [.ref o0, .ref o1, .ref o2, .ref o3, .ref o4, .ref o5, .int d6, .int d7, .int d8])), (o1, .inl (cI, 40, .inl d1))] H := hP
                        replace hD : va_D A [(k, .inr (2, [.ref k0, .ref k1])), (k0, .inl (cI, 40, .inl g43_k0)), (k1, .inl (cI, 40, .inl (upd g138_k1 l138_11.toNatClampNeg v_111))), (o5, .inr (3, [.ref o50, .int d51])), (o50, .inl (cI, 36, .inl d50)), (y, .inr (6, [.ref y0, .ref y1, .ref y2])), (y1, .inl (cI, 4, .inl e1)), (y2, .inl (cI, 144, .inl e2)), (o, .inr (9, [.ref o0, .ref o1, .ref o2, .ref o3, .ref o4, .ref o5, .int d6, .int d7, .int d8])), (o1, .inl (cI, 40, .inl d1))] := hD
                        obtain ⟨f_112, ef_112⟩ : ∃ g : Nat → Int32, g = upd g138_k1 l138_11.toNatClampNeg v_111 := ⟨_, rfl⟩
                        rw [← ef_112] at hP hD
                        obtain ⟨v_113, ev_113⟩ : ∃ y : Int32, y = v_107 + 1 := ⟨_, rfl⟩
                        have tv_113 : v_113.toInt = v_107.toInt + 1 := by rw [ev_113]; exact k_addv rfl zl_1 (by omega) (by omega)
                        refine lv_iinc (v := v_113) (lv' := [(10, .int v_113), (12, .int r_48), (11, .int l138_11), (9, .int r_25), (8, .int r_12), (7, .int r_6), (0, .ref k), (1, .ref o), (2, .ref y), (3, .int a2), (4, .int a3), (5, .int a4), (6, .int a5)]) hx hb dX2_weighRow_225 hl (k := 0) rfl (by rw [ev_113]; rfl) (by decide) rfl ?_
                        clear hl
                        intro ls hl
                        obtain ⟨v_114, ev_114⟩ : ∃ y : Int32, y = l138_11 + (-1) := ⟨_, rfl⟩
                        have tv_114 : v_114.toInt = l138_11.toInt + (-1) := by rw [ev_114]; exact k_addv rfl zl_m1 (by omega) (by omega)
                        refine lv_iinc (v := v_114) (lv' := [(11, .int v_114), (10, .int v_113), (12, .int r_48), (9, .int r_25), (8, .int r_12), (7, .int r_6), (0, .ref k), (1, .ref o), (2, .ref y), (3, .int a2), (4, .int a3), (5, .int a4), (6, .int a5)]) hx hb dX2_weighRow_228 hl (k := 2) rfl (by rw [ev_114]; rfl) (by decide) rfl ?_
                        clear hl
                        intro ls hl
                        refine lv_goto (tgt := 138) hx hb dX2_weighRow_231 (by decide) ?_
                        exact ih138 v_113 v_114 f_112 (by first | omega | decide | assumption | rfl) (by first | omega | decide | assumption | rfl) (by first | omega | decide | assumption | rfl) (by first | omega | decide | assumption | rfl) (by first | omega | decide | assumption | rfl) (by first | omega | decide | assumption | rfl) (MGB.n (MGB.a (m := v_54) (d := v_40) (mo := r_41) (rain := r_48) (e := 10) (q := r_101) i138_6 (by omega) (by rw [ev_40, WR.dd pre0]) (by omega) (by rw [h_52]; unfold shv; congr 1; omega) (ef_at (s := r_55) (r := r_48) h_62 (by first | exact Or.inl ⟨by omega, rfl⟩ | exact Or.inr (Or.inl ⟨by omega, by assumption⟩) | exact Or.inr (Or.inr ⟨by omega, by omega, rfl⟩)) b_63) (by omega) (by rw [h_104, h_28]) ev_107) ev_113 (by omega) (by omega)) (MWB.s (x := l138_11) (t := v_110) (by omega) i138_7 i43_7 (by omega) (by omega) (by omega) (MGB.a (m := v_54) (d := v_40) (mo := r_41) (rain := r_48) (e := 10) (q := r_101) i138_6 (by omega) (by rw [ev_40, WR.dd pre0]) (by omega) (by rw [h_52]; unfold shv; congr 1; omega) (ef_at (s := r_55) (r := r_48) h_62 (by first | exact Or.inl ⟨by omega, rfl⟩ | exact Or.inr (Or.inl ⟨by omega, by assumption⟩) | exact Or.inr (Or.inr ⟨by omega, by omega, rfl⟩)) b_63) (by omega) (by rw [h_104, h_28]) ev_107) ev_109 (mxk (by omega)) ev_108 (mxk (by omega)) ef_112 (by omega)) (by omega) ls _ _ (lv_sub hl [0, 1, 3, 4, 5, 6, 7, 8, 9, 10, 11, 12] rfl) (hP.sub [0, 1, 2, 8, 9, 5, 6, 7, 3, 4] rfl) (hD.sub [0, 1, 2, 8, 9, 5, 6, 7, 3, 4] (by decide) rfl) hS
                    · exfalso; omega
                  · exfalso; omega
          exact hloop_138 _ 0 v_31 c1 (by first | omega | (simp only [zl_0]; first | done | omega) | decide | assumption | rfl) (by first | omega | (simp only [zl_0]; first | done | omega) | decide | assumption | rfl) (by first | omega | (simp only [zl_0]; first | done | omega) | decide | assumption | rfl) (by first | omega | (simp only [zl_0]; first | done | omega) | decide | assumption | rfl) (by first | omega | (simp only [zl_0]; first | done | omega) | decide | assumption | rfl) (by first | omega | (simp only [zl_0]; first | done | omega) | decide | assumption | rfl) (MGB.z rfl (by omega)) (MWB.z (by omega)) (Nat.lt_succ_self _) ls _ _ (lv_sub hl [0, 1, 2, 3, 4, 5, 6, 7, 8, 9, 10, 11] rfl) hP hD hS
        · refine lv_iload hx hb dX2_weighRow_50 (lv_at hl 0 rfl) ?_
          refine kJi (wr := [(k, .inr (2, [.ref k0, .ref k1])), (k0, .inl (cI, 40, .inl g43_k0)), (k1, .inl (cI, 40, .inl c1)), (o, .inr (9, [.ref o0, .ref o1, .ref o2, .ref o3, .ref o4, .ref o5, .int d6, .int d7, .int d8])), (o1, .inl (cI, 40, .inl d1)), (y, .inr (6, [.ref y0, .ref y1, .ref y2])), (y1, .inl (cI, 4, .inl e1)), (y2, .inl (cI, 144, .inl e2)), (o5, .inr (3, [.ref o50, .int d51])), (o50, .inl (cI, 36, .inl d50))]) (va_runSN (As := [.int l43_11]) (rest := []) ⟨hx, hb, hml, hown, hT⟩ (c_X10_isMileG l D cI aK aV H.size l43_11) ⟨va_cnB 1 hT (gW_in mw_346) rfl rfl rfl (hN _ mw_938) (hT _ mw_1) (by decide +kernel) ⟨Nat.le_of_ble_eq_true rfl, Nat.le_of_ble_eq_true rfl⟩, hT _ mw_345, trivial⟩ (kStatX hK hP hD hN hXS hS hA [] rfl (by decide)) rfl rfl hl.1 rfl (lv_room (Nat.le_of_ble_eq_true rfl)) dX2_weighRow_52 ⟨Nat.le_of_ble_eq_true rfl, Nat.le_of_ble_eq_true rfl⟩) hP hD hS hA [] [0, 1, 2, 3, 4, 5, 6, 7, 8, 9] rfl rfl (by decide) (by decide) ?_
          clear hP hD hS
          intro r_115 u_117 H locs w_116 hP hD hS
          replace hP : va_P D vwCl [(k, .inr (2, [.ref k0, .ref k1])), (k0, .inl (cI, 40, .inl g43_k0)), (k1, .inl (cI, 40, .inl c1)), (o, .inr (9, [.ref o0, .ref o1, .ref o2, .ref o3, .ref o4, .ref o5, .int d6, .int d7, .int d8])), (o1, .inl (cI, 40, .inl d1)), (y, .inr (6, [.ref y0, .ref y1, .ref y2])), (y1, .inl (cI, 4, .inl e1)), (y2, .inl (cI, 144, .inl e2)), (o5, .inr (3, [.ref o50, .int d51])), (o50, .inl (cI, 36, .inl d50))] H := hP
          replace hD : va_D A [(k, .inr (2, [.ref k0, .ref k1])), (k0, .inl (cI, 40, .inl g43_k0)), (k1, .inl (cI, 40, .inl c1)), (o, .inr (9, [.ref o0, .ref o1, .ref o2, .ref o3, .ref o4, .ref o5, .int d6, .int d7, .int d8])), (o1, .inl (cI, 40, .inl d1)), (y, .inr (6, [.ref y0, .ref y1, .ref y2])), (y1, .inl (cI, 4, .inl e1)), (y2, .inl (cI, 144, .inl e2)), (o5, .inr (3, [.ref o50, .int d51])), (o50, .inl (cI, 36, .inl d50))] := hD
          rcases w_116 with ⟨hr_115, h_118, h_119⟩ | ⟨hr_115, h_120⟩
          · have h_118 : 0 ≤ l43_11.toInt := h_118
            have h_119 : l43_11.toInt ≤ 39 := h_119
            obtain rfl : r_115 = 1 := hr_115.trans (by decide)
            refine b_if_eq hx hb zl_1 (tgt := 117) dX2_weighRow_55 (by decide) (fun c_121 => by exfalso; omega) (fun c_121 => ?_)
            refine lv_aload_n hx hb dX2_weighRow_58 rfl (lv_at hl 7 rfl) ?_
            refine lv_iload_n hx hb dX2_weighRow_59 rfl (lv_at hl 8 rfl) ?_
            refine lv_iload hx hb dX2_weighRow_60 (lv_at hl 9 rfl) ?_
            refine lv_aload_n hx hb dX2_weighRow_62 rfl (lv_at hl 6 rfl) ?_
            refine va_get (D := D) (ci := 9) (v := .int d8) (C := RX9) (T := TX9) (N := 9) hx hb hT giX9 hown hK hP 3 rfl rfl 8 (by decide) (hT (Cond.fieldLink RX2 44 "DesertWire$World" "day" "I") mw_109) (fun _ h9 => h9) rfl dX2_weighRow_63 ?_
            refine lv_iload hx hb dX2_weighRow_66 (lv_at hl 1 rfl) ?_
            refine lv_iadd hx hb dX2_weighRow_68 ?_
            refine lv_topi (fun v_122 ev_122 => ?_)
            have tv_122 : v_122.toInt = d8.toInt + l43_10.toInt := by rw [ev_122]; exact k_addv rfl rfl (by omega) (by omega)
            refine kJi (wr := [(k, .inr (2, [.ref k0, .ref k1])), (k0, .inl (cI, 40, .inl g43_k0)), (k1, .inl (cI, 40, .inl c1)), (o, .inr (9, [.ref o0, .ref o1, .ref o2, .ref o3, .ref o4, .ref o5, .int d6, .int d7, .int d8])), (o1, .inl (cI, 40, .inl d1)), (y, .inr (6, [.ref y0, .ref y1, .ref y2])), (y1, .inl (cI, 4, .inl e1)), (y2, .inl (cI, 144, .inl e2)), (o5, .inr (3, [.ref o50, .int d51])), (o50, .inl (cI, 36, .inl d50))]) (va_runSN (As := [.int v_122]) (rest := [.int a3, .int a2, .ref y]) ⟨hx, hb, hml, hown, hT⟩ (c_X10_monthOfD l D cI aK aV H.size v_122 (by first | omega | decide | assumption | rfl)) ⟨va_cnB 1 hT (gW_in mw_636) rfl rfl rfl (hN _ mw_939) (hT _ mw_1) (by decide +kernel) ⟨Nat.le_of_ble_eq_true rfl, Nat.le_of_ble_eq_true rfl⟩, hT _ mw_635, trivial⟩ (kStatX hK hP hD hN hXS hS hA [] rfl (by decide)) rfl rfl hl.1 rfl (lv_room (Nat.le_of_ble_eq_true rfl)) dX2_weighRow_69 ⟨Nat.le_of_ble_eq_true rfl, Nat.le_of_ble_eq_true rfl⟩) hP hD hS hA [] [0, 1, 2, 3, 4, 5, 6, 7, 8, 9] rfl rfl (by decide) (by decide) ?_
            clear hP hD hS
            intro r_123 u_125 H locs w_124 hP hD hS
            replace hP : va_P D vwCl [(k, .inr (2, [.ref k0, .ref k1])), (k0, .inl (cI, 40, .inl g43_k0)), (k1, .inl (cI, 40, .inl c1)), (o, .inr (9, [.ref o0, .ref o1, .ref o2, .ref o3, .ref o4, .ref o5, .int d6, .int d7, .int d8])), (o1, .inl (cI, 40, .inl d1)), (y, .inr (6, [.ref y0, .ref y1, .ref y2])), (y1, .inl (cI, 4, .inl e1)), (y2, .inl (cI, 144, .inl e2)), (o5, .inr (3, [.ref o50, .int d51])), (o50, .inl (cI, 36, .inl d50))] H := hP
            replace hD : va_D A [(k, .inr (2, [.ref k0, .ref k1])), (k0, .inl (cI, 40, .inl g43_k0)), (k1, .inl (cI, 40, .inl c1)), (o, .inr (9, [.ref o0, .ref o1, .ref o2, .ref o3, .ref o4, .ref o5, .int d6, .int d7, .int d8])), (o1, .inl (cI, 40, .inl d1)), (y, .inr (6, [.ref y0, .ref y1, .ref y2])), (y1, .inl (cI, 4, .inl e1)), (y2, .inl (cI, 144, .inl e2)), (o5, .inr (3, [.ref o50, .int d51])), (o50, .inl (cI, 36, .inl d50))] := hD
            obtain ⟨h_126, h_127, h_128⟩ := w_124
            have h_126 : r_123.toInt = v_122.toInt / 30 % 12 := h_126
            have h_127 : 0 ≤ r_123.toInt := h_127
            have h_128 : r_123.toInt ≤ 11 := h_128
            have lo_r_123 := k_lo r_123
            have hi_r_123 := k_hi r_123
            refine lv_iadd hx hb dX2_weighRow_72 ?_
            refine lv_topi (fun v_129 ev_129 => ?_)
            have tv_129 : v_129.toInt = a3.toInt + r_123.toInt := by rw [ev_129]; exact k_addv rfl rfl (by omega) (by omega)
            refine kJi (wr := [(k, .inr (2, [.ref k0, .ref k1])), (k0, .inl (cI, 40, .inl g43_k0)), (k1, .inl (cI, 40, .inl c1)), (o, .inr (9, [.ref o0, .ref o1, .ref o2, .ref o3, .ref o4, .ref o5, .int d6, .int d7, .int d8])), (o1, .inl (cI, 40, .inl d1)), (o5, .inr (3, [.ref o50, .int d51])), (o50, .inl (cI, 36, .inl d50))]) (va_runV (As := [.int a2, .int v_129]) (rest := []) ⟨hx, hb, hml, hown, hT⟩ (c_X6_numberAtG l D cI aK aV y y0 y1 y2 H.size e1 e2 a2 v_129 (by first | omega | decide | assumption | rfl)) (cwV 2 hT (gV_in mw_684 mw_940 mw_682 mw_683 mw_11) rfl rfl rfl (by decide +kernel) ⟨Nat.le_of_ble_eq_true rfl, Nat.le_of_ble_eq_true rfl⟩) (kRecvX (q0 := 5) (ci := 6) hK hP hD hN hXS hS hA rfl rfl [5, 6, 7] rfl (by decide)) rfl rfl hl.1 rfl (lv_room (Nat.le_of_ble_eq_true rfl)) dX2_weighRow_73 ⟨Nat.le_of_ble_eq_true rfl, Nat.le_of_ble_eq_true rfl⟩) hP hD hS hA [5, 6, 7] [0, 1, 2, 3, 4, 8, 9] rfl rfl (by decide) (by decide) ?_
            clear hP hD hS
            intro r_130 u_132 H locs w_131 hP hD hS
            replace hP : va_P D vwCl [(k, .inr (2, [.ref k0, .ref k1])), (k0, .inl (cI, 40, .inl g43_k0)), (k1, .inl (cI, 40, .inl c1)), (o, .inr (9, [.ref o0, .ref o1, .ref o2, .ref o3, .ref o4, .ref o5, .int d6, .int d7, .int d8])), (o1, .inl (cI, 40, .inl d1)), (o5, .inr (3, [.ref o50, .int d51])), (o50, .inl (cI, 36, .inl d50)), (y, .inr (6, [.ref y0, .ref y1, .ref y2])), (y1, .inl (cI, 4, .inl e1)), (y2, .inl (cI, 144, .inl e2))] H := hP
            replace hD : va_D A [(k, .inr (2, [.ref k0, .ref k1])), (k0, .inl (cI, 40, .inl g43_k0)), (k1, .inl (cI, 40, .inl c1)), (o, .inr (9, [.ref o0, .ref o1, .ref o2, .ref o3, .ref o4, .ref o5, .int d6, .int d7, .int d8])), (o1, .inl (cI, 40, .inl d1)), (o5, .inr (3, [.ref o50, .int d51])), (o50, .inl (cI, 36, .inl d50)), (y, .inr (6, [.ref y0, .ref y1, .ref y2])), (y1, .inl (cI, 4, .inl e1)), (y2, .inl (cI, 144, .inl e2))] := hD
            have h_133 := w_131
            have h_133 : r_130 = kNum e1 e2 a2 v_129 := h_133
            have h_134 : r_130 = shv e2 a2 v_129.toInt.toNat := h_133.trans (kNum_shv (by omega) (by omega) (by omega) (by omega) (by omega))
            have b_135 : 0 ≤ r_130.toInt ∧ r_130.toInt ≤ 9 := by rw [h_134]; exact allB_all _ pre15 v_129.toInt.toNat (by omega)
            have lo_r_130 := k_lo r_130
            have hi_r_130 := k_hi r_130
            refine lv_istore (lv' := [(12, .int r_130), (11, .int l43_11), (10, .int l43_10), (9, .int r_18), (8, .int r_12), (7, .int r_6), (0, .ref k), (1, .ref o), (2, .ref y), (3, .int a2), (4, .int a3), (5, .int a4), (6, .int a5)]) hx hb dX2_weighRow_76 hl (by decide) rfl ?_
            clear hl
            intro ls hl
            refine lv_iload hx hb dX2_weighRow_78 (lv_at hl 2 rfl) ?_
            refine lv_aload_n hx hb dX2_weighRow_80 rfl (lv_at hl 7 rfl) ?_
            refine lv_iload hx hb dX2_weighRow_81 (lv_at hl 1 rfl) ?_
            refine kJi (wr := [(k, .inr (2, [.ref k0, .ref k1])), (k0, .inl (cI, 40, .inl g43_k0)), (k1, .inl (cI, 40, .inl c1)), (o5, .inr (3, [.ref o50, .int d51])), (o50, .inl (cI, 36, .inl d50)), (y, .inr (6, [.ref y0, .ref y1, .ref y2])), (y1, .inl (cI, 4, .inl e1)), (y2, .inl (cI, 144, .inl e2))]) (va_runV (As := [.int l43_11]) (rest := [.int l43_10]) ⟨hx, hb, hml, hown, hT⟩ (c_X9_soilOfD l D cI aK aV o o0 o1 o2 o3 o4 o5 H.size d6 d7 d8 d1 l43_11) (cwV 1 hT (gV_in mw_423 mw_941 mw_421 mw_422 mw_2) rfl rfl rfl (by decide +kernel) ⟨Nat.le_of_ble_eq_true rfl, Nat.le_of_ble_eq_true rfl⟩) (kRecvX (q0 := 3) (ci := 9) hK hP hD hN hXS hS hA rfl rfl [3, 4] rfl (by decide)) rfl rfl hl.1 rfl (lv_room (Nat.le_of_ble_eq_true rfl)) dX2_weighRow_83 ⟨Nat.le_of_ble_eq_true rfl, Nat.le_of_ble_eq_true rfl⟩) hP hD hS hA [3, 4] [0, 1, 2, 5, 6, 7, 8, 9] rfl rfl (by decide) (by decide) ?_
            clear hP hD hS
            intro r_136 u_138 H locs w_137 hP hD hS
            replace hP : va_P D vwCl [(k, .inr (2, [.ref k0, .ref k1])), (k0, .inl (cI, 40, .inl g43_k0)), (k1, .inl (cI, 40, .inl c1)), (o5, .inr (3, [.ref o50, .int d51])), (o50, .inl (cI, 36, .inl d50)), (y, .inr (6, [.ref y0, .ref y1, .ref y2])), (y1, .inl (cI, 4, .inl e1)), (y2, .inl (cI, 144, .inl e2)), (o, .inr (9, [.ref o0, .ref o1, .ref o2, .ref o3, .ref o4, .ref o5, .int d6, .int d7, .int d8])), (o1, .inl (cI, 40, .inl d1))] H := hP
            replace hD : va_D A [(k, .inr (2, [.ref k0, .ref k1])), (k0, .inl (cI, 40, .inl g43_k0)), (k1, .inl (cI, 40, .inl c1)), (o5, .inr (3, [.ref o50, .int d51])), (o50, .inl (cI, 36, .inl d50)), (y, .inr (6, [.ref y0, .ref y1, .ref y2])), (y1, .inl (cI, 4, .inl e1)), (y2, .inl (cI, 144, .inl e2)), (o, .inr (9, [.ref o0, .ref o1, .ref o2, .ref o3, .ref o4, .ref o5, .int d6, .int d7, .int d8])), (o1, .inl (cI, 40, .inl d1))] := hD
            rcases w_137 with ⟨h_139, h_140, h_141⟩ | ⟨hr_136, h_142⟩
            · have h_139 : 0 ≤ l43_11.toInt := h_139
              have h_140 : l43_11.toInt ≤ 39 := h_140
              have h_141 : r_136 = d1 l43_11.toNatClampNeg := h_141
              have h_143 : r_136 = gx (19 + l43_11.toInt.toNat) := Eq.trans h_141 (WR.qso pre0 (by omega) (by omega))
              have b_144 : 0 ≤ r_136.toInt ∧ r_136.toInt ≤ 2 := by rw [h_143]; exact SB.so pre1 (by omega)
              have lo_r_136 := k_lo r_136
              have hi_r_136 := k_hi r_136
              refine lv_iload hx hb dX2_weighRow_86 (lv_at hl 0 rfl) ?_
              refine kJi (wr := [(k, .inr (2, [.ref k0, .ref k1])), (k0, .inl (cI, 40, .inl g43_k0)), (k1, .inl (cI, 40, .inl c1)), (o5, .inr (3, [.ref o50, .int d51])), (o50, .inl (cI, 36, .inl d50)), (y, .inr (6, [.ref y0, .ref y1, .ref y2])), (y1, .inl (cI, 4, .inl e1)), (y2, .inl (cI, 144, .inl e2)), (o, .inr (9, [.ref o0, .ref o1, .ref o2, .ref o3, .ref o4, .ref o5, .int d6, .int d7, .int d8])), (o1, .inl (cI, 40, .inl d1))]) (va_runSN (As := [.int r_136, .int r_130]) (rest := [.int l43_10]) ⟨hx, hb, hml, hown, hT⟩ (c_X10_effortInD l D cI aK aV H.size r_136 r_130) ⟨va_cnB 2 hT (gW_in mw_651) rfl rfl rfl (hN _ mw_942) (hT _ mw_1) (by decide +kernel) ⟨Nat.le_of_ble_eq_true rfl, Nat.le_of_ble_eq_true rfl⟩, hT _ mw_650, trivial⟩ (kStatX hK hP hD hN hXS hS hA [] rfl (by decide)) rfl rfl hl.1 rfl (lv_room (Nat.le_of_ble_eq_true rfl)) dX2_weighRow_88 ⟨Nat.le_of_ble_eq_true rfl, Nat.le_of_ble_eq_true rfl⟩) hP hD hS hA [] [0, 1, 2, 3, 4, 5, 6, 7, 8, 9] rfl rfl (by decide) (by decide) ?_
              clear hP hD hS
              intro r_145 u_147 H locs w_146 hP hD hS
              replace hP : va_P D vwCl [(k, .inr (2, [.ref k0, .ref k1])), (k0, .inl (cI, 40, .inl g43_k0)), (k1, .inl (cI, 40, .inl c1)), (o5, .inr (3, [.ref o50, .int d51])), (o50, .inl (cI, 36, .inl d50)), (y, .inr (6, [.ref y0, .ref y1, .ref y2])), (y1, .inl (cI, 4, .inl e1)), (y2, .inl (cI, 144, .inl e2)), (o, .inr (9, [.ref o0, .ref o1, .ref o2, .ref o3, .ref o4, .ref o5, .int d6, .int d7, .int d8])), (o1, .inl (cI, 40, .inl d1))] H := hP
              replace hD : va_D A [(k, .inr (2, [.ref k0, .ref k1])), (k0, .inl (cI, 40, .inl g43_k0)), (k1, .inl (cI, 40, .inl c1)), (o5, .inr (3, [.ref o50, .int d51])), (o50, .inl (cI, 36, .inl d50)), (y, .inr (6, [.ref y0, .ref y1, .ref y2])), (y1, .inl (cI, 4, .inl e1)), (y2, .inl (cI, 144, .inl e2)), (o, .inr (9, [.ref o0, .ref o1, .ref o2, .ref o3, .ref o4, .ref o5, .int d6, .int d7, .int d8])), (o1, .inl (cI, 40, .inl d1))] := hD
              rcases w_146 with ⟨hr_145, h_148⟩ | ⟨h_149, h_150⟩ | ⟨hr_145, h_151, h_152⟩
              · have h_148 : r_136.toInt = 1 := h_148
                obtain rfl : r_145 = 40 := hr_145.trans (by decide)
                refine lv_iload hx hb dX2_weighRow_91 (lv_at hl 3 rfl) ?_
                refine kJi (wr := [(k, .inr (2, [.ref k0, .ref k1])), (k0, .inl (cI, 40, .inl g43_k0)), (k1, .inl (cI, 40, .inl c1)), (o5, .inr (3, [.ref o50, .int d51])), (o50, .inl (cI, 36, .inl d50)), (y, .inr (6, [.ref y0, .ref y1, .ref y2])), (y1, .inl (cI, 4, .inl e1)), (y2, .inl (cI, 144, .inl e2)), (o, .inr (9, [.ref o0, .ref o1, .ref o2, .ref o3, .ref o4, .ref o5, .int d6, .int d7, .int d8])), (o1, .inl (cI, 40, .inl d1))]) (va_runS (As := [.int 40, .int r_18]) (rest := [.int l43_10]) ⟨hx, hb, hml, hown, hT⟩ (c_X2_daysOfD l D cI aK aV H.size 40 r_18 (by first | omega | (simp only [zl_40]; first | done | omega) | decide | assumption | rfl) (by first | omega | (simp only [zl_40]; first | done | omega) | decide | assumption | rfl) (by first | omega | (simp only [zl_40]; first | done | omega) | decide | assumption | rfl) (by first | omega | (simp only [zl_40]; first | done | omega) | decide | assumption | rfl)) (cwS 2 hT (gS_in mw_945 mw_943 mw_944 mw_9) rfl rfl rfl (by decide +kernel) ⟨Nat.le_of_ble_eq_true rfl, Nat.le_of_ble_eq_true rfl⟩) (kStatX hK hP hD hN hXS hS hA [] rfl (by decide)) rfl rfl hl.1 rfl (lv_room (Nat.le_of_ble_eq_true rfl)) dX2_weighRow_93 ⟨Nat.le_of_ble_eq_true rfl, Nat.le_of_ble_eq_true rfl⟩) hP hD hS hA [] [0, 1, 2, 3, 4, 5, 6, 7, 8, 9] rfl rfl (by decide) (by decide) ?_
                clear hP hD hS
                intro r_153 u_155 H locs w_154 hP hD hS
                replace hP : va_P D vwCl [(k, .inr (2, [.ref k0, .ref k1])), (k0, .inl (cI, 40, .inl g43_k0)), (k1, .inl (cI, 40, .inl c1)), (o5, .inr (3, [.ref o50, .int d51])), (o50, .inl (cI, 36, .inl d50)), (y, .inr (6, [.ref y0, .ref y1, .ref y2])), (y1, .inl (cI, 4, .inl e1)), (y2, .inl (cI, 144, .inl e2)), (o, .inr (9, [.ref o0, .ref o1, .ref o2, .ref o3, .ref o4, .ref o5, .int d6, .int d7, .int d8])), (o1, .inl (cI, 40, .inl d1))] H := hP
                replace hD : va_D A [(k, .inr (2, [.ref k0, .ref k1])), (k0, .inl (cI, 40, .inl g43_k0)), (k1, .inl (cI, 40, .inl c1)), (o5, .inr (3, [.ref o50, .int d51])), (o50, .inl (cI, 36, .inl d50)), (y, .inr (6, [.ref y0, .ref y1, .ref y2])), (y1, .inl (cI, 4, .inl e1)), (y2, .inl (cI, 144, .inl e2)), (o, .inr (9, [.ref o0, .ref o1, .ref o2, .ref o3, .ref o4, .ref o5, .int d6, .int d7, .int d8])), (o1, .inl (cI, 40, .inl d1))] := hD
                obtain ⟨h_156, h_157, h_158⟩ := w_154
                try simp only [zl_40] at h_156
                have h_156 : r_153 = (40 + r_18 - 1) / r_18 := h_156
                try simp only [zl_40] at h_157
                have h_157 : 0 ≤ r_153.toInt := h_157
                try simp only [zl_40] at h_158
                have h_158 : r_153.toInt ≤ 40 := h_158
                have lo_r_153 := k_lo r_153
                have hi_r_153 := k_hi r_153
                refine lv_iadd hx hb dX2_weighRow_96 ?_
                refine lv_topi (fun v_159 ev_159 => ?_)
                have tv_159 : v_159.toInt = l43_10.toInt + r_153.toInt := by rw [ev_159]; exact k_addv rfl rfl (by omega) (by omega)
                refine lv_istore (lv' := [(10, .int v_159), (12, .int r_130), (11, .int l43_11), (9, .int r_18), (8, .int r_12), (7, .int r_6), (0, .ref k), (1, .ref o), (2, .ref y), (3, .int a2), (4, .int a3), (5, .int a4), (6, .int a5)]) hx hb dX2_weighRow_97 hl (by decide) rfl ?_
                clear hl
                intro ls hl
                refine lv_aload_n hx hb dX2_weighRow_99 rfl (lv_at hl 6 rfl) ?_
                refine va_get (D := D) (ci := 2) (v := .ref k0) (C := RX2) (T := TX2) (N := 2) hx hb hT giX2 hown hK hP 0 rfl rfl 0 (by decide) (hT (Cond.fieldLink RX2 9 "DesertWire$Meetings" "done" "[I") mw_245) (fun _ h9 => h9) rfl dX2_weighRow_100 ?_
                refine lv_iload hx hb dX2_weighRow_103 (lv_at hl 2 rfl) ?_
                refine lv_iload hx hb dX2_weighRow_105 (lv_at hl 0 rfl) ?_
                refine va_iast hx hb hK hP hD hS 1 0 rfl rfl (k_in (by omega) (by omega)) dX2_weighRow_107 ?_
                clear hP hD hS
                intro H locs hP hD hS
                replace hP : va_P D vwCl [(k, .inr (2, [.ref k0, .ref k1])), (k0, .inl (cI, 40, .inl (upd g43_k0 l43_11.toNatClampNeg v_159))), (k1, .inl (cI, 40, .inl c1)), (o5, .inr (3, [.ref o50, .int d51])), (o50, .inl (cI, 36, .inl d50)), (y, .inr (6, [.ref y0, .ref y1, .ref y2])), (y1, .inl (cI, 4, .inl e1)), (y2, .inl (cI, 144, .inl e2)), (o, .inr (9, [.ref o0, .ref o1, .ref o2, .ref o3, .ref o4, .ref o5, .int d6, .int d7, .int d8])), (o1, .inl (cI, 40, .inl d1))] H := hP
                replace hD : va_D A [(k, .inr (2, [.ref k0, .ref k1])), (k0, .inl (cI, 40, .inl (upd g43_k0 l43_11.toNatClampNeg v_159))), (k1, .inl (cI, 40, .inl c1)), (o5, .inr (3, [.ref o50, .int d51])), (o50, .inl (cI, 36, .inl d50)), (y, .inr (6, [.ref y0, .ref y1, .ref y2])), (y1, .inl (cI, 4, .inl e1)), (y2, .inl (cI, 144, .inl e2)), (o, .inr (9, [.ref o0, .ref o1, .ref o2, .ref o3, .ref o4, .ref o5, .int d6, .int d7, .int d8])), (o1, .inl (cI, 40, .inl d1))] := hD
                obtain ⟨f_160, ef_160⟩ : ∃ g : Nat → Int32, g = upd g43_k0 l43_11.toNatClampNeg v_159 := ⟨_, rfl⟩
                rw [← ef_160] at hP hD
                obtain ⟨v_161, ev_161⟩ : ∃ y : Int32, y = v_159 + 1 := ⟨_, rfl⟩
                have tv_161 : v_161.toInt = v_159.toInt + 1 := by rw [ev_161]; exact k_addv rfl zl_1 (by omega) (by omega)
                refine lv_iinc (v := v_161) (lv' := [(10, .int v_161), (12, .int r_130), (11, .int l43_11), (9, .int r_18), (8, .int r_12), (7, .int r_6), (0, .ref k), (1, .ref o), (2, .ref y), (3, .int a2), (4, .int a3), (5, .int a4), (6, .int a5)]) hx hb dX2_weighRow_108 hl (k := 0) rfl (by rw [ev_161]; rfl) (by decide) rfl ?_
                clear hl
                intro ls hl
                obtain ⟨v_162, ev_162⟩ : ∃ y : Int32, y = l43_11 + 1 := ⟨_, rfl⟩
                have tv_162 : v_162.toInt = l43_11.toInt + 1 := by rw [ev_162]; exact k_addv rfl zl_1 (by omega) (by omega)
                refine lv_iinc (v := v_162) (lv' := [(11, .int v_162), (10, .int v_161), (12, .int r_130), (9, .int r_18), (8, .int r_12), (7, .int r_6), (0, .ref k), (1, .ref o), (2, .ref y), (3, .int a2), (4, .int a3), (5, .int a4), (6, .int a5)]) hx hb dX2_weighRow_111 hl (k := 2) rfl (by rw [ev_162]; rfl) (by decide) rfl ?_
                clear hl
                intro ls hl
                refine lv_goto (tgt := 43) hx hb dX2_weighRow_114 (by decide) ?_
                exact ih43 v_161 v_162 f_160 (by first | omega | decide | assumption | rfl) (by first | omega | decide | assumption | rfl) (by first | omega | decide | assumption | rfl) (by first | omega | decide | assumption | rfl) (by first | omega | decide | assumption | rfl) (by first | omega | decide | assumption | rfl) (MGW.n (MGW.a (d := v_122) (mo := r_123) (rain := r_130) (e := 40) (q := r_153) i43_6 (by omega) (by rw [ev_122, WR.dd pre0]) (by omega) (by rw [h_134]; unfold shv; congr 1; omega) (ef_at (s := r_136) (r := r_130) h_143 (by first | exact Or.inl ⟨by omega, rfl⟩ | exact Or.inr (Or.inl ⟨by omega, by assumption⟩) | exact Or.inr (Or.inr ⟨by omega, by omega, rfl⟩)) b_144) (by rw [h_156, h_21]) ev_159) ev_161 (by omega) (by omega)) (MDW.s (x := l43_11) (by omega) i43_7 (MGW.a (d := v_122) (mo := r_123) (rain := r_130) (e := 40) (q := r_153) i43_6 (by omega) (by rw [ev_122, WR.dd pre0]) (by omega) (by rw [h_134]; unfold shv; congr 1; omega) (ef_at (s := r_136) (r := r_130) h_143 (by first | exact Or.inl ⟨by omega, rfl⟩ | exact Or.inr (Or.inl ⟨by omega, by assumption⟩) | exact Or.inr (Or.inr ⟨by omega, by omega, rfl⟩)) b_144) (by rw [h_156, h_21]) ev_159) ef_160 (by omega) (by omega)) (by omega) ls _ _ (lv_sub hl [0, 1, 3, 4, 5, 6, 7, 8, 9, 10, 11, 12] rfl) (hP.sub [0, 1, 2, 8, 9, 5, 6, 7, 3, 4] rfl) (hD.sub [0, 1, 2, 8, 9, 5, 6, 7, 3, 4] (by decide) rfl) hS
              · have h_149 : r_136.toInt = 2 := h_149
                have h_150 : r_145 = 20 + 10 * r_130 := h_150
                have b_163 : 20 ≤ r_145.toInt ∧ r_145.toInt ≤ 110 := ef_t h_150 (by omega) (by omega)
                have lo_r_145 := k_lo r_145
                have hi_r_145 := k_hi r_145
                refine lv_iload hx hb dX2_weighRow_91 (lv_at hl 3 rfl) ?_
                refine kJi (wr := [(k, .inr (2, [.ref k0, .ref k1])), (k0, .inl (cI, 40, .inl g43_k0)), (k1, .inl (cI, 40, .inl c1)), (o5, .inr (3, [.ref o50, .int d51])), (o50, .inl (cI, 36, .inl d50)), (y, .inr (6, [.ref y0, .ref y1, .ref y2])), (y1, .inl (cI, 4, .inl e1)), (y2, .inl (cI, 144, .inl e2)), (o, .inr (9, [.ref o0, .ref o1, .ref o2, .ref o3, .ref o4, .ref o5, .int d6, .int d7, .int d8])), (o1, .inl (cI, 40, .inl d1))]) (va_runS (As := [.int r_145, .int r_18]) (rest := [.int l43_10]) ⟨hx, hb, hml, hown, hT⟩ (c_X2_daysOfD l D cI aK aV H.size r_145 r_18 (by first | omega | decide | assumption | rfl) (by first | omega | decide | assumption | rfl) (by first | omega | decide | assumption | rfl) (by first | omega | decide | assumption | rfl)) (cwS 2 hT (gS_in mw_945 mw_943 mw_944 mw_9) rfl rfl rfl (by decide +kernel) ⟨Nat.le_of_ble_eq_true rfl, Nat.le_of_ble_eq_true rfl⟩) (kStatX hK hP hD hN hXS hS hA [] rfl (by decide)) rfl rfl hl.1 rfl (lv_room (Nat.le_of_ble_eq_true rfl)) dX2_weighRow_93 ⟨Nat.le_of_ble_eq_true rfl, Nat.le_of_ble_eq_true rfl⟩) hP hD hS hA [] [0, 1, 2, 3, 4, 5, 6, 7, 8, 9] rfl rfl (by decide) (by decide) ?_
                clear hP hD hS
                intro r_164 u_166 H locs w_165 hP hD hS
                replace hP : va_P D vwCl [(k, .inr (2, [.ref k0, .ref k1])), (k0, .inl (cI, 40, .inl g43_k0)), (k1, .inl (cI, 40, .inl c1)), (o5, .inr (3, [.ref o50, .int d51])), (o50, .inl (cI, 36, .inl d50)), (y, .inr (6, [.ref y0, .ref y1, .ref y2])), (y1, .inl (cI, 4, .inl e1)), (y2, .inl (cI, 144, .inl e2)), (o, .inr (9, [.ref o0, .ref o1, .ref o2, .ref o3, .ref o4, .ref o5, .int d6, .int d7, .int d8])), (o1, .inl (cI, 40, .inl d1))] H := hP
                replace hD : va_D A [(k, .inr (2, [.ref k0, .ref k1])), (k0, .inl (cI, 40, .inl g43_k0)), (k1, .inl (cI, 40, .inl c1)), (o5, .inr (3, [.ref o50, .int d51])), (o50, .inl (cI, 36, .inl d50)), (y, .inr (6, [.ref y0, .ref y1, .ref y2])), (y1, .inl (cI, 4, .inl e1)), (y2, .inl (cI, 144, .inl e2)), (o, .inr (9, [.ref o0, .ref o1, .ref o2, .ref o3, .ref o4, .ref o5, .int d6, .int d7, .int d8])), (o1, .inl (cI, 40, .inl d1))] := hD
                obtain ⟨h_167, h_168, h_169⟩ := w_165
                have h_167 : r_164 = (r_145 + r_18 - 1) / r_18 := h_167
                have h_168 : 0 ≤ r_164.toInt := h_168
                have h_169 : r_164.toInt ≤ r_145.toInt := h_169
                have lo_r_164 := k_lo r_164
                have hi_r_164 := k_hi r_164
                refine lv_iadd hx hb dX2_weighRow_96 ?_
                refine lv_topi (fun v_170 ev_170 => ?_)
                have tv_170 : v_170.toInt = l43_10.toInt + r_164.toInt := by rw [ev_170]; exact k_addv rfl rfl (by omega) (by omega)
                refine lv_istore (lv' := [(10, .int v_170), (12, .int r_130), (11, .int l43_11), (9, .int r_18), (8, .int r_12), (7, .int r_6), (0, .ref k), (1, .ref o), (2, .ref y), (3, .int a2), (4, .int a3), (5, .int a4), (6, .int a5)]) hx hb dX2_weighRow_97 hl (by decide) rfl ?_
                clear hl
                intro ls hl
                refine lv_aload_n hx hb dX2_weighRow_99 rfl (lv_at hl 6 rfl) ?_
                refine va_get (D := D) (ci := 2) (v := .ref k0) (C := RX2) (T := TX2) (N := 2) hx hb hT giX2 hown hK hP 0 rfl rfl 0 (by decide) (hT (Cond.fieldLink RX2 9 "DesertWire$Meetings" "done" "[I") mw_245) (fun _ h9 => h9) rfl dX2_weighRow_100 ?_
                refine lv_iload hx hb dX2_weighRow_103 (lv_at hl 2 rfl) ?_
                refine lv_iload hx hb dX2_weighRow_105 (lv_at hl 0 rfl) ?_
                refine va_iast hx hb hK hP hD hS 1 0 rfl rfl (k_in (by omega) (by omega)) dX2_weighRow_107 ?_
                clear hP hD hS
                intro H locs hP hD hS
                replace hP : va_P D vwCl [(k, .inr (2, [.ref k0, .ref k1])), (k0, .inl (cI, 40, .inl (upd g43_k0 l43_11.toNatClampNeg v_170))), (k1, .inl (cI, 40, .inl c1)), (o5, .inr (3, [.ref o50, .int d51])), (o50, .inl (cI, 36, .inl d50)), (y, .inr (6, [.ref y0, .ref y1, .ref y2])), (y1, .inl (cI, 4, .inl e1)), (y2, .inl (cI, 144, .inl e2)), (o, .inr (9, [.ref o0, .ref o1, .ref o2, .ref o3, .ref o4, .ref o5, .int d6, .int d7, .int d8])), (o1, .inl (cI, 40, .inl d1))] H := hP
                replace hD : va_D A [(k, .inr (2, [.ref k0, .ref k1])), (k0, .inl (cI, 40, .inl (upd g43_k0 l43_11.toNatClampNeg v_170))), (k1, .inl (cI, 40, .inl c1)), (o5, .inr (3, [.ref o50, .int d51])), (o50, .inl (cI, 36, .inl d50)), (y, .inr (6, [.ref y0, .ref y1, .ref y2])), (y1, .inl (cI, 4, .inl e1)), (y2, .inl (cI, 144, .inl e2)), (o, .inr (9, [.ref o0, .ref o1, .ref o2, .ref o3, .ref o4, .ref o5, .int d6, .int d7, .int d8])), (o1, .inl (cI, 40, .inl d1))] := hD
                obtain ⟨f_171, ef_171⟩ : ∃ g : Nat → Int32, g = upd g43_k0 l43_11.toNatClampNeg v_170 := ⟨_, rfl⟩
                rw [← ef_171] at hP hD
                obtain ⟨v_172, ev_172⟩ : ∃ y : Int32, y = v_170 + 1 := ⟨_, rfl⟩
                have tv_172 : v_172.toInt = v_170.toInt + 1 := by rw [ev_172]; exact k_addv rfl zl_1 (by omega) (by omega)
                refine lv_iinc (v := v_172) (lv' := [(10, .int v_172), (12, .int r_130), (11, .int l43_11), (9, .int r_18), (8, .int r_12), (7, .int r_6), (0, .ref k), (1, .ref o), (2, .ref y), (3, .int a2), (4, .int a3), (5, .int a4), (6, .int a5)]) hx hb dX2_weighRow_108 hl (k := 0) rfl (by rw [ev_172]; rfl) (by decide) rfl ?_
                clear hl
                intro ls hl
                obtain ⟨v_173, ev_173⟩ : ∃ y : Int32, y = l43_11 + 1 := ⟨_, rfl⟩
                have tv_173 : v_173.toInt = l43_11.toInt + 1 := by rw [ev_173]; exact k_addv rfl zl_1 (by omega) (by omega)
                refine lv_iinc (v := v_173) (lv' := [(11, .int v_173), (10, .int v_172), (12, .int r_130), (9, .int r_18), (8, .int r_12), (7, .int r_6), (0, .ref k), (1, .ref o), (2, .ref y), (3, .int a2), (4, .int a3), (5, .int a4), (6, .int a5)]) hx hb dX2_weighRow_111 hl (k := 2) rfl (by rw [ev_173]; rfl) (by decide) rfl ?_
                clear hl
                intro ls hl
                refine lv_goto (tgt := 43) hx hb dX2_weighRow_114 (by decide) ?_
                exact ih43 v_172 v_173 f_171 (by first | omega | decide | assumption | rfl) (by first | omega | decide | assumption | rfl) (by first | omega | decide | assumption | rfl) (by first | omega | decide | assumption | rfl) (by first | omega | decide | assumption | rfl) (by first | omega | decide | assumption | rfl) (MGW.n (MGW.a (d := v_122) (mo := r_123) (rain := r_130) (e := r_145) (q := r_164) i43_6 (by omega) (by rw [ev_122, WR.dd pre0]) (by omega) (by rw [h_134]; unfold shv; congr 1; omega) (ef_at (s := r_136) (r := r_130) h_143 (by first | exact Or.inl ⟨by omega, rfl⟩ | exact Or.inr (Or.inl ⟨by omega, by assumption⟩) | exact Or.inr (Or.inr ⟨by omega, by omega, rfl⟩)) b_144) (by rw [h_167, h_21]) ev_170) ev_172 (by omega) (by omega)) (MDW.s (x := l43_11) (by omega) i43_7 (MGW.a (d := v_122) (mo := r_123) (rain := r_130) (e := r_145) (q := r_164) i43_6 (by omega) (by rw [ev_122, WR.dd pre0]) (by omega) (by rw [h_134]; unfold shv; congr 1; omega) (ef_at (s := r_136) (r := r_130) h_143 (by first | exact Or.inl ⟨by omega, rfl⟩ | exact Or.inr (Or.inl ⟨by omega, by assumption⟩) | exact Or.inr (Or.inr ⟨by omega, by omega, rfl⟩)) b_144) (by rw [h_167, h_21]) ev_170) ef_171 (by omega) (by omega)) (by omega) ls _ _ (lv_sub hl [0, 1, 3, 4, 5, 6, 7, 8, 9, 10, 11, 12] rfl) (hP.sub [0, 1, 2, 8, 9, 5, 6, 7, 3, 4] rfl) (hD.sub [0, 1, 2, 8, 9, 5, 6, 7, 3, 4] (by decide) rfl) hS
              · have h_151 : r_136.toInt ≠ 1 := h_151
                have h_152 : r_136.toInt ≠ 2 := h_152
                obtain rfl : r_145 = 10 := hr_145.trans (by decide)
                refine lv_iload hx hb dX2_weighRow_91 (lv_at hl 3 rfl) ?_
                refine kJi (wr := [(k, .inr (2, [.ref k0, .ref k1])), (k0, .inl (cI, 40, .inl g43_k0)), (k1, .inl (cI, 40, .inl c1)), (o5, .inr (3, [.ref o50, .int d51])), (o50, .inl (cI, 36, .inl d50)), (y, .inr (6, [.ref y0, .ref y1, .ref y2])), (y1, .inl (cI, 4, .inl e1)), (y2, .inl (cI, 144, .inl e2)), (o, .inr (9, [.ref o0, .ref o1, .ref o2, .ref o3, .ref o4, .ref o5, .int d6, .int d7, .int d8])), (o1, .inl (cI, 40, .inl d1))]) (va_runS (As := [.int 10, .int r_18]) (rest := [.int l43_10]) ⟨hx, hb, hml, hown, hT⟩ (c_X2_daysOfD l D cI aK aV H.size 10 r_18 (by first | omega | (simp only [zl_10]; first | done | omega) | decide | assumption | rfl) (by first | omega | (simp only [zl_10]; first | done | omega) | decide | assumption | rfl) (by first | omega | (simp only [zl_10]; first | done | omega) | decide | assumption | rfl) (by first | omega | (simp only [zl_10]; first | done | omega) | decide | assumption | rfl)) (cwS 2 hT (gS_in mw_945 mw_943 mw_944 mw_9) rfl rfl rfl (by decide +kernel) ⟨Nat.le_of_ble_eq_true rfl, Nat.le_of_ble_eq_true rfl⟩) (kStatX hK hP hD hN hXS hS hA [] rfl (by decide)) rfl rfl hl.1 rfl (lv_room (Nat.le_of_ble_eq_true rfl)) dX2_weighRow_93 ⟨Nat.le_of_ble_eq_true rfl, Nat.le_of_ble_eq_true rfl⟩) hP hD hS hA [] [0, 1, 2, 3, 4, 5, 6, 7, 8, 9] rfl rfl (by decide) (by decide) ?_
                clear hP hD hS
                intro r_174 u_176 H locs w_175 hP hD hS
                replace hP : va_P D vwCl [(k, .inr (2, [.ref k0, .ref k1])), (k0, .inl (cI, 40, .inl g43_k0)), (k1, .inl (cI, 40, .inl c1)), (o5, .inr (3, [.ref o50, .int d51])), (o50, .inl (cI, 36, .inl d50)), (y, .inr (6, [.ref y0, .ref y1, .ref y2])), (y1, .inl (cI, 4, .inl e1)), (y2, .inl (cI, 144, .inl e2)), (o, .inr (9, [.ref o0, .ref o1, .ref o2, .ref o3, .ref o4, .ref o5, .int d6, .int d7, .int d8])), (o1, .inl (cI, 40, .inl d1))] H := hP
                replace hD : va_D A [(k, .inr (2, [.ref k0, .ref k1])), (k0, .inl (cI, 40, .inl g43_k0)), (k1, .inl (cI, 40, .inl c1)), (o5, .inr (3, [.ref o50, .int d51])), (o50, .inl (cI, 36, .inl d50)), (y, .inr (6, [.ref y0, .ref y1, .ref y2])), (y1, .inl (cI, 4, .inl e1)), (y2, .inl (cI, 144, .inl e2)), (o, .inr (9, [.ref o0, .ref o1, .ref o2, .ref o3, .ref o4, .ref o5, .int d6, .int d7, .int d8])), (o1, .inl (cI, 40, .inl d1))] := hD
                obtain ⟨h_177, h_178, h_179⟩ := w_175
                try simp only [zl_10] at h_177
                have h_177 : r_174 = (10 + r_18 - 1) / r_18 := h_177
                try simp only [zl_10] at h_178
                have h_178 : 0 ≤ r_174.toInt := h_178
                try simp only [zl_10] at h_179
                have h_179 : r_174.toInt ≤ 10 := h_179
                have lo_r_174 := k_lo r_174
                have hi_r_174 := k_hi r_174
                refine lv_iadd hx hb dX2_weighRow_96 ?_
                refine lv_topi (fun v_180 ev_180 => ?_)
                have tv_180 : v_180.toInt = l43_10.toInt + r_174.toInt := by rw [ev_180]; exact k_addv rfl rfl (by omega) (by omega)
                refine lv_istore (lv' := [(10, .int v_180), (12, .int r_130), (11, .int l43_11), (9, .int r_18), (8, .int r_12), (7, .int r_6), (0, .ref k), (1, .ref o), (2, .ref y), (3, .int a2), (4, .int a3), (5, .int a4), (6, .int a5)]) hx hb dX2_weighRow_97 hl (by decide) rfl ?_
                clear hl
                intro ls hl
                refine lv_aload_n hx hb dX2_weighRow_99 rfl (lv_at hl 6 rfl) ?_
                refine va_get (D := D) (ci := 2) (v := .ref k0) (C := RX2) (T := TX2) (N := 2) hx hb hT giX2 hown hK hP 0 rfl rfl 0 (by decide) (hT (Cond.fieldLink RX2 9 "DesertWire$Meetings" "done" "[I") mw_245) (fun _ h9 => h9) rfl dX2_weighRow_100 ?_
                refine lv_iload hx hb dX2_weighRow_103 (lv_at hl 2 rfl) ?_
                refine lv_iload hx hb dX2_weighRow_105 (lv_at hl 0 rfl) ?_
                refine va_iast hx hb hK hP hD hS 1 0 rfl rfl (k_in (by omega) (by omega)) dX2_weighRow_107 ?_
                clear hP hD hS
                intro H locs hP hD hS
                replace hP : va_P D vwCl [(k, .inr (2, [.ref k0, .ref k1])), (k0, .inl (cI, 40, .inl (upd g43_k0 l43_11.toNatClampNeg v_180))), (k1, .inl (cI, 40, .inl c1)), (o5, .inr (3, [.ref o50, .int d51])), (o50, .inl (cI, 36, .inl d50)), (y, .inr (6, [.ref y0, .ref y1, .ref y2])), (y1, .inl (cI, 4, .inl e1)), (y2, .inl (cI, 144, .inl e2)), (o, .inr (9, [.ref o0, .ref o1, .ref o2, .ref o3, .ref o4, .ref o5, .int d6, .int d7, .int d8])), (o1, .inl (cI, 40, .inl d1))] H := hP
                replace hD : va_D A [(k, .inr (2, [.ref k0, .ref k1])), (k0, .inl (cI, 40, .inl (upd g43_k0 l43_11.toNatClampNeg v_180))), (k1, .inl (cI, 40, .inl c1)), (o5, .inr (3, [.ref o50, .int d51])), (o50, .inl (cI, 36, .inl d50)), (y, .inr (6, [.ref y0, .ref y1, .ref y2])), (y1, .inl (cI, 4, .inl e1)), (y2, .inl (cI, 144, .inl e2)), (o, .inr (9, [.ref o0, .ref o1, .ref o2, .ref o3, .ref o4, .ref o5, .int d6, .int d7, .int d8])), (o1, .inl (cI, 40, .inl d1))] := hD
                obtain ⟨f_181, ef_181⟩ : ∃ g : Nat → Int32, g = upd g43_k0 l43_11.toNatClampNeg v_180 := ⟨_, rfl⟩
                rw [← ef_181] at hP hD
                obtain ⟨v_182, ev_182⟩ : ∃ y : Int32, y = v_180 + 1 := ⟨_, rfl⟩
                have tv_182 : v_182.toInt = v_180.toInt + 1 := by rw [ev_182]; exact k_addv rfl zl_1 (by omega) (by omega)
                refine lv_iinc (v := v_182) (lv' := [(10, .int v_182), (12, .int r_130), (11, .int l43_11), (9, .int r_18), (8, .int r_12), (7, .int r_6), (0, .ref k), (1, .ref o), (2, .ref y), (3, .int a2), (4, .int a3), (5, .int a4), (6, .int a5)]) hx hb dX2_weighRow_108 hl (k := 0) rfl (by rw [ev_182]; rfl) (by decide) rfl ?_
                clear hl
                intro ls hl
                obtain ⟨v_183, ev_183⟩ : ∃ y : Int32, y = l43_11 + 1 := ⟨_, rfl⟩
                have tv_183 : v_183.toInt = l43_11.toInt + 1 := by rw [ev_183]; exact k_addv rfl zl_1 (by omega) (by omega)
                refine lv_iinc (v := v_183) (lv' := [(11, .int v_183), (10, .int v_182), (12, .int r_130), (9, .int r_18), (8, .int r_12), (7, .int r_6), (0, .ref k), (1, .ref o), (2, .ref y), (3, .int a2), (4, .int a3), (5, .int a4), (6, .int a5)]) hx hb dX2_weighRow_111 hl (k := 2) rfl (by rw [ev_183]; rfl) (by decide) rfl ?_
                clear hl
                intro ls hl
                refine lv_goto (tgt := 43) hx hb dX2_weighRow_114 (by decide) ?_
                exact ih43 v_182 v_183 f_181 (by first | omega | decide | assumption | rfl) (by first | omega | decide | assumption | rfl) (by first | omega | decide | assumption | rfl) (by first | omega | decide | assumption | rfl) (by first | omega | decide | assumption | rfl) (by first | omega | decide | assumption | rfl) (MGW.n (MGW.a (d := v_122) (mo := r_123) (rain := r_130) (e := 10) (q := r_174) i43_6 (by omega) (by rw [ev_122, WR.dd pre0]) (by omega) (by rw [h_134]; unfold shv; congr 1; omega) (ef_at (s := r_136) (r := r_130) h_143 (by first | exact Or.inl ⟨by omega, rfl⟩ | exact Or.inr (Or.inl ⟨by omega, by assumption⟩) | exact Or.inr (Or.inr ⟨by omega, by omega, rfl⟩)) b_144) (by rw [h_177, h_21]) ev_180) ev_182 (by omega) (by omega)) (MDW.s (x := l43_11) (by omega) i43_7 (MGW.a (d := v_122) (mo := r_123) (rain := r_130) (e := 10) (q := r_174) i43_6 (by omega) (by rw [ev_122, WR.dd pre0]) (by omega) (by rw [h_134]; unfold shv; congr 1; omega) (ef_at (s := r_136) (r := r_130) h_143 (by first | exact Or.inl ⟨by omega, rfl⟩ | exact Or.inr (Or.inl ⟨by omega, by assumption⟩) | exact Or.inr (Or.inr ⟨by omega, by omega, rfl⟩)) b_144) (by rw [h_177, h_21]) ev_180) ef_181 (by omega) (by omega)) (by omega) ls _ _ (lv_sub hl [0, 1, 3, 4, 5, 6, 7, 8, 9, 10, 11, 12] rfl) (hP.sub [0, 1, 2, 8, 9, 5, 6, 7, 3, 4] rfl) (hD.sub [0, 1, 2, 8, 9, 5, 6, 7, 3, 4] (by decide) rfl) hS
            · exfalso; omega
          · exfalso; omega
  exact hloop_43 _ 0 r_6 c0 (by first | omega | (simp only [zl_0]; first | done | omega) | decide | assumption | rfl) (by first | omega | (simp only [zl_0]; first | done | omega) | decide | assumption | rfl) (by first | omega | (simp only [zl_0]; first | done | omega) | decide | assumption | rfl) (by first | omega | (simp only [zl_0]; first | done | omega) | decide | assumption | rfl) (by first | omega | (simp only [zl_0]; first | done | omega) | decide | assumption | rfl) (by first | omega | (simp only [zl_0]; first | done | omega) | decide | assumption | rfl) (MGW.z rfl (by omega)) (MDW.z (by omega)) (Nat.lt_succ_self _) ls _ _ (lv_sub hl [0, 1, 2, 3, 4, 5, 6, 7, 8, 9, 10, 11] rfl) hP hD hS

set_option maxHeartbeats 4000000 in
set_option maxRecDepth 100000 in
theorem c_X2_weighD (l : Launch) (D : va_G) (cI : ClassId) (aK aV : Nat → Nat) (k o y k0 k1 o0 o1 o2 o3 o4 o5 o50 y0 y1 y2 : Nat) (sz : Nat) (c0 : Nat → Int32) (c1 : Nat → Int32) (d6 : Int32) (d7 : Int32) (d8 : Int32) (d1 : Nat → Int32) (d51 : Int32) (d50 : Nat → Int32) (e1 : Nat → Int32) (e2 : Nat → Int32) (d0 : Nat → Int32) (d2 : Nat → Int32) (d3 : Nat → Int32) (d40 : Nat → Int32) (d41 : Nat → Int32) (d42 : Nat → Int32) (d43 : Nat → Int32) (d44 : Nat → Int32) (d45 : Nat → Int32) (d46 : Nat → Int32) (d47 : Nat → Int32) (d48 : Nat → Int32) (d49 : Int32) (gx : Nat → Int32) (a2 : Int32) (a3 : Int32) (a4 : Int32) (pre0 : WR d0 d1 d2 d3 d40 d41 d42 d43 d44 d45 d46 d47 d48 d49 d50 d51 d6 d7 d8 gx) (pre1 : SB gx) (pre2 : 0 ≤ a2.toInt) (pre3 : a2.toInt ≤ 3) (pre4 : 0 ≤ a3.toInt) (pre5 : a3.toInt < d51.toInt) (pre6 : 0 ≤ a4.toInt) (pre7 : a4.toInt < d51.toInt) (pre8 : 1 ≤ (pW gx a3 2).toInt) (pre9 : (pW gx a3 2).toInt ≤ 50) (pre10 : 1 ≤ (pW gx a4 2).toInt) (pre11 : (pW gx a4 2).toInt ≤ 50) (pre12 : 0 ≤ (pW gx a3 0).toInt) (pre13 : (pW gx a3 0).toInt < (pW gx a4 0).toInt) (pre14 : (pW gx a4 0).toInt ≤ 39) (pre15 : allB (shv e2 a2) 0 9 (e1 a2.toNatClampNeg).toInt.toNat = true) (pre16 : (e1 a2.toNatClampNeg).toInt ≤ 36) (pre17 : ∀ k : Nat, k < 4 → 0 ≤ (e1 k).toInt ∧ (e1 k).toInt ≤ 36) (pre18 : 12 ≤ (e1 a2.toNatClampNeg).toInt) (pre19 : (e1 a2.toNatClampNeg).toInt % 12 = 0) : Met l yX2_weigh (gW yX2_weigh cX2_weigh 7 none) ({ frames := 5, cells := 0, slots := 0, locals := 117 } : Room) (kPreX D cI aK aV [.ref k, .ref o, .ref y, .int a2, .int a3, .int a4] [(k, .inr (2, [.ref k0, .ref k1])), (k0, .inl (cI, 40, .inl c0)), (k1, .inl (cI, 40, .inl c1)), (o, .inr (9, [.ref o0, .ref o1, .ref o2, .ref o3, .ref o4, .ref o5, .int d6, .int d7, .int d8])), (o1, .inl (cI, 40, .inl d1)), (o5, .inr (3, [.ref o50, .int d51])), (o50, .inl (cI, 36, .inl d50)), (y, .inr (6, [.ref y0, .ref y1, .ref y2])), (y1, .inl (cI, 4, .inl e1)), (y2, .inl (cI, 144, .inl e2))] sz) (va_Qv (fun (u : (Nat → Int32) × (Nat → Int32)) => MWF gx e1 e2 a2 a3 a4 u.2) (fun u t => kWd D cI (va_A [(k, .inr (2, [.ref k0, .ref k1])), (k0, .inl (cI, 40, .inl c0)), (k1, .inl (cI, 40, .inl c1)), (o, .inr (9, [.ref o0, .ref o1, .ref o2, .ref o3, .ref o4, .ref o5, .int d6, .int d7, .int d8])), (o1, .inl (cI, 40, .inl d1)), (o5, .inr (3, [.ref o50, .int d51])), (o50, .inl (cI, 36, .inl d50)), (y, .inr (6, [.ref y0, .ref y1, .ref y2])), (y1, .inl (cI, 4, .inl e1)), (y2, .inl (cI, 144, .inl e2))] sz) [(k, .inr (2, [.ref k0, .ref k1])), (k0, .inl (cI, 40, .inl u.1)), (k1, .inl (cI, 40, .inl u.2)), (o, .inr (9, [.ref o0, .ref o1, .ref o2, .ref o3, .ref o4, .ref o5, .int d6, .int d7, .int d8])), (o1, .inl (cI, 40, .inl d1)), (o5, .inr (3, [.ref o50, .int d51])), (o50, .inl (cI, 36, .inl d50)), (y, .inr (6, [.ref y0, .ref y1, .ref y2])), (y1, .inl (cI, 4, .inl e1)), (y2, .inl (cI, 144, .inl e2))] t) (va_A [(k, .inr (2, [.ref k0, .ref k1])), (k0, .inl (cI, 40, .inl c0)), (k1, .inl (cI, 40, .inl c1)), (o, .inr (9, [.ref o0, .ref o1, .ref o2, .ref o3, .ref o4, .ref o5, .int d6, .int d7, .int d8])), (o1, .inl (cI, 40, .inl d1)), (o5, .inr (3, [.ref o50, .int d51])), (o50, .inl (cI, 36, .inl d50)), (y, .inr (6, [.ref y0, .ref y1, .ref y2])), (y1, .inl (cI, 4, .inl e1)), (y2, .inl (cI, 144, .inl e2))] sz)) 0 0 (va_A [(k, .inr (2, [.ref k0, .ref k1])), (k0, .inl (cI, 40, .inl c0)), (k1, .inl (cI, 40, .inl c1)), (o, .inr (9, [.ref o0, .ref o1, .ref o2, .ref o3, .ref o4, .ref o5, .int d6, .int d7, .int d8])), (o1, .inl (cI, 40, .inl d1)), (o5, .inr (3, [.ref o50, .int d51])), (o50, .inl (cI, 36, .inl d50)), (y, .inr (6, [.ref y0, .ref y1, .ref y2])), (y1, .inl (cI, 4, .inl e1)), (y2, .inl (cI, 144, .inl e2))] sz) := by
  refine kMetVX (own := RX2) (by decide) rfl (Nat.le_of_ble_eq_true rfl) ?_
  intro p e s m args below meth c hx hb hT hown hname hml A Q hK hP hD hS hA hN hXS hRet ls hl
  have hl : lv_has ls 7 [(0, .ref k), (1, .ref o), (2, .ref y), (3, .int a2), (4, .int a3), (5, .int a4)] := hl
  have lo_a2 := k_lo a2
  have hi_a2 := k_hi a2
  have lo_a3 := k_lo a3
  have hi_a3 := k_hi a3
  have lo_a4 := k_lo a4
  have hi_a4 := k_hi a4
  have lo_d6 := k_lo d6
  have hi_d6 := k_hi d6
  have lo_d7 := k_lo d7
  have hi_d7 := k_hi d7
  have lo_d8 := k_lo d8
  have hi_d8 := k_hi d8
  have lo_d51 := k_lo d51
  have hi_d51 := k_hi d51
  have lo_d49 := k_lo d49
  have hi_d49 := k_hi d49
  have pre0 : WR d0 d1 d2 d3 d40 d41 d42 d43 d44 d45 d46 d47 d48 d49 d50 d51 d6 d7 d8 gx := pre0
  have b_1 : 0 ≤ d49.toInt ∧ d49.toInt ≤ 60 := WKR.n0 (WR.kw pre0)
  have t_2 : d49.toInt = (gx 1).toInt := WKR.nt (WR.kw pre0)
  have b_3 : 0 ≤ d51.toInt ∧ d51.toInt ≤ 4 := ((WR.kp pre0)).2.1
  have t_4 : d51.toInt = (gx 2).toInt := PTR.nt (WR.kp pre0)
  have t_5 : d8.toInt = (gx 0).toInt := by rw [WR.dd pre0]
  have pre1 : SB gx := pre1
  have pre15 : allB (shv e2 a2) 0 9 (e1 a2.toNatClampNeg).toInt.toNat = true := pre15
  refine lv_iconst (v := 0) hx hb dX2_weigh_0 (by decide) ?_
  refine lv_istore (lv' := [(6, .int 0), (0, .ref k), (1, .ref o), (2, .ref y), (3, .int a2), (4, .int a3), (5, .int a4)]) hx hb dX2_weigh_1 hl (by decide) rfl ?_
  clear hl
  intro ls hl
  have hloop_3 : ∀ (fu_ : Nat) (l3_6 : Int32) (g3_k1 : Nat → Int32), 0 ≤ l3_6.toInt → 0 ≤ l3_6.toInt → l3_6.toInt ≤ 40 → ZRL g3_k1 l3_6.toInt → (40 - l3_6.toInt).toNat < fu_ → ∀ (ls : Array Slot) (H : Heap) (locs : List Loc), lv_has ls 7 [(6, .int l3_6), (0, .ref k), (1, .ref o), (2, .ref y), (3, .int a2), (4, .int a3), (5, .int a4)] → va_P D vwCl [(k, .inr (2, [.ref k0, .ref k1])), (k0, .inl (cI, 40, .inl c0)), (k1, .inl (cI, 40, .inl g3_k1)), (o, .inr (9, [.ref o0, .ref o1, .ref o2, .ref o3, .ref o4, .ref o5, .int d6, .int d7, .int d8])), (o1, .inl (cI, 40, .inl d1)), (o5, .inr (3, [.ref o50, .int d51])), (o50, .inl (cI, 36, .inl d50)), (y, .inr (6, [.ref y0, .ref y1, .ref y2])), (y1, .inl (cI, 4, .inl e1)), (y2, .inl (cI, 144, .inl e2))] H → va_D A [(k, .inr (2, [.ref k0, .ref k1])), (k0, .inl (cI, 40, .inl c0)), (k1, .inl (cI, 40, .inl g3_k1)), (o, .inr (9, [.ref o0, .ref o1, .ref o2, .ref o3, .ref o4, .ref o5, .int d6, .int d7, .int d8])), (o1, .inl (cI, 40, .inl d1)), (o5, .inr (3, [.ref o50, .int d51])), (o50, .inl (cI, 36, .inl d50)), (y, .inr (6, [.ref y0, .ref y1, .ref y2])), (y1, .inl (cI, 4, .inl e1)), (y2, .inl (cI, 144, .inl e2))] → va_S A s.heap H locs → W p l e ({ frames := 5, cells := 0, slots := 0, locals := 117 } : Room) s m args below meth c H locs 0 0 Q (F0 m 3 ls []) := by
    intro fu_; induction fu_ with
    | zero => intro l3_6 g3_k1 i3_0 i3_1 i3_2 i3_3 hm; exact absurd hm (by omega)
    | succ fu_ ih3 =>
        intro l3_6 g3_k1 i3_0 i3_1 i3_2 i3_3 hm ls H locs hl hP hD hS
        have lo_l3_6 := k_lo l3_6
        have hi_l3_6 := k_hi l3_6
        have i3_3 : ZRL g3_k1 l3_6.toInt := i3_3
        refine lv_iload hx hb dX2_weigh_3 (lv_at hl 0 rfl) ?_
        refine lv_bipush (v := 40) hx hb dX2_weigh_5 (by decide) ?_
        refine b_icmp_ge hx hb rfl zl_40 (tgt := 24) dX2_weigh_7 (by decide) (fun c_6 => ?_) (fun c_6 => ?_)
        · refine lv_iconst (v := 0) hx hb dX2_weigh_24 (by decide) ?_
          refine lv_istore (lv' := [(6, .int 0), (0, .ref k), (1, .ref o), (2, .ref y), (3, .int a2), (4, .int a3), (5, .int a4)]) hx hb dX2_weigh_25 hl (by decide) rfl ?_
          clear hl
          intro ls hl
          have hloop_27 : ∀ (fu_ : Nat) (l27_6 : Int32) (g27_k0 : Nat → Int32) (g27_k1 : Nat → Int32), 0 ≤ l27_6.toInt → 0 ≤ l27_6.toInt → l27_6.toInt ≤ (e1 a2.toNatClampNeg).toInt → l27_6.toInt % 12 = 0 → MWX gx e2 a2 a3 a4 g27_k1 l27_6 → (48 - l27_6.toInt).toNat < fu_ → ∀ (ls : Array Slot) (H : Heap) (locs : List Loc), lv_has ls 7 [(6, .int l27_6), (0, .ref k), (1, .ref o), (2, .ref y), (3, .int a2), (4, .int a3), (5, .int a4)] → va_P D vwCl [(k, .inr (2, [.ref k0, .ref k1])), (k0, .inl (cI, 40, .inl g27_k0)), (k1, .inl (cI, 40, .inl g27_k1)), (o, .inr (9, [.ref o0, .ref o1, .ref o2, .ref o3, .ref o4, .ref o5, .int d6, .int d7, .int d8])), (o1, .inl (cI, 40, .inl d1)), (o5, .inr (3, [.ref o50, .int d51])), (o50, .inl (cI, 36, .inl d50)), (y, .inr (6, [.ref y0, .ref y1, .ref y2])), (y1, .inl (cI, 4, .inl e1)), (y2, .inl (cI, 144, .inl e2))] H → va_D A [(k, .inr (2, [.ref k0, .ref k1])), (k0, .inl (cI, 40, .inl g27_k0)), (k1, .inl (cI, 40, .inl g27_k1)), (o, .inr (9, [.ref o0, .ref o1, .ref o2, .ref o3, .ref o4, .ref o5, .int d6, .int d7, .int d8])), (o1, .inl (cI, 40, .inl d1)), (o5, .inr (3, [.ref o50, .int d51])), (o50, .inl (cI, 36, .inl d50)), (y, .inr (6, [.ref y0, .ref y1, .ref y2])), (y1, .inl (cI, 4, .inl e1)), (y2, .inl (cI, 144, .inl e2))] → va_S A s.heap H locs → W p l e ({ frames := 5, cells := 0, slots := 0, locals := 117 } : Room) s m args below meth c H locs 0 0 Q (F0 m 27 ls []) := by
            intro fu_; induction fu_ with
            | zero => intro l27_6 g27_k0 g27_k1 i27_0 i27_1 i27_2 i27_3 i27_4 hm; exact absurd hm (by omega)
            | succ fu_ ih27 =>
                intro l27_6 g27_k0 g27_k1 i27_0 i27_1 i27_2 i27_3 i27_4 hm ls H locs hl hP hD hS
                have lo_l27_6 := k_lo l27_6
                have hi_l27_6 := k_hi l27_6
                have i27_4 : MWX gx e2 a2 a3 a4 g27_k1 l27_6 := i27_4
                refine lv_iload hx hb dX2_weigh_27 (lv_at hl 0 rfl) ?_
                refine lv_aload_n hx hb dX2_weigh_29 rfl (lv_at hl 3 rfl) ?_
                refine lv_iload_n hx hb dX2_weigh_30 rfl (lv_at hl 4 rfl) ?_
                refine kJi (wr := [(k, .inr (2, [.ref k0, .ref k1])), (k0, .inl (cI, 40, .inl g27_k0)), (k1, .inl (cI, 40, .inl g27_k1)), (o, .inr (9, [.ref o0, .ref o1, .ref o2, .ref o3, .ref o4, .ref o5, .int d6, .int d7, .int d8])), (o1, .inl (cI, 40, .inl d1)), (o5, .inr (3, [.ref o50, .int d51])), (o50, .inl (cI, 36, .inl d50)), (y2, .inl (cI, 144, .inl e2))]) (va_runV (As := [.int a2]) (rest := [.int l27_6]) ⟨hx, hb, hml, hown, hT⟩ (c_X6_lengthOfG l D cI aK aV y y0 y1 y2 H.size e1 a2 (by first | omega | decide | assumption | rfl)) (cwV 1 hT (gV_in mw_675 mw_932 mw_673 mw_674 mw_11) rfl rfl rfl (by decide +kernel) ⟨Nat.le_of_ble_eq_true rfl, Nat.le_of_ble_eq_true rfl⟩) (kRecvX (q0 := 7) (ci := 6) hK hP hD hN hXS hS hA rfl rfl [7, 8] rfl (by decide)) rfl rfl hl.1 rfl (lv_room (Nat.le_of_ble_eq_true rfl)) dX2_weigh_31 ⟨Nat.le_of_ble_eq_true rfl, Nat.le_of_ble_eq_true rfl⟩) hP hD hS hA [7, 8] [0, 1, 2, 3, 4, 5, 6, 9] rfl rfl (by decide) (by decide) ?_
                clear hP hD hS
                intro r_7 u_9 H locs w_8 hP hD hS
                replace hP : va_P D vwCl [(k, .inr (2, [.ref k0, .ref k1])), (k0, .inl (cI, 40, .inl g27_k0)), (k1, .inl (cI, 40, .inl g27_k1)), (o, .inr (9, [.ref o0, .ref o1, .ref o2, .ref o3, .ref o4, .ref o5, .int d6, .int d7, .int d8])), (o1, .inl (cI, 40, .inl d1)), (o5, .inr (3, [.ref o50, .int d51])), (o50, .inl (cI, 36, .inl d50)), (y2, .inl (cI, 144, .inl e2)), (y, .inr (6, [.ref y0, .ref y1, .ref y2])), (y1, .inl (cI, 4, .inl e1))] H := hP
                replace hD : va_D A [(k, .inr (2, [.ref k0, .ref k1])), (k0, .inl (cI, 40, .inl g27_k0)), (k1, .inl (cI, 40, .inl g27_k1)), (o, .inr (9, [.ref o0, .ref o1, .ref o2, .ref o3, .ref o4, .ref o5, .int d6, .int d7, .int d8])), (o1, .inl (cI, 40, .inl d1)), (o5, .inr (3, [.ref o50, .int d51])), (o50, .inl (cI, 36, .inl d50)), (y2, .inl (cI, 144, .inl e2)), (y, .inr (6, [.ref y0, .ref y1, .ref y2])), (y1, .inl (cI, 4, .inl e1))] := hD
                rcases w_8 with ⟨h_10, h_11, h_12, h_13, h_14⟩ | ⟨hr_7, h_15⟩
                · have h_10 : 0 ≤ a2.toInt := h_10
                  have h_11 : a2.toInt ≤ 3 := h_11
                  have h_12 : 0 ≤ r_7.toInt := h_12
                  have h_13 : r_7.toInt ≤ 36 := h_13
                  have h_14 : r_7.toInt = (e1 a2.toNatClampNeg).toInt := h_14
                  have lo_r_7 := k_lo r_7
                  have hi_r_7 := k_hi r_7
                  refine b_icmp_ge hx hb rfl rfl (tgt := 56) dX2_weigh_34 (by decide) (fun c_16 => ?_) (fun c_16 => ?_)
                  · exact hRet (g27_k0, g27_k1) [0, 1, 2, 3, 4, 5, 6, 8, 9, 7] (MWX.e i27_4 (by omega)) hP hD (by decide) rfl hS dX2_weigh_56
                  · refine lv_aload_n hx hb dX2_weigh_37 rfl (lv_at hl 1 rfl) ?_
                    refine lv_aload_n hx hb dX2_weigh_38 rfl (lv_at hl 2 rfl) ?_
                    refine lv_aload_n hx hb dX2_weigh_39 rfl (lv_at hl 3 rfl) ?_
                    refine lv_iload_n hx hb dX2_weigh_40 rfl (lv_at hl 4 rfl) ?_
                    refine lv_iload hx hb dX2_weigh_41 (lv_at hl 0 rfl) ?_
                    refine lv_iload hx hb dX2_weigh_43 (lv_at hl 5 rfl) ?_
                    refine lv_iload hx hb dX2_weigh_45 (lv_at hl 6 rfl) ?_
                    refine kJv (wr := []) (va_runV (As := [.ref o, .ref y, .int a2, .int l27_6, .int a3, .int a4]) (rest := []) ⟨hx, hb, hml, hown, hT⟩ (c_X2_weighRowD l D cI aK aV k o y k0 k1 o0 o1 o2 o3 o4 o5 o50 y0 y1 y2 H.size g27_k0 g27_k1 d6 d7 d8 d1 d51 d50 e1 e2 d0 d2 d3 d40 d41 d42 d43 d44 d45 d46 d47 d48 d49 gx a2 l27_6 a3 a4 pre0 pre1 (by first | omega | decide | assumption | rfl) (by first | omega | decide | assumption | rfl) (by first | omega | decide | assumption | rfl) (by first | omega | decide | assumption | rfl) (by first | omega | decide | assumption | rfl) (by first | omega | decide | assumption | rfl) (by first | omega | decide | assumption | rfl) (by first | omega | decide | assumption | rfl) (by first | omega | decide | assumption | rfl) (by first | omega | decide | assumption | rfl) (by first | omega | decide | assumption | rfl) (by first | omega | decide | assumption | rfl) (by first | omega | decide | assumption | rfl) (by first | omega | decide | assumption | rfl) (by first | omega | decide | assumption | rfl) (by first | omega | decide | assumption | rfl) (by first | omega | decide | assumption | rfl) (by first | omega | decide | assumption | rfl)) (cwV 6 hT (gV_in mw_936 mw_933 mw_935 mw_p2_15 mw_9) rfl rfl rfl (by decide +kernel) ⟨Nat.le_of_ble_eq_true rfl, Nat.le_of_ble_eq_true rfl⟩) (kRecvX (q0 := 0) (ci := 2) hK hP hD hN hXS hS hA rfl rfl [0, 1, 2, 3, 4, 5, 6, 8, 9, 7] rfl (by decide)) rfl rfl hl.1 rfl (lv_room (Nat.le_of_ble_eq_true rfl)) dX2_weigh_47 ⟨Nat.le_of_ble_eq_true rfl, Nat.le_of_ble_eq_true rfl⟩) hP hD hS hA [0, 1, 2, 3, 4, 5, 6, 8, 9, 7] [] rfl rfl (by decide) (by decide) ?_
                    clear hP hD hS
                    intro u_21 H locs w_18 hP hD hS
                    obtain ⟨sc0_19, sc1_20⟩ := u_21
                    replace hP : va_P D vwCl [(k, .inr (2, [.ref k0, .ref k1])), (k0, .inl (cI, 40, .inl sc0_19)), (k1, .inl (cI, 40, .inl sc1_20)), (o, .inr (9, [.ref o0, .ref o1, .ref o2, .ref o3, .ref o4, .ref o5, .int d6, .int d7, .int d8])), (o1, .inl (cI, 40, .inl d1)), (o5, .inr (3, [.ref o50, .int d51])), (o50, .inl (cI, 36, .inl d50)), (y, .inr (6, [.ref y0, .ref y1, .ref y2])), (y1, .inl (cI, 4, .inl e1)), (y2, .inl (cI, 144, .inl e2))] H := hP
                    replace hD : va_D A [(k, .inr (2, [.ref k0, .ref k1])), (k0, .inl (cI, 40, .inl sc0_19)), (k1, .inl (cI, 40, .inl sc1_20)), (o, .inr (9, [.ref o0, .ref o1, .ref o2, .ref o3, .ref o4, .ref o5, .int d6, .int d7, .int d8])), (o1, .inl (cI, 40, .inl d1)), (o5, .inr (3, [.ref o50, .int d51])), (o50, .inl (cI, 36, .inl d50)), (y, .inr (6, [.ref y0, .ref y1, .ref y2])), (y1, .inl (cI, 4, .inl e1)), (y2, .inl (cI, 144, .inl e2))] := hD
                    have h_22 := w_18
                    have h_22 : MWR gx e2 a2 l27_6 a3 a4 g27_k1 sc1_20 := h_22
                    obtain ⟨v_23, ev_23⟩ : ∃ y : Int32, y = l27_6 + 12 := ⟨_, rfl⟩
                    have tv_23 : v_23.toInt = l27_6.toInt + 12 := by rw [ev_23]; exact k_addv rfl zl_12 (by omega) (by omega)
                    refine lv_iinc (v := v_23) (lv' := [(6, .int v_23), (0, .ref k), (1, .ref o), (2, .ref y), (3, .int a2), (4, .int a3), (5, .int a4)]) hx hb dX2_weigh_50 hl (k := 0) rfl (by rw [ev_23]; rfl) (by decide) rfl ?_
                    clear hl
                    intro ls hl
                    refine lv_goto (tgt := 27) hx hb dX2_weigh_53 (by decide) ?_
                    exact ih27 v_23 sc0_19 sc1_20 (by first | omega | (have := zl_0; omega)) (by first | omega | (have := zl_0; omega)) (by first | omega | (have := zl_0; omega)) (by first | omega | (have := zl_0; omega)) (MWX.s i27_4 h_22 (by omega) (by omega) (by omega)) (by omega) ls _ _ (lv_sub hl [0, 1, 2, 3, 4, 5, 6] rfl) (hP.sub [0, 1, 2, 3, 4, 5, 6, 7, 8, 9] rfl) (hD.sub [0, 1, 2, 3, 4, 5, 6, 7, 8, 9] (by decide) rfl) hS
                · exfalso; omega
          exact hloop_27 _ 0 c0 g3_k1 (by first | omega | (have := zl_0; omega)) (by first | omega | (have := zl_0; omega)) (by first | omega | (have := zl_0; omega)) (by first | omega | (have := zl_0; omega)) (MWX.z (fun w hw => i3_3 w (by omega)) (by omega) (by omega) zl_0) (Nat.lt_succ_self _) ls _ _ (lv_sub hl [0, 1, 2, 3, 4, 5, 6] rfl) hP hD hS
        · refine lv_aload_n hx hb dX2_weigh_10 rfl (lv_at hl 1 rfl) ?_
          refine va_get (D := D) (ci := 2) (v := .ref k1) (C := RX2) (T := TX2) (N := 2) hx hb hT giX2 hown hK hP 0 rfl rfl 1 (by decide) (hT (Cond.fieldLink RX2 15 "DesertWire$Meetings" "worst" "[I") mw_246) (fun _ h9 => h9) rfl dX2_weigh_11 ?_
          refine lv_iload hx hb dX2_weigh_14 (lv_at hl 0 rfl) ?_
          refine lv_iconst (v := 0) hx hb dX2_weigh_16 (by decide) ?_
          refine va_iast hx hb hK hP hD hS 2 0 rfl rfl (k_in (by omega) (by omega)) dX2_weigh_17 ?_
          clear hP hD hS
          intro H locs hP hD hS
          replace hP : va_P D vwCl [(k, .inr (2, [.ref k0, .ref k1])), (k0, .inl (cI, 40, .inl c0)), (k1, .inl (cI, 40, .inl (upd g3_k1 l3_6.toNatClampNeg 0))), (o, .inr (9, [.ref o0, .ref o1, .ref o2, .ref o3, .ref o4, .ref o5, .int d6, .int d7, .int d8])), (o1, .inl (cI, 40, .inl d1)), (o5, .inr (3, [.ref o50, .int d51])), (o50, .inl (cI, 36, .inl d50)), (y, .inr (6, [.ref y0, .ref y1, .ref y2])), (y1, .inl (cI, 4, .inl e1)), (y2, .inl (cI, 144, .inl e2))] H := hP
          replace hD : va_D A [(k, .inr (2, [.ref k0, .ref k1])), (k0, .inl (cI, 40, .inl c0)), (k1, .inl (cI, 40, .inl (upd g3_k1 l3_6.toNatClampNeg 0))), (o, .inr (9, [.ref o0, .ref o1, .ref o2, .ref o3, .ref o4, .ref o5, .int d6, .int d7, .int d8])), (o1, .inl (cI, 40, .inl d1)), (o5, .inr (3, [.ref o50, .int d51])), (o50, .inl (cI, 36, .inl d50)), (y, .inr (6, [.ref y0, .ref y1, .ref y2])), (y1, .inl (cI, 4, .inl e1)), (y2, .inl (cI, 144, .inl e2))] := hD
          obtain ⟨f_24, ef_24⟩ : ∃ g : Nat → Int32, g = upd g3_k1 l3_6.toNatClampNeg 0 := ⟨_, rfl⟩
          rw [← ef_24] at hP hD
          obtain ⟨v_25, ev_25⟩ : ∃ y : Int32, y = l3_6 + 1 := ⟨_, rfl⟩
          have tv_25 : v_25.toInt = l3_6.toInt + 1 := by rw [ev_25]; exact k_addv rfl zl_1 (by omega) (by omega)
          refine lv_iinc (v := v_25) (lv' := [(6, .int v_25), (0, .ref k), (1, .ref o), (2, .ref y), (3, .int a2), (4, .int a3), (5, .int a4)]) hx hb dX2_weigh_18 hl (k := 0) rfl (by rw [ev_25]; rfl) (by decide) rfl ?_
          clear hl
          intro ls hl
          refine lv_goto (tgt := 3) hx hb dX2_weigh_21 (by decide) ?_
          exact ih3 v_25 f_24 (by first | omega | decide | assumption | rfl) (by first | omega | decide | assumption | rfl) (by first | omega | decide | assumption | rfl) (ZRL.s i3_3 (by omega) ef_24 zl_0 (by omega)) (by omega) ls _ _ (lv_sub hl [0, 1, 2, 3, 4, 5, 6] rfl) (hP.sub [0, 1, 2, 3, 4, 5, 6, 7, 8, 9] rfl) (hD.sub [0, 1, 2, 3, 4, 5, 6, 7, 8, 9] (by decide) rfl) hS
  exact hloop_3 _ 0 c1 (by first | omega | (simp only [zl_0]; first | done | omega) | decide | assumption | rfl) (by first | omega | (simp only [zl_0]; first | done | omega) | decide | assumption | rfl) (by first | omega | (simp only [zl_0]; first | done | omega) | decide | assumption | rfl) (ZRL.z (by have := zl_0; omega)) (Nat.lt_succ_self _) ls _ _ (lv_sub hl [0, 1, 2, 3, 4, 5, 6] rfl) hP hD hS

set_option maxHeartbeats 4000000 in
set_option maxRecDepth 100000 in
theorem c_X2_worstAtD (l : Launch) (D : va_G) (cI : ClassId) (aK aV : Nat → Nat) (k k0 k1 : Nat) (sz : Nat) (c1 : Nat → Int32) (a0 : Int32) : Met l yX2_worstAt (gW yX2_worstAt cX2_worstAt 2 (some .int)) ({ frames := 1, cells := 0, slots := 0, locals := 20 } : Room) (kPreX D cI aK aV [.ref k, .int a0] [(k, .inr (2, [.ref k0, .ref k1])), (k1, .inl (cI, 40, .inl c1))] sz) (va_Qi (fun (r : Int32) (u : Unit) => (0 ≤ a0.toInt ∧ a0.toInt ≤ 39 ∧ r = c1 a0.toNatClampNeg) ∨ (r = 0 ∧ (a0.toInt < 0 ∨ 39 < a0.toInt))) (fun u t => kWd D cI (va_A [(k, .inr (2, [.ref k0, .ref k1])), (k1, .inl (cI, 40, .inl c1))] sz) [(k, .inr (2, [.ref k0, .ref k1])), (k1, .inl (cI, 40, .inl c1))] t) (va_A [(k, .inr (2, [.ref k0, .ref k1])), (k1, .inl (cI, 40, .inl c1))] sz)) 0 0 (va_A [(k, .inr (2, [.ref k0, .ref k1])), (k1, .inl (cI, 40, .inl c1))] sz) := by
  refine kMetIX (own := RX2) (by decide) rfl (Nat.le_of_ble_eq_true rfl) ?_
  intro p e s m args below meth c hx hb hT hown hname hml A Q hK hP hD hS hA hN hXS hRet ls hl
  have hl : lv_has ls 2 [(0, .ref k), (1, .int a0)] := hl
  have lo_a0 := k_lo a0
  have hi_a0 := k_hi a0
  refine lv_iload_n hx hb dX2_worstAt_0 rfl (lv_at hl 1 rfl) ?_
  refine kJi (wr := [(k, .inr (2, [.ref k0, .ref k1])), (k1, .inl (cI, 40, .inl c1))]) (va_runSN (As := [.int a0]) (rest := []) ⟨hx, hb, hml, hown, hT⟩ (c_X10_isMileG l D cI aK aV s.heap.size a0) ⟨va_cnB 1 hT (gW_in mw_346) rfl rfl rfl (hN _ mw_938) (hT _ mw_1) (by decide +kernel) ⟨Nat.le_of_ble_eq_true rfl, Nat.le_of_ble_eq_true rfl⟩, hT _ mw_345, trivial⟩ (kStatX hK hP hD hN hXS hS hA [] rfl (by decide)) rfl rfl hl.1 rfl (lv_room (Nat.le_of_ble_eq_true rfl)) dX2_worstAt_1 ⟨Nat.le_of_ble_eq_true rfl, Nat.le_of_ble_eq_true rfl⟩) hP hD hS hA [] [0, 1] rfl rfl (by decide) (by decide) ?_
  clear hP hD hS
  intro r_1 u_3 H locs w_2 hP hD hS
  replace hP : va_P D vwCl [(k, .inr (2, [.ref k0, .ref k1])), (k1, .inl (cI, 40, .inl c1))] H := hP
  replace hD : va_D A [(k, .inr (2, [.ref k0, .ref k1])), (k1, .inl (cI, 40, .inl c1))] := hD
  rcases w_2 with ⟨hr_1, h_4, h_5⟩ | ⟨hr_1, h_6⟩
  · have h_4 : 0 ≤ a0.toInt := h_4
    have h_5 : a0.toInt ≤ 39 := h_5
    obtain rfl : r_1 = 1 := hr_1.trans (by decide)
    refine b_if_eq hx hb zl_1 (tgt := 16) dX2_worstAt_4 (by decide) (fun c_7 => by exfalso; omega) (fun c_7 => ?_)
    refine lv_aload_n hx hb dX2_worstAt_7 rfl (lv_at hl 0 rfl) ?_
    refine va_get (D := D) (ci := 2) (v := .ref k1) (C := RX2) (T := TX2) (N := 2) hx hb hT giX2 hown hK hP 0 rfl rfl 1 (by decide) (hT (Cond.fieldLink RX2 15 "DesertWire$Meetings" "worst" "[I") mw_246) (fun _ h9 => h9) rfl dX2_worstAt_8 ?_
    refine lv_iload_n hx hb dX2_worstAt_11 rfl (lv_at hl 1 rfl) ?_
    refine k_iald (v := (c1 a0.toNatClampNeg)) hx hb hK hP 1 0 rfl rfl (k_in (by omega) (by omega)) rfl dX2_worstAt_12 ?_
    refine lv_topi (fun v_8 ev_8 => ?_)
    have lo_v_8 := k_lo v_8
    have hi_v_8 := k_hi v_8
    have tv_8 : v_8.toInt = (c1 a0.toNatClampNeg).toInt := by rw [ev_8]
    refine lv_goto (tgt := 17) hx hb dX2_worstAt_13 (by decide) ?_
    exact hRet () [0, 1] (by first | exact Or.inl ⟨(by omega), (by omega), ev_8⟩ | exact Or.inr (⟨ev_8, (by omega)⟩)) hP hD (by decide) rfl hS rfl dX2_worstAt_17
  · have h_6 : a0.toInt < 0 ∨ 39 < a0.toInt := h_6
    obtain rfl : r_1 = 0 := hr_1.trans (by decide)
    refine b_if_eq hx hb zl_0 (tgt := 16) dX2_worstAt_4 (by decide) (fun c_9 => ?_) (fun c_9 => by exfalso; omega)
    refine lv_iconst (v := 0) hx hb dX2_worstAt_16 (by decide) ?_
    exact hRet () [0, 1] (by first | exact Or.inl ⟨(by omega), (by omega), e0⟩ | exact Or.inr (⟨rfl, (by omega)⟩)) hP hD (by decide) rfl hS rfl dX2_worstAt_17

set_option maxHeartbeats 4000000 in
set_option maxRecDepth 100000 in
theorem c_X2_bestD (l : Launch) (D : va_G) (cI : ClassId) (aK aV : Nat → Nat) (k k0 k1 : Nat) (sz : Nat) (c1 : Nat → Int32) (a0 : Int32) (a1 : Int32) (pre0 : 0 ≤ a0.toInt) (pre1 : a0.toInt < a1.toInt) (pre2 : a1.toInt ≤ 39) : Met l yX2_best (gW yX2_best cX2_best 5 (some .int)) ({ frames := 2, cells := 0, slots := 0, locals := 41 } : Room) (kPreX D cI aK aV [.ref k, .int a0, .int a1] [(k, .inr (2, [.ref k0, .ref k1])), (k1, .inl (cI, 40, .inl c1))] sz) (va_Qi (fun (r : Int32) (u : Unit) => BSC c1 a0 a1 r ∧ a0.toInt ≤ r.toInt ∧ r.toInt < a1.toInt) (fun u t => kWd D cI (va_A [(k, .inr (2, [.ref k0, .ref k1])), (k1, .inl (cI, 40, .inl c1))] sz) [(k, .inr (2, [.ref k0, .ref k1])), (k1, .inl (cI, 40, .inl c1))] t) (va_A [(k, .inr (2, [.ref k0, .ref k1])), (k1, .inl (cI, 40, .inl c1))] sz)) 0 0 (va_A [(k, .inr (2, [.ref k0, .ref k1])), (k1, .inl (cI, 40, .inl c1))] sz) := by
  refine kMetIX (own := RX2) (by decide) rfl (Nat.le_of_ble_eq_true rfl) ?_
  intro p e s m args below meth c hx hb hT hown hname hml A Q hK hP hD hS hA hN hXS hRet ls hl
  have hl : lv_has ls 5 [(0, .ref k), (1, .int a0), (2, .int a1)] := hl
  have lo_a0 := k_lo a0
  have hi_a0 := k_hi a0
  have lo_a1 := k_lo a1
  have hi_a1 := k_hi a1
  refine lv_iload_n hx hb dX2_best_0 rfl (lv_at hl 1 rfl) ?_
  refine lv_istore_n (lv' := [(3, .int a0), (0, .ref k), (1, .int a0), (2, .int a1)]) hx hb dX2_best_1 rfl hl (by decide) rfl ?_
  clear hl
  intro ls hl
  refine lv_iload_n hx hb dX2_best_2 rfl (lv_at hl 2 rfl) ?_
  refine lv_iconst (v := 1) hx hb dX2_best_3 (by decide) ?_
  refine lv_iadd hx hb dX2_best_4 ?_
  refine lv_topi (fun v_1 ev_1 => ?_)
  have tv_1 : v_1.toInt = a0.toInt + 1 := by rw [ev_1]; exact k_addv rfl zl_1 (by omega) (by omega)
  refine lv_istore (lv' := [(4, .int v_1), (3, .int a0), (0, .ref k), (1, .int a0), (2, .int a1)]) hx hb dX2_best_5 hl (by decide) rfl ?_
  clear hl
  intro ls hl
  have hloop_7 : ∀ (fu_ : Nat) (l7_3 : Int32) (l7_4 : Int32), a0.toInt ≤ l7_3.toInt → v_1.toInt ≤ l7_4.toInt → a0.toInt ≤ l7_3.toInt → l7_3.toInt < l7_4.toInt → l7_4.toInt ≤ a1.toInt → BSI c1 a0 l7_4 l7_3 → (a1.toInt - l7_4.toInt).toNat < fu_ → ∀ (ls : Array Slot) (H : Heap) (locs : List Loc), lv_has ls 5 [(4, .int l7_4), (3, .int l7_3), (0, .ref k), (1, .int a0), (2, .int a1)] → va_P D vwCl [(k, .inr (2, [.ref k0, .ref k1])), (k1, .inl (cI, 40, .inl c1))] H → va_D A [(k, .inr (2, [.ref k0, .ref k1])), (k1, .inl (cI, 40, .inl c1))] → va_S A s.heap H locs → W p l e ({ frames := 2, cells := 0, slots := 0, locals := 41 } : Room) s m args below meth c H locs 0 0 Q (F0 m 7 ls []) := by
    intro fu_; induction fu_ with
    | zero => intro l7_3 l7_4 i7_0 i7_1 i7_2 i7_3 i7_4 i7_5 hm; exact absurd hm (by omega)
    | succ fu_ ih7 =>
        intro l7_3 l7_4 i7_0 i7_1 i7_2 i7_3 i7_4 i7_5 hm ls H locs hl hP hD hS
        have lo_l7_3 := k_lo l7_3
        have hi_l7_3 := k_hi l7_3
        have lo_l7_4 := k_lo l7_4
        have hi_l7_4 := k_hi l7_4
        have i7_5 : BSI c1 a0 l7_4 l7_3 := i7_5
        refine lv_iload hx hb dX2_best_7 (lv_at hl 0 rfl) ?_
        refine lv_iload_n hx hb dX2_best_9 rfl (lv_at hl 4 rfl) ?_
        refine b_icmp_ge hx hb rfl rfl (tgt := 36) dX2_best_10 (by decide) (fun c_2 => ?_) (fun c_2 => ?_)
        · refine lv_iload_n hx hb dX2_best_36 rfl (lv_at hl 1 rfl) ?_
          exact hRet () [0, 1] ⟨(BSI.e i7_5 (by omega)), (by first | omega | decide | assumption | rfl), (by first | omega | decide | assumption | rfl)⟩ hP hD (by decide) rfl hS rfl dX2_best_37
        · refine lv_aload_n hx hb dX2_best_13 rfl (lv_at hl 2 rfl) ?_
          refine lv_iload hx hb dX2_best_14 (lv_at hl 0 rfl) ?_
          refine kJi (wr := []) (va_runV (As := [.int l7_4]) (rest := []) ⟨hx, hb, hml, hown, hT⟩ (c_X2_worstAtD l D cI aK aV k k0 k1 H.size c1 l7_4) (cwV 1 hT (gV_in mw_954 mw_951 mw_952 mw_953 mw_9) rfl rfl rfl (by decide +kernel) ⟨Nat.le_of_ble_eq_true rfl, Nat.le_of_ble_eq_true rfl⟩) (kRecvX (q0 := 0) (ci := 2) hK hP hD hN hXS hS hA rfl rfl [0, 1] rfl (by decide)) rfl rfl hl.1 rfl (lv_room (Nat.le_of_ble_eq_true rfl)) dX2_best_16 ⟨Nat.le_of_ble_eq_true rfl, Nat.le_of_ble_eq_true rfl⟩) hP hD hS hA [0, 1] [] rfl rfl (by decide) (by decide) ?_
          clear hP hD hS
          intro r_3 u_5 H locs w_4 hP hD hS
          replace hP : va_P D vwCl [(k, .inr (2, [.ref k0, .ref k1])), (k1, .inl (cI, 40, .inl c1))] H := hP
          replace hD : va_D A [(k, .inr (2, [.ref k0, .ref k1])), (k1, .inl (cI, 40, .inl c1))] := hD
          rcases w_4 with ⟨h_6, h_7, h_8⟩ | ⟨hr_3, h_9⟩
          · have h_6 : 0 ≤ l7_4.toInt := h_6
            have h_7 : l7_4.toInt ≤ 39 := h_7
            have h_8 : r_3 = c1 l7_4.toNatClampNeg := h_8
            have t_10 : r_3.toInt = (c1 l7_4.toNatClampNeg).toInt := by rw [h_8]
            have lo_r_3 := k_lo r_3
            have hi_r_3 := k_hi r_3
            refine lv_aload_n hx hb dX2_best_19 rfl (lv_at hl 2 rfl) ?_
            refine lv_iload_n hx hb dX2_best_20 rfl (lv_at hl 1 rfl) ?_
            refine kJi (wr := []) (va_runV (As := [.int l7_3]) (rest := [.int r_3]) ⟨hx, hb, hml, hown, hT⟩ (c_X2_worstAtD l D cI aK aV k k0 k1 H.size c1 l7_3) (cwV 1 hT (gV_in mw_954 mw_951 mw_952 mw_953 mw_9) rfl rfl rfl (by decide +kernel) ⟨Nat.le_of_ble_eq_true rfl, Nat.le_of_ble_eq_true rfl⟩) (kRecvX (q0 := 0) (ci := 2) hK hP hD hN hXS hS hA rfl rfl [0, 1] rfl (by decide)) rfl rfl hl.1 rfl (lv_room (Nat.le_of_ble_eq_true rfl)) dX2_best_21 ⟨Nat.le_of_ble_eq_true rfl, Nat.le_of_ble_eq_true rfl⟩) hP hD hS hA [0, 1] [] rfl rfl (by decide) (by decide) ?_
            clear hP hD hS
            intro r_11 u_13 H locs w_12 hP hD hS
            replace hP : va_P D vwCl [(k, .inr (2, [.ref k0, .ref k1])), (k1, .inl (cI, 40, .inl c1))] H := hP
            replace hD : va_D A [(k, .inr (2, [.ref k0, .ref k1])), (k1, .inl (cI, 40, .inl c1))] := hD
            rcases w_12 with ⟨h_14, h_15, h_16⟩ | ⟨hr_11, h_17⟩
            · have h_14 : 0 ≤ l7_3.toInt := h_14
              have h_15 : l7_3.toInt ≤ 39 := h_15
              have h_16 : r_11 = c1 l7_3.toNatClampNeg := h_16
              have t_18 : r_11.toInt = (c1 l7_3.toNatClampNeg).toInt := by rw [h_16]
              have lo_r_11 := k_lo r_11
              have hi_r_11 := k_hi r_11
              refine b_icmp_ge hx hb rfl rfl (tgt := 30) dX2_best_24 (by decide) (fun c_19 => ?_) (fun c_19 => ?_)
              · obtain ⟨v_20, ev_20⟩ : ∃ y : Int32, y = l7_4 + 1 := ⟨_, rfl⟩
                have tv_20 : v_20.toInt = l7_4.toInt + 1 := by rw [ev_20]; exact k_addv rfl zl_1 (by omega) (by omega)
                refine lv_iinc (v := v_20) (lv' := [(4, .int v_20), (3, .int l7_3), (0, .ref k), (1, .int a0), (2, .int a1)]) hx hb dX2_best_30 hl (k := 0) rfl (by rw [ev_20]; rfl) (by decide) rfl ?_
                clear hl
                intro ls hl
                refine lv_goto (tgt := 7) hx hb dX2_best_33 (by decide) ?_
                exact ih7 l7_3 v_20 (by first | omega | decide | assumption | rfl) (by first | omega | decide | assumption | rfl) (by first | omega | decide | assumption | rfl) (by first | omega | decide | assumption | rfl) (by first | omega | decide | assumption | rfl) (BSI.n i7_5 (by omega) (by omega) h_8 h_16 (by omega)) (by omega) ls _ _ (lv_sub hl [0, 1, 2, 3, 4] rfl) (hP.sub [0, 1] rfl) (hD.sub [0, 1] (by decide) rfl) hS
              · refine lv_iload hx hb dX2_best_27 (lv_at hl 0 rfl) ?_
                refine lv_istore_n (lv' := [(3, .int l7_4), (4, .int l7_4), (0, .ref k), (1, .int a0), (2, .int a1)]) hx hb dX2_best_29 rfl hl (by decide) rfl ?_
                clear hl
                intro ls hl
                obtain ⟨v_21, ev_21⟩ : ∃ y : Int32, y = l7_4 + 1 := ⟨_, rfl⟩
                have tv_21 : v_21.toInt = l7_4.toInt + 1 := by rw [ev_21]; exact k_addv rfl zl_1 (by omega) (by omega)
                refine lv_iinc (v := v_21) (lv' := [(4, .int v_21), (3, .int l7_4), (0, .ref k), (1, .int a0), (2, .int a1)]) hx hb dX2_best_30 hl (k := 1) rfl (by rw [ev_21]; rfl) (by decide) rfl ?_
                clear hl
                intro ls hl
                refine lv_goto (tgt := 7) hx hb dX2_best_33 (by decide) ?_
                exact ih7 l7_4 v_21 (by first | omega | decide | assumption | rfl) (by first | omega | decide | assumption | rfl) (by first | omega | decide | assumption | rfl) (by first | omega | decide | assumption | rfl) (by first | omega | decide | assumption | rfl) (BSI.y i7_5 (by omega) (by omega) h_8 h_16 (by omega)) (by omega) ls _ _ (lv_sub hl [0, 1, 2, 3, 4] rfl) (hP.sub [0, 1] rfl) (hD.sub [0, 1] (by decide) rfl) hS
            · exfalso; omega
          · exfalso; omega
  exact hloop_7 _ a0 v_1 (by first | omega | decide | assumption | rfl) (by first | omega | decide | assumption | rfl) (by first | omega | decide | assumption | rfl) (by first | omega | decide | assumption | rfl) (by first | omega | decide | assumption | rfl) (BSI.z rfl (by omega)) (Nat.lt_succ_self _) ls _ _ (lv_sub hl [0, 1, 2, 3, 4] rfl) hP hD hS

set_option maxHeartbeats 4000000 in
set_option maxRecDepth 100000 in
theorem c_X10_arePartiesD (l : Launch) (D : va_G) (cI : ClassId) (aK aV : Nat → Nat) (k k0 k1 k2 k3 k4 k5 k6 k7 k8 k9 ka kb k00 k01 k02 k03 k04 k05 k050 : Nat) (sz : Nat) (cc : Int32) (c06 : Int32) (c07 : Int32) (c08 : Int32) (c051 : Int32) (c00 : Nat → Int32) (c01 : Nat → Int32) (c02 : Nat → Int32) (c03 : Nat → Int32) (c040 : Nat → Int32) (c041 : Nat → Int32) (c042 : Nat → Int32) (c043 : Nat → Int32) (c044 : Nat → Int32) (c045 : Nat → Int32) (c046 : Nat → Int32) (c047 : Nat → Int32) (c048 : Nat → Int32) (c049 : Int32) (c050 : Nat → Int32) (gx : Nat → Int32) (a0 : Int32) (a1 : Int32) (pre0 : WR c00 c01 c02 c03 c040 c041 c042 c043 c044 c045 c046 c047 c048 c049 c050 c051 c06 c07 c08 gx) : Met l yX10_areParties (gW yX10_areParties cX10_areParties 3 (some .boolean)) ({ frames := 1, cells := 0, slots := 0, locals := 21 } : Room) (kPreX D cI aK aV [.ref k, .int a0, .int a1] [(k, .inr (10, [.ref k0, .ref k1, .ref k2, .ref k3, .ref k4, .ref k5, .ref k6, .ref k7, .ref k8, .ref k9, .ref ka, .ref kb, .int cc])), (k0, .inr (9, [.ref k00, .ref k01, .ref k02, .ref k03, .ref k04, .ref k05, .int c06, .int c07, .int c08])), (k05, .inr (3, [.ref k050, .int c051]))] sz) (va_Qi (fun (r : Int32) (u : Unit) => (r = 1 ∧ 0 ≤ a0.toInt ∧ a0.toInt < (gx 2).toInt ∧ 0 ≤ a1.toInt ∧ a1.toInt < (gx 2).toInt) ∨ (r = 0 ∧ (a0.toInt < 0 ∨ (gx 2).toInt ≤ a0.toInt ∨ a1.toInt < 0 ∨ (gx 2).toInt ≤ a1.toInt))) (fun u t => kWd D cI (va_A [(k, .inr (10, [.ref k0, .ref k1, .ref k2, .ref k3, .ref k4, .ref k5, .ref k6, .ref k7, .ref k8, .ref k9, .ref ka, .ref kb, .int cc])), (k0, .inr (9, [.ref k00, .ref k01, .ref k02, .ref k03, .ref k04, .ref k05, .int c06, .int c07, .int c08])), (k05, .inr (3, [.ref k050, .int c051]))] sz) [(k, .inr (10, [.ref k0, .ref k1, .ref k2, .ref k3, .ref k4, .ref k5, .ref k6, .ref k7, .ref k8, .ref k9, .ref ka, .ref kb, .int cc])), (k0, .inr (9, [.ref k00, .ref k01, .ref k02, .ref k03, .ref k04, .ref k05, .int c06, .int c07, .int c08])), (k05, .inr (3, [.ref k050, .int c051]))] t) (va_A [(k, .inr (10, [.ref k0, .ref k1, .ref k2, .ref k3, .ref k4, .ref k5, .ref k6, .ref k7, .ref k8, .ref k9, .ref ka, .ref kb, .int cc])), (k0, .inr (9, [.ref k00, .ref k01, .ref k02, .ref k03, .ref k04, .ref k05, .int c06, .int c07, .int c08])), (k05, .inr (3, [.ref k050, .int c051]))] sz)) 0 0 (va_A [(k, .inr (10, [.ref k0, .ref k1, .ref k2, .ref k3, .ref k4, .ref k5, .ref k6, .ref k7, .ref k8, .ref k9, .ref ka, .ref kb, .int cc])), (k0, .inr (9, [.ref k00, .ref k01, .ref k02, .ref k03, .ref k04, .ref k05, .int c06, .int c07, .int c08])), (k05, .inr (3, [.ref k050, .int c051]))] sz) := by
  refine kMetIX (own := RX10) (by decide) rfl (Nat.le_of_ble_eq_true rfl) ?_
  intro p e s m args below meth c hx hb hT hown hname hml A Q hK hP hD hS hA hN hXS hRet ls hl
  have hl : lv_has ls 3 [(0, .ref k), (1, .int a0), (2, .int a1)] := hl
  have lo_a0 := k_lo a0
  have hi_a0 := k_hi a0
  have lo_a1 := k_lo a1
  have hi_a1 := k_hi a1
  have lo_c06 := k_lo c06
  have hi_c06 := k_hi c06
  have lo_c07 := k_lo c07
  have hi_c07 := k_hi c07
  have lo_c08 := k_lo c08
  have hi_c08 := k_hi c08
  have lo_c051 := k_lo c051
  have hi_c051 := k_hi c051
  have lo_c049 := k_lo c049
  have hi_c049 := k_hi c049
  have pre0 : WR c00 c01 c02 c03 c040 c041 c042 c043 c044 c045 c046 c047 c048 c049 c050 c051 c06 c07 c08 gx := pre0
  have b_1 : 0 ≤ c049.toInt ∧ c049.toInt ≤ 60 := WKR.n0 (WR.kw pre0)
  have t_2 : c049.toInt = (gx 1).toInt := WKR.nt (WR.kw pre0)
  have b_3 : 0 ≤ c051.toInt ∧ c051.toInt ≤ 4 := ((WR.kp pre0)).2.1
  have t_4 : c051.toInt = (gx 2).toInt := PTR.nt (WR.kp pre0)
  have t_5 : c08.toInt = (gx 0).toInt := by rw [WR.dd pre0]
  refine lv_aload_n hx hb dX10_areParties_0 rfl (lv_at hl 0 rfl) ?_
  refine va_get (D := D) (ci := 10) (v := .ref k0) (C := RX10) (T := TX10) (N := 13) hx hb hT giX10 hown hK hP 0 rfl rfl 0 (by decide) (hT (Cond.fieldLink RX10 12 "DesertWire" "now" "LDesertWire$World;") mw_291) (fun _ h9 => h9) rfl dX10_areParties_1 ?_
  refine va_get (D := D) (ci := 9) (v := .ref k05) (C := RX9) (T := TX9) (N := 9) hx hb hT giX9 hown hK hP 1 rfl rfl 5 (by decide) (hT (Cond.fieldLink RX10 193 "DesertWire$World" "parties" "LDesertWire$Parties;") mw_102) (fun _ h9 => h9) rfl dX10_areParties_4 ?_
  refine lv_iload_n hx hb dX10_areParties_7 rfl (lv_at hl 1 rfl) ?_
  refine kJi (wr := [(k, .inr (10, [.ref k0, .ref k1, .ref k2, .ref k3, .ref k4, .ref k5, .ref k6, .ref k7, .ref k8, .ref k9, .ref ka, .ref kb, .int cc])), (k0, .inr (9, [.ref k00, .ref k01, .ref k02, .ref k03, .ref k04, .ref k05, .int c06, .int c07, .int c08]))]) (va_runV (As := [.int a0]) (rest := []) ⟨hx, hb, hml, hown, hT⟩ (c_X3_hasG l D cI aK aV k05 k050 s.heap.size c051 a0) (cwV 1 hT (gV_in mw_717 mw_722 mw_715 mw_716 mw_4) rfl rfl rfl (by decide +kernel) ⟨Nat.le_of_ble_eq_true rfl, Nat.le_of_ble_eq_true rfl⟩) (kRecvX (q0 := 2) (ci := 3) hK hP hD hN hXS hS hA rfl rfl [2] rfl (by decide)) rfl rfl hl.1 rfl (lv_room (Nat.le_of_ble_eq_true rfl)) dX10_areParties_8 ⟨Nat.le_of_ble_eq_true rfl, Nat.le_of_ble_eq_true rfl⟩) hP hD hS hA [2] [0, 1] rfl rfl (by decide) (by decide) ?_
  clear hP hD hS
  intro r_6 u_8 H locs w_7 hP hD hS
  replace hP : va_P D vwCl [(k, .inr (10, [.ref k0, .ref k1, .ref k2, .ref k3, .ref k4, .ref k5, .ref k6, .ref k7, .ref k8, .ref k9, .ref ka, .ref kb, .int cc])), (k0, .inr (9, [.ref k00, .ref k01, .ref k02, .ref k03, .ref k04, .ref k05, .int c06, .int c07, .int c08])), (k05, .inr (3, [.ref k050, .int c051]))] H := hP
  replace hD : va_D A [(k, .inr (10, [.ref k0, .ref k1, .ref k2, .ref k3, .ref k4, .ref k5, .ref k6, .ref k7, .ref k8, .ref k9, .ref ka, .ref kb, .int cc])), (k0, .inr (9, [.ref k00, .ref k01, .ref k02, .ref k03, .ref k04, .ref k05, .int c06, .int c07, .int c08])), (k05, .inr (3, [.ref k050, .int c051]))] := hD
  rcases w_7 with ⟨hr_6, h_9, h_10, h_11⟩ | ⟨hr_6, h_12⟩
  · have h_9 : 0 ≤ a0.toInt := h_9
    have h_10 : a0.toInt < c051.toInt := h_10
    have h_11 : a0.toInt < 4 := h_11
    obtain rfl : r_6 = 1 := hr_6.trans (by decide)
    refine b_if_eq hx hb zl_1 (tgt := 32) dX10_areParties_11 (by decide) (fun c_13 => by exfalso; omega) (fun c_13 => ?_)
    refine lv_aload_n hx hb dX10_areParties_14 rfl (lv_at hl 0 rfl) ?_
    refine va_get (D := D) (ci := 10) (v := .ref k0) (C := RX10) (T := TX10) (N := 13) hx hb hT giX10 hown hK hP 0 rfl rfl 0 (by decide) (hT (Cond.fieldLink RX10 12 "DesertWire" "now" "LDesertWire$World;") mw_291) (fun _ h9 => h9) rfl dX10_areParties_15 ?_
    refine va_get (D := D) (ci := 9) (v := .ref k05) (C := RX9) (T := TX9) (N := 9) hx hb hT giX9 hown hK hP 1 rfl rfl 5 (by decide) (hT (Cond.fieldLink RX10 193 "DesertWire$World" "parties" "LDesertWire$Parties;") mw_102) (fun _ h9 => h9) rfl dX10_areParties_18 ?_
    refine lv_iload_n hx hb dX10_areParties_21 rfl (lv_at hl 2 rfl) ?_
    refine kJi (wr := [(k, .inr (10, [.ref k0, .ref k1, .ref k2, .ref k3, .ref k4, .ref k5, .ref k6, .ref k7, .ref k8, .ref k9, .ref ka, .ref kb, .int cc])), (k0, .inr (9, [.ref k00, .ref k01, .ref k02, .ref k03, .ref k04, .ref k05, .int c06, .int c07, .int c08]))]) (va_runV (As := [.int a1]) (rest := []) ⟨hx, hb, hml, hown, hT⟩ (c_X3_hasG l D cI aK aV k05 k050 H.size c051 a1) (cwV 1 hT (gV_in mw_717 mw_722 mw_715 mw_716 mw_4) rfl rfl rfl (by decide +kernel) ⟨Nat.le_of_ble_eq_true rfl, Nat.le_of_ble_eq_true rfl⟩) (kRecvX (q0 := 2) (ci := 3) hK hP hD hN hXS hS hA rfl rfl [2] rfl (by decide)) rfl rfl hl.1 rfl (lv_room (Nat.le_of_ble_eq_true rfl)) dX10_areParties_22 ⟨Nat.le_of_ble_eq_true rfl, Nat.le_of_ble_eq_true rfl⟩) hP hD hS hA [2] [0, 1] rfl rfl (by decide) (by decide) ?_
    clear hP hD hS
    intro r_14 u_16 H locs w_15 hP hD hS
    replace hP : va_P D vwCl [(k, .inr (10, [.ref k0, .ref k1, .ref k2, .ref k3, .ref k4, .ref k5, .ref k6, .ref k7, .ref k8, .ref k9, .ref ka, .ref kb, .int cc])), (k0, .inr (9, [.ref k00, .ref k01, .ref k02, .ref k03, .ref k04, .ref k05, .int c06, .int c07, .int c08])), (k05, .inr (3, [.ref k050, .int c051]))] H := hP
    replace hD : va_D A [(k, .inr (10, [.ref k0, .ref k1, .ref k2, .ref k3, .ref k4, .ref k5, .ref k6, .ref k7, .ref k8, .ref k9, .ref ka, .ref kb, .int cc])), (k0, .inr (9, [.ref k00, .ref k01, .ref k02, .ref k03, .ref k04, .ref k05, .int c06, .int c07, .int c08])), (k05, .inr (3, [.ref k050, .int c051]))] := hD
    rcases w_15 with ⟨hr_14, h_17, h_18, h_19⟩ | ⟨hr_14, h_20⟩
    · have h_17 : 0 ≤ a1.toInt := h_17
      have h_18 : a1.toInt < c051.toInt := h_18
      have h_19 : a1.toInt < 4 := h_19
      obtain rfl : r_14 = 1 := hr_14.trans (by decide)
      refine b_if_eq hx hb zl_1 (tgt := 32) dX10_areParties_25 (by decide) (fun c_21 => by exfalso; omega) (fun c_21 => ?_)
      refine lv_iconst (v := 1) hx hb dX10_areParties_28 (by decide) ?_
      refine lv_goto (tgt := 33) hx hb dX10_areParties_29 (by decide) ?_
      exact hRet () [0, 1, 2] (Or.inl ⟨rfl, (by omega), (by omega), (by omega), (by omega)⟩) hP hD (by decide) rfl hS rfl dX10_areParties_33
    · have h_20 : a1.toInt < 0 ∨ c051.toInt ≤ a1.toInt ∨ 4 ≤ a1.toInt := h_20
      obtain rfl : r_14 = 0 := hr_14.trans (by decide)
      refine b_if_eq hx hb zl_0 (tgt := 32) dX10_areParties_25 (by decide) (fun c_22 => ?_) (fun c_22 => by exfalso; omega)
      refine lv_iconst (v := 0) hx hb dX10_areParties_32 (by decide) ?_
      exact hRet () [0, 1, 2] (Or.inr (⟨rfl, (by omega)⟩)) hP hD (by decide) rfl hS rfl dX10_areParties_33
  · have h_12 : a0.toInt < 0 ∨ c051.toInt ≤ a0.toInt ∨ 4 ≤ a0.toInt := h_12
    obtain rfl : r_6 = 0 := hr_6.trans (by decide)
    refine b_if_eq hx hb zl_0 (tgt := 32) dX10_areParties_11 (by decide) (fun c_23 => ?_) (fun c_23 => by exfalso; omega)
    refine lv_iconst (v := 0) hx hb dX10_areParties_32 (by decide) ?_
    exact hRet () [0, 1, 2] (Or.inr (⟨rfl, (by omega)⟩)) hP hD (by decide) rfl hS rfl dX10_areParties_33

set_option maxHeartbeats 4000000 in
set_option maxRecDepth 100000 in
theorem c_X10_whyNoMeetingD (l : Launch) (D : va_G) (cI : ClassId) (aK aV : Nat → Nat) (k k0 k1 k2 k3 k4 k5 k6 k7 k8 k9 ka kb k00 k01 k02 k03 k04 k05 ka0 ka1 ka2 k050 : Nat) (sz : Nat) (cc : Int32) (c06 : Int32) (c07 : Int32) (c08 : Int32) (c051 : Int32) (ca0 : Nat → Int32) (ca1 : Nat → Int32) (ca2 : Nat → Int32) (c050 : Nat → Int32) (c00 : Nat → Int32) (c01 : Nat → Int32) (c02 : Nat → Int32) (c03 : Nat → Int32) (c040 : Nat → Int32) (c041 : Nat → Int32) (c042 : Nat → Int32) (c043 : Nat → Int32) (c044 : Nat → Int32) (c045 : Nat → Int32) (c046 : Nat → Int32) (c047 : Nat → Int32) (c048 : Nat → Int32) (c049 : Int32) (gx : Nat → Int32) (a0 : Int32) (a1 : Int32) (a2 : Int32) (pre0 : WR c00 c01 c02 c03 c040 c041 c042 c043 c044 c045 c046 c047 c048 c049 c050 c051 c06 c07 c08 gx) (pre1 : SIX gx (-1)) (pre2 : ∀ k : Nat, k < 4 → 0 ≤ (ca1 k).toInt ∧ (ca1 k).toInt ≤ 36) (pre3 : 0 ≤ a2.toInt) (pre4 : a2.toInt ≤ 3) (pre5 : 0 ≤ a0.toInt) (pre6 : a0.toInt < c051.toInt) (pre7 : 0 ≤ a1.toInt) (pre8 : a1.toInt < c051.toInt) : Met l yX10_whyNoMeeting (gW yX10_whyNoMeeting cX10_whyNoMeeting 8 (some .int)) ({ frames := 5, cells := 0, slots := 0, locals := 109 } : Room) (kPreX D cI aK aV [.ref k, .int a0, .int a1, .int a2] [(k, .inr (10, [.ref k0, .ref k1, .ref k2, .ref k3, .ref k4, .ref k5, .ref k6, .ref k7, .ref k8, .ref k9, .ref ka, .ref kb, .int cc])), (k0, .inr (9, [.ref k00, .ref k01, .ref k02, .ref k03, .ref k04, .ref k05, .int c06, .int c07, .int c08])), (ka, .inr (6, [.ref ka0, .ref ka1, .ref ka2])), (k05, .inr (3, [.ref k050, .int c051])), (ka0, .inl (cI, 4, .inl ca0)), (ka1, .inl (cI, 4, .inl ca1)), (ka2, .inl (cI, 144, .inl ca2)), (k050, .inl (cI, 36, .inl c050))] sz) (va_Qi (fun (r : Int32) (u : Unit) => (r = 2 ∧ (ca0 a2.toNatClampNeg).toInt = 0) ∨ (r = 5 ∧ (ca0 a2.toNatClampNeg).toInt ≠ 0 ∧ ¬ MTK ca1 ca2 a2) ∨ (r = 3 ∧ (ca0 a2.toNatClampNeg).toInt ≠ 0 ∧ MTK ca1 ca2 a2 ∧ ((pW gx a0 8).toInt = 2 ∨ (pW gx a1 8).toInt = 2 ∨ (pW gx a0 1).toInt ≠ 1 ∨ (pW gx a1 1).toInt ≠ (-1) ∨ (pW gx a1 0).toInt ≤ (pW gx a0 0).toInt)) ∨ (r = 0 ∧ (ca0 a2.toNatClampNeg).toInt ≠ 0 ∧ MTK ca1 ca2 a2 ∧ (pW gx a0 8).toInt ≠ 2 ∧ (pW gx a1 8).toInt ≠ 2 ∧ (pW gx a0 1).toInt = 1 ∧ (pW gx a1 1).toInt = (-1) ∧ (pW gx a0 0).toInt < (pW gx a1 0).toInt ∧ 1 ≤ (pW gx a0 2).toInt ∧ 1 ≤ (pW gx a1 2).toInt ∧ (pW gx a0 2).toInt ≤ 50 ∧ (pW gx a1 2).toInt ≤ 50 ∧ 0 ≤ (pW gx a0 0).toInt ∧ (pW gx a1 0).toInt ≤ 39)) (fun u t => kWd D cI (va_A [(k, .inr (10, [.ref k0, .ref k1, .ref k2, .ref k3, .ref k4, .ref k5, .ref k6, .ref k7, .ref k8, .ref k9, .ref ka, .ref kb, .int cc])), (k0, .inr (9, [.ref k00, .ref k01, .ref k02, .ref k03, .ref k04, .ref k05, .int c06, .int c07, .int c08])), (ka, .inr (6, [.ref ka0, .ref ka1, .ref ka2])), (k05, .inr (3, [.ref k050, .int c051])), (ka0, .inl (cI, 4, .inl ca0)), (ka1, .inl (cI, 4, .inl ca1)), (ka2, .inl (cI, 144, .inl ca2)), (k050, .inl (cI, 36, .inl c050))] sz) [(k, .inr (10, [.ref k0, .ref k1, .ref k2, .ref k3, .ref k4, .ref k5, .ref k6, .ref k7, .ref k8, .ref k9, .ref ka, .ref kb, .int cc])), (k0, .inr (9, [.ref k00, .ref k01, .ref k02, .ref k03, .ref k04, .ref k05, .int c06, .int c07, .int c08])), (ka, .inr (6, [.ref ka0, .ref ka1, .ref ka2])), (k05, .inr (3, [.ref k050, .int c051])), (ka0, .inl (cI, 4, .inl ca0)), (ka1, .inl (cI, 4, .inl ca1)), (ka2, .inl (cI, 144, .inl ca2)), (k050, .inl (cI, 36, .inl c050))] t) (va_A [(k, .inr (10, [.ref k0, .ref k1, .ref k2, .ref k3, .ref k4, .ref k5, .ref k6, .ref k7, .ref k8, .ref k9, .ref ka, .ref kb, .int cc])), (k0, .inr (9, [.ref k00, .ref k01, .ref k02, .ref k03, .ref k04, .ref k05, .int c06, .int c07, .int c08])), (ka, .inr (6, [.ref ka0, .ref ka1, .ref ka2])), (k05, .inr (3, [.ref k050, .int c051])), (ka0, .inl (cI, 4, .inl ca0)), (ka1, .inl (cI, 4, .inl ca1)), (ka2, .inl (cI, 144, .inl ca2)), (k050, .inl (cI, 36, .inl c050))] sz)) 0 0 (va_A [(k, .inr (10, [.ref k0, .ref k1, .ref k2, .ref k3, .ref k4, .ref k5, .ref k6, .ref k7, .ref k8, .ref k9, .ref ka, .ref kb, .int cc])), (k0, .inr (9, [.ref k00, .ref k01, .ref k02, .ref k03, .ref k04, .ref k05, .int c06, .int c07, .int c08])), (ka, .inr (6, [.ref ka0, .ref ka1, .ref ka2])), (k05, .inr (3, [.ref k050, .int c051])), (ka0, .inl (cI, 4, .inl ca0)), (ka1, .inl (cI, 4, .inl ca1)), (ka2, .inl (cI, 144, .inl ca2)), (k050, .inl (cI, 36, .inl c050))] sz) := by
  refine kMetIX (own := RX10) (by decide) rfl (Nat.le_of_ble_eq_true rfl) ?_
  intro p e s m args below meth c hx hb hT hown hname hml A Q hK hP hD hS hA hN hXS hRet ls hl
  have hl : lv_has ls 8 [(0, .ref k), (1, .int a0), (2, .int a1), (3, .int a2)] := hl
  have lo_a0 := k_lo a0
  have hi_a0 := k_hi a0
  have lo_a1 := k_lo a1
  have hi_a1 := k_hi a1
  have lo_a2 := k_lo a2
  have hi_a2 := k_hi a2
  have lo_c06 := k_lo c06
  have hi_c06 := k_hi c06
  have lo_c07 := k_lo c07
  have hi_c07 := k_hi c07
  have lo_c08 := k_lo c08
  have hi_c08 := k_hi c08
  have lo_c051 := k_lo c051
  have hi_c051 := k_hi c051
  have lo_c049 := k_lo c049
  have hi_c049 := k_hi c049
  have hln := pre2 a2.toNatClampNeg (by rw [k_clamp]; omega)
  have pre0 : WR c00 c01 c02 c03 c040 c041 c042 c043 c044 c045 c046 c047 c048 c049 c050 c051 c06 c07 c08 gx := pre0
  have b_1 : 0 ≤ c049.toInt ∧ c049.toInt ≤ 60 := WKR.n0 (WR.kw pre0)
  have t_2 : c049.toInt = (gx 1).toInt := WKR.nt (WR.kw pre0)
  have b_3 : 0 ≤ c051.toInt ∧ c051.toInt ≤ 4 := ((WR.kp pre0)).2.1
  have t_4 : c051.toInt = (gx 2).toInt := PTR.nt (WR.kp pre0)
  have t_5 : c08.toInt = (gx 0).toInt := by rw [WR.dd pre0]
  have pre1 : SIX gx (-1) := pre1
  refine lv_aload_n hx hb dX10_whyNoMeeting_0 rfl (lv_at hl 0 rfl) ?_
  refine va_get (D := D) (ci := 10) (v := .ref ka) (C := RX10) (T := TX10) (N := 13) hx hb hT giX10 hown hK hP 0 rfl rfl 10 (by decide) (hT (Cond.fieldLink RX10 70 "DesertWire" "sheets" "LDesertWire$Sheets;") mw_301) (fun _ h9 => h9) rfl dX10_whyNoMeeting_1 ?_
  refine lv_iload_n hx hb dX10_whyNoMeeting_4 rfl (lv_at hl 3 rfl) ?_
  refine kJi (wr := [(k, .inr (10, [.ref k0, .ref k1, .ref k2, .ref k3, .ref k4, .ref k5, .ref k6, .ref k7, .ref k8, .ref k9, .ref ka, .ref kb, .int cc])), (k0, .inr (9, [.ref k00, .ref k01, .ref k02, .ref k03, .ref k04, .ref k05, .int c06, .int c07, .int c08])), (k05, .inr (3, [.ref k050, .int c051])), (ka1, .inl (cI, 4, .inl ca1)), (ka2, .inl (cI, 144, .inl ca2)), (k050, .inl (cI, 36, .inl c050))]) (va_runV (As := [.int a2]) (rest := []) ⟨hx, hb, hml, hown, hT⟩ (c_X6_isMissingG l D cI aK aV ka ka0 ka1 ka2 s.heap.size ca0 a2) (cwV 1 hT (gV_in mw_666 mw_663 mw_664 mw_665 mw_11) rfl rfl rfl (by decide +kernel) ⟨Nat.le_of_ble_eq_true rfl, Nat.le_of_ble_eq_true rfl⟩) (kRecvX (q0 := 2) (ci := 6) hK hP hD hN hXS hS hA rfl rfl [2, 4] rfl (by decide)) rfl rfl hl.1 rfl (lv_room (Nat.le_of_ble_eq_true rfl)) dX10_whyNoMeeting_5 ⟨Nat.le_of_ble_eq_true rfl, Nat.le_of_ble_eq_true rfl⟩) hP hD hS hA [2, 4] [0, 1, 3, 5, 6, 7] rfl rfl (by decide) (by decide) ?_
  clear hP hD hS
  intro r_6 u_8 H locs w_7 hP hD hS
  replace hP : va_P D vwCl [(k, .inr (10, [.ref k0, .ref k1, .ref k2, .ref k3, .ref k4, .ref k5, .ref k6, .ref k7, .ref k8, .ref k9, .ref ka, .ref kb, .int cc])), (k0, .inr (9, [.ref k00, .ref k01, .ref k02, .ref k03, .ref k04, .ref k05, .int c06, .int c07, .int c08])), (k05, .inr (3, [.ref k050, .int c051])), (ka1, .inl (cI, 4, .inl ca1)), (ka2, .inl (cI, 144, .inl ca2)), (k050, .inl (cI, 36, .inl c050)), (ka, .inr (6, [.ref ka0, .ref ka1, .ref ka2])), (ka0, .inl (cI, 4, .inl ca0))] H := hP
  replace hD : va_D A [(k, .inr (10, [.ref k0, .ref k1, .ref k2, .ref k3, .ref k4, .ref k5, .ref k6, .ref k7, .ref k8, .ref k9, .ref ka, .ref kb, .int cc])), (k0, .inr (9, [.ref k00, .ref k01, .ref k02, .ref k03, .ref k04, .ref k05, .int c06, .int c07, .int c08])), (k05, .inr (3, [.ref k050, .int c051])), (ka1, .inl (cI, 4, .inl ca1)), (ka2, .inl (cI, 144, .inl ca2)), (k050, .inl (cI, 36, .inl c050)), (ka, .inr (6, [.ref ka0, .ref ka1, .ref ka2])), (ka0, .inl (cI, 4, .inl ca0))] := hD
  rcases w_7 with ⟨hr_6, h_9, h_10, h_11⟩ | ⟨hr_6, h_12, h_13, h_14⟩ | ⟨hr_6, h_15⟩
  · have h_9 : 0 ≤ a2.toInt := h_9
    have h_10 : a2.toInt ≤ 3 := h_10
    have h_11 : (ca0 a2.toNatClampNeg).toInt = 0 := h_11
    obtain rfl : r_6 = 1 := hr_6.trans (by decide)
    refine b_if_eq hx hb zl_1 (tgt := 13) dX10_whyNoMeeting_8 (by decide) (fun c_16 => by exfalso; omega) (fun c_16 => ?_)
    refine lv_iconst (v := 2) hx hb dX10_whyNoMeeting_11 (by decide) ?_
    exact hRet () [0, 1, 6, 2, 7, 3, 4, 5] (Or.inl ⟨rfl, (by omega)⟩) hP hD (by decide) rfl hS rfl dX10_whyNoMeeting_12
  · have h_12 : 0 ≤ a2.toInt := h_12
    have h_13 : a2.toInt ≤ 3 := h_13
    have h_14 : (ca0 a2.toNatClampNeg).toInt ≠ 0 := h_14
    obtain rfl : r_6 = 0 := hr_6.trans (by decide)
    refine b_if_eq hx hb zl_0 (tgt := 13) dX10_whyNoMeeting_8 (by decide) (fun c_17 => ?_) (fun c_17 => by exfalso; omega)
    refine lv_aload_n hx hb dX10_whyNoMeeting_13 rfl (lv_at hl 0 rfl) ?_
    refine va_get (D := D) (ci := 10) (v := .ref ka) (C := RX10) (T := TX10) (N := 13) hx hb hT giX10 hown hK hP 0 rfl rfl 10 (by decide) (hT (Cond.fieldLink RX10 70 "DesertWire" "sheets" "LDesertWire$Sheets;") mw_301) (fun _ h9 => h9) rfl dX10_whyNoMeeting_14 ?_
    refine lv_iload_n hx hb dX10_whyNoMeeting_17 rfl (lv_at hl 3 rfl) ?_
    refine kJi (wr := [(k, .inr (10, [.ref k0, .ref k1, .ref k2, .ref k3, .ref k4, .ref k5, .ref k6, .ref k7, .ref k8, .ref k9, .ref ka, .ref kb, .int cc])), (k0, .inr (9, [.ref k00, .ref k01, .ref k02, .ref k03, .ref k04, .ref k05, .int c06, .int c07, .int c08])), (k05, .inr (3, [.ref k050, .int c051])), (ka2, .inl (cI, 144, .inl ca2)), (k050, .inl (cI, 36, .inl c050)), (ka0, .inl (cI, 4, .inl ca0))]) (va_runV (As := [.int a2]) (rest := []) ⟨hx, hb, hml, hown, hT⟩ (c_X6_lengthOfG l D cI aK aV ka ka0 ka1 ka2 H.size ca1 a2 (by first | omega | decide | assumption | rfl)) (cwV 1 hT (gV_in mw_675 mw_672 mw_673 mw_674 mw_11) rfl rfl rfl (by decide +kernel) ⟨Nat.le_of_ble_eq_true rfl, Nat.le_of_ble_eq_true rfl⟩) (kRecvX (q0 := 6) (ci := 6) hK hP hD hN hXS hS hA rfl rfl [6, 3] rfl (by decide)) rfl rfl hl.1 rfl (lv_room (Nat.le_of_ble_eq_true rfl)) dX10_whyNoMeeting_18 ⟨Nat.le_of_ble_eq_true rfl, Nat.le_of_ble_eq_true rfl⟩) hP hD hS hA [6, 3] [0, 1, 2, 4, 5, 7] rfl rfl (by decide) (by decide) ?_
    clear hP hD hS
    intro r_18 u_20 H locs w_19 hP hD hS
    replace hP : va_P D vwCl [(k, .inr (10, [.ref k0, .ref k1, .ref k2, .ref k3, .ref k4, .ref k5, .ref k6, .ref k7, .ref k8, .ref k9, .ref ka, .ref kb, .int cc])), (k0, .inr (9, [.ref k00, .ref k01, .ref k02, .ref k03, .ref k04, .ref k05, .int c06, .int c07, .int c08])), (k05, .inr (3, [.ref k050, .int c051])), (ka2, .inl (cI, 144, .inl ca2)), (k050, .inl (cI, 36, .inl c050)), (ka0, .inl (cI, 4, .inl ca0)), (ka, .inr (6, [.ref ka0, .ref ka1, .ref ka2])), (ka1, .inl (cI, 4, .inl ca1))] H := hP
    replace hD : va_D A [(k, .inr (10, [.ref k0, .ref k1, .ref k2, .ref k3, .ref k4, .ref k5, .ref k6, .ref k7, .ref k8, .ref k9, .ref ka, .ref kb, .int cc])), (k0, .inr (9, [.ref k00, .ref k01, .ref k02, .ref k03, .ref k04, .ref k05, .int c06, .int c07, .int c08])), (k05, .inr (3, [.ref k050, .int c051])), (ka2, .inl (cI, 144, .inl ca2)), (k050, .inl (cI, 36, .inl c050)), (ka0, .inl (cI, 4, .inl ca0)), (ka, .inr (6, [.ref ka0, .ref ka1, .ref ka2])), (ka1, .inl (cI, 4, .inl ca1))] := hD
    rcases w_19 with ⟨h_21, h_22, h_23, h_24, h_25⟩ | ⟨hr_18, h_26⟩
    · have h_21 : 0 ≤ a2.toInt := h_21
      have h_22 : a2.toInt ≤ 3 := h_22
      have h_23 : 0 ≤ r_18.toInt := h_23
      have h_24 : r_18.toInt ≤ 36 := h_24
      have h_25 : r_18.toInt = (ca1 a2.toNatClampNeg).toInt := h_25
      have lo_r_18 := k_lo r_18
      have hi_r_18 := k_hi r_18
      refine lv_istore (lv' := [(4, .int r_18), (0, .ref k), (1, .int a0), (2, .int a1), (3, .int a2)]) hx hb dX10_whyNoMeeting_21 hl (by decide) rfl ?_
      clear hl
      intro ls hl
      refine lv_iload hx hb dX10_whyNoMeeting_23 (lv_at hl 0 rfl) ?_
      refine b_if_eq hx hb rfl (tgt := 50) dX10_whyNoMeeting_25 (by decide) (fun c_27 => ?_) (fun c_27 => ?_)
      · refine lv_iconst (v := 5) hx hb dX10_whyNoMeeting_50 (by decide) ?_
        exact hRet () [0, 1, 6, 2, 5, 7, 3, 4] (Or.inr (Or.inl ⟨rfl, (by omega), (fun z => by have z1 := z.1; have z2 := z.2.1; omega)⟩)) hP hD (by decide) rfl hS rfl dX10_whyNoMeeting_51
      · refine lv_iload hx hb dX10_whyNoMeeting_28 (lv_at hl 0 rfl) ?_
        refine lv_bipush (v := 12) hx hb dX10_whyNoMeeting_30 (by decide) ?_
        refine lv_irem hx hb dX10_whyNoMeeting_32 (by decide) ?_
        refine lv_topi (fun v_28 ev_28 => ?_)
        have tv_28 : v_28.toInt = r_18.toInt % 12 := k_remv (w := 0) ev_28 zl_12 (by omega) (by decide)
        have lo_v_28 := k_lo v_28
        have hi_v_28 := k_hi v_28
        refine b_if_ne hx hb rfl (tgt := 50) dX10_whyNoMeeting_33 (by decide) (fun c_29 => ?_) (fun c_29 => ?_)
        · refine lv_iconst (v := 5) hx hb dX10_whyNoMeeting_50 (by decide) ?_
          exact hRet () [0, 1, 6, 2, 5, 7, 3, 4] (Or.inr (Or.inl ⟨rfl, (by omega), (fun z => by have z1 := z.1; have z2 := z.2.1; omega)⟩)) hP hD (by decide) rfl hS rfl dX10_whyNoMeeting_51
        · refine lv_aload_n hx hb dX10_whyNoMeeting_36 rfl (lv_at hl 1 rfl) ?_
          refine va_get (D := D) (ci := 10) (v := .ref ka) (C := RX10) (T := TX10) (N := 13) hx hb hT giX10 hown hK hP 0 rfl rfl 10 (by decide) (hT (Cond.fieldLink RX10 70 "DesertWire" "sheets" "LDesertWire$Sheets;") mw_301) (fun _ h9 => h9) rfl dX10_whyNoMeeting_37 ?_
          refine lv_iload_n hx hb dX10_whyNoMeeting_40 rfl (lv_at hl 4 rfl) ?_
          refine lv_iconst (v := 0) hx hb dX10_whyNoMeeting_41 (by decide) ?_
          refine lv_bipush (v := 9) hx hb dX10_whyNoMeeting_42 (by decide) ?_
          refine kJi (wr := [(k, .inr (10, [.ref k0, .ref k1, .ref k2, .ref k3, .ref k4, .ref k5, .ref k6, .ref k7, .ref k8, .ref k9, .ref ka, .ref kb, .int cc])), (k0, .inr (9, [.ref k00, .ref k01, .ref k02, .ref k03, .ref k04, .ref k05, .int c06, .int c07, .int c08])), (k05, .inr (3, [.ref k050, .int c051])), (k050, .inl (cI, 36, .inl c050)), (ka0, .inl (cI, 4, .inl ca0))]) (va_runV (As := [.int a2, .int 0, .int 9]) (rest := []) ⟨hx, hb, hml, hown, hT⟩ (c_X6_allWithinG l D cI aK aV ka ka0 ka1 ka2 H.size ca1 ca2 a2 0 9 (by first | omega | (simp only [zl_0, zl_9]; first | done | omega) | decide | assumption | rfl) (by first | omega | (simp only [zl_0, zl_9]; first | done | omega) | decide | assumption | rfl) (by first | omega | (simp only [zl_0, zl_9]; first | done | omega) | decide | assumption | rfl)) (cwV 3 hT (gV_in mw_679 mw_676 mw_677 mw_678 mw_11) rfl rfl rfl (by decide +kernel) ⟨Nat.le_of_ble_eq_true rfl, Nat.le_of_ble_eq_true rfl⟩) (kRecvX (q0 := 6) (ci := 6) hK hP hD hN hXS hS hA rfl rfl [6, 7, 3] rfl (by decide)) rfl rfl hl.1 rfl (lv_room (Nat.le_of_ble_eq_true rfl)) dX10_whyNoMeeting_44 ⟨Nat.le_of_ble_eq_true rfl, Nat.le_of_ble_eq_true rfl⟩) hP hD hS hA [6, 7, 3] [0, 1, 2, 4, 5] rfl rfl (by decide) (by decide) ?_
          clear hP hD hS
          intro r_30 u_32 H locs w_31 hP hD hS
          replace hP : va_P D vwCl [(k, .inr (10, [.ref k0, .ref k1, .ref k2, .ref k3, .ref k4, .ref k5, .ref k6, .ref k7, .ref k8, .ref k9, .ref ka, .ref kb, .int cc])), (k0, .inr (9, [.ref k00, .ref k01, .ref k02, .ref k03, .ref k04, .ref k05, .int c06, .int c07, .int c08])), (k05, .inr (3, [.ref k050, .int c051])), (k050, .inl (cI, 36, .inl c050)), (ka0, .inl (cI, 4, .inl ca0)), (ka, .inr (6, [.ref ka0, .ref ka1, .ref ka2])), (ka1, .inl (cI, 4, .inl ca1)), (ka2, .inl (cI, 144, .inl ca2))] H := hP
          replace hD : va_D A [(k, .inr (10, [.ref k0, .ref k1, .ref k2, .ref k3, .ref k4, .ref k5, .ref k6, .ref k7, .ref k8, .ref k9, .ref ka, .ref kb, .int cc])), (k0, .inr (9, [.ref k00, .ref k01, .ref k02, .ref k03, .ref k04, .ref k05, .int c06, .int c07, .int c08])), (k05, .inr (3, [.ref k050, .int c051])), (k050, .inl (cI, 36, .inl c050)), (ka0, .inl (cI, 4, .inl ca0)), (ka, .inr (6, [.ref ka0, .ref ka1, .ref ka2])), (ka1, .inl (cI, 4, .inl ca1)), (ka2, .inl (cI, 144, .inl ca2))] := hD
          rcases w_31 with ⟨hr_30, h_33⟩ | ⟨hr_30, h_34⟩
          · try simp only [zl_0, zl_9] at h_33
            have h_33 : allB (shv ca2 a2) 0 9 (ca1 a2.toNatClampNeg).toInt.toNat = true := h_33
            have h_33 : allB (shv ca2 a2) 0 9 (ca1 a2.toNatClampNeg).toInt.toNat = true := h_33
            obtain rfl : r_30 = 1 := hr_30.trans (by decide)
            refine b_if_ne hx hb zl_1 (tgt := 52) dX10_whyNoMeeting_47 (by decide) (fun c_35 => ?_) (fun c_35 => by exfalso; omega)
            refine lv_aload_n hx hb dX10_whyNoMeeting_52 rfl (lv_at hl 1 rfl) ?_
            refine va_get (D := D) (ci := 10) (v := .ref k0) (C := RX10) (T := TX10) (N := 13) hx hb hT giX10 hown hK hP 0 rfl rfl 0 (by decide) (hT (Cond.fieldLink RX10 12 "DesertWire" "now" "LDesertWire$World;") mw_291) (fun _ h9 => h9) rfl dX10_whyNoMeeting_53 ?_
            refine va_get (D := D) (ci := 9) (v := .ref k05) (C := RX9) (T := TX9) (N := 9) hx hb hT giX9 hown hK hP 1 rfl rfl 5 (by decide) (hT (Cond.fieldLink RX10 193 "DesertWire$World" "parties" "LDesertWire$Parties;") mw_102) (fun _ h9 => h9) rfl dX10_whyNoMeeting_56 ?_
            refine lv_astore (lv' := [(5, .ref k05), (4, .int r_18), (0, .ref k), (1, .int a0), (2, .int a1), (3, .int a2)]) hx hb dX10_whyNoMeeting_59 hl (by decide) rfl ?_
            clear hl
            intro ls hl
            refine lv_aload hx hb dX10_whyNoMeeting_61 (lv_at hl 0 rfl) ?_
            refine lv_iload_n hx hb dX10_whyNoMeeting_63 rfl (lv_at hl 3 rfl) ?_
            refine kJi (wr := [(k, .inr (10, [.ref k0, .ref k1, .ref k2, .ref k3, .ref k4, .ref k5, .ref k6, .ref k7, .ref k8, .ref k9, .ref ka, .ref kb, .int cc])), (k0, .inr (9, [.ref k00, .ref k01, .ref k02, .ref k03, .ref k04, .ref k05, .int c06, .int c07, .int c08])), (ka0, .inl (cI, 4, .inl ca0)), (ka, .inr (6, [.ref ka0, .ref ka1, .ref ka2])), (ka1, .inl (cI, 4, .inl ca1)), (ka2, .inl (cI, 144, .inl ca2))]) (va_runV (As := [.int a0]) (rest := []) ⟨hx, hb, hml, hown, hT⟩ (c_X3_isLostD l D cI aK aV k05 k050 H.size c051 c050 gx a0 (WR.kp pre0) (by first | omega | decide | assumption | rfl) (by first | omega | decide | assumption | rfl)) (cwV 1 hT (gV_in mw_734 mw_731 mw_732 mw_733 mw_4) rfl rfl rfl (by decide +kernel) ⟨Nat.le_of_ble_eq_true rfl, Nat.le_of_ble_eq_true rfl⟩) (kRecvX (q0 := 2) (ci := 3) hK hP hD hN hXS hS hA rfl rfl [2, 3] rfl (by decide)) rfl rfl hl.1 rfl (lv_room (Nat.le_of_ble_eq_true rfl)) dX10_whyNoMeeting_64 ⟨Nat.le_of_ble_eq_true rfl, Nat.le_of_ble_eq_true rfl⟩) hP hD hS hA [2, 3] [0, 1, 4, 5, 6, 7] rfl rfl (by decide) (by decide) ?_
            clear hP hD hS
            intro r_36 u_38 H locs w_37 hP hD hS
            replace hP : va_P D vwCl [(k, .inr (10, [.ref k0, .ref k1, .ref k2, .ref k3, .ref k4, .ref k5, .ref k6, .ref k7, .ref k8, .ref k9, .ref ka, .ref kb, .int cc])), (k0, .inr (9, [.ref k00, .ref k01, .ref k02, .ref k03, .ref k04, .ref k05, .int c06, .int c07, .int c08])), (ka0, .inl (cI, 4, .inl ca0)), (ka, .inr (6, [.ref ka0, .ref ka1, .ref ka2])), (ka1, .inl (cI, 4, .inl ca1)), (ka2, .inl (cI, 144, .inl ca2)), (k05, .inr (3, [.ref k050, .int c051])), (k050, .inl (cI, 36, .inl c050))] H := hP
            replace hD : va_D A [(k, .inr (10, [.ref k0, .ref k1, .ref k2, .ref k3, .ref k4, .ref k5, .ref k6, .ref k7, .ref k8, .ref k9, .ref ka, .ref kb, .int cc])), (k0, .inr (9, [.ref k00, .ref k01, .ref k02, .ref k03, .ref k04, .ref k05, .int c06, .int c07, .int c08])), (ka0, .inl (cI, 4, .inl ca0)), (ka, .inr (6, [.ref ka0, .ref ka1, .ref ka2])), (ka1, .inl (cI, 4, .inl ca1)), (ka2, .inl (cI, 144, .inl ca2)), (k05, .inr (3, [.ref k050, .int c051])), (k050, .inl (cI, 36, .inl c050))] := hD
            rcases w_37 with ⟨hr_36, h_39⟩ | ⟨hr_36, h_40⟩
            · have h_39 : (pW gx a0 8).toInt = 2 := h_39
              obtain rfl : r_36 = 1 := hr_36.trans (by decide)
              refine b_if_ne hx hb zl_1 (tgt := 79) dX10_whyNoMeeting_67 (by decide) (fun c_41 => ?_) (fun c_41 => by exfalso; omega)
              refine lv_iconst (v := 1) hx hb dX10_whyNoMeeting_79 (by decide) ?_
              refine lv_goto (tgt := 84) hx hb dX10_whyNoMeeting_80 (by decide) ?_
              refine lv_istore (lv' := [(6, .int 1), (5, .ref k05), (4, .int r_18), (0, .ref k), (1, .int a0), (2, .int a1), (3, .int a2)]) hx hb dX10_whyNoMeeting_84 hl (by decide) rfl ?_
              clear hl
              intro ls hl
              refine lv_aload hx hb dX10_whyNoMeeting_86 (lv_at hl 1 rfl) ?_
              refine lv_iload_n hx hb dX10_whyNoMeeting_88 rfl (lv_at hl 4 rfl) ?_
              refine lv_iconst (v := 1) hx hb dX10_whyNoMeeting_89 (by decide) ?_
              refine kJi (wr := [(k, .inr (10, [.ref k0, .ref k1, .ref k2, .ref k3, .ref k4, .ref k5, .ref k6, .ref k7, .ref k8, .ref k9, .ref ka, .ref kb, .int cc])), (k0, .inr (9, [.ref k00, .ref k01, .ref k02, .ref k03, .ref k04, .ref k05, .int c06, .int c07, .int c08])), (ka0, .inl (cI, 4, .inl ca0)), (ka, .inr (6, [.ref ka0, .ref ka1, .ref ka2])), (ka1, .inl (cI, 4, .inl ca1)), (ka2, .inl (cI, 144, .inl ca2))]) (va_runV (As := [.int a0, .int 1]) (rest := []) ⟨hx, hb, hml, hown, hT⟩ (c_X3_getD1 l D cI aK aV k05 k050 H.size c051 c050 gx a0 1 (WR.kp pre0) (by first | omega | (simp only [zl_1]; first | done | omega) | decide | assumption | rfl) (by first | omega | (simp only [zl_1]; first | done | omega) | decide | assumption | rfl) (by first | omega | (simp only [zl_1]; first | done | omega) | decide | assumption | rfl)) (cwV 2 hT (gV_in mw_726 mw_723 mw_724 mw_725 mw_4) rfl rfl rfl (by decide +kernel) ⟨Nat.le_of_ble_eq_true rfl, Nat.le_of_ble_eq_true rfl⟩) (kRecvX (q0 := 6) (ci := 3) hK hP hD hN hXS hS hA rfl rfl [6, 7] rfl (by decide)) rfl rfl hl.1 rfl (lv_room (Nat.le_of_ble_eq_true rfl)) dX10_whyNoMeeting_90 ⟨Nat.le_of_ble_eq_true rfl, Nat.le_of_ble_eq_true rfl⟩) hP hD hS hA [6, 7] [0, 1, 2, 3, 4, 5] rfl rfl (by decide) (by decide) ?_
              clear hP hD hS
              intro r_42 u_44 H locs w_43 hP hD hS
              replace hP : va_P D vwCl [(k, .inr (10, [.ref k0, .ref k1, .ref k2, .ref k3, .ref k4, .ref k5, .ref k6, .ref k7, .ref k8, .ref k9, .ref ka, .ref kb, .int cc])), (k0, .inr (9, [.ref k00, .ref k01, .ref k02, .ref k03, .ref k04, .ref k05, .int c06, .int c07, .int c08])), (ka0, .inl (cI, 4, .inl ca0)), (ka, .inr (6, [.ref ka0, .ref ka1, .ref ka2])), (ka1, .inl (cI, 4, .inl ca1)), (ka2, .inl (cI, 144, .inl ca2)), (k05, .inr (3, [.ref k050, .int c051])), (k050, .inl (cI, 36, .inl c050))] H := hP
              replace hD : va_D A [(k, .inr (10, [.ref k0, .ref k1, .ref k2, .ref k3, .ref k4, .ref k5, .ref k6, .ref k7, .ref k8, .ref k9, .ref ka, .ref kb, .int cc])), (k0, .inr (9, [.ref k00, .ref k01, .ref k02, .ref k03, .ref k04, .ref k05, .int c06, .int c07, .int c08])), (ka0, .inl (cI, 4, .inl ca0)), (ka, .inr (6, [.ref ka0, .ref ka1, .ref ka2])), (ka1, .inl (cI, 4, .inl ca1)), (ka2, .inl (cI, 144, .inl ca2)), (k05, .inr (3, [.ref k050, .int c051])), (k050, .inl (cI, 36, .inl c050))] := hD
              have h_45 := w_43
              have h_45 : r_42 = pW gx a0 1 := h_45
              have t_46 : r_42.toInt = (pW gx a0 1).toInt := by rw [h_45]
              have lo_r_42 := k_lo r_42
              have hi_r_42 := k_hi r_42
              refine lv_iconst (v := 1) hx hb dX10_whyNoMeeting_93 (by decide) ?_
              refine b_icmp_ne hx hb rfl zl_1 (tgt := 112) dX10_whyNoMeeting_94 (by decide) (fun c_47 => ?_) (fun c_47 => ?_)
              · refine lv_iconst (v := 0) hx hb dX10_whyNoMeeting_112 (by decide) ?_
                refine lv_istore (lv' := [(7, .int 0), (6, .int 1), (5, .ref k05), (4, .int r_18), (0, .ref k), (1, .int a0), (2, .int a1), (3, .int a2)]) hx hb dX10_whyNoMeeting_113 hl (by decide) rfl ?_
                clear hl
                intro ls hl
                refine lv_iload hx hb dX10_whyNoMeeting_115 (lv_at hl 1 rfl) ?_
                refine b_if_ne hx hb zl_1 (tgt := 142) dX10_whyNoMeeting_117 (by decide) (fun c_48 => ?_) (fun c_48 => by exfalso; omega)
                refine lv_iconst (v := 3) hx hb dX10_whyNoMeeting_142 (by decide) ?_
                exact hRet () [0, 1, 3, 6, 2, 4, 5, 7] (Or.inr (Or.inr (Or.inl ⟨rfl, (by omega), ⟨by omega, by omega, h_33⟩, (by omega)⟩))) hP hD (by decide) rfl hS rfl dX10_whyNoMeeting_143
              · refine lv_aload hx hb dX10_whyNoMeeting_97 (lv_at hl 1 rfl) ?_
                refine lv_iload_n hx hb dX10_whyNoMeeting_99 rfl (lv_at hl 5 rfl) ?_
                refine lv_iconst (v := 1) hx hb dX10_whyNoMeeting_100 (by decide) ?_
                refine kJi (wr := [(k, .inr (10, [.ref k0, .ref k1, .ref k2, .ref k3, .ref k4, .ref k5, .ref k6, .ref k7, .ref k8, .ref k9, .ref ka, .ref kb, .int cc])), (k0, .inr (9, [.ref k00, .ref k01, .ref k02, .ref k03, .ref k04, .ref k05, .int c06, .int c07, .int c08])), (ka0, .inl (cI, 4, .inl ca0)), (ka, .inr (6, [.ref ka0, .ref ka1, .ref ka2])), (ka1, .inl (cI, 4, .inl ca1)), (ka2, .inl (cI, 144, .inl ca2))]) (va_runV (As := [.int a1, .int 1]) (rest := []) ⟨hx, hb, hml, hown, hT⟩ (c_X3_getD1 l D cI aK aV k05 k050 H.size c051 c050 gx a1 1 (WR.kp pre0) (by first | omega | (simp only [zl_1]; first | done | omega) | decide | assumption | rfl) (by first | omega | (simp only [zl_1]; first | done | omega) | decide | assumption | rfl) (by first | omega | (simp only [zl_1]; first | done | omega) | decide | assumption | rfl)) (cwV 2 hT (gV_in mw_726 mw_723 mw_724 mw_725 mw_4) rfl rfl rfl (by decide +kernel) ⟨Nat.le_of_ble_eq_true rfl, Nat.le_of_ble_eq_true rfl⟩) (kRecvX (q0 := 6) (ci := 3) hK hP hD hN hXS hS hA rfl rfl [6, 7] rfl (by decide)) rfl rfl hl.1 rfl (lv_room (Nat.le_of_ble_eq_true rfl)) dX10_whyNoMeeting_101 ⟨Nat.le_of_ble_eq_true rfl, Nat.le_of_ble_eq_true rfl⟩) hP hD hS hA [6, 7] [0, 1, 2, 3, 4, 5] rfl rfl (by decide) (by decide) ?_
                clear hP hD hS
                intro r_49 u_51 H locs w_50 hP hD hS
                replace hP : va_P D vwCl [(k, .inr (10, [.ref k0, .ref k1, .ref k2, .ref k3, .ref k4, .ref k5, .ref k6, .ref k7, .ref k8, .ref k9, .ref ka, .ref kb, .int cc])), (k0, .inr (9, [.ref k00, .ref k01, .ref k02, .ref k03, .ref k04, .ref k05, .int c06, .int c07, .int c08])), (ka0, .inl (cI, 4, .inl ca0)), (ka, .inr (6, [.ref ka0, .ref ka1, .ref ka2])), (ka1, .inl (cI, 4, .inl ca1)), (ka2, .inl (cI, 144, .inl ca2)), (k05, .inr (3, [.ref k050, .int c051])), (k050, .inl (cI, 36, .inl c050))] H := hP
                replace hD : va_D A [(k, .inr (10, [.ref k0, .ref k1, .ref k2, .ref k3, .ref k4, .ref k5, .ref k6, .ref k7, .ref k8, .ref k9, .ref ka, .ref kb, .int cc])), (k0, .inr (9, [.ref k00, .ref k01, .ref k02, .ref k03, .ref k04, .ref k05, .int c06, .int c07, .int c08])), (ka0, .inl (cI, 4, .inl ca0)), (ka, .inr (6, [.ref ka0, .ref ka1, .ref ka2])), (ka1, .inl (cI, 4, .inl ca1)), (ka2, .inl (cI, 144, .inl ca2)), (k05, .inr (3, [.ref k050, .int c051])), (k050, .inl (cI, 36, .inl c050))] := hD
                have h_52 := w_50
                have h_52 : r_49 = pW gx a1 1 := h_52
                have t_53 : r_49.toInt = (pW gx a1 1).toInt := by rw [h_52]
                have lo_r_49 := k_lo r_49
                have hi_r_49 := k_hi r_49
                refine lv_iconst (v := (-1)) hx hb dX10_whyNoMeeting_104 (by decide) ?_
                refine b_icmp_ne hx hb rfl zl_m1 (tgt := 112) dX10_whyNoMeeting_105 (by decide) (fun c_54 => ?_) (fun c_54 => ?_)
                · refine lv_iconst (v := 0) hx hb dX10_whyNoMeeting_112 (by decide) ?_
                  refine lv_istore (lv' := [(7, .int 0), (6, .int 1), (5, .ref k05), (4, .int r_18), (0, .ref k), (1, .int a0), (2, .int a1), (3, .int a2)]) hx hb dX10_whyNoMeeting_113 hl (by decide) rfl ?_
                  clear hl
                  intro ls hl
                  refine lv_iload hx hb dX10_whyNoMeeting_115 (lv_at hl 1 rfl) ?_
                  refine b_if_ne hx hb zl_1 (tgt := 142) dX10_whyNoMeeting_117 (by decide) (fun c_55 => ?_) (fun c_55 => by exfalso; omega)
                  refine lv_iconst (v := 3) hx hb dX10_whyNoMeeting_142 (by decide) ?_
                  exact hRet () [0, 1, 3, 6, 2, 4, 5, 7] (Or.inr (Or.inr (Or.inl ⟨rfl, (by omega), ⟨by omega, by omega, h_33⟩, (by omega)⟩))) hP hD (by decide) rfl hS rfl dX10_whyNoMeeting_143
                · refine lv_iconst (v := 1) hx hb dX10_whyNoMeeting_108 (by decide) ?_
                  refine lv_goto (tgt := 113) hx hb dX10_whyNoMeeting_109 (by decide) ?_
                  refine lv_istore (lv' := [(7, .int 1), (6, .int 1), (5, .ref k05), (4, .int r_18), (0, .ref k), (1, .int a0), (2, .int a1), (3, .int a2)]) hx hb dX10_whyNoMeeting_113 hl (by decide) rfl ?_
                  clear hl
                  intro ls hl
                  refine lv_iload hx hb dX10_whyNoMeeting_115 (lv_at hl 1 rfl) ?_
                  refine b_if_ne hx hb zl_1 (tgt := 142) dX10_whyNoMeeting_117 (by decide) (fun c_56 => ?_) (fun c_56 => by exfalso; omega)
                  refine lv_iconst (v := 3) hx hb dX10_whyNoMeeting_142 (by decide) ?_
                  exact hRet () [0, 1, 3, 6, 2, 4, 5, 7] (Or.inr (Or.inr (Or.inl ⟨rfl, (by omega), ⟨by omega, by omega, h_33⟩, (by omega)⟩))) hP hD (by decide) rfl hS rfl dX10_whyNoMeeting_143
            · have h_40 : (pW gx a0 8).toInt ≠ 2 := h_40
              obtain rfl : r_36 = 0 := hr_36.trans (by decide)
              refine b_if_ne hx hb zl_0 (tgt := 79) dX10_whyNoMeeting_67 (by decide) (fun c_57 => by exfalso; omega) (fun c_57 => ?_)
              refine lv_aload hx hb dX10_whyNoMeeting_70 (lv_at hl 0 rfl) ?_
              refine lv_iload_n hx hb dX10_whyNoMeeting_72 rfl (lv_at hl 4 rfl) ?_
              refine kJi (wr := [(k, .inr (10, [.ref k0, .ref k1, .ref k2, .ref k3, .ref k4, .ref k5, .ref k6, .ref k7, .ref k8, .ref k9, .ref ka, .ref kb, .int cc])), (k0, .inr (9, [.ref k00, .ref k01, .ref k02, .ref k03, .ref k04, .ref k05, .int c06, .int c07, .int c08])), (ka0, .inl (cI, 4, .inl ca0)), (ka, .inr (6, [.ref ka0, .ref ka1, .ref ka2])), (ka1, .inl (cI, 4, .inl ca1)), (ka2, .inl (cI, 144, .inl ca2))]) (va_runV (As := [.int a1]) (rest := []) ⟨hx, hb, hml, hown, hT⟩ (c_X3_isLostD l D cI aK aV k05 k050 H.size c051 c050 gx a1 (WR.kp pre0) (by first | omega | decide | assumption | rfl) (by first | omega | decide | assumption | rfl)) (cwV 1 hT (gV_in mw_734 mw_731 mw_732 mw_733 mw_4) rfl rfl rfl (by decide +kernel) ⟨Nat.le_of_ble_eq_true rfl, Nat.le_of_ble_eq_true rfl⟩) (kRecvX (q0 := 6) (ci := 3) hK hP hD hN hXS hS hA rfl rfl [6, 7] rfl (by decide)) rfl rfl hl.1 rfl (lv_room (Nat.le_of_ble_eq_true rfl)) dX10_whyNoMeeting_73 ⟨Nat.le_of_ble_eq_true rfl, Nat.le_of_ble_eq_true rfl⟩) hP hD hS hA [6, 7] [0, 1, 2, 3, 4, 5] rfl rfl (by decide) (by decide) ?_
              clear hP hD hS
              intro r_58 u_60 H locs w_59 hP hD hS
              replace hP : va_P D vwCl [(k, .inr (10, [.ref k0, .ref k1, .ref k2, .ref k3, .ref k4, .ref k5, .ref k6, .ref k7, .ref k8, .ref k9, .ref ka, .ref kb, .int cc])), (k0, .inr (9, [.ref k00, .ref k01, .ref k02, .ref k03, .ref k04, .ref k05, .int c06, .int c07, .int c08])), (ka0, .inl (cI, 4, .inl ca0)), (ka, .inr (6, [.ref ka0, .ref ka1, .ref ka2])), (ka1, .inl (cI, 4, .inl ca1)), (ka2, .inl (cI, 144, .inl ca2)), (k05, .inr (3, [.ref k050, .int c051])), (k050, .inl (cI, 36, .inl c050))] H := hP
              replace hD : va_D A [(k, .inr (10, [.ref k0, .ref k1, .ref k2, .ref k3, .ref k4, .ref k5, .ref k6, .ref k7, .ref k8, .ref k9, .ref ka, .ref kb, .int cc])), (k0, .inr (9, [.ref k00, .ref k01, .ref k02, .ref k03, .ref k04, .ref k05, .int c06, .int c07, .int c08])), (ka0, .inl (cI, 4, .inl ca0)), (ka, .inr (6, [.ref ka0, .ref ka1, .ref ka2])), (ka1, .inl (cI, 4, .inl ca1)), (ka2, .inl (cI, 144, .inl ca2)), (k05, .inr (3, [.ref k050, .int c051])), (k050, .inl (cI, 36, .inl c050))] := hD
              rcases w_59 with ⟨hr_58, h_61⟩ | ⟨hr_58, h_62⟩
              · have h_61 : (pW gx a1 8).toInt = 2 := h_61
                obtain rfl : r_58 = 1 := hr_58.trans (by decide)
                refine b_if_eq hx hb zl_1 (tgt := 83) dX10_whyNoMeeting_76 (by decide) (fun c_63 => by exfalso; omega) (fun c_63 => ?_)
                refine lv_iconst (v := 1) hx hb dX10_whyNoMeeting_79 (by decide) ?_
                refine lv_goto (tgt := 84) hx hb dX10_whyNoMeeting_80 (by decide) ?_
                refine lv_istore (lv' := [(6, .int 1), (5, .ref k05), (4, .int r_18), (0, .ref k), (1, .int a0), (2, .int a1), (3, .int a2)]) hx hb dX10_whyNoMeeting_84 hl (by decide) rfl ?_
                clear hl
                intro ls hl
                refine lv_aload hx hb dX10_whyNoMeeting_86 (lv_at hl 1 rfl) ?_
                refine lv_iload_n hx hb dX10_whyNoMeeting_88 rfl (lv_at hl 4 rfl) ?_
                refine lv_iconst (v := 1) hx hb dX10_whyNoMeeting_89 (by decide) ?_
                refine kJi (wr := [(k, .inr (10, [.ref k0, .ref k1, .ref k2, .ref k3, .ref k4, .ref k5, .ref k6, .ref k7, .ref k8, .ref k9, .ref ka, .ref kb, .int cc])), (k0, .inr (9, [.ref k00, .ref k01, .ref k02, .ref k03, .ref k04, .ref k05, .int c06, .int c07, .int c08])), (ka0, .inl (cI, 4, .inl ca0)), (ka, .inr (6, [.ref ka0, .ref ka1, .ref ka2])), (ka1, .inl (cI, 4, .inl ca1)), (ka2, .inl (cI, 144, .inl ca2))]) (va_runV (As := [.int a0, .int 1]) (rest := []) ⟨hx, hb, hml, hown, hT⟩ (c_X3_getD1 l D cI aK aV k05 k050 H.size c051 c050 gx a0 1 (WR.kp pre0) (by first | omega | (simp only [zl_1]; first | done | omega) | decide | assumption | rfl) (by first | omega | (simp only [zl_1]; first | done | omega) | decide | assumption | rfl) (by first | omega | (simp only [zl_1]; first | done | omega) | decide | assumption | rfl)) (cwV 2 hT (gV_in mw_726 mw_723 mw_724 mw_725 mw_4) rfl rfl rfl (by decide +kernel) ⟨Nat.le_of_ble_eq_true rfl, Nat.le_of_ble_eq_true rfl⟩) (kRecvX (q0 := 6) (ci := 3) hK hP hD hN hXS hS hA rfl rfl [6, 7] rfl (by decide)) rfl rfl hl.1 rfl (lv_room (Nat.le_of_ble_eq_true rfl)) dX10_whyNoMeeting_90 ⟨Nat.le_of_ble_eq_true rfl, Nat.le_of_ble_eq_true rfl⟩) hP hD hS hA [6, 7] [0, 1, 2, 3, 4, 5] rfl rfl (by decide) (by decide) ?_
                clear hP hD hS
                intro r_64 u_66 H locs w_65 hP hD hS
                replace hP : va_P D vwCl [(k, .inr (10, [.ref k0, .ref k1, .ref k2, .ref k3, .ref k4, .ref k5, .ref k6, .ref k7, .ref k8, .ref k9, .ref ka, .ref kb, .int cc])), (k0, .inr (9, [.ref k00, .ref k01, .ref k02, .ref k03, .ref k04, .ref k05, .int c06, .int c07, .int c08])), (ka0, .inl (cI, 4, .inl ca0)), (ka, .inr (6, [.ref ka0, .ref ka1, .ref ka2])), (ka1, .inl (cI, 4, .inl ca1)), (ka2, .inl (cI, 144, .inl ca2)), (k05, .inr (3, [.ref k050, .int c051])), (k050, .inl (cI, 36, .inl c050))] H := hP
                replace hD : va_D A [(k, .inr (10, [.ref k0, .ref k1, .ref k2, .ref k3, .ref k4, .ref k5, .ref k6, .ref k7, .ref k8, .ref k9, .ref ka, .ref kb, .int cc])), (k0, .inr (9, [.ref k00, .ref k01, .ref k02, .ref k03, .ref k04, .ref k05, .int c06, .int c07, .int c08])), (ka0, .inl (cI, 4, .inl ca0)), (ka, .inr (6, [.ref ka0, .ref ka1, .ref ka2])), (ka1, .inl (cI, 4, .inl ca1)), (ka2, .inl (cI, 144, .inl ca2)), (k05, .inr (3, [.ref k050, .int c051])), (k050, .inl (cI, 36, .inl c050))] := hD
                have h_67 := w_65
                have h_67 : r_64 = pW gx a0 1 := h_67
                have t_68 : r_64.toInt = (pW gx a0 1).toInt := by rw [h_67]
                have lo_r_64 := k_lo r_64
                have hi_r_64 := k_hi r_64
                refine lv_iconst (v := 1) hx hb dX10_whyNoMeeting_93 (by decide) ?_
                refine b_icmp_ne hx hb rfl zl_1 (tgt := 112) dX10_whyNoMeeting_94 (by decide) (fun c_69 => ?_) (fun c_69 => ?_)
                · refine lv_iconst (v := 0) hx hb dX10_whyNoMeeting_112 (by decide) ?_
                  refine lv_istore (lv' := [(7, .int 0), (6, .int 1), (5, .ref k05), (4, .int r_18), (0, .ref k), (1, .int a0), (2, .int a1), (3, .int a2)]) hx hb dX10_whyNoMeeting_113 hl (by decide) rfl ?_
                  clear hl
                  intro ls hl
                  refine lv_iload hx hb dX10_whyNoMeeting_115 (lv_at hl 1 rfl) ?_
                  refine b_if_ne hx hb zl_1 (tgt := 142) dX10_whyNoMeeting_117 (by decide) (fun c_70 => ?_) (fun c_70 => by exfalso; omega)
                  refine lv_iconst (v := 3) hx hb dX10_whyNoMeeting_142 (by decide) ?_
                  exact hRet () [0, 1, 3, 6, 2, 4, 5, 7] (Or.inr (Or.inr (Or.inl ⟨rfl, (by omega), ⟨by omega, by omega, h_33⟩, (by omega)⟩))) hP hD (by decide) rfl hS rfl dX10_whyNoMeeting_143
                · refine lv_aload hx hb dX10_whyNoMeeting_97 (lv_at hl 1 rfl) ?_
                  refine lv_iload_n hx hb dX10_whyNoMeeting_99 rfl (lv_at hl 5 rfl) ?_
                  refine lv_iconst (v := 1) hx hb dX10_whyNoMeeting_100 (by decide) ?_
                  refine kJi (wr := [(k, .inr (10, [.ref k0, .ref k1, .ref k2, .ref k3, .ref k4, .ref k5, .ref k6, .ref k7, .ref k8, .ref k9, .ref ka, .ref kb, .int cc])), (k0, .inr (9, [.ref k00, .ref k01, .ref k02, .ref k03, .ref k04, .ref k05, .int c06, .int c07, .int c08])), (ka0, .inl (cI, 4, .inl ca0)), (ka, .inr (6, [.ref ka0, .ref ka1, .ref ka2])), (ka1, .inl (cI, 4, .inl ca1)), (ka2, .inl (cI, 144, .inl ca2))]) (va_runV (As := [.int a1, .int 1]) (rest := []) ⟨hx, hb, hml, hown, hT⟩ (c_X3_getD1 l D cI aK aV k05 k050 H.size c051 c050 gx a1 1 (WR.kp pre0) (by first | omega | (simp only [zl_1]; first | done | omega) | decide | assumption | rfl) (by first | omega | (simp only [zl_1]; first | done | omega) | decide | assumption | rfl) (by first | omega | (simp only [zl_1]; first | done | omega) | decide | assumption | rfl)) (cwV 2 hT (gV_in mw_726 mw_723 mw_724 mw_725 mw_4) rfl rfl rfl (by decide +kernel) ⟨Nat.le_of_ble_eq_true rfl, Nat.le_of_ble_eq_true rfl⟩) (kRecvX (q0 := 6) (ci := 3) hK hP hD hN hXS hS hA rfl rfl [6, 7] rfl (by decide)) rfl rfl hl.1 rfl (lv_room (Nat.le_of_ble_eq_true rfl)) dX10_whyNoMeeting_101 ⟨Nat.le_of_ble_eq_true rfl, Nat.le_of_ble_eq_true rfl⟩) hP hD hS hA [6, 7] [0, 1, 2, 3, 4, 5] rfl rfl (by decide) (by decide) ?_
                  clear hP hD hS
                  intro r_71 u_73 H locs w_72 hP hD hS
                  replace hP : va_P D vwCl [(k, .inr (10, [.ref k0, .ref k1, .ref k2, .ref k3, .ref k4, .ref k5, .ref k6, .ref k7, .ref k8, .ref k9, .ref ka, .ref kb, .int cc])), (k0, .inr (9, [.ref k00, .ref k01, .ref k02, .ref k03, .ref k04, .ref k05, .int c06, .int c07, .int c08])), (ka0, .inl (cI, 4, .inl ca0)), (ka, .inr (6, [.ref ka0, .ref ka1, .ref ka2])), (ka1, .inl (cI, 4, .inl ca1)), (ka2, .inl (cI, 144, .inl ca2)), (k05, .inr (3, [.ref k050, .int c051])), (k050, .inl (cI, 36, .inl c050))] H := hP
                  replace hD : va_D A [(k, .inr (10, [.ref k0, .ref k1, .ref k2, .ref k3, .ref k4, .ref k5, .ref k6, .ref k7, .ref k8, .ref k9, .ref ka, .ref kb, .int cc])), (k0, .inr (9, [.ref k00, .ref k01, .ref k02, .ref k03, .ref k04, .ref k05, .int c06, .int c07, .int c08])), (ka0, .inl (cI, 4, .inl ca0)), (ka, .inr (6, [.ref ka0, .ref ka1, .ref ka2])), (ka1, .inl (cI, 4, .inl ca1)), (ka2, .inl (cI, 144, .inl ca2)), (k05, .inr (3, [.ref k050, .int c051])), (k050, .inl (cI, 36, .inl c050))] := hD
                  have h_74 := w_72
                  have h_74 : r_71 = pW gx a1 1 := h_74
                  have t_75 : r_71.toInt = (pW gx a1 1).toInt := by rw [h_74]
                  have lo_r_71 := k_lo r_71
                  have hi_r_71 := k_hi r_71
                  refine lv_iconst (v := (-1)) hx hb dX10_whyNoMeeting_104 (by decide) ?_
                  refine b_icmp_ne hx hb rfl zl_m1 (tgt := 112) dX10_whyNoMeeting_105 (by decide) (fun c_76 => ?_) (fun c_76 => ?_)
                  · refine lv_iconst (v := 0) hx hb dX10_whyNoMeeting_112 (by decide) ?_
                    refine lv_istore (lv' := [(7, .int 0), (6, .int 1), (5, .ref k05), (4, .int r_18), (0, .ref k), (1, .int a0), (2, .int a1), (3, .int a2)]) hx hb dX10_whyNoMeeting_113 hl (by decide) rfl ?_
                    clear hl
                    intro ls hl
                    refine lv_iload hx hb dX10_whyNoMeeting_115 (lv_at hl 1 rfl) ?_
                    refine b_if_ne hx hb zl_1 (tgt := 142) dX10_whyNoMeeting_117 (by decide) (fun c_77 => ?_) (fun c_77 => by exfalso; omega)
                    refine lv_iconst (v := 3) hx hb dX10_whyNoMeeting_142 (by decide) ?_
                    exact hRet () [0, 1, 3, 6, 2, 4, 5, 7] (Or.inr (Or.inr (Or.inl ⟨rfl, (by omega), ⟨by omega, by omega, h_33⟩, (by omega)⟩))) hP hD (by decide) rfl hS rfl dX10_whyNoMeeting_143
                  · refine lv_iconst (v := 1) hx hb dX10_whyNoMeeting_108 (by decide) ?_
                    refine lv_goto (tgt := 113) hx hb dX10_whyNoMeeting_109 (by decide) ?_
                    refine lv_istore (lv' := [(7, .int 1), (6, .int 1), (5, .ref k05), (4, .int r_18), (0, .ref k), (1, .int a0), (2, .int a1), (3, .int a2)]) hx hb dX10_whyNoMeeting_113 hl (by decide) rfl ?_
                    clear hl
                    intro ls hl
                    refine lv_iload hx hb dX10_whyNoMeeting_115 (lv_at hl 1 rfl) ?_
                    refine b_if_ne hx hb zl_1 (tgt := 142) dX10_whyNoMeeting_117 (by decide) (fun c_78 => ?_) (fun c_78 => by exfalso; omega)
                    refine lv_iconst (v := 3) hx hb dX10_whyNoMeeting_142 (by decide) ?_
                    exact hRet () [0, 1, 3, 6, 2, 4, 5, 7] (Or.inr (Or.inr (Or.inl ⟨rfl, (by omega), ⟨by omega, by omega, h_33⟩, (by omega)⟩))) hP hD (by decide) rfl hS rfl dX10_whyNoMeeting_143
              · have h_62 : (pW gx a1 8).toInt ≠ 2 := h_62
                obtain rfl : r_58 = 0 := hr_58.trans (by decide)
                refine b_if_eq hx hb zl_0 (tgt := 83) dX10_whyNoMeeting_76 (by decide) (fun c_79 => ?_) (fun c_79 => by exfalso; omega)
                refine lv_iconst (v := 0) hx hb dX10_whyNoMeeting_83 (by decide) ?_
                refine lv_istore (lv' := [(6, .int 0), (5, .ref k05), (4, .int r_18), (0, .ref k), (1, .int a0), (2, .int a1), (3, .int a2)]) hx hb dX10_whyNoMeeting_84 hl (by decide) rfl ?_
                clear hl
                intro ls hl
                refine lv_aload hx hb dX10_whyNoMeeting_86 (lv_at hl 1 rfl) ?_
                refine lv_iload_n hx hb dX10_whyNoMeeting_88 rfl (lv_at hl 4 rfl) ?_
                refine lv_iconst (v := 1) hx hb dX10_whyNoMeeting_89 (by decide) ?_
                refine kJi (wr := [(k, .inr (10, [.ref k0, .ref k1, .ref k2, .ref k3, .ref k4, .ref k5, .ref k6, .ref k7, .ref k8, .ref k9, .ref ka, .ref kb, .int cc])), (k0, .inr (9, [.ref k00, .ref k01, .ref k02, .ref k03, .ref k04, .ref k05, .int c06, .int c07, .int c08])), (ka0, .inl (cI, 4, .inl ca0)), (ka, .inr (6, [.ref ka0, .ref ka1, .ref ka2])), (ka1, .inl (cI, 4, .inl ca1)), (ka2, .inl (cI, 144, .inl ca2))]) (va_runV (As := [.int a0, .int 1]) (rest := []) ⟨hx, hb, hml, hown, hT⟩ (c_X3_getD1 l D cI aK aV k05 k050 H.size c051 c050 gx a0 1 (WR.kp pre0) (by first | omega | (simp only [zl_1]; first | done | omega) | decide | assumption | rfl) (by first | omega | (simp only [zl_1]; first | done | omega) | decide | assumption | rfl) (by first | omega | (simp only [zl_1]; first | done | omega) | decide | assumption | rfl)) (cwV 2 hT (gV_in mw_726 mw_723 mw_724 mw_725 mw_4) rfl rfl rfl (by decide +kernel) ⟨Nat.le_of_ble_eq_true rfl, Nat.le_of_ble_eq_true rfl⟩) (kRecvX (q0 := 6) (ci := 3) hK hP hD hN hXS hS hA rfl rfl [6, 7] rfl (by decide)) rfl rfl hl.1 rfl (lv_room (Nat.le_of_ble_eq_true rfl)) dX10_whyNoMeeting_90 ⟨Nat.le_of_ble_eq_true rfl, Nat.le_of_ble_eq_true rfl⟩) hP hD hS hA [6, 7] [0, 1, 2, 3, 4, 5] rfl rfl (by decide) (by decide) ?_
                clear hP hD hS
                intro r_80 u_82 H locs w_81 hP hD hS
                replace hP : va_P D vwCl [(k, .inr (10, [.ref k0, .ref k1, .ref k2, .ref k3, .ref k4, .ref k5, .ref k6, .ref k7, .ref k8, .ref k9, .ref ka, .ref kb, .int cc])), (k0, .inr (9, [.ref k00, .ref k01, .ref k02, .ref k03, .ref k04, .ref k05, .int c06, .int c07, .int c08])), (ka0, .inl (cI, 4, .inl ca0)), (ka, .inr (6, [.ref ka0, .ref ka1, .ref ka2])), (ka1, .inl (cI, 4, .inl ca1)), (ka2, .inl (cI, 144, .inl ca2)), (k05, .inr (3, [.ref k050, .int c051])), (k050, .inl (cI, 36, .inl c050))] H := hP
                replace hD : va_D A [(k, .inr (10, [.ref k0, .ref k1, .ref k2, .ref k3, .ref k4, .ref k5, .ref k6, .ref k7, .ref k8, .ref k9, .ref ka, .ref kb, .int cc])), (k0, .inr (9, [.ref k00, .ref k01, .ref k02, .ref k03, .ref k04, .ref k05, .int c06, .int c07, .int c08])), (ka0, .inl (cI, 4, .inl ca0)), (ka, .inr (6, [.ref ka0, .ref ka1, .ref ka2])), (ka1, .inl (cI, 4, .inl ca1)), (ka2, .inl (cI, 144, .inl ca2)), (k05, .inr (3, [.ref k050, .int c051])), (k050, .inl (cI, 36, .inl c050))] := hD
                have h_83 := w_81
                have h_83 : r_80 = pW gx a0 1 := h_83
                have t_84 : r_80.toInt = (pW gx a0 1).toInt := by rw [h_83]
                have lo_r_80 := k_lo r_80
                have hi_r_80 := k_hi r_80
                refine lv_iconst (v := 1) hx hb dX10_whyNoMeeting_93 (by decide) ?_
                refine b_icmp_ne hx hb rfl zl_1 (tgt := 112) dX10_whyNoMeeting_94 (by decide) (fun c_85 => ?_) (fun c_85 => ?_)
                · refine lv_iconst (v := 0) hx hb dX10_whyNoMeeting_112 (by decide) ?_
                  refine lv_istore (lv' := [(7, .int 0), (6, .int 0), (5, .ref k05), (4, .int r_18), (0, .ref k), (1, .int a0), (2, .int a1), (3, .int a2)]) hx hb dX10_whyNoMeeting_113 hl (by decide) rfl ?_
                  clear hl
                  intro ls hl
                  refine lv_iload hx hb dX10_whyNoMeeting_115 (lv_at hl 1 rfl) ?_
                  refine b_if_ne hx hb zl_0 (tgt := 142) dX10_whyNoMeeting_117 (by decide) (fun c_86 => by exfalso; omega) (fun c_86 => ?_)
                  refine lv_iload hx hb dX10_whyNoMeeting_120 (lv_at hl 0 rfl) ?_
                  refine b_if_eq hx hb zl_0 (tgt := 142) dX10_whyNoMeeting_122 (by decide) (fun c_87 => ?_) (fun c_87 => by exfalso; omega)
                  refine lv_iconst (v := 3) hx hb dX10_whyNoMeeting_142 (by decide) ?_
                  exact hRet () [0, 1, 3, 6, 2, 4, 5, 7] (Or.inr (Or.inr (Or.inl ⟨rfl, (by omega), ⟨by omega, by omega, h_33⟩, (by omega)⟩))) hP hD (by decide) rfl hS rfl dX10_whyNoMeeting_143
                · refine lv_aload hx hb dX10_whyNoMeeting_97 (lv_at hl 1 rfl) ?_
                  refine lv_iload_n hx hb dX10_whyNoMeeting_99 rfl (lv_at hl 5 rfl) ?_
                  refine lv_iconst (v := 1) hx hb dX10_whyNoMeeting_100 (by decide) ?_
                  refine kJi (wr := [(k, .inr (10, [.ref k0, .ref k1, .ref k2, .ref k3, .ref k4, .ref k5, .ref k6, .ref k7, .ref k8, .ref k9, .ref ka, .ref kb, .int cc])), (k0, .inr (9, [.ref k00, .ref k01, .ref k02, .ref k03, .ref k04, .ref k05, .int c06, .int c07, .int c08])), (ka0, .inl (cI, 4, .inl ca0)), (ka, .inr (6, [.ref ka0, .ref ka1, .ref ka2])), (ka1, .inl (cI, 4, .inl ca1)), (ka2, .inl (cI, 144, .inl ca2))]) (va_runV (As := [.int a1, .int 1]) (rest := []) ⟨hx, hb, hml, hown, hT⟩ (c_X3_getD1 l D cI aK aV k05 k050 H.size c051 c050 gx a1 1 (WR.kp pre0) (by first | omega | (simp only [zl_1]; first | done | omega) | decide | assumption | rfl) (by first | omega | (simp only [zl_1]; first | done | omega) | decide | assumption | rfl) (by first | omega | (simp only [zl_1]; first | done | omega) | decide | assumption | rfl)) (cwV 2 hT (gV_in mw_726 mw_723 mw_724 mw_725 mw_4) rfl rfl rfl (by decide +kernel) ⟨Nat.le_of_ble_eq_true rfl, Nat.le_of_ble_eq_true rfl⟩) (kRecvX (q0 := 6) (ci := 3) hK hP hD hN hXS hS hA rfl rfl [6, 7] rfl (by decide)) rfl rfl hl.1 rfl (lv_room (Nat.le_of_ble_eq_true rfl)) dX10_whyNoMeeting_101 ⟨Nat.le_of_ble_eq_true rfl, Nat.le_of_ble_eq_true rfl⟩) hP hD hS hA [6, 7] [0, 1, 2, 3, 4, 5] rfl rfl (by decide) (by decide) ?_
                  clear hP hD hS
                  intro r_88 u_90 H locs w_89 hP hD hS
                  replace hP : va_P D vwCl [(k, .inr (10, [.ref k0, .ref k1, .ref k2, .ref k3, .ref k4, .ref k5, .ref k6, .ref k7, .ref k8, .ref k9, .ref ka, .ref kb, .int cc])), (k0, .inr (9, [.ref k00, .ref k01, .ref k02, .ref k03, .ref k04, .ref k05, .int c06, .int c07, .int c08])), (ka0, .inl (cI, 4, .inl ca0)), (ka, .inr (6, [.ref ka0, .ref ka1, .ref ka2])), (ka1, .inl (cI, 4, .inl ca1)), (ka2, .inl (cI, 144, .inl ca2)), (k05, .inr (3, [.ref k050, .int c051])), (k050, .inl (cI, 36, .inl c050))] H := hP
                  replace hD : va_D A [(k, .inr (10, [.ref k0, .ref k1, .ref k2, .ref k3, .ref k4, .ref k5, .ref k6, .ref k7, .ref k8, .ref k9, .ref ka, .ref kb, .int cc])), (k0, .inr (9, [.ref k00, .ref k01, .ref k02, .ref k03, .ref k04, .ref k05, .int c06, .int c07, .int c08])), (ka0, .inl (cI, 4, .inl ca0)), (ka, .inr (6, [.ref ka0, .ref ka1, .ref ka2])), (ka1, .inl (cI, 4, .inl ca1)), (ka2, .inl (cI, 144, .inl ca2)), (k05, .inr (3, [.ref k050, .int c051])), (k050, .inl (cI, 36, .inl c050))] := hD
                  have h_91 := w_89
                  have h_91 : r_88 = pW gx a1 1 := h_91
                  have t_92 : r_88.toInt = (pW gx a1 1).toInt := by rw [h_91]
                  have lo_r_88 := k_lo r_88
                  have hi_r_88 := k_hi r_88
                  refine lv_iconst (v := (-1)) hx hb dX10_whyNoMeeting_104 (by decide) ?_
                  refine b_icmp_ne hx hb rfl zl_m1 (tgt := 112) dX10_whyNoMeeting_105 (by decide) (fun c_93 => ?_) (fun c_93 => ?_)
                  · refine lv_iconst (v := 0) hx hb dX10_whyNoMeeting_112 (by decide) ?_
                    refine lv_istore (lv' := [(7, .int 0), (6, .int 0), (5, .ref k05), (4, .int r_18), (0, .ref k), (1, .int a0), (2, .int a1), (3, .int a2)]) hx hb dX10_whyNoMeeting_113 hl (by decide) rfl ?_
                    clear hl
                    intro ls hl
                    refine lv_iload hx hb dX10_whyNoMeeting_115 (lv_at hl 1 rfl) ?_
                    refine b_if_ne hx hb zl_0 (tgt := 142) dX10_whyNoMeeting_117 (by decide) (fun c_94 => by exfalso; omega) (fun c_94 => ?_)
                    refine lv_iload hx hb dX10_whyNoMeeting_120 (lv_at hl 0 rfl) ?_
                    refine b_if_eq hx hb zl_0 (tgt := 142) dX10_whyNoMeeting_122 (by decide) (fun c_95 => ?_) (fun c_95 => by exfalso; omega)
                    refine lv_iconst (v := 3) hx hb dX10_whyNoMeeting_142 (by decide) ?_
                    exact hRet () [0, 1, 3, 6, 2, 4, 5, 7] (Or.inr (Or.inr (Or.inl ⟨rfl, (by omega), ⟨by omega, by omega, h_33⟩, (by omega)⟩))) hP hD (by decide) rfl hS rfl dX10_whyNoMeeting_143
                  · refine lv_iconst (v := 1) hx hb dX10_whyNoMeeting_108 (by decide) ?_
                    refine lv_goto (tgt := 113) hx hb dX10_whyNoMeeting_109 (by decide) ?_
                    refine lv_istore (lv' := [(7, .int 1), (6, .int 0), (5, .ref k05), (4, .int r_18), (0, .ref k), (1, .int a0), (2, .int a1), (3, .int a2)]) hx hb dX10_whyNoMeeting_113 hl (by decide) rfl ?_
                    clear hl
                    intro ls hl
                    refine lv_iload hx hb dX10_whyNoMeeting_115 (lv_at hl 1 rfl) ?_
                    refine b_if_ne hx hb zl_0 (tgt := 142) dX10_whyNoMeeting_117 (by decide) (fun c_96 => by exfalso; omega) (fun c_96 => ?_)
                    refine lv_iload hx hb dX10_whyNoMeeting_120 (lv_at hl 0 rfl) ?_
                    refine b_if_eq hx hb zl_1 (tgt := 142) dX10_whyNoMeeting_122 (by decide) (fun c_97 => by exfalso; omega) (fun c_97 => ?_)
                    refine lv_aload hx hb dX10_whyNoMeeting_125 (lv_at hl 2 rfl) ?_
                    refine lv_iload_n hx hb dX10_whyNoMeeting_127 rfl (lv_at hl 5 rfl) ?_
                    refine lv_iconst (v := 0) hx hb dX10_whyNoMeeting_128 (by decide) ?_
                    refine kJi (wr := [(k, .inr (10, [.ref k0, .ref k1, .ref k2, .ref k3, .ref k4, .ref k5, .ref k6, .ref k7, .ref k8, .ref k9, .ref ka, .ref kb, .int cc])), (k0, .inr (9, [.ref k00, .ref k01, .ref k02, .ref k03, .ref k04, .ref k05, .int c06, .int c07, .int c08])), (ka0, .inl (cI, 4, .inl ca0)), (ka, .inr (6, [.ref ka0, .ref ka1, .ref ka2])), (ka1, .inl (cI, 4, .inl ca1)), (ka2, .inl (cI, 144, .inl ca2))]) (va_runV (As := [.int a0, .int 0]) (rest := []) ⟨hx, hb, hml, hown, hT⟩ (c_X3_getD0 l D cI aK aV k05 k050 H.size c051 c050 gx a0 0 (WR.kp pre0) (by first | omega | (simp only [zl_0]; first | done | omega) | decide | assumption | rfl) (by first | omega | (simp only [zl_0]; first | done | omega) | decide | assumption | rfl) (by first | omega | (simp only [zl_0]; first | done | omega) | decide | assumption | rfl)) (cwV 2 hT (gV_in mw_726 mw_723 mw_724 mw_725 mw_4) rfl rfl rfl (by decide +kernel) ⟨Nat.le_of_ble_eq_true rfl, Nat.le_of_ble_eq_true rfl⟩) (kRecvX (q0 := 6) (ci := 3) hK hP hD hN hXS hS hA rfl rfl [6, 7] rfl (by decide)) rfl rfl hl.1 rfl (lv_room (Nat.le_of_ble_eq_true rfl)) dX10_whyNoMeeting_129 ⟨Nat.le_of_ble_eq_true rfl, Nat.le_of_ble_eq_true rfl⟩) hP hD hS hA [6, 7] [0, 1, 2, 3, 4, 5] rfl rfl (by decide) (by decide) ?_
                    clear hP hD hS
                    intro r_98 u_100 H locs w_99 hP hD hS
                    replace hP : va_P D vwCl [(k, .inr (10, [.ref k0, .ref k1, .ref k2, .ref k3, .ref k4, .ref k5, .ref k6, .ref k7, .ref k8, .ref k9, .ref ka, .ref kb, .int cc])), (k0, .inr (9, [.ref k00, .ref k01, .ref k02, .ref k03, .ref k04, .ref k05, .int c06, .int c07, .int c08])), (ka0, .inl (cI, 4, .inl ca0)), (ka, .inr (6, [.ref ka0, .ref ka1, .ref ka2])), (ka1, .inl (cI, 4, .inl ca1)), (ka2, .inl (cI, 144, .inl ca2)), (k05, .inr (3, [.ref k050, .int c051])), (k050, .inl (cI, 36, .inl c050))] H := hP
                    replace hD : va_D A [(k, .inr (10, [.ref k0, .ref k1, .ref k2, .ref k3, .ref k4, .ref k5, .ref k6, .ref k7, .ref k8, .ref k9, .ref ka, .ref kb, .int cc])), (k0, .inr (9, [.ref k00, .ref k01, .ref k02, .ref k03, .ref k04, .ref k05, .int c06, .int c07, .int c08])), (ka0, .inl (cI, 4, .inl ca0)), (ka, .inr (6, [.ref ka0, .ref ka1, .ref ka2])), (ka1, .inl (cI, 4, .inl ca1)), (ka2, .inl (cI, 144, .inl ca2)), (k05, .inr (3, [.ref k050, .int c051])), (k050, .inl (cI, 36, .inl c050))] := hD
                    have h_101 := w_99
                    have h_101 : r_98 = pW gx a0 0 := h_101
                    have t_102 : r_98.toInt = (pW gx a0 0).toInt := by rw [h_101]
                    have b_103 : 0 ≤ r_98.toInt ∧ r_98.toInt ≤ 39 := by rw [h_101]; exact SB.p0 (And.left pre1) (by omega) (by omega)
                    have lo_r_98 := k_lo r_98
                    have hi_r_98 := k_hi r_98
                    refine lv_aload hx hb dX10_whyNoMeeting_132 (lv_at hl 2 rfl) ?_
                    refine lv_iload_n hx hb dX10_whyNoMeeting_134 rfl (lv_at hl 6 rfl) ?_
                    refine lv_iconst (v := 0) hx hb dX10_whyNoMeeting_135 (by decide) ?_
                    refine kJi (wr := [(k, .inr (10, [.ref k0, .ref k1, .ref k2, .ref k3, .ref k4, .ref k5, .ref k6, .ref k7, .ref k8, .ref k9, .ref ka, .ref kb, .int cc])), (k0, .inr (9, [.ref k00, .ref k01, .ref k02, .ref k03, .ref k04, .ref k05, .int c06, .int c07, .int c08])), (ka0, .inl (cI, 4, .inl ca0)), (ka, .inr (6, [.ref ka0, .ref ka1, .ref ka2])), (ka1, .inl (cI, 4, .inl ca1)), (ka2, .inl (cI, 144, .inl ca2))]) (va_runV (As := [.int a1, .int 0]) (rest := [.int r_98]) ⟨hx, hb, hml, hown, hT⟩ (c_X3_getD0 l D cI aK aV k05 k050 H.size c051 c050 gx a1 0 (WR.kp pre0) (by first | omega | (simp only [zl_0]; first | done | omega) | decide | assumption | rfl) (by first | omega | (simp only [zl_0]; first | done | omega) | decide | assumption | rfl) (by first | omega | (simp only [zl_0]; first | done | omega) | decide | assumption | rfl)) (cwV 2 hT (gV_in mw_726 mw_723 mw_724 mw_725 mw_4) rfl rfl rfl (by decide +kernel) ⟨Nat.le_of_ble_eq_true rfl, Nat.le_of_ble_eq_true rfl⟩) (kRecvX (q0 := 6) (ci := 3) hK hP hD hN hXS hS hA rfl rfl [6, 7] rfl (by decide)) rfl rfl hl.1 rfl (lv_room (Nat.le_of_ble_eq_true rfl)) dX10_whyNoMeeting_136 ⟨Nat.le_of_ble_eq_true rfl, Nat.le_of_ble_eq_true rfl⟩) hP hD hS hA [6, 7] [0, 1, 2, 3, 4, 5] rfl rfl (by decide) (by decide) ?_
                    clear hP hD hS
                    intro r_104 u_106 H locs w_105 hP hD hS
                    replace hP : va_P D vwCl [(k, .inr (10, [.ref k0, .ref k1, .ref k2, .ref k3, .ref k4, .ref k5, .ref k6, .ref k7, .ref k8, .ref k9, .ref ka, .ref kb, .int cc])), (k0, .inr (9, [.ref k00, .ref k01, .ref k02, .ref k03, .ref k04, .ref k05, .int c06, .int c07, .int c08])), (ka0, .inl (cI, 4, .inl ca0)), (ka, .inr (6, [.ref ka0, .ref ka1, .ref ka2])), (ka1, .inl (cI, 4, .inl ca1)), (ka2, .inl (cI, 144, .inl ca2)), (k05, .inr (3, [.ref k050, .int c051])), (k050, .inl (cI, 36, .inl c050))] H := hP
                    replace hD : va_D A [(k, .inr (10, [.ref k0, .ref k1, .ref k2, .ref k3, .ref k4, .ref k5, .ref k6, .ref k7, .ref k8, .ref k9, .ref ka, .ref kb, .int cc])), (k0, .inr (9, [.ref k00, .ref k01, .ref k02, .ref k03, .ref k04, .ref k05, .int c06, .int c07, .int c08])), (ka0, .inl (cI, 4, .inl ca0)), (ka, .inr (6, [.ref ka0, .ref ka1, .ref ka2])), (ka1, .inl (cI, 4, .inl ca1)), (ka2, .inl (cI, 144, .inl ca2)), (k05, .inr (3, [.ref k050, .int c051])), (k050, .inl (cI, 36, .inl c050))] := hD
                    have h_107 := w_105
                    have h_107 : r_104 = pW gx a1 0 := h_107
                    have t_108 : r_104.toInt = (pW gx a1 0).toInt := by rw [h_107]
                    have b_109 : 0 ≤ r_104.toInt ∧ r_104.toInt ≤ 39 := by rw [h_107]; exact SB.p0 (And.left pre1) (by omega) (by omega)
                    have lo_r_104 := k_lo r_104
                    have hi_r_104 := k_hi r_104
                    refine b_icmp_lt hx hb rfl rfl (tgt := 144) dX10_whyNoMeeting_139 (by decide) (fun c_110 => ?_) (fun c_110 => ?_)
                    · refine lv_iconst (v := 0) hx hb dX10_whyNoMeeting_144 (by decide) ?_
                      exact hRet () [0, 1, 3, 6, 2, 4, 5, 7] (Or.inr (Or.inr (Or.inr (⟨rfl, (by omega), ⟨by omega, by omega, h_33⟩, (by omega), (by omega), (by omega), (by omega), (by omega), (SIX.men pre1 (by omega) (by omega) (by omega) (by omega)), (SIX.men pre1 (by omega) (by omega) (by omega) (by omega)), (SB.p2 (And.left pre1) (by omega) (by omega)).2, (SB.p2 (And.left pre1) (by omega) (by omega)).2, (SB.p0 (And.left pre1) (by omega) (by omega)).1, (SB.p0 (And.left pre1) (by omega) (by omega)).2⟩)))) hP hD (by decide) rfl hS rfl dX10_whyNoMeeting_145
                    · refine lv_iconst (v := 3) hx hb dX10_whyNoMeeting_142 (by decide) ?_
                      exact hRet () [0, 1, 3, 6, 2, 4, 5, 7] (Or.inr (Or.inr (Or.inl ⟨rfl, (by omega), ⟨by omega, by omega, h_33⟩, (by omega)⟩))) hP hD (by decide) rfl hS rfl dX10_whyNoMeeting_143
          · try simp only [zl_0, zl_9] at h_34
            have h_34 : allB (shv ca2 a2) 0 9 (ca1 a2.toNatClampNeg).toInt.toNat = false := h_34
            have h_34 : allB (shv ca2 a2) 0 9 (ca1 a2.toNatClampNeg).toInt.toNat = false := h_34
            obtain rfl : r_30 = 0 := hr_30.trans (by decide)
            refine b_if_ne hx hb zl_0 (tgt := 52) dX10_whyNoMeeting_47 (by decide) (fun c_111 => by exfalso; omega) (fun c_111 => ?_)
            refine lv_iconst (v := 5) hx hb dX10_whyNoMeeting_50 (by decide) ?_
            exact hRet () [0, 1, 5, 2, 4, 6, 7, 3] (Or.inr (Or.inl ⟨rfl, (by omega), (fun z => by have z1 := z.2.2; rw [h_34] at z1; exact absurd z1 (by decide))⟩)) hP hD (by decide) rfl hS rfl dX10_whyNoMeeting_51
    · exfalso; omega
  · exfalso; omega

set_option maxHeartbeats 4000000 in
set_option maxRecDepth 100000 in
theorem c_X10_meetingD (l : Launch) (D : va_G) (cI : ClassId) (aK aV : Nat → Nat) (k k0 k1 k2 k3 k4 k5 k6 k7 k8 k9 ka kb k00 k01 k02 k03 k04 k05 k80 k81 ka0 ka1 ka2 k050 : Nat) (sz : Nat) (cc : Int32) (c06 : Int32) (c07 : Int32) (c08 : Int32) (cb : Nat → Int32) (c01 : Nat → Int32) (c051 : Int32) (c80 : Nat → Int32) (c81 : Nat → Int32) (ca0 : Nat → Int32) (ca1 : Nat → Int32) (ca2 : Nat → Int32) (c050 : Nat → Int32) (c00 : Nat → Int32) (c02 : Nat → Int32) (c03 : Nat → Int32) (c040 : Nat → Int32) (c041 : Nat → Int32) (c042 : Nat → Int32) (c043 : Nat → Int32) (c044 : Nat → Int32) (c045 : Nat → Int32) (c046 : Nat → Int32) (c047 : Nat → Int32) (c048 : Nat → Int32) (c049 : Int32) (gx : Nat → Int32) (a0 : Int32) (a1 : Int32) (a2 : Int32) (a3 : Int32) (pre0 : WR c00 c01 c02 c03 c040 c041 c042 c043 c044 c045 c046 c047 c048 c049 c050 c051 c06 c07 c08 gx) (pre1 : SIX gx (-1)) (pre2 : ∀ k : Nat, k < 4 → 0 ≤ (ca1 k).toInt ∧ (ca1 k).toInt ≤ 36) : Met l yX10_meeting (gW yX10_meeting cX10_meeting 7 (some .int)) ({ frames := 6, cells := 0, slots := 0, locals := 143 } : Room) (kPreX D cI aK aV [.ref k, .int a0, .int a1, .int a2, .int a3] [(k, .inr (10, [.ref k0, .ref k1, .ref k2, .ref k3, .ref k4, .ref k5, .ref k6, .ref k7, .ref k8, .ref k9, .ref ka, .ref kb, .int cc])), (k0, .inr (9, [.ref k00, .ref k01, .ref k02, .ref k03, .ref k04, .ref k05, .int c06, .int c07, .int c08])), (k8, .inr (2, [.ref k80, .ref k81])), (ka, .inr (6, [.ref ka0, .ref ka1, .ref ka2])), (kb, .inl (cI, 6, .inl cb)), (k01, .inl (cI, 40, .inl c01)), (k05, .inr (3, [.ref k050, .int c051])), (k80, .inl (cI, 40, .inl c80)), (k81, .inl (cI, 40, .inl c81)), (ka0, .inl (cI, 4, .inl ca0)), (ka1, .inl (cI, 4, .inl ca1)), (ka2, .inl (cI, 144, .inl ca2)), (k050, .inl (cI, 36, .inl c050))] sz) (va_Qi (fun (r : Int32) (u : (Nat → Int32) × (Nat → Int32) × (Nat → Int32)) => MET gx ca0 ca1 ca2 a0 a1 a2 a3 r) (fun u t => kWd D cI (va_A [(k, .inr (10, [.ref k0, .ref k1, .ref k2, .ref k3, .ref k4, .ref k5, .ref k6, .ref k7, .ref k8, .ref k9, .ref ka, .ref kb, .int cc])), (k0, .inr (9, [.ref k00, .ref k01, .ref k02, .ref k03, .ref k04, .ref k05, .int c06, .int c07, .int c08])), (k8, .inr (2, [.ref k80, .ref k81])), (ka, .inr (6, [.ref ka0, .ref ka1, .ref ka2])), (kb, .inl (cI, 6, .inl cb)), (k01, .inl (cI, 40, .inl c01)), (k05, .inr (3, [.ref k050, .int c051])), (k80, .inl (cI, 40, .inl c80)), (k81, .inl (cI, 40, .inl c81)), (ka0, .inl (cI, 4, .inl ca0)), (ka1, .inl (cI, 4, .inl ca1)), (ka2, .inl (cI, 144, .inl ca2)), (k050, .inl (cI, 36, .inl c050))] sz) [(k, .inr (10, [.ref k0, .ref k1, .ref k2, .ref k3, .ref k4, .ref k5, .ref k6, .ref k7, .ref k8, .ref k9, .ref ka, .ref kb, .int cc])), (k0, .inr (9, [.ref k00, .ref k01, .ref k02, .ref k03, .ref k04, .ref k05, .int c06, .int c07, .int c08])), (k8, .inr (2, [.ref k80, .ref k81])), (ka, .inr (6, [.ref ka0, .ref ka1, .ref ka2])), (kb, .inl (cI, 6, .inl u.1)), (k01, .inl (cI, 40, .inl c01)), (k05, .inr (3, [.ref k050, .int c051])), (k80, .inl (cI, 40, .inl u.2.1)), (k81, .inl (cI, 40, .inl u.2.2)), (ka0, .inl (cI, 4, .inl ca0)), (ka1, .inl (cI, 4, .inl ca1)), (ka2, .inl (cI, 144, .inl ca2)), (k050, .inl (cI, 36, .inl c050))] t) (va_A [(k, .inr (10, [.ref k0, .ref k1, .ref k2, .ref k3, .ref k4, .ref k5, .ref k6, .ref k7, .ref k8, .ref k9, .ref ka, .ref kb, .int cc])), (k0, .inr (9, [.ref k00, .ref k01, .ref k02, .ref k03, .ref k04, .ref k05, .int c06, .int c07, .int c08])), (k8, .inr (2, [.ref k80, .ref k81])), (ka, .inr (6, [.ref ka0, .ref ka1, .ref ka2])), (kb, .inl (cI, 6, .inl cb)), (k01, .inl (cI, 40, .inl c01)), (k05, .inr (3, [.ref k050, .int c051])), (k80, .inl (cI, 40, .inl c80)), (k81, .inl (cI, 40, .inl c81)), (ka0, .inl (cI, 4, .inl ca0)), (ka1, .inl (cI, 4, .inl ca1)), (ka2, .inl (cI, 144, .inl ca2)), (k050, .inl (cI, 36, .inl c050))] sz)) 0 0 (va_A [(k, .inr (10, [.ref k0, .ref k1, .ref k2, .ref k3, .ref k4, .ref k5, .ref k6, .ref k7, .ref k8, .ref k9, .ref ka, .ref kb, .int cc])), (k0, .inr (9, [.ref k00, .ref k01, .ref k02, .ref k03, .ref k04, .ref k05, .int c06, .int c07, .int c08])), (k8, .inr (2, [.ref k80, .ref k81])), (ka, .inr (6, [.ref ka0, .ref ka1, .ref ka2])), (kb, .inl (cI, 6, .inl cb)), (k01, .inl (cI, 40, .inl c01)), (k05, .inr (3, [.ref k050, .int c051])), (k80, .inl (cI, 40, .inl c80)), (k81, .inl (cI, 40, .inl c81)), (ka0, .inl (cI, 4, .inl ca0)), (ka1, .inl (cI, 4, .inl ca1)), (ka2, .inl (cI, 144, .inl ca2)), (k050, .inl (cI, 36, .inl c050))] sz) := by
  refine kMetIX (own := RX10) (by decide) rfl (Nat.le_of_ble_eq_true rfl) ?_
  intro p e s m args below meth c hx hb hT hown hname hml A Q hK hP hD hS hA hN hXS hRet ls hl
  have hl : lv_has ls 7 [(0, .ref k), (1, .int a0), (2, .int a1), (3, .int a2), (4, .int a3)] := hl
  have lo_a0 := k_lo a0
  have hi_a0 := k_hi a0
  have lo_a1 := k_lo a1
  have hi_a1 := k_hi a1
  have lo_a2 := k_lo a2
  have hi_a2 := k_hi a2
  have lo_a3 := k_lo a3
  have hi_a3 := k_hi a3
  have lo_c06 := k_lo c06
  have hi_c06 := k_hi c06
  have lo_c07 := k_lo c07
  have hi_c07 := k_hi c07
  have lo_c08 := k_lo c08
  have hi_c08 := k_hi c08
  have lo_c051 := k_lo c051
  have hi_c051 := k_hi c051
  have lo_c049 := k_lo c049
  have hi_c049 := k_hi c049
  have hln : 0 ≤ a2.toInt → a2.toInt ≤ 3 → 0 ≤ (ca1 a2.toNatClampNeg).toInt ∧ (ca1 a2.toNatClampNeg).toInt ≤ 36 := fun z0 z1 => pre2 a2.toNatClampNeg (by rw [k_clamp]; omega)
  have pre0 : WR c00 c01 c02 c03 c040 c041 c042 c043 c044 c045 c046 c047 c048 c049 c050 c051 c06 c07 c08 gx := pre0
  have b_1 : 0 ≤ c049.toInt ∧ c049.toInt ≤ 60 := WKR.n0 (WR.kw pre0)
  have t_2 : c049.toInt = (gx 1).toInt := WKR.nt (WR.kw pre0)
  have b_3 : 0 ≤ c051.toInt ∧ c051.toInt ≤ 4 := ((WR.kp pre0)).2.1
  have t_4 : c051.toInt = (gx 2).toInt := PTR.nt (WR.kp pre0)
  have t_5 : c08.toInt = (gx 0).toInt := by rw [WR.dd pre0]
  have pre1 : SIX gx (-1) := pre1
  refine lv_aload_n hx hb dX10_meeting_0 rfl (lv_at hl 0 rfl) ?_
  refine lv_iload_n hx hb dX10_meeting_1 rfl (lv_at hl 1 rfl) ?_
  refine lv_iload_n hx hb dX10_meeting_2 rfl (lv_at hl 2 rfl) ?_
  refine kJi (wr := [(k8, .inr (2, [.ref k80, .ref k81])), (ka, .inr (6, [.ref ka0, .ref ka1, .ref ka2])), (kb, .inl (cI, 6, .inl cb)), (k01, .inl (cI, 40, .inl c01)), (k80, .inl (cI, 40, .inl c80)), (k81, .inl (cI, 40, .inl c81)), (ka0, .inl (cI, 4, .inl ca0)), (ka1, .inl (cI, 4, .inl ca1)), (ka2, .inl (cI, 144, .inl ca2)), (k050, .inl (cI, 36, .inl c050))]) (va_runV (As := [.int a0, .int a1]) (rest := []) ⟨hx, hb, hml, hown, hT⟩ (c_X10_arePartiesD l D cI aK aV k k0 k1 k2 k3 k4 k5 k6 k7 k8 k9 ka kb k00 k01 k02 k03 k04 k05 k050 s.heap.size cc c06 c07 c08 c051 c00 c01 c02 c03 c040 c041 c042 c043 c044 c045 c046 c047 c048 c049 c050 gx a0 a1 pre0) (cwV 2 hT (gV_in mw_923 mw_920 mw_922 mw_p2_13 mw_1) rfl rfl rfl (by decide +kernel) ⟨Nat.le_of_ble_eq_true rfl, Nat.le_of_ble_eq_true rfl⟩) (kRecvX (q0 := 0) (ci := 10) hK hP hD hN hXS hS hA rfl rfl [0, 1, 6] rfl (by decide)) rfl rfl hl.1 rfl (lv_room (Nat.le_of_ble_eq_true rfl)) dX10_meeting_3 ⟨Nat.le_of_ble_eq_true rfl, Nat.le_of_ble_eq_true rfl⟩) hP hD hS hA [0, 1, 6] [2, 3, 4, 5, 7, 8, 9, 10, 11, 12] rfl rfl (by decide) (by decide) ?_
  clear hP hD hS
  intro r_6 u_8 H locs w_7 hP hD hS
  replace hP : va_P D vwCl [(k8, .inr (2, [.ref k80, .ref k81])), (ka, .inr (6, [.ref ka0, .ref ka1, .ref ka2])), (kb, .inl (cI, 6, .inl cb)), (k01, .inl (cI, 40, .inl c01)), (k80, .inl (cI, 40, .inl c80)), (k81, .inl (cI, 40, .inl c81)), (ka0, .inl (cI, 4, .inl ca0)), (ka1, .inl (cI, 4, .inl ca1)), (ka2, .inl (cI, 144, .inl ca2)), (k050, .inl (cI, 36, .inl c050)), (k, .inr (10, [.ref k0, .ref k1, .ref k2, .ref k3, .ref k4, .ref k5, .ref k6, .ref k7, .ref k8, .ref k9, .ref ka, .ref kb, .int cc])), (k0, .inr (9, [.ref k00, .ref k01, .ref k02, .ref k03, .ref k04, .ref k05, .int c06, .int c07, .int c08])), (k05, .inr (3, [.ref k050, .int c051]))] H := hP
  replace hD : va_D A [(k8, .inr (2, [.ref k80, .ref k81])), (ka, .inr (6, [.ref ka0, .ref ka1, .ref ka2])), (kb, .inl (cI, 6, .inl cb)), (k01, .inl (cI, 40, .inl c01)), (k80, .inl (cI, 40, .inl c80)), (k81, .inl (cI, 40, .inl c81)), (ka0, .inl (cI, 4, .inl ca0)), (ka1, .inl (cI, 4, .inl ca1)), (ka2, .inl (cI, 144, .inl ca2)), (k050, .inl (cI, 36, .inl c050)), (k, .inr (10, [.ref k0, .ref k1, .ref k2, .ref k3, .ref k4, .ref k5, .ref k6, .ref k7, .ref k8, .ref k9, .ref ka, .ref kb, .int cc])), (k0, .inr (9, [.ref k00, .ref k01, .ref k02, .ref k03, .ref k04, .ref k05, .int c06, .int c07, .int c08])), (k05, .inr (3, [.ref k050, .int c051]))] := hD
  rcases w_7 with ⟨hr_6, h_9, h_10, h_11, h_12⟩ | ⟨hr_6, h_13⟩
  · have h_9 : 0 ≤ a0.toInt := h_9
    have h_10 : a0.toInt < (gx 2).toInt := h_10
    have h_11 : 0 ≤ a1.toInt := h_11
    have h_12 : a1.toInt < (gx 2).toInt := h_12
    obtain rfl : r_6 = 1 := hr_6.trans (by decide)
    refine b_if_eq hx hb zl_1 (tgt := 27) dX10_meeting_6 (by decide) (fun c_14 => by exfalso; omega) (fun c_14 => ?_)
    refine lv_iload_n hx hb dX10_meeting_9 rfl (lv_at hl 3 rfl) ?_
    refine kJi (wr := [(k8, .inr (2, [.ref k80, .ref k81])), (ka, .inr (6, [.ref ka0, .ref ka1, .ref ka2])), (kb, .inl (cI, 6, .inl cb)), (k01, .inl (cI, 40, .inl c01)), (k80, .inl (cI, 40, .inl c80)), (k81, .inl (cI, 40, .inl c81)), (ka0, .inl (cI, 4, .inl ca0)), (ka1, .inl (cI, 4, .inl ca1)), (ka2, .inl (cI, 144, .inl ca2)), (k050, .inl (cI, 36, .inl c050)), (k, .inr (10, [.ref k0, .ref k1, .ref k2, .ref k3, .ref k4, .ref k5, .ref k6, .ref k7, .ref k8, .ref k9, .ref ka, .ref kb, .int cc])), (k0, .inr (9, [.ref k00, .ref k01, .ref k02, .ref k03, .ref k04, .ref k05, .int c06, .int c07, .int c08])), (k05, .inr (3, [.ref k050, .int c051]))]) (va_runS (As := [.int a2]) (rest := []) ⟨hx, hb, hml, hown, hT⟩ (c_X10_isSheetG l D cI aK aV H.size a2) (cwS 1 hT (gS_in mw_662 mw_660 mw_661 mw_1) rfl rfl rfl (by decide +kernel) ⟨Nat.le_of_ble_eq_true rfl, Nat.le_of_ble_eq_true rfl⟩) (kStatX hK hP hD hN hXS hS hA [] rfl (by decide)) rfl rfl hl.1 rfl (lv_room (Nat.le_of_ble_eq_true rfl)) dX10_meeting_10 ⟨Nat.le_of_ble_eq_true rfl, Nat.le_of_ble_eq_true rfl⟩) hP hD hS hA [] [0, 1, 2, 3, 4, 5, 6, 7, 8, 9, 10, 11, 12] rfl rfl (by decide) (by decide) ?_
    clear hP hD hS
    intro r_15 u_17 H locs w_16 hP hD hS
    replace hP : va_P D vwCl [(k8, .inr (2, [.ref k80, .ref k81])), (ka, .inr (6, [.ref ka0, .ref ka1, .ref ka2])), (kb, .inl (cI, 6, .inl cb)), (k01, .inl (cI, 40, .inl c01)), (k80, .inl (cI, 40, .inl c80)), (k81, .inl (cI, 40, .inl c81)), (ka0, .inl (cI, 4, .inl ca0)), (ka1, .inl (cI, 4, .inl ca1)), (ka2, .inl (cI, 144, .inl ca2)), (k050, .inl (cI, 36, .inl c050)), (k, .inr (10, [.ref k0, .ref k1, .ref k2, .ref k3, .ref k4, .ref k5, .ref k6, .ref k7, .ref k8, .ref k9, .ref ka, .ref kb, .int cc])), (k0, .inr (9, [.ref k00, .ref k01, .ref k02, .ref k03, .ref k04, .ref k05, .int c06, .int c07, .int c08])), (k05, .inr (3, [.ref k050, .int c051]))] H := hP
    replace hD : va_D A [(k8, .inr (2, [.ref k80, .ref k81])), (ka, .inr (6, [.ref ka0, .ref ka1, .ref ka2])), (kb, .inl (cI, 6, .inl cb)), (k01, .inl (cI, 40, .inl c01)), (k80, .inl (cI, 40, .inl c80)), (k81, .inl (cI, 40, .inl c81)), (ka0, .inl (cI, 4, .inl ca0)), (ka1, .inl (cI, 4, .inl ca1)), (ka2, .inl (cI, 144, .inl ca2)), (k050, .inl (cI, 36, .inl c050)), (k, .inr (10, [.ref k0, .ref k1, .ref k2, .ref k3, .ref k4, .ref k5, .ref k6, .ref k7, .ref k8, .ref k9, .ref ka, .ref kb, .int cc])), (k0, .inr (9, [.ref k00, .ref k01, .ref k02, .ref k03, .ref k04, .ref k05, .int c06, .int c07, .int c08])), (k05, .inr (3, [.ref k050, .int c051]))] := hD
    rcases w_16 with ⟨hr_15, h_18, h_19⟩ | ⟨hr_15, h_20⟩
    · have h_18 : 0 ≤ a2.toInt := h_18
      have h_19 : a2.toInt ≤ 3 := h_19
      obtain rfl : r_15 = 1 := hr_15.trans (by decide)
      refine b_if_eq hx hb zl_1 (tgt := 27) dX10_meeting_13 (by decide) (fun c_21 => by exfalso; omega) (fun c_21 => ?_)
      refine lv_iload hx hb dX10_meeting_16 (lv_at hl 4 rfl) ?_
      refine b_if_lt hx hb rfl (tgt := 27) dX10_meeting_18 (by decide) (fun c_22 => ?_) (fun c_22 => ?_)
      · refine lv_aload_n hx hb dX10_meeting_27 rfl (lv_at hl 0 rfl) ?_
        refine lv_iconst (v := 1) hx hb dX10_meeting_28 (by decide) ?_
        refine kJi (wr := [(k8, .inr (2, [.ref k80, .ref k81])), (ka, .inr (6, [.ref ka0, .ref ka1, .ref ka2])), (k01, .inl (cI, 40, .inl c01)), (k80, .inl (cI, 40, .inl c80)), (k81, .inl (cI, 40, .inl c81)), (ka0, .inl (cI, 4, .inl ca0)), (ka1, .inl (cI, 4, .inl ca1)), (ka2, .inl (cI, 144, .inl ca2)), (k050, .inl (cI, 36, .inl c050)), (k0, .inr (9, [.ref k00, .ref k01, .ref k02, .ref k03, .ref k04, .ref k05, .int c06, .int c07, .int c08])), (k05, .inr (3, [.ref k050, .int c051]))]) (va_runV (As := [.int 1]) (rest := []) ⟨hx, hb, hml, hown, hT⟩ (c_X10_findingG l D cI aK aV k k0 k1 k2 k3 k4 k5 k6 k7 k8 k9 ka kb H.size cc cb 1) (cwV 1 hT (gV_in mw_338 mw_335 mw_337 mw_p1_0 mw_1) rfl rfl rfl (by decide +kernel) ⟨Nat.le_of_ble_eq_true rfl, Nat.le_of_ble_eq_true rfl⟩) (kRecvX (q0 := 10) (ci := 10) hK hP hD hN hXS hS hA rfl rfl [10, 2] rfl (by decide)) rfl rfl hl.1 rfl (lv_room (Nat.le_of_ble_eq_true rfl)) dX10_meeting_29 ⟨Nat.le_of_ble_eq_true rfl, Nat.le_of_ble_eq_true rfl⟩) hP hD hS hA [10, 2] [0, 1, 3, 4, 5, 6, 7, 8, 9, 11, 12] rfl rfl (by decide) (by decide) ?_
        clear hP hD hS
        intro r_23 scb_25 H locs w_24 hP hD hS
        replace hP : va_P D vwCl [(k8, .inr (2, [.ref k80, .ref k81])), (ka, .inr (6, [.ref ka0, .ref ka1, .ref ka2])), (k01, .inl (cI, 40, .inl c01)), (k80, .inl (cI, 40, .inl c80)), (k81, .inl (cI, 40, .inl c81)), (ka0, .inl (cI, 4, .inl ca0)), (ka1, .inl (cI, 4, .inl ca1)), (ka2, .inl (cI, 144, .inl ca2)), (k050, .inl (cI, 36, .inl c050)), (k0, .inr (9, [.ref k00, .ref k01, .ref k02, .ref k03, .ref k04, .ref k05, .int c06, .int c07, .int c08])), (k05, .inr (3, [.ref k050, .int c051])), (k, .inr (10, [.ref k0, .ref k1, .ref k2, .ref k3, .ref k4, .ref k5, .ref k6, .ref k7, .ref k8, .ref k9, .ref ka, .ref kb, .int cc])), (kb, .inl (cI, 6, .inl scb_25))] H := hP
        replace hD : va_D A [(k8, .inr (2, [.ref k80, .ref k81])), (ka, .inr (6, [.ref ka0, .ref ka1, .ref ka2])), (k01, .inl (cI, 40, .inl c01)), (k80, .inl (cI, 40, .inl c80)), (k81, .inl (cI, 40, .inl c81)), (ka0, .inl (cI, 4, .inl ca0)), (ka1, .inl (cI, 4, .inl ca1)), (ka2, .inl (cI, 144, .inl ca2)), (k050, .inl (cI, 36, .inl c050)), (k0, .inr (9, [.ref k00, .ref k01, .ref k02, .ref k03, .ref k04, .ref k05, .int c06, .int c07, .int c08])), (k05, .inr (3, [.ref k050, .int c051])), (k, .inr (10, [.ref k0, .ref k1, .ref k2, .ref k3, .ref k4, .ref k5, .ref k6, .ref k7, .ref k8, .ref k9, .ref ka, .ref kb, .int cc])), (kb, .inl (cI, 6, .inl scb_25))] := hD
        have hr_23 := w_24
        obtain rfl : r_23 = (-1000001) := hr_23.trans (by decide)
        exact hRet (scb_25, c80, c81) [11, 9, 0, 1, 12, 2, 10, 3, 4, 5, 6, 7, 8] (MTC.b (by omega)) hP hD (by decide) rfl hS rfl dX10_meeting_32
      · refine lv_iload hx hb dX10_meeting_21 (lv_at hl 4 rfl) ?_
        refine lv_iconst (v := 1) hx hb dX10_meeting_23 (by decide) ?_
        refine b_icmp_le hx hb rfl zl_1 (tgt := 33) dX10_meeting_24 (by decide) (fun c_26 => ?_) (fun c_26 => ?_)
        · refine lv_aload_n hx hb dX10_meeting_33 rfl (lv_at hl 0 rfl) ?_
          refine lv_iload_n hx hb dX10_meeting_34 rfl (lv_at hl 1 rfl) ?_
          refine lv_iload_n hx hb dX10_meeting_35 rfl (lv_at hl 2 rfl) ?_
          refine lv_iload_n hx hb dX10_meeting_36 rfl (lv_at hl 3 rfl) ?_
          refine kJi (wr := [(k8, .inr (2, [.ref k80, .ref k81])), (kb, .inl (cI, 6, .inl cb)), (k01, .inl (cI, 40, .inl c01)), (k80, .inl (cI, 40, .inl c80)), (k81, .inl (cI, 40, .inl c81))]) (va_runV (As := [.int a0, .int a1, .int a2]) (rest := []) ⟨hx, hb, hml, hown, hT⟩ (c_X10_whyNoMeetingD l D cI aK aV k k0 k1 k2 k3 k4 k5 k6 k7 k8 k9 ka kb k00 k01 k02 k03 k04 k05 ka0 ka1 ka2 k050 H.size cc c06 c07 c08 c051 ca0 ca1 ca2 c050 c00 c01 c02 c03 c040 c041 c042 c043 c044 c045 c046 c047 c048 c049 gx a0 a1 a2 pre0 pre1 (by first | omega | decide | assumption | rfl) (by first | omega | decide | assumption | rfl) (by first | omega | decide | assumption | rfl) (by first | omega | decide | assumption | rfl) (by first | omega | decide | assumption | rfl) (by first | omega | decide | assumption | rfl) (by first | omega | decide | assumption | rfl)) (cwV 3 hT (gV_in mw_927 mw_924 mw_926 mw_p2_14 mw_1) rfl rfl rfl (by decide +kernel) ⟨Nat.le_of_ble_eq_true rfl, Nat.le_of_ble_eq_true rfl⟩) (kRecvX (q0 := 10) (ci := 10) hK hP hD hN hXS hS hA rfl rfl [10, 11, 1, 12, 6, 7, 8, 9] rfl (by decide)) rfl rfl hl.1 rfl (lv_room (Nat.le_of_ble_eq_true rfl)) dX10_meeting_37 ⟨Nat.le_of_ble_eq_true rfl, Nat.le_of_ble_eq_true rfl⟩) hP hD hS hA [10, 11, 1, 12, 6, 7, 8, 9] [0, 2, 3, 4, 5] rfl rfl (by decide) (by decide) ?_
          clear hP hD hS
          intro r_27 u_29 H locs w_28 hP hD hS
          replace hP : va_P D vwCl [(k8, .inr (2, [.ref k80, .ref k81])), (kb, .inl (cI, 6, .inl cb)), (k01, .inl (cI, 40, .inl c01)), (k80, .inl (cI, 40, .inl c80)), (k81, .inl (cI, 40, .inl c81)), (k, .inr (10, [.ref k0, .ref k1, .ref k2, .ref k3, .ref k4, .ref k5, .ref k6, .ref k7, .ref k8, .ref k9, .ref ka, .ref kb, .int cc])), (k0, .inr (9, [.ref k00, .ref k01, .ref k02, .ref k03, .ref k04, .ref k05, .int c06, .int c07, .int c08])), (ka, .inr (6, [.ref ka0, .ref ka1, .ref ka2])), (k05, .inr (3, [.ref k050, .int c051])), (ka0, .inl (cI, 4, .inl ca0)), (ka1, .inl (cI, 4, .inl ca1)), (ka2, .inl (cI, 144, .inl ca2)), (k050, .inl (cI, 36, .inl c050))] H := hP
          replace hD : va_D A [(k8, .inr (2, [.ref k80, .ref k81])), (kb, .inl (cI, 6, .inl cb)), (k01, .inl (cI, 40, .inl c01)), (k80, .inl (cI, 40, .inl c80)), (k81, .inl (cI, 40, .inl c81)), (k, .inr (10, [.ref k0, .ref k1, .ref k2, .ref k3, .ref k4, .ref k5, .ref k6, .ref k7, .ref k8, .ref k9, .ref ka, .ref kb, .int cc])), (k0, .inr (9, [.ref k00, .ref k01, .ref k02, .ref k03, .ref k04, .ref k05, .int c06, .int c07, .int c08])), (ka, .inr (6, [.ref ka0, .ref ka1, .ref ka2])), (k05, .inr (3, [.ref k050, .int c051])), (ka0, .inl (cI, 4, .inl ca0)), (ka1, .inl (cI, 4, .inl ca1)), (ka2, .inl (cI, 144, .inl ca2)), (k050, .inl (cI, 36, .inl c050))] := hD
          rcases w_28 with ⟨hr_27, h_30⟩ | ⟨hr_27, h_31, h_32⟩ | ⟨hr_27, h_33, h_34, h_35⟩ | ⟨hr_27, h_36, h_37, h_38, h_39, h_40, h_41, h_42, h_43, h_44, h_45, h_46, h_47, h_48⟩
          · have h_30 : (ca0 a2.toNatClampNeg).toInt = 0 := h_30
            obtain rfl : r_27 = 2 := hr_27.trans (by decide)
            refine lv_istore (lv' := [(5, .int 2), (0, .ref k), (1, .int a0), (2, .int a1), (3, .int a2), (4, .int a3)]) hx hb dX10_meeting_40 hl (by decide) rfl ?_
            clear hl
            intro ls hl
            refine lv_iload hx hb dX10_meeting_42 (lv_at hl 0 rfl) ?_
            refine b_if_eq hx hb zl_2 (tgt := 54) dX10_meeting_44 (by decide) (fun c_49 => by exfalso; omega) (fun c_49 => ?_)
            refine lv_aload_n hx hb dX10_meeting_47 rfl (lv_at hl 1 rfl) ?_
            refine lv_iload hx hb dX10_meeting_48 (lv_at hl 0 rfl) ?_
            refine kJi (wr := [(k8, .inr (2, [.ref k80, .ref k81])), (k01, .inl (cI, 40, .inl c01)), (k80, .inl (cI, 40, .inl c80)), (k81, .inl (cI, 40, .inl c81)), (k0, .inr (9, [.ref k00, .ref k01, .ref k02, .ref k03, .ref k04, .ref k05, .int c06, .int c07, .int c08])), (ka, .inr (6, [.ref ka0, .ref ka1, .ref ka2])), (k05, .inr (3, [.ref k050, .int c051])), (ka0, .inl (cI, 4, .inl ca0)), (ka1, .inl (cI, 4, .inl ca1)), (ka2, .inl (cI, 144, .inl ca2)), (k050, .inl (cI, 36, .inl c050))]) (va_runV (As := [.int 2]) (rest := []) ⟨hx, hb, hml, hown, hT⟩ (c_X10_findingG l D cI aK aV k k0 k1 k2 k3 k4 k5 k6 k7 k8 k9 ka kb H.size cc cb 2) (cwV 1 hT (gV_in mw_338 mw_335 mw_337 mw_p1_0 mw_1) rfl rfl rfl (by decide +kernel) ⟨Nat.le_of_ble_eq_true rfl, Nat.le_of_ble_eq_true rfl⟩) (kRecvX (q0 := 5) (ci := 10) hK hP hD hN hXS hS hA rfl rfl [5, 1] rfl (by decide)) rfl rfl hl.1 rfl (lv_room (Nat.le_of_ble_eq_true rfl)) dX10_meeting_50 ⟨Nat.le_of_ble_eq_true rfl, Nat.le_of_ble_eq_true rfl⟩) hP hD hS hA [5, 1] [0, 2, 3, 4, 6, 7, 8, 9, 10, 11, 12] rfl rfl (by decide) (by decide) ?_
            clear hP hD hS
            intro r_50 scb_52 H locs w_51 hP hD hS
            replace hP : va_P D vwCl [(k8, .inr (2, [.ref k80, .ref k81])), (k01, .inl (cI, 40, .inl c01)), (k80, .inl (cI, 40, .inl c80)), (k81, .inl (cI, 40, .inl c81)), (k0, .inr (9, [.ref k00, .ref k01, .ref k02, .ref k03, .ref k04, .ref k05, .int c06, .int c07, .int c08])), (ka, .inr (6, [.ref ka0, .ref ka1, .ref ka2])), (k05, .inr (3, [.ref k050, .int c051])), (ka0, .inl (cI, 4, .inl ca0)), (ka1, .inl (cI, 4, .inl ca1)), (ka2, .inl (cI, 144, .inl ca2)), (k050, .inl (cI, 36, .inl c050)), (k, .inr (10, [.ref k0, .ref k1, .ref k2, .ref k3, .ref k4, .ref k5, .ref k6, .ref k7, .ref k8, .ref k9, .ref ka, .ref kb, .int cc])), (kb, .inl (cI, 6, .inl scb_52))] H := hP
            replace hD : va_D A [(k8, .inr (2, [.ref k80, .ref k81])), (k01, .inl (cI, 40, .inl c01)), (k80, .inl (cI, 40, .inl c80)), (k81, .inl (cI, 40, .inl c81)), (k0, .inr (9, [.ref k00, .ref k01, .ref k02, .ref k03, .ref k04, .ref k05, .int c06, .int c07, .int c08])), (ka, .inr (6, [.ref ka0, .ref ka1, .ref ka2])), (k05, .inr (3, [.ref k050, .int c051])), (ka0, .inl (cI, 4, .inl ca0)), (ka1, .inl (cI, 4, .inl ca1)), (ka2, .inl (cI, 144, .inl ca2)), (k050, .inl (cI, 36, .inl c050)), (k, .inr (10, [.ref k0, .ref k1, .ref k2, .ref k3, .ref k4, .ref k5, .ref k6, .ref k7, .ref k8, .ref k9, .ref ka, .ref kb, .int cc])), (kb, .inl (cI, 6, .inl scb_52))] := hD
            have hr_50 := w_51
            obtain rfl : r_50 = (-1000002) := hr_50.trans (by decide)
            exact hRet (scb_52, c80, c81) [11, 4, 0, 5, 12, 1, 6, 2, 3, 7, 8, 9, 10] (MTC.n (by omega) (by omega)) hP hD (by decide) rfl hS rfl dX10_meeting_53
          · have h_31 : (ca0 a2.toNatClampNeg).toInt ≠ 0 := h_31
            have h_32 : ¬ MTK ca1 ca2 a2 := h_32
            obtain rfl : r_27 = 5 := hr_27.trans (by decide)
            refine lv_istore (lv' := [(5, .int 5), (0, .ref k), (1, .int a0), (2, .int a1), (3, .int a2), (4, .int a3)]) hx hb dX10_meeting_40 hl (by decide) rfl ?_
            clear hl
            intro ls hl
            refine lv_iload hx hb dX10_meeting_42 (lv_at hl 0 rfl) ?_
            refine b_if_eq hx hb zl_5 (tgt := 54) dX10_meeting_44 (by decide) (fun c_53 => by exfalso; omega) (fun c_53 => ?_)
            refine lv_aload_n hx hb dX10_meeting_47 rfl (lv_at hl 1 rfl) ?_
            refine lv_iload hx hb dX10_meeting_48 (lv_at hl 0 rfl) ?_
            refine kJi (wr := [(k8, .inr (2, [.ref k80, .ref k81])), (k01, .inl (cI, 40, .inl c01)), (k80, .inl (cI, 40, .inl c80)), (k81, .inl (cI, 40, .inl c81)), (k0, .inr (9, [.ref k00, .ref k01, .ref k02, .ref k03, .ref k04, .ref k05, .int c06, .int c07, .int c08])), (ka, .inr (6, [.ref ka0, .ref ka1, .ref ka2])), (k05, .inr (3, [.ref k050, .int c051])), (ka0, .inl (cI, 4, .inl ca0)), (ka1, .inl (cI, 4, .inl ca1)), (ka2, .inl (cI, 144, .inl ca2)), (k050, .inl (cI, 36, .inl c050))]) (va_runV (As := [.int 5]) (rest := []) ⟨hx, hb, hml, hown, hT⟩ (c_X10_findingG l D cI aK aV k k0 k1 k2 k3 k4 k5 k6 k7 k8 k9 ka kb H.size cc cb 5) (cwV 1 hT (gV_in mw_338 mw_335 mw_337 mw_p1_0 mw_1) rfl rfl rfl (by decide +kernel) ⟨Nat.le_of_ble_eq_true rfl, Nat.le_of_ble_eq_true rfl⟩) (kRecvX (q0 := 5) (ci := 10) hK hP hD hN hXS hS hA rfl rfl [5, 1] rfl (by decide)) rfl rfl hl.1 rfl (lv_room (Nat.le_of_ble_eq_true rfl)) dX10_meeting_50 ⟨Nat.le_of_ble_eq_true rfl, Nat.le_of_ble_eq_true rfl⟩) hP hD hS hA [5, 1] [0, 2, 3, 4, 6, 7, 8, 9, 10, 11, 12] rfl rfl (by decide) (by decide) ?_
            clear hP hD hS
            intro r_54 scb_56 H locs w_55 hP hD hS
            replace hP : va_P D vwCl [(k8, .inr (2, [.ref k80, .ref k81])), (k01, .inl (cI, 40, .inl c01)), (k80, .inl (cI, 40, .inl c80)), (k81, .inl (cI, 40, .inl c81)), (k0, .inr (9, [.ref k00, .ref k01, .ref k02, .ref k03, .ref k04, .ref k05, .int c06, .int c07, .int c08])), (ka, .inr (6, [.ref ka0, .ref ka1, .ref ka2])), (k05, .inr (3, [.ref k050, .int c051])), (ka0, .inl (cI, 4, .inl ca0)), (ka1, .inl (cI, 4, .inl ca1)), (ka2, .inl (cI, 144, .inl ca2)), (k050, .inl (cI, 36, .inl c050)), (k, .inr (10, [.ref k0, .ref k1, .ref k2, .ref k3, .ref k4, .ref k5, .ref k6, .ref k7, .ref k8, .ref k9, .ref ka, .ref kb, .int cc])), (kb, .inl (cI, 6, .inl scb_56))] H := hP
            replace hD : va_D A [(k8, .inr (2, [.ref k80, .ref k81])), (k01, .inl (cI, 40, .inl c01)), (k80, .inl (cI, 40, .inl c80)), (k81, .inl (cI, 40, .inl c81)), (k0, .inr (9, [.ref k00, .ref k01, .ref k02, .ref k03, .ref k04, .ref k05, .int c06, .int c07, .int c08])), (ka, .inr (6, [.ref ka0, .ref ka1, .ref ka2])), (k05, .inr (3, [.ref k050, .int c051])), (ka0, .inl (cI, 4, .inl ca0)), (ka1, .inl (cI, 4, .inl ca1)), (ka2, .inl (cI, 144, .inl ca2)), (k050, .inl (cI, 36, .inl c050)), (k, .inr (10, [.ref k0, .ref k1, .ref k2, .ref k3, .ref k4, .ref k5, .ref k6, .ref k7, .ref k8, .ref k9, .ref ka, .ref kb, .int cc])), (kb, .inl (cI, 6, .inl scb_56))] := hD
            have hr_54 := w_55
            obtain rfl : r_54 = (-1000005) := hr_54.trans (by decide)
            exact hRet (scb_56, c80, c81) [11, 4, 0, 5, 12, 1, 6, 2, 3, 7, 8, 9, 10] (MTC.k (by omega) (by omega) h_32) hP hD (by decide) rfl hS rfl dX10_meeting_53
          · have h_33 : (ca0 a2.toNatClampNeg).toInt ≠ 0 := h_33
            have h_34 : MTK ca1 ca2 a2 := h_34
            have h_35 : (pW gx a0 8).toInt = 2 ∨ (pW gx a1 8).toInt = 2 ∨ (pW gx a0 1).toInt ≠ 1 ∨ (pW gx a1 1).toInt ≠ (-1) ∨ (pW gx a1 0).toInt ≤ (pW gx a0 0).toInt := h_35
            obtain rfl : r_27 = 3 := hr_27.trans (by decide)
            refine lv_istore (lv' := [(5, .int 3), (0, .ref k), (1, .int a0), (2, .int a1), (3, .int a2), (4, .int a3)]) hx hb dX10_meeting_40 hl (by decide) rfl ?_
            clear hl
            intro ls hl
            refine lv_iload hx hb dX10_meeting_42 (lv_at hl 0 rfl) ?_
            refine b_if_eq hx hb zl_3 (tgt := 54) dX10_meeting_44 (by decide) (fun c_57 => by exfalso; omega) (fun c_57 => ?_)
            refine lv_aload_n hx hb dX10_meeting_47 rfl (lv_at hl 1 rfl) ?_
            refine lv_iload hx hb dX10_meeting_48 (lv_at hl 0 rfl) ?_
            refine kJi (wr := [(k8, .inr (2, [.ref k80, .ref k81])), (k01, .inl (cI, 40, .inl c01)), (k80, .inl (cI, 40, .inl c80)), (k81, .inl (cI, 40, .inl c81)), (k0, .inr (9, [.ref k00, .ref k01, .ref k02, .ref k03, .ref k04, .ref k05, .int c06, .int c07, .int c08])), (ka, .inr (6, [.ref ka0, .ref ka1, .ref ka2])), (k05, .inr (3, [.ref k050, .int c051])), (ka0, .inl (cI, 4, .inl ca0)), (ka1, .inl (cI, 4, .inl ca1)), (ka2, .inl (cI, 144, .inl ca2)), (k050, .inl (cI, 36, .inl c050))]) (va_runV (As := [.int 3]) (rest := []) ⟨hx, hb, hml, hown, hT⟩ (c_X10_findingG l D cI aK aV k k0 k1 k2 k3 k4 k5 k6 k7 k8 k9 ka kb H.size cc cb 3) (cwV 1 hT (gV_in mw_338 mw_335 mw_337 mw_p1_0 mw_1) rfl rfl rfl (by decide +kernel) ⟨Nat.le_of_ble_eq_true rfl, Nat.le_of_ble_eq_true rfl⟩) (kRecvX (q0 := 5) (ci := 10) hK hP hD hN hXS hS hA rfl rfl [5, 1] rfl (by decide)) rfl rfl hl.1 rfl (lv_room (Nat.le_of_ble_eq_true rfl)) dX10_meeting_50 ⟨Nat.le_of_ble_eq_true rfl, Nat.le_of_ble_eq_true rfl⟩) hP hD hS hA [5, 1] [0, 2, 3, 4, 6, 7, 8, 9, 10, 11, 12] rfl rfl (by decide) (by decide) ?_
            clear hP hD hS
            intro r_58 scb_60 H locs w_59 hP hD hS
            replace hP : va_P D vwCl [(k8, .inr (2, [.ref k80, .ref k81])), (k01, .inl (cI, 40, .inl c01)), (k80, .inl (cI, 40, .inl c80)), (k81, .inl (cI, 40, .inl c81)), (k0, .inr (9, [.ref k00, .ref k01, .ref k02, .ref k03, .ref k04, .ref k05, .int c06, .int c07, .int c08])), (ka, .inr (6, [.ref ka0, .ref ka1, .ref ka2])), (k05, .inr (3, [.ref k050, .int c051])), (ka0, .inl (cI, 4, .inl ca0)), (ka1, .inl (cI, 4, .inl ca1)), (ka2, .inl (cI, 144, .inl ca2)), (k050, .inl (cI, 36, .inl c050)), (k, .inr (10, [.ref k0, .ref k1, .ref k2, .ref k3, .ref k4, .ref k5, .ref k6, .ref k7, .ref k8, .ref k9, .ref ka, .ref kb, .int cc])), (kb, .inl (cI, 6, .inl scb_60))] H := hP
            replace hD : va_D A [(k8, .inr (2, [.ref k80, .ref k81])), (k01, .inl (cI, 40, .inl c01)), (k80, .inl (cI, 40, .inl c80)), (k81, .inl (cI, 40, .inl c81)), (k0, .inr (9, [.ref k00, .ref k01, .ref k02, .ref k03, .ref k04, .ref k05, .int c06, .int c07, .int c08])), (ka, .inr (6, [.ref ka0, .ref ka1, .ref ka2])), (k05, .inr (3, [.ref k050, .int c051])), (ka0, .inl (cI, 4, .inl ca0)), (ka1, .inl (cI, 4, .inl ca1)), (ka2, .inl (cI, 144, .inl ca2)), (k050, .inl (cI, 36, .inl c050)), (k, .inr (10, [.ref k0, .ref k1, .ref k2, .ref k3, .ref k4, .ref k5, .ref k6, .ref k7, .ref k8, .ref k9, .ref ka, .ref kb, .int cc])), (kb, .inl (cI, 6, .inl scb_60))] := hD
            have hr_58 := w_59
            obtain rfl : r_58 = (-1000003) := hr_58.trans (by decide)
            exact hRet (scb_60, c80, c81) [11, 4, 0, 5, 12, 1, 6, 2, 3, 7, 8, 9, 10] (MTC.s (by omega) (by omega) h_34 (by omega)) hP hD (by decide) rfl hS rfl dX10_meeting_53
          · have h_36 : (ca0 a2.toNatClampNeg).toInt ≠ 0 := h_36
            have h_37 : MTK ca1 ca2 a2 := h_37
            have h_38 : (pW gx a0 8).toInt ≠ 2 := h_38
            have h_39 : (pW gx a1 8).toInt ≠ 2 := h_39
            have h_40 : (pW gx a0 1).toInt = 1 := h_40
            have h_41 : (pW gx a1 1).toInt = (-1) := h_41
            have h_42 : (pW gx a0 0).toInt < (pW gx a1 0).toInt := h_42
            have h_43 : 1 ≤ (pW gx a0 2).toInt := h_43
            have h_44 : 1 ≤ (pW gx a1 2).toInt := h_44
            have h_45 : (pW gx a0 2).toInt ≤ 50 := h_45
            have h_46 : (pW gx a1 2).toInt ≤ 50 := h_46
            have h_47 : 0 ≤ (pW gx a0 0).toInt := h_47
            have h_48 : (pW gx a1 0).toInt ≤ 39 := h_48
            obtain rfl : r_27 = 0 := hr_27.trans (by decide)
            refine lv_istore (lv' := [(5, .int 0), (0, .ref k), (1, .int a0), (2, .int a1), (3, .int a2), (4, .int a3)]) hx hb dX10_meeting_40 hl (by decide) rfl ?_
            clear hl
            intro ls hl
            refine lv_iload hx hb dX10_meeting_42 (lv_at hl 0 rfl) ?_
            refine b_if_eq hx hb zl_0 (tgt := 54) dX10_meeting_44 (by decide) (fun c_61 => ?_) (fun c_61 => by exfalso; omega)
            refine lv_aload_n hx hb dX10_meeting_54 rfl (lv_at hl 1 rfl) ?_
            refine va_get (D := D) (ci := 10) (v := .ref k8) (C := RX10) (T := TX10) (N := 13) hx hb hT giX10 hown hK hP 5 rfl rfl 8 (by decide) (hT (Cond.fieldLink RX10 56 "DesertWire" "meetings" "LDesertWire$Meetings;") mw_299) (fun _ h9 => h9) rfl dX10_meeting_55 ?_
            refine lv_aload_n hx hb dX10_meeting_58 rfl (lv_at hl 1 rfl) ?_
            refine va_get (D := D) (ci := 10) (v := .ref k0) (C := RX10) (T := TX10) (N := 13) hx hb hT giX10 hown hK hP 5 rfl rfl 0 (by decide) (hT (Cond.fieldLink RX10 12 "DesertWire" "now" "LDesertWire$World;") mw_291) (fun _ h9 => h9) rfl dX10_meeting_59 ?_
            refine lv_aload_n hx hb dX10_meeting_62 rfl (lv_at hl 1 rfl) ?_
            refine va_get (D := D) (ci := 10) (v := .ref ka) (C := RX10) (T := TX10) (N := 13) hx hb hT giX10 hown hK hP 5 rfl rfl 10 (by decide) (hT (Cond.fieldLink RX10 70 "DesertWire" "sheets" "LDesertWire$Sheets;") mw_301) (fun _ h9 => h9) rfl dX10_meeting_63 ?_
            refine lv_iload_n hx hb dX10_meeting_66 rfl (lv_at hl 4 rfl) ?_
            refine lv_iload_n hx hb dX10_meeting_67 rfl (lv_at hl 2 rfl) ?_
            refine lv_iload_n hx hb dX10_meeting_68 rfl (lv_at hl 3 rfl) ?_
            refine kJv (wr := [(kb, .inl (cI, 6, .inl cb)), (k, .inr (10, [.ref k0, .ref k1, .ref k2, .ref k3, .ref k4, .ref k5, .ref k6, .ref k7, .ref k8, .ref k9, .ref ka, .ref kb, .int cc])), (ka0, .inl (cI, 4, .inl ca0))]) (va_runV (As := [.ref k0, .ref ka, .int a2, .int a0, .int a1]) (rest := []) ⟨hx, hb, hml, hown, hT⟩ (c_X2_weighD l D cI aK aV k8 k0 ka k80 k81 k00 k01 k02 k03 k04 k05 k050 ka0 ka1 ka2 H.size c80 c81 c06 c07 c08 c01 c051 c050 ca1 ca2 c00 c02 c03 c040 c041 c042 c043 c044 c045 c046 c047 c048 c049 gx a2 a0 a1 pre0 (And.left pre1) (by first | omega | decide | assumption | rfl) (by first | omega | decide | assumption | rfl) (by first | omega | decide | assumption | rfl) (by first | omega | decide | assumption | rfl) (by first | omega | decide | assumption | rfl) (by first | omega | decide | assumption | rfl) (by first | omega | decide | assumption | rfl) (by first | omega | decide | assumption | rfl) (by first | omega | decide | assumption | rfl) (by first | omega | decide | assumption | rfl) (by first | omega | decide | assumption | rfl) (by first | omega | decide | assumption | rfl) (by first | omega | decide | assumption | rfl) h_37.2.2 (by first | omega | decide | assumption | rfl) (by first | omega | decide | assumption | rfl) h_37.1 h_37.2.1) (cwV 5 hT (gV_in mw_931 mw_928 mw_929 mw_930 mw_9) rfl rfl rfl (by decide +kernel) ⟨Nat.le_of_ble_eq_true rfl, Nat.le_of_ble_eq_true rfl⟩) (kRecvX (q0 := 0) (ci := 2) hK hP hD hN hXS hS hA rfl rfl [0, 3, 4, 6, 2, 8, 12, 7, 10, 11] rfl (by decide)) rfl rfl hl.1 rfl (lv_room (Nat.le_of_ble_eq_true rfl)) dX10_meeting_69 ⟨Nat.le_of_ble_eq_true rfl, Nat.le_of_ble_eq_true rfl⟩) hP hD hS hA [0, 3, 4, 6, 2, 8, 12, 7, 10, 11] [1, 5, 9] rfl rfl (by decide) (by decide) ?_
            clear hP hD hS
            intro u_66 H locs w_63 hP hD hS
            obtain ⟨sc0_64, sc1_65⟩ := u_66
            replace hP : va_P D vwCl [(kb, .inl (cI, 6, .inl cb)), (k, .inr (10, [.ref k0, .ref k1, .ref k2, .ref k3, .ref k4, .ref k5, .ref k6, .ref k7, .ref k8, .ref k9, .ref ka, .ref kb, .int cc])), (ka0, .inl (cI, 4, .inl ca0)), (k8, .inr (2, [.ref k80, .ref k81])), (k80, .inl (cI, 40, .inl sc0_64)), (k81, .inl (cI, 40, .inl sc1_65)), (k0, .inr (9, [.ref k00, .ref k01, .ref k02, .ref k03, .ref k04, .ref k05, .int c06, .int c07, .int c08])), (k01, .inl (cI, 40, .inl c01)), (k05, .inr (3, [.ref k050, .int c051])), (k050, .inl (cI, 36, .inl c050)), (ka, .inr (6, [.ref ka0, .ref ka1, .ref ka2])), (ka1, .inl (cI, 4, .inl ca1)), (ka2, .inl (cI, 144, .inl ca2))] H := hP
            replace hD : va_D A [(kb, .inl (cI, 6, .inl cb)), (k, .inr (10, [.ref k0, .ref k1, .ref k2, .ref k3, .ref k4, .ref k5, .ref k6, .ref k7, .ref k8, .ref k9, .ref ka, .ref kb, .int cc])), (ka0, .inl (cI, 4, .inl ca0)), (k8, .inr (2, [.ref k80, .ref k81])), (k80, .inl (cI, 40, .inl sc0_64)), (k81, .inl (cI, 40, .inl sc1_65)), (k0, .inr (9, [.ref k00, .ref k01, .ref k02, .ref k03, .ref k04, .ref k05, .int c06, .int c07, .int c08])), (k01, .inl (cI, 40, .inl c01)), (k05, .inr (3, [.ref k050, .int c051])), (k050, .inl (cI, 36, .inl c050)), (ka, .inr (6, [.ref ka0, .ref ka1, .ref ka2])), (ka1, .inl (cI, 4, .inl ca1)), (ka2, .inl (cI, 144, .inl ca2))] := hD
            have h_67 := w_63
            have h_67 : MWF gx ca1 ca2 a2 a0 a1 sc1_65 := h_67
            refine lv_aload_n hx hb dX10_meeting_72 rfl (lv_at hl 1 rfl) ?_
            refine va_get (D := D) (ci := 10) (v := .ref k8) (C := RX10) (T := TX10) (N := 13) hx hb hT giX10 hown hK hP 1 rfl rfl 8 (by decide) (hT (Cond.fieldLink RX10 56 "DesertWire" "meetings" "LDesertWire$Meetings;") mw_299) (fun _ h9 => h9) rfl dX10_meeting_73 ?_
            refine lv_aload_n hx hb dX10_meeting_76 rfl (lv_at hl 1 rfl) ?_
            refine va_get (D := D) (ci := 10) (v := .ref k0) (C := RX10) (T := TX10) (N := 13) hx hb hT giX10 hown hK hP 1 rfl rfl 0 (by decide) (hT (Cond.fieldLink RX10 12 "DesertWire" "now" "LDesertWire$World;") mw_291) (fun _ h9 => h9) rfl dX10_meeting_77 ?_
            refine va_get (D := D) (ci := 9) (v := .ref k05) (C := RX9) (T := TX9) (N := 9) hx hb hT giX9 hown hK hP 6 rfl rfl 5 (by decide) (hT (Cond.fieldLink RX10 193 "DesertWire$World" "parties" "LDesertWire$Parties;") mw_102) (fun _ h9 => h9) rfl dX10_meeting_80 ?_
            refine lv_iload_n hx hb dX10_meeting_83 rfl (lv_at hl 2 rfl) ?_
            refine lv_iconst (v := 0) hx hb dX10_meeting_84 (by decide) ?_
            refine kJi (wr := [(kb, .inl (cI, 6, .inl cb)), (k, .inr (10, [.ref k0, .ref k1, .ref k2, .ref k3, .ref k4, .ref k5, .ref k6, .ref k7, .ref k8, .ref k9, .ref ka, .ref kb, .int cc])), (ka0, .inl (cI, 4, .inl ca0)), (k8, .inr (2, [.ref k80, .ref k81])), (k80, .inl (cI, 40, .inl sc0_64)), (k81, .inl (cI, 40, .inl sc1_65)), (k0, .inr (9, [.ref k00, .ref k01, .ref k02, .ref k03, .ref k04, .ref k05, .int c06, .int c07, .int c08])), (k01, .inl (cI, 40, .inl c01)), (ka, .inr (6, [.ref ka0, .ref ka1, .ref ka2])), (ka1, .inl (cI, 4, .inl ca1)), (ka2, .inl (cI, 144, .inl ca2))]) (va_runV (As := [.int a0, .int 0]) (rest := [.ref k8]) ⟨hx, hb, hml, hown, hT⟩ (c_X3_getD0 l D cI aK aV k05 k050 H.size c051 c050 gx a0 0 (WR.kp pre0) (by first | omega | (simp only [zl_0]; first | done | omega) | decide | assumption | rfl) (by first | omega | (simp only [zl_0]; first | done | omega) | decide | assumption | rfl) (by first | omega | (simp only [zl_0]; first | done | omega) | decide | assumption | rfl)) (cwV 2 hT (gV_in mw_726 mw_723 mw_724 mw_725 mw_4) rfl rfl rfl (by decide +kernel) ⟨Nat.le_of_ble_eq_true rfl, Nat.le_of_ble_eq_true rfl⟩) (kRecvX (q0 := 8) (ci := 3) hK hP hD hN hXS hS hA rfl rfl [8, 9] rfl (by decide)) rfl rfl hl.1 rfl (lv_room (Nat.le_of_ble_eq_true rfl)) dX10_meeting_85 ⟨Nat.le_of_ble_eq_true rfl, Nat.le_of_ble_eq_true rfl⟩) hP hD hS hA [8, 9] [0, 1, 2, 3, 4, 5, 6, 7, 10, 11, 12] rfl rfl (by decide) (by decide) ?_
            clear hP hD hS
            intro r_68 u_70 H locs w_69 hP hD hS
            replace hP : va_P D vwCl [(kb, .inl (cI, 6, .inl cb)), (k, .inr (10, [.ref k0, .ref k1, .ref k2, .ref k3, .ref k4, .ref k5, .ref k6, .ref k7, .ref k8, .ref k9, .ref ka, .ref kb, .int cc])), (ka0, .inl (cI, 4, .inl ca0)), (k8, .inr (2, [.ref k80, .ref k81])), (k80, .inl (cI, 40, .inl sc0_64)), (k81, .inl (cI, 40, .inl sc1_65)), (k0, .inr (9, [.ref k00, .ref k01, .ref k02, .ref k03, .ref k04, .ref k05, .int c06, .int c07, .int c08])), (k01, .inl (cI, 40, .inl c01)), (ka, .inr (6, [.ref ka0, .ref ka1, .ref ka2])), (ka1, .inl (cI, 4, .inl ca1)), (ka2, .inl (cI, 144, .inl ca2)), (k05, .inr (3, [.ref k050, .int c051])), (k050, .inl (cI, 36, .inl c050))] H := hP
            replace hD : va_D A [(kb, .inl (cI, 6, .inl cb)), (k, .inr (10, [.ref k0, .ref k1, .ref k2, .ref k3, .ref k4, .ref k5, .ref k6, .ref k7, .ref k8, .ref k9, .ref ka, .ref kb, .int cc])), (ka0, .inl (cI, 4, .inl ca0)), (k8, .inr (2, [.ref k80, .ref k81])), (k80, .inl (cI, 40, .inl sc0_64)), (k81, .inl (cI, 40, .inl sc1_65)), (k0, .inr (9, [.ref k00, .ref k01, .ref k02, .ref k03, .ref k04, .ref k05, .int c06, .int c07, .int c08])), (k01, .inl (cI, 40, .inl c01)), (ka, .inr (6, [.ref ka0, .ref ka1, .ref ka2])), (ka1, .inl (cI, 4, .inl ca1)), (ka2, .inl (cI, 144, .inl ca2)), (k05, .inr (3, [.ref k050, .int c051])), (k050, .inl (cI, 36, .inl c050))] := hD
            have h_71 := w_69
            have h_71 : r_68 = pW gx a0 0 := h_71
            have t_72 : r_68.toInt = (pW gx a0 0).toInt := by rw [h_71]
            have b_73 : 0 ≤ r_68.toInt ∧ r_68.toInt ≤ 39 := by rw [h_71]; exact SB.p0 (And.left pre1) (by omega) (by omega)
            have lo_r_68 := k_lo r_68
            have hi_r_68 := k_hi r_68
            refine lv_aload_n hx hb dX10_meeting_88 rfl (lv_at hl 1 rfl) ?_
            refine va_get (D := D) (ci := 10) (v := .ref k0) (C := RX10) (T := TX10) (N := 13) hx hb hT giX10 hown hK hP 1 rfl rfl 0 (by decide) (hT (Cond.fieldLink RX10 12 "DesertWire" "now" "LDesertWire$World;") mw_291) (fun _ h9 => h9) rfl dX10_meeting_89 ?_
            refine va_get (D := D) (ci := 9) (v := .ref k05) (C := RX9) (T := TX9) (N := 9) hx hb hT giX9 hown hK hP 6 rfl rfl 5 (by decide) (hT (Cond.fieldLink RX10 193 "DesertWire$World" "parties" "LDesertWire$Parties;") mw_102) (fun _ h9 => h9) rfl dX10_meeting_92 ?_
            refine lv_iload_n hx hb dX10_meeting_95 rfl (lv_at hl 3 rfl) ?_
            refine lv_iconst (v := 0) hx hb dX10_meeting_96 (by decide) ?_
            refine kJi (wr := [(kb, .inl (cI, 6, .inl cb)), (k, .inr (10, [.ref k0, .ref k1, .ref k2, .ref k3, .ref k4, .ref k5, .ref k6, .ref k7, .ref k8, .ref k9, .ref ka, .ref kb, .int cc])), (ka0, .inl (cI, 4, .inl ca0)), (k8, .inr (2, [.ref k80, .ref k81])), (k80, .inl (cI, 40, .inl sc0_64)), (k81, .inl (cI, 40, .inl sc1_65)), (k0, .inr (9, [.ref k00, .ref k01, .ref k02, .ref k03, .ref k04, .ref k05, .int c06, .int c07, .int c08])), (k01, .inl (cI, 40, .inl c01)), (ka, .inr (6, [.ref ka0, .ref ka1, .ref ka2])), (ka1, .inl (cI, 4, .inl ca1)), (ka2, .inl (cI, 144, .inl ca2))]) (va_runV (As := [.int a1, .int 0]) (rest := [.int r_68, .ref k8]) ⟨hx, hb, hml, hown, hT⟩ (c_X3_getD0 l D cI aK aV k05 k050 H.size c051 c050 gx a1 0 (WR.kp pre0) (by first | omega | (simp only [zl_0]; first | done | omega) | decide | assumption | rfl) (by first | omega | (simp only [zl_0]; first | done | omega) | decide | assumption | rfl) (by first | omega | (simp only [zl_0]; first | done | omega) | decide | assumption | rfl)) (cwV 2 hT (gV_in mw_726 mw_723 mw_724 mw_725 mw_4) rfl rfl rfl (by decide +kernel) ⟨Nat.le_of_ble_eq_true rfl, Nat.le_of_ble_eq_true rfl⟩) (kRecvX (q0 := 11) (ci := 3) hK hP hD hN hXS hS hA rfl rfl [11, 12] rfl (by decide)) rfl rfl hl.1 rfl (lv_room (Nat.le_of_ble_eq_true rfl)) dX10_meeting_97 ⟨Nat.le_of_ble_eq_true rfl, Nat.le_of_ble_eq_true rfl⟩) hP hD hS hA [11, 12] [0, 1, 2, 3, 4, 5, 6, 7, 8, 9, 10] rfl rfl (by decide) (by decide) ?_
            clear hP hD hS
            intro r_74 u_76 H locs w_75 hP hD hS
            replace hP : va_P D vwCl [(kb, .inl (cI, 6, .inl cb)), (k, .inr (10, [.ref k0, .ref k1, .ref k2, .ref k3, .ref k4, .ref k5, .ref k6, .ref k7, .ref k8, .ref k9, .ref ka, .ref kb, .int cc])), (ka0, .inl (cI, 4, .inl ca0)), (k8, .inr (2, [.ref k80, .ref k81])), (k80, .inl (cI, 40, .inl sc0_64)), (k81, .inl (cI, 40, .inl sc1_65)), (k0, .inr (9, [.ref k00, .ref k01, .ref k02, .ref k03, .ref k04, .ref k05, .int c06, .int c07, .int c08])), (k01, .inl (cI, 40, .inl c01)), (ka, .inr (6, [.ref ka0, .ref ka1, .ref ka2])), (ka1, .inl (cI, 4, .inl ca1)), (ka2, .inl (cI, 144, .inl ca2)), (k05, .inr (3, [.ref k050, .int c051])), (k050, .inl (cI, 36, .inl c050))] H := hP
            replace hD : va_D A [(kb, .inl (cI, 6, .inl cb)), (k, .inr (10, [.ref k0, .ref k1, .ref k2, .ref k3, .ref k4, .ref k5, .ref k6, .ref k7, .ref k8, .ref k9, .ref ka, .ref kb, .int cc])), (ka0, .inl (cI, 4, .inl ca0)), (k8, .inr (2, [.ref k80, .ref k81])), (k80, .inl (cI, 40, .inl sc0_64)), (k81, .inl (cI, 40, .inl sc1_65)), (k0, .inr (9, [.ref k00, .ref k01, .ref k02, .ref k03, .ref k04, .ref k05, .int c06, .int c07, .int c08])), (k01, .inl (cI, 40, .inl c01)), (ka, .inr (6, [.ref ka0, .ref ka1, .ref ka2])), (ka1, .inl (cI, 4, .inl ca1)), (ka2, .inl (cI, 144, .inl ca2)), (k05, .inr (3, [.ref k050, .int c051])), (k050, .inl (cI, 36, .inl c050))] := hD
            have h_77 := w_75
            have h_77 : r_74 = pW gx a1 0 := h_77
            have t_78 : r_74.toInt = (pW gx a1 0).toInt := by rw [h_77]
            have b_79 : 0 ≤ r_74.toInt ∧ r_74.toInt ≤ 39 := by rw [h_77]; exact SB.p0 (And.left pre1) (by omega) (by omega)
            have lo_r_74 := k_lo r_74
            have hi_r_74 := k_hi r_74
            refine kJi (wr := [(kb, .inl (cI, 6, .inl cb)), (k, .inr (10, [.ref k0, .ref k1, .ref k2, .ref k3, .ref k4, .ref k5, .ref k6, .ref k7, .ref k8, .ref k9, .ref ka, .ref kb, .int cc])), (ka0, .inl (cI, 4, .inl ca0)), (k80, .inl (cI, 40, .inl sc0_64)), (k0, .inr (9, [.ref k00, .ref k01, .ref k02, .ref k03, .ref k04, .ref k05, .int c06, .int c07, .int c08])), (k01, .inl (cI, 40, .inl c01)), (ka, .inr (6, [.ref ka0, .ref ka1, .ref ka2])), (ka1, .inl (cI, 4, .inl ca1)), (ka2, .inl (cI, 144, .inl ca2)), (k05, .inr (3, [.ref k050, .int c051])), (k050, .inl (cI, 36, .inl c050))]) (va_runV (As := [.int r_68, .int r_74]) (rest := []) ⟨hx, hb, hml, hown, hT⟩ (c_X2_bestD l D cI aK aV k8 k80 k81 H.size sc1_65 r_68 r_74 (by first | omega | decide | assumption | rfl) (by first | omega | decide | assumption | rfl) (by first | omega | decide | assumption | rfl)) (cwV 2 hT (gV_in mw_950 mw_947 mw_948 mw_949 mw_9) rfl rfl rfl (by decide +kernel) ⟨Nat.le_of_ble_eq_true rfl, Nat.le_of_ble_eq_true rfl⟩) (kRecvX (q0 := 3) (ci := 2) hK hP hD hN hXS hS hA rfl rfl [3, 5] rfl (by decide)) rfl rfl hl.1 rfl (lv_room (Nat.le_of_ble_eq_true rfl)) dX10_meeting_100 ⟨Nat.le_of_ble_eq_true rfl, Nat.le_of_ble_eq_true rfl⟩) hP hD hS hA [3, 5] [0, 1, 2, 4, 6, 7, 8, 9, 10, 11, 12] rfl rfl (by decide) (by decide) ?_
            clear hP hD hS
            intro r_80 u_82 H locs w_81 hP hD hS
            replace hP : va_P D vwCl [(kb, .inl (cI, 6, .inl cb)), (k, .inr (10, [.ref k0, .ref k1, .ref k2, .ref k3, .ref k4, .ref k5, .ref k6, .ref k7, .ref k8, .ref k9, .ref ka, .ref kb, .int cc])), (ka0, .inl (cI, 4, .inl ca0)), (k80, .inl (cI, 40, .inl sc0_64)), (k0, .inr (9, [.ref k00, .ref k01, .ref k02, .ref k03, .ref k04, .ref k05, .int c06, .int c07, .int c08])), (k01, .inl (cI, 40, .inl c01)), (ka, .inr (6, [.ref ka0, .ref ka1, .ref ka2])), (ka1, .inl (cI, 4, .inl ca1)), (ka2, .inl (cI, 144, .inl ca2)), (k05, .inr (3, [.ref k050, .int c051])), (k050, .inl (cI, 36, .inl c050)), (k8, .inr (2, [.ref k80, .ref k81])), (k81, .inl (cI, 40, .inl sc1_65))] H := hP
            replace hD : va_D A [(kb, .inl (cI, 6, .inl cb)), (k, .inr (10, [.ref k0, .ref k1, .ref k2, .ref k3, .ref k4, .ref k5, .ref k6, .ref k7, .ref k8, .ref k9, .ref ka, .ref kb, .int cc])), (ka0, .inl (cI, 4, .inl ca0)), (k80, .inl (cI, 40, .inl sc0_64)), (k0, .inr (9, [.ref k00, .ref k01, .ref k02, .ref k03, .ref k04, .ref k05, .int c06, .int c07, .int c08])), (k01, .inl (cI, 40, .inl c01)), (ka, .inr (6, [.ref ka0, .ref ka1, .ref ka2])), (ka1, .inl (cI, 4, .inl ca1)), (ka2, .inl (cI, 144, .inl ca2)), (k05, .inr (3, [.ref k050, .int c051])), (k050, .inl (cI, 36, .inl c050)), (k8, .inr (2, [.ref k80, .ref k81])), (k81, .inl (cI, 40, .inl sc1_65))] := hD
            obtain ⟨h_83, h_84, h_85⟩ := w_81
            have h_83 : BSC sc1_65 r_68 r_74 r_80 := h_83
            have h_84 : r_68.toInt ≤ r_80.toInt := h_84
            have h_85 : r_80.toInt < r_74.toInt := h_85
            have lo_r_80 := k_lo r_80
            have hi_r_80 := k_hi r_80
            refine lv_istore (lv' := [(6, .int r_80), (5, .int 0), (0, .ref k), (1, .int a0), (2, .int a1), (3, .int a2), (4, .int a3)]) hx hb dX10_meeting_103 hl (by decide) rfl ?_
            clear hl
            intro ls hl
            refine lv_iload hx hb dX10_meeting_105 (lv_at hl 6 rfl) ?_
            refine b_if_ne hx hb rfl (tgt := 115) dX10_meeting_107 (by decide) (fun c_86 => ?_) (fun c_86 => ?_)
            · refine lv_aload_n hx hb dX10_meeting_115 rfl (lv_at hl 2 rfl) ?_
              refine va_get (D := D) (ci := 10) (v := .ref k8) (C := RX10) (T := TX10) (N := 13) hx hb hT giX10 hown hK hP 1 rfl rfl 8 (by decide) (hT (Cond.fieldLink RX10 56 "DesertWire" "meetings" "LDesertWire$Meetings;") mw_299) (fun _ h9 => h9) rfl dX10_meeting_116 ?_
              refine lv_iload hx hb dX10_meeting_119 (lv_at hl 0 rfl) ?_
              refine kJi (wr := [(kb, .inl (cI, 6, .inl cb)), (k, .inr (10, [.ref k0, .ref k1, .ref k2, .ref k3, .ref k4, .ref k5, .ref k6, .ref k7, .ref k8, .ref k9, .ref ka, .ref kb, .int cc])), (ka0, .inl (cI, 4, .inl ca0)), (k80, .inl (cI, 40, .inl sc0_64)), (k0, .inr (9, [.ref k00, .ref k01, .ref k02, .ref k03, .ref k04, .ref k05, .int c06, .int c07, .int c08])), (k01, .inl (cI, 40, .inl c01)), (ka, .inr (6, [.ref ka0, .ref ka1, .ref ka2])), (ka1, .inl (cI, 4, .inl ca1)), (ka2, .inl (cI, 144, .inl ca2)), (k05, .inr (3, [.ref k050, .int c051])), (k050, .inl (cI, 36, .inl c050))]) (va_runV (As := [.int r_80]) (rest := []) ⟨hx, hb, hml, hown, hT⟩ (c_X2_worstAtD l D cI aK aV k8 k80 k81 H.size sc1_65 r_80) (cwV 1 hT (gV_in mw_954 mw_955 mw_952 mw_953 mw_9) rfl rfl rfl (by decide +kernel) ⟨Nat.le_of_ble_eq_true rfl, Nat.le_of_ble_eq_true rfl⟩) (kRecvX (q0 := 11) (ci := 2) hK hP hD hN hXS hS hA rfl rfl [11, 12] rfl (by decide)) rfl rfl hl.1 rfl (lv_room (Nat.le_of_ble_eq_true rfl)) dX10_meeting_121 ⟨Nat.le_of_ble_eq_true rfl, Nat.le_of_ble_eq_true rfl⟩) hP hD hS hA [11, 12] [0, 1, 2, 3, 4, 5, 6, 7, 8, 9, 10] rfl rfl (by decide) (by decide) ?_
              clear hP hD hS
              intro r_87 u_89 H locs w_88 hP hD hS
              replace hP : va_P D vwCl [(kb, .inl (cI, 6, .inl cb)), (k, .inr (10, [.ref k0, .ref k1, .ref k2, .ref k3, .ref k4, .ref k5, .ref k6, .ref k7, .ref k8, .ref k9, .ref ka, .ref kb, .int cc])), (ka0, .inl (cI, 4, .inl ca0)), (k80, .inl (cI, 40, .inl sc0_64)), (k0, .inr (9, [.ref k00, .ref k01, .ref k02, .ref k03, .ref k04, .ref k05, .int c06, .int c07, .int c08])), (k01, .inl (cI, 40, .inl c01)), (ka, .inr (6, [.ref ka0, .ref ka1, .ref ka2])), (ka1, .inl (cI, 4, .inl ca1)), (ka2, .inl (cI, 144, .inl ca2)), (k05, .inr (3, [.ref k050, .int c051])), (k050, .inl (cI, 36, .inl c050)), (k8, .inr (2, [.ref k80, .ref k81])), (k81, .inl (cI, 40, .inl sc1_65))] H := hP
              replace hD : va_D A [(kb, .inl (cI, 6, .inl cb)), (k, .inr (10, [.ref k0, .ref k1, .ref k2, .ref k3, .ref k4, .ref k5, .ref k6, .ref k7, .ref k8, .ref k9, .ref ka, .ref kb, .int cc])), (ka0, .inl (cI, 4, .inl ca0)), (k80, .inl (cI, 40, .inl sc0_64)), (k0, .inr (9, [.ref k00, .ref k01, .ref k02, .ref k03, .ref k04, .ref k05, .int c06, .int c07, .int c08])), (k01, .inl (cI, 40, .inl c01)), (ka, .inr (6, [.ref ka0, .ref ka1, .ref ka2])), (ka1, .inl (cI, 4, .inl ca1)), (ka2, .inl (cI, 144, .inl ca2)), (k05, .inr (3, [.ref k050, .int c051])), (k050, .inl (cI, 36, .inl c050)), (k8, .inr (2, [.ref k80, .ref k81])), (k81, .inl (cI, 40, .inl sc1_65))] := hD
              rcases w_88 with ⟨h_90, h_91, h_92⟩ | ⟨hr_87, h_93⟩
              · have h_90 : 0 ≤ r_80.toInt := h_90
                have h_91 : r_80.toInt ≤ 39 := h_91
                have h_92 : r_87 = sc1_65 r_80.toNatClampNeg := h_92
                have t_94 : r_87.toInt = (sc1_65 r_80.toNatClampNeg).toInt := by rw [h_92]
                have lo_r_87 := k_lo r_87
                have hi_r_87 := k_hi r_87
                exact hRet (cb, sc0_64, sc1_65) [1, 4, 11, 6, 0, 5, 9, 3, 12, 2, 7, 8, 10] (MTC.v (by omega) (by omega) h_37 (by omega) (met_1 (p := r_80.toInt) (by omega) (BSC.bs h_83 h_67 (by omega) (by omega) (by omega)).1 (h_92.trans (h_67 r_80.toInt (by omega) (by omega))))) hP hD (by decide) rfl hS rfl dX10_meeting_124
              · exfalso; omega
            · refine lv_iload hx hb dX10_meeting_110 (lv_at hl 0 rfl) ?_
              refine lv_goto (tgt := 124) hx hb dX10_meeting_112 (by decide) ?_
              exact hRet (cb, sc0_64, sc1_65) [1, 4, 11, 6, 0, 5, 9, 3, 12, 2, 7, 8, 10] (MTC.v (by omega) (by omega) h_37 (by omega) (met_0 (by omega) (BSC.bs h_83 h_67 (by omega) (by omega) (by omega)).1)) hP hD (by decide) rfl hS rfl dX10_meeting_124
        · refine lv_aload_n hx hb dX10_meeting_27 rfl (lv_at hl 0 rfl) ?_
          refine lv_iconst (v := 1) hx hb dX10_meeting_28 (by decide) ?_
          refine kJi (wr := [(k8, .inr (2, [.ref k80, .ref k81])), (ka, .inr (6, [.ref ka0, .ref ka1, .ref ka2])), (k01, .inl (cI, 40, .inl c01)), (k80, .inl (cI, 40, .inl c80)), (k81, .inl (cI, 40, .inl c81)), (ka0, .inl (cI, 4, .inl ca0)), (ka1, .inl (cI, 4, .inl ca1)), (ka2, .inl (cI, 144, .inl ca2)), (k050, .inl (cI, 36, .inl c050)), (k0, .inr (9, [.ref k00, .ref k01, .ref k02, .ref k03, .ref k04, .ref k05, .int c06, .int c07, .int c08])), (k05, .inr (3, [.ref k050, .int c051]))]) (va_runV (As := [.int 1]) (rest := []) ⟨hx, hb, hml, hown, hT⟩ (c_X10_findingG l D cI aK aV k k0 k1 k2 k3 k4 k5 k6 k7 k8 k9 ka kb H.size cc cb 1) (cwV 1 hT (gV_in mw_338 mw_335 mw_337 mw_p1_0 mw_1) rfl rfl rfl (by decide +kernel) ⟨Nat.le_of_ble_eq_true rfl, Nat.le_of_ble_eq_true rfl⟩) (kRecvX (q0 := 10) (ci := 10) hK hP hD hN hXS hS hA rfl rfl [10, 2] rfl (by decide)) rfl rfl hl.1 rfl (lv_room (Nat.le_of_ble_eq_true rfl)) dX10_meeting_29 ⟨Nat.le_of_ble_eq_true rfl, Nat.le_of_ble_eq_true rfl⟩) hP hD hS hA [10, 2] [0, 1, 3, 4, 5, 6, 7, 8, 9, 11, 12] rfl rfl (by decide) (by decide) ?_
          clear hP hD hS
          intro r_95 scb_97 H locs w_96 hP hD hS
          replace hP : va_P D vwCl [(k8, .inr (2, [.ref k80, .ref k81])), (ka, .inr (6, [.ref ka0, .ref ka1, .ref ka2])), (k01, .inl (cI, 40, .inl c01)), (k80, .inl (cI, 40, .inl c80)), (k81, .inl (cI, 40, .inl c81)), (ka0, .inl (cI, 4, .inl ca0)), (ka1, .inl (cI, 4, .inl ca1)), (ka2, .inl (cI, 144, .inl ca2)), (k050, .inl (cI, 36, .inl c050)), (k0, .inr (9, [.ref k00, .ref k01, .ref k02, .ref k03, .ref k04, .ref k05, .int c06, .int c07, .int c08])), (k05, .inr (3, [.ref k050, .int c051])), (k, .inr (10, [.ref k0, .ref k1, .ref k2, .ref k3, .ref k4, .ref k5, .ref k6, .ref k7, .ref k8, .ref k9, .ref ka, .ref kb, .int cc])), (kb, .inl (cI, 6, .inl scb_97))] H := hP
          replace hD : va_D A [(k8, .inr (2, [.ref k80, .ref k81])), (ka, .inr (6, [.ref ka0, .ref ka1, .ref ka2])), (k01, .inl (cI, 40, .inl c01)), (k80, .inl (cI, 40, .inl c80)), (k81, .inl (cI, 40, .inl c81)), (ka0, .inl (cI, 4, .inl ca0)), (ka1, .inl (cI, 4, .inl ca1)), (ka2, .inl (cI, 144, .inl ca2)), (k050, .inl (cI, 36, .inl c050)), (k0, .inr (9, [.ref k00, .ref k01, .ref k02, .ref k03, .ref k04, .ref k05, .int c06, .int c07, .int c08])), (k05, .inr (3, [.ref k050, .int c051])), (k, .inr (10, [.ref k0, .ref k1, .ref k2, .ref k3, .ref k4, .ref k5, .ref k6, .ref k7, .ref k8, .ref k9, .ref ka, .ref kb, .int cc])), (kb, .inl (cI, 6, .inl scb_97))] := hD
          have hr_95 := w_96
          obtain rfl : r_95 = (-1000001) := hr_95.trans (by decide)
          exact hRet (scb_97, c80, c81) [11, 9, 0, 1, 12, 2, 10, 3, 4, 5, 6, 7, 8] (MTC.b (by omega)) hP hD (by decide) rfl hS rfl dX10_meeting_32
    · have h_20 : a2.toInt < 0 ∨ 3 < a2.toInt := h_20
      obtain rfl : r_15 = 0 := hr_15.trans (by decide)
      refine b_if_eq hx hb zl_0 (tgt := 27) dX10_meeting_13 (by decide) (fun c_98 => ?_) (fun c_98 => by exfalso; omega)
      refine lv_aload_n hx hb dX10_meeting_27 rfl (lv_at hl 0 rfl) ?_
      refine lv_iconst (v := 1) hx hb dX10_meeting_28 (by decide) ?_
      refine kJi (wr := [(k8, .inr (2, [.ref k80, .ref k81])), (ka, .inr (6, [.ref ka0, .ref ka1, .ref ka2])), (k01, .inl (cI, 40, .inl c01)), (k80, .inl (cI, 40, .inl c80)), (k81, .inl (cI, 40, .inl c81)), (ka0, .inl (cI, 4, .inl ca0)), (ka1, .inl (cI, 4, .inl ca1)), (ka2, .inl (cI, 144, .inl ca2)), (k050, .inl (cI, 36, .inl c050)), (k0, .inr (9, [.ref k00, .ref k01, .ref k02, .ref k03, .ref k04, .ref k05, .int c06, .int c07, .int c08])), (k05, .inr (3, [.ref k050, .int c051]))]) (va_runV (As := [.int 1]) (rest := []) ⟨hx, hb, hml, hown, hT⟩ (c_X10_findingG l D cI aK aV k k0 k1 k2 k3 k4 k5 k6 k7 k8 k9 ka kb H.size cc cb 1) (cwV 1 hT (gV_in mw_338 mw_335 mw_337 mw_p1_0 mw_1) rfl rfl rfl (by decide +kernel) ⟨Nat.le_of_ble_eq_true rfl, Nat.le_of_ble_eq_true rfl⟩) (kRecvX (q0 := 10) (ci := 10) hK hP hD hN hXS hS hA rfl rfl [10, 2] rfl (by decide)) rfl rfl hl.1 rfl (lv_room (Nat.le_of_ble_eq_true rfl)) dX10_meeting_29 ⟨Nat.le_of_ble_eq_true rfl, Nat.le_of_ble_eq_true rfl⟩) hP hD hS hA [10, 2] [0, 1, 3, 4, 5, 6, 7, 8, 9, 11, 12] rfl rfl (by decide) (by decide) ?_
      clear hP hD hS
      intro r_99 scb_101 H locs w_100 hP hD hS
      replace hP : va_P D vwCl [(k8, .inr (2, [.ref k80, .ref k81])), (ka, .inr (6, [.ref ka0, .ref ka1, .ref ka2])), (k01, .inl (cI, 40, .inl c01)), (k80, .inl (cI, 40, .inl c80)), (k81, .inl (cI, 40, .inl c81)), (ka0, .inl (cI, 4, .inl ca0)), (ka1, .inl (cI, 4, .inl ca1)), (ka2, .inl (cI, 144, .inl ca2)), (k050, .inl (cI, 36, .inl c050)), (k0, .inr (9, [.ref k00, .ref k01, .ref k02, .ref k03, .ref k04, .ref k05, .int c06, .int c07, .int c08])), (k05, .inr (3, [.ref k050, .int c051])), (k, .inr (10, [.ref k0, .ref k1, .ref k2, .ref k3, .ref k4, .ref k5, .ref k6, .ref k7, .ref k8, .ref k9, .ref ka, .ref kb, .int cc])), (kb, .inl (cI, 6, .inl scb_101))] H := hP
      replace hD : va_D A [(k8, .inr (2, [.ref k80, .ref k81])), (ka, .inr (6, [.ref ka0, .ref ka1, .ref ka2])), (k01, .inl (cI, 40, .inl c01)), (k80, .inl (cI, 40, .inl c80)), (k81, .inl (cI, 40, .inl c81)), (ka0, .inl (cI, 4, .inl ca0)), (ka1, .inl (cI, 4, .inl ca1)), (ka2, .inl (cI, 144, .inl ca2)), (k050, .inl (cI, 36, .inl c050)), (k0, .inr (9, [.ref k00, .ref k01, .ref k02, .ref k03, .ref k04, .ref k05, .int c06, .int c07, .int c08])), (k05, .inr (3, [.ref k050, .int c051])), (k, .inr (10, [.ref k0, .ref k1, .ref k2, .ref k3, .ref k4, .ref k5, .ref k6, .ref k7, .ref k8, .ref k9, .ref ka, .ref kb, .int cc])), (kb, .inl (cI, 6, .inl scb_101))] := hD
      have hr_99 := w_100
      obtain rfl : r_99 = (-1000001) := hr_99.trans (by decide)
      exact hRet (scb_101, c80, c81) [11, 9, 0, 1, 12, 2, 10, 3, 4, 5, 6, 7, 8] (MTC.b (by omega)) hP hD (by decide) rfl hS rfl dX10_meeting_32
  · have h_13 : a0.toInt < 0 ∨ (gx 2).toInt ≤ a0.toInt ∨ a1.toInt < 0 ∨ (gx 2).toInt ≤ a1.toInt := h_13
    obtain rfl : r_6 = 0 := hr_6.trans (by decide)
    refine b_if_eq hx hb zl_0 (tgt := 27) dX10_meeting_6 (by decide) (fun c_102 => ?_) (fun c_102 => by exfalso; omega)
    refine lv_aload_n hx hb dX10_meeting_27 rfl (lv_at hl 0 rfl) ?_
    refine lv_iconst (v := 1) hx hb dX10_meeting_28 (by decide) ?_
    refine kJi (wr := [(k8, .inr (2, [.ref k80, .ref k81])), (ka, .inr (6, [.ref ka0, .ref ka1, .ref ka2])), (k01, .inl (cI, 40, .inl c01)), (k80, .inl (cI, 40, .inl c80)), (k81, .inl (cI, 40, .inl c81)), (ka0, .inl (cI, 4, .inl ca0)), (ka1, .inl (cI, 4, .inl ca1)), (ka2, .inl (cI, 144, .inl ca2)), (k050, .inl (cI, 36, .inl c050)), (k0, .inr (9, [.ref k00, .ref k01, .ref k02, .ref k03, .ref k04, .ref k05, .int c06, .int c07, .int c08])), (k05, .inr (3, [.ref k050, .int c051]))]) (va_runV (As := [.int 1]) (rest := []) ⟨hx, hb, hml, hown, hT⟩ (c_X10_findingG l D cI aK aV k k0 k1 k2 k3 k4 k5 k6 k7 k8 k9 ka kb H.size cc cb 1) (cwV 1 hT (gV_in mw_338 mw_335 mw_337 mw_p1_0 mw_1) rfl rfl rfl (by decide +kernel) ⟨Nat.le_of_ble_eq_true rfl, Nat.le_of_ble_eq_true rfl⟩) (kRecvX (q0 := 10) (ci := 10) hK hP hD hN hXS hS hA rfl rfl [10, 2] rfl (by decide)) rfl rfl hl.1 rfl (lv_room (Nat.le_of_ble_eq_true rfl)) dX10_meeting_29 ⟨Nat.le_of_ble_eq_true rfl, Nat.le_of_ble_eq_true rfl⟩) hP hD hS hA [10, 2] [0, 1, 3, 4, 5, 6, 7, 8, 9, 11, 12] rfl rfl (by decide) (by decide) ?_
    clear hP hD hS
    intro r_103 scb_105 H locs w_104 hP hD hS
    replace hP : va_P D vwCl [(k8, .inr (2, [.ref k80, .ref k81])), (ka, .inr (6, [.ref ka0, .ref ka1, .ref ka2])), (k01, .inl (cI, 40, .inl c01)), (k80, .inl (cI, 40, .inl c80)), (k81, .inl (cI, 40, .inl c81)), (ka0, .inl (cI, 4, .inl ca0)), (ka1, .inl (cI, 4, .inl ca1)), (ka2, .inl (cI, 144, .inl ca2)), (k050, .inl (cI, 36, .inl c050)), (k0, .inr (9, [.ref k00, .ref k01, .ref k02, .ref k03, .ref k04, .ref k05, .int c06, .int c07, .int c08])), (k05, .inr (3, [.ref k050, .int c051])), (k, .inr (10, [.ref k0, .ref k1, .ref k2, .ref k3, .ref k4, .ref k5, .ref k6, .ref k7, .ref k8, .ref k9, .ref ka, .ref kb, .int cc])), (kb, .inl (cI, 6, .inl scb_105))] H := hP
    replace hD : va_D A [(k8, .inr (2, [.ref k80, .ref k81])), (ka, .inr (6, [.ref ka0, .ref ka1, .ref ka2])), (k01, .inl (cI, 40, .inl c01)), (k80, .inl (cI, 40, .inl c80)), (k81, .inl (cI, 40, .inl c81)), (ka0, .inl (cI, 4, .inl ca0)), (ka1, .inl (cI, 4, .inl ca1)), (ka2, .inl (cI, 144, .inl ca2)), (k050, .inl (cI, 36, .inl c050)), (k0, .inr (9, [.ref k00, .ref k01, .ref k02, .ref k03, .ref k04, .ref k05, .int c06, .int c07, .int c08])), (k05, .inr (3, [.ref k050, .int c051])), (k, .inr (10, [.ref k0, .ref k1, .ref k2, .ref k3, .ref k4, .ref k5, .ref k6, .ref k7, .ref k8, .ref k9, .ref ka, .ref kb, .int cc])), (kb, .inl (cI, 6, .inl scb_105))] := hD
    have hr_103 := w_104
    obtain rfl : r_103 = (-1000001) := hr_103.trans (by decide)
    exact hRet (scb_105, c80, c81) [11, 9, 0, 1, 12, 2, 10, 3, 4, 5, 6, 7, 8] (MTC.b (by omega)) hP hD (by decide) rfl hS rfl dX10_meeting_32
