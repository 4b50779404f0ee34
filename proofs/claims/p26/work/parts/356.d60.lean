
set_option maxHeartbeats 4000000 in
set_option maxRecDepth 100000 in
theorem c_X9_endDayD (l : Launch) (D : va_G) (cI : ClassId) (aK aV : Nat → Nat) (k k0 k1 k2 k3 k4 k5 k40 k41 k42 k43 k44 k45 k46 k47 k48 k50 : Nat) (sz : Nat) (c6 : Int32) (c7 : Int32) (c8 : Int32) (c0 : Nat → Int32) (c1 : Nat → Int32) (c2 : Nat → Int32) (c49 : Int32) (c51 : Int32) (c40 : Nat → Int32) (c41 : Nat → Int32) (c42 : Nat → Int32) (c43 : Nat → Int32) (c44 : Nat → Int32) (c45 : Nat → Int32) (c46 : Nat → Int32) (c47 : Nat → Int32) (c48 : Nat → Int32) (c50 : Nat → Int32) (c3 : Nat → Int32) (gx : Nat → Int32) (pre0 : WR c0 c1 c2 c3 c40 c41 c42 c43 c44 c45 c46 c47 c48 c49 c50 c51 c6 c7 c8 gx) (pre1 : SIX gx (-1)) : Met l yX9_endDay (gW yX9_endDay cX9_endDay 2 none) ({ frames := 6, cells := 0, slots := 0, locals := 135 } : Room) (kPreX D cI aK aV [.ref k] [(k, .inr (9, [.ref k0, .ref k1, .ref k2, .ref k3, .ref k4, .ref k5, .int c6, .int c7, .int c8])), (k0, .inl (cI, 12, .inl c0)), (k1, .inl (cI, 40, .inl c1)), (k2, .inl (cI, 40, .inl c2)), (k4, .inr (8, [.ref k40, .ref k41, .ref k42, .ref k43, .ref k44, .ref k45, .ref k46, .ref k47, .ref k48, .int c49])), (k5, .inr (3, [.ref k50, .int c51])), (k40, .inl (cI, 60, .inl c40)), (k41, .inl (cI, 60, .inl c41)), (k42, .inl (cI, 60, .inl c42)), (k43, .inl (cI, 60, .inl c43)), (k44, .inl (cI, 60, .inl c44)), (k45, .inl (cI, 60, .inl c45)), (k46, .inl (cI, 40, .inl c46)), (k47, .inl (cI, 40, .inl c47)), (k48, .inl (cI, 40, .inl c48)), (k50, .inl (cI, 36, .inl c50))] sz) (va_Qv (fun (u : Int32 × Int32 × (Nat → Int32) × (Nat → Int32) × (Nat → Int32) × (Nat → Int32) × (Nat → Int32) × (Nat → Int32) × (Nat → Int32) × (Nat → Int32) × (Nat → Int32) × (Nat → Int32)) => WR c0 c1 c2 c3 u.2.2.1 u.2.2.2.1 u.2.2.2.2.1 u.2.2.2.2.2.1 u.2.2.2.2.2.2.1 u.2.2.2.2.2.2.2.1 u.2.2.2.2.2.2.2.2.1 u.2.2.2.2.2.2.2.2.2.1 u.2.2.2.2.2.2.2.2.2.2.1 u.2.1 u.2.2.2.2.2.2.2.2.2.2.2 c51 c6 c7 u.1 (dayS gx) ∧ u.1.toInt = c8.toInt + 1) (fun u t => kWd D cI (va_A [(k, .inr (9, [.ref k0, .ref k1, .ref k2, .ref k3, .ref k4, .ref k5, .int c6, .int c7, .int c8])), (k0, .inl (cI, 12, .inl c0)), (k1, .inl (cI, 40, .inl c1)), (k2, .inl (cI, 40, .inl c2)), (k4, .inr (8, [.ref k40, .ref k41, .ref k42, .ref k43, .ref k44, .ref k45, .ref k46, .ref k47, .ref k48, .int c49])), (k5, .inr (3, [.ref k50, .int c51])), (k40, .inl (cI, 60, .inl c40)), (k41, .inl (cI, 60, .inl c41)), (k42, .inl (cI, 60, .inl c42)), (k43, .inl (cI, 60, .inl c43)), (k44, .inl (cI, 60, .inl c44)), (k45, .inl (cI, 60, .inl c45)), (k46, .inl (cI, 40, .inl c46)), (k47, .inl (cI, 40, .inl c47)), (k48, .inl (cI, 40, .inl c48)), (k50, .inl (cI, 36, .inl c50))] sz) [(k, .inr (9, [.ref k0, .ref k1, .ref k2, .ref k3, .ref k4, .ref k5, .int c6, .int c7, .int u.1])), (k0, .inl (cI, 12, .inl c0)), (k1, .inl (cI, 40, .inl c1)), (k2, .inl (cI, 40, .inl c2)), (k4, .inr (8, [.ref k40, .ref k41, .ref k42, .ref k43, .ref k44, .ref k45, .ref k46, .ref k47, .ref k48, .int u.2.1])), (k5, .inr (3, [.ref k50, .int c51])), (k40, .inl (cI, 60, .inl u.2.2.1)), (k41, .inl (cI, 60, .inl u.2.2.2.1)), (k42, .inl (cI, 60, .inl u.2.2.2.2.1)), (k43, .inl (cI, 60, .inl u.2.2.2.2.2.1)), (k44, .inl (cI, 60, .inl u.2.2.2.2.2.2.1)), (k45, .inl (cI, 60, .inl u.2.2.2.2.2.2.2.1)), (k46, .inl (cI, 40, .inl u.2.2.2.2.2.2.2.2.1)), (k47, .inl (cI, 40, .inl u.2.2.2.2.2.2.2.2.2.1)), (k48, .inl (cI, 40, .inl u.2.2.2.2.2.2.2.2.2.2.1)), (k50, .inl (cI, 36, .inl u.2.2.2.2.2.2.2.2.2.2.2))] t) (va_A [(k, .inr (9, [.ref k0, .ref k1, .ref k2, .ref k3, .ref k4, .ref k5, .int c6, .int c7, .int c8])), (k0, .inl (cI, 12, .inl c0)), (k1, .inl (cI, 40, .inl c1)), (k2, .inl (cI, 40, .inl c2)), (k4, .inr (8, [.ref k40, .ref k41, .ref k42, .ref k43, .ref k44, .ref k45, .ref k46, .ref k47, .ref k48, .int c49])), (k5, .inr (3, [.ref k50, .int c51])), (k40, .inl (cI, 60, .inl c40)), (k41, .inl (cI, 60, .inl c41)), (k42, .inl (cI, 60, .inl c42)), (k43, .inl (cI, 60, .inl c43)), (k44, .inl (cI, 60, .inl c44)), (k45, .inl (cI, 60, .inl c45)), (k46, .inl (cI, 40, .inl c46)), (k47, .inl (cI, 40, .inl c47)), (k48, .inl (cI, 40, .inl c48)), (k50, .inl (cI, 36, .inl c50))] sz)) 0 0 (va_A [(k, .inr (9, [.ref k0, .ref k1, .ref k2, .ref k3, .ref k4, .ref k5, .int c6, .int c7, .int c8])), (k0, .inl (cI, 12, .inl c0)), (k1, .inl (cI, 40, .inl c1)), (k2, .inl (cI, 40, .inl c2)), (k4, .inr (8, [.ref k40, .ref k41, .ref k42, .ref k43, .ref k44, .ref k45, .ref k46, .ref k47, .ref k48, .int c49])), (k5, .inr (3, [.ref k50, .int c51])), (k40, .inl (cI, 60, .inl c40)), (k41, .inl (cI, 60, .inl c41)), (k42, .inl (cI, 60, .inl c42)), (k43, .inl (cI, 60, .inl c43)), (k44, .inl (cI, 60, .inl c44)), (k45, .inl (cI, 60, .inl c45)), (k46, .inl (cI, 40, .inl c46)), (k47, .inl (cI, 40, .inl c47)), (k48, .inl (cI, 40, .inl c48)), (k50, .inl (cI, 36, .inl c50))] sz) := by
  refine kMetVX (own := RX9) (by decide +kernel) rfl (Nat.le_of_ble_eq_true rfl) ?_
  intro p e s m args below meth c hx hb hT hown hname hml A Q hK hP hD hS hA hN hXS hRet ls hl
  have hl : lv_has ls 2 [(0, .ref k)] := hl
  have lo_c6 := k_lo c6
  have hi_c6 := k_hi c6
  have lo_c7 := k_lo c7
  have hi_c7 := k_hi c7
  have lo_c8 := k_lo c8
  have hi_c8 := k_hi c8
  have lo_c49 := k_lo c49
  have hi_c49 := k_hi c49
  have lo_c51 := k_lo c51
  have hi_c51 := k_hi c51
  have hd0 := SB.n0 (And.left pre1)
  have pre0 : WR c0 c1 c2 c3 c40 c41 c42 c43 c44 c45 c46 c47 c48 c49 c50 c51 c6 c7 c8 gx := pre0
  have b_1 : 0 ≤ c49.toInt ∧ c49.toInt ≤ 60 := WKR.n0 (WR.kw pre0)
  have t_2 : c49.toInt = (gx 1).toInt := WKR.nt (WR.kw pre0)
  have b_3 : 0 ≤ c51.toInt ∧ c51.toInt ≤ 4 := ((WR.kp pre0)).2.1
  have t_4 : c51.toInt = (gx 2).toInt := PTR.nt (WR.kp pre0)
  have t_5 : c8.toInt = (gx 0).toInt := by rw [WR.dd pre0]
  have pre1 : SIX gx (-1) := pre1
  refine lv_aload_n hx hb dX9_endDay_0 rfl (lv_at hl 0 rfl) ?_
  refine kJv (wr := [(k0, .inl (cI, 12, .inl c0)), (k2, .inl (cI, 40, .inl c2)), (k5, .inr (3, [.ref k50, .int c51])), (k44, .inl (cI, 60, .inl c44)), (k50, .inl (cI, 36, .inl c50))]) (va_runV (As := []) (rest := []) ⟨hx, hb, hml, hown, hT⟩ (c_X9_eatPolesD l D cI aK aV k k0 k1 k2 k3 k4 k5 k40 k41 k42 k43 k44 k45 k46 k47 k48 s.heap.size c6 c7 c8 c1 c49 c40 c41 c42 c43 c45 c46 c47 c48 c0 c2 c3 c44 c50 c51 gx pre0 pre1) (cwV 0 hT (gV_in mw_971 mw_968 mw_970 mw_p3_0 mw_2) rfl rfl rfl (by decide +kernel) ⟨Nat.le_of_ble_eq_true rfl, Nat.le_of_ble_eq_true rfl⟩) (kRecvX (q0 := 0) (ci := 9) hK hP hD hN hXS hS hA rfl rfl [0, 2, 4, 6, 7, 8, 9, 11, 12, 13, 14] rfl (by decide +kernel)) rfl rfl hl.1 rfl (lv_room (Nat.le_of_ble_eq_true rfl)) dX9_endDay_1 ⟨Nat.le_of_ble_eq_true rfl, Nat.le_of_ble_eq_true rfl⟩) hP hD hS hA [0, 2, 4, 6, 7, 8, 9, 11, 12, 13, 14] [1, 3, 5, 10, 15] rfl rfl (by decide +kernel) (by decide +kernel) ?_
  clear hP hD hS
  intro u_12 H locs w_7 hP hD hS
  obtain ⟨sc45_8, sc46_9, sc47_10, sc48_11⟩ := u_12
  replace hP : va_P D vwCl [(k0, .inl (cI, 12, .inl c0)), (k2, .inl (cI, 40, .inl c2)), (k5, .inr (3, [.ref k50, .int c51])), (k44, .inl (cI, 60, .inl c44)), (k50, .inl (cI, 36, .inl c50)), (k, .inr (9, [.ref k0, .ref k1, .ref k2, .ref k3, .ref k4, .ref k5, .int c6, .int c7, .int c8])), (k1, .inl (cI, 40, .inl c1)), (k4, .inr (8, [.ref k40, .ref k41, .ref k42, .ref k43, .ref k44, .ref k45, .ref k46, .ref k47, .ref k48, .int c49])), (k40, .inl (cI, 60, .inl c40)), (k41, .inl (cI, 60, .inl c41)), (k42, .inl (cI, 60, .inl c42)), (k43, .inl (cI, 60, .inl c43)), (k45, .inl (cI, 60, .inl sc45_8)), (k46, .inl (cI, 40, .inl sc46_9)), (k47, .inl (cI, 40, .inl sc47_10)), (k48, .inl (cI, 40, .inl sc48_11))] H := hP
  replace hD : va_D A [(k0, .inl (cI, 12, .inl c0)), (k2, .inl (cI, 40, .inl c2)), (k5, .inr (3, [.ref k50, .int c51])), (k44, .inl (cI, 60, .inl c44)), (k50, .inl (cI, 36, .inl c50)), (k, .inr (9, [.ref k0, .ref k1, .ref k2, .ref k3, .ref k4, .ref k5, .int c6, .int c7, .int c8])), (k1, .inl (cI, 40, .inl c1)), (k4, .inr (8, [.ref k40, .ref k41, .ref k42, .ref k43, .ref k44, .ref k45, .ref k46, .ref k47, .ref k48, .int c49])), (k40, .inl (cI, 60, .inl c40)), (k41, .inl (cI, 60, .inl c41)), (k42, .inl (cI, 60, .inl c42)), (k43, .inl (cI, 60, .inl c43)), (k45, .inl (cI, 60, .inl sc45_8)), (k46, .inl (cI, 40, .inl sc46_9)), (k47, .inl (cI, 40, .inl sc47_10)), (k48, .inl (cI, 40, .inl sc48_11))] := hD
  have h_13 := w_7
  have h_13 : WR c0 c1 c2 c3 c40 c41 c42 c43 c44 sc45_8 sc46_9 sc47_10 sc48_11 c49 c50 c51 c6 c7 c8 (eatS gx) := h_13
  obtain ⟨gg_14, egg_14⟩ : ∃ g_ : Nat → Int32, g_ = (eatS gx) := ⟨_, rfl⟩
  rw [← egg_14] at h_13
  have t_15 : c49.toInt = (gg_14 1).toInt := WKR.nt (WR.kw h_13)
  have t_16 : c51.toInt = (gg_14 2).toInt := PTR.nt (WR.kp h_13)
  have t_17 : c8.toInt = (gg_14 0).toInt := by rw [WR.dd h_13]
  refine lv_iconst (v := 0) hx hb dX9_endDay_4 (by decide +kernel) ?_
  refine lv_istore_n (lv' := [(1, .int 0), (0, .ref k)]) hx hb dX9_endDay_5 rfl hl (by decide +kernel) rfl ?_
  clear hl
  intro ls hl
  have hloop_6 : ∀ (fu_ : Nat) (l6_1 : Int32) (g6_k44 : Nat → Int32) (g6_k50 : Nat → Int32) (g6_gx : Nat → Int32), 0 ≤ l6_1.toInt → WR c0 c1 c2 c3 c40 c41 c42 c43 g6_k44 sc45_8 sc46_9 sc47_10 sc48_11 c49 g6_k50 c51 c6 c7 c8 g6_gx → g6_gx = dyA (eatS gx) l6_1.toInt.toNat → SIX g6_gx (-1) → l6_1.toInt ≤ c51.toInt → (c51.toInt - l6_1.toInt).toNat < fu_ → ∀ (ls : Array Slot) (H : Heap) (locs : List Loc), lv_has ls 2 [(1, .int l6_1), (0, .ref k)] → va_P D vwCl [(k0, .inl (cI, 12, .inl c0)), (k2, .inl (cI, 40, .inl c2)), (k5, .inr (3, [.ref k50, .int c51])), (k44, .inl (cI, 60, .inl g6_k44)), (k50, .inl (cI, 36, .inl g6_k50)), (k, .inr (9, [.ref k0, .ref k1, .ref k2, .ref k3, .ref k4, .ref k5, .int c6, .int c7, .int c8])), (k1, .inl (cI, 40, .inl c1)), (k4, .inr (8, [.ref k40, .ref k41, .ref k42, .ref k43, .ref k44, .ref k45, .ref k46, .ref k47, .ref k48, .int c49])), (k40, .inl (cI, 60, .inl c40)), (k41, .inl (cI, 60, .inl c41)), (k42, .inl (cI, 60, .inl c42)), (k43, .inl (cI, 60, .inl c43)), (k45, .inl (cI, 60, .inl sc45_8)), (k46, .inl (cI, 40, .inl sc46_9)), (k47, .inl (cI, 40, .inl sc47_10)), (k48, .inl (cI, 40, .inl sc48_11))] H → va_D A [(k0, .inl (cI, 12, .inl c0)), (k2, .inl (cI, 40, .inl c2)), (k5, .inr (3, [.ref k50, .int c51])), (k44, .inl (cI, 60, .inl g6_k44)), (k50, .inl (cI, 36, .inl g6_k50)), (k, .inr (9, [.ref k0, .ref k1, .ref k2, .ref k3, .ref k4, .ref k5, .int c6, .int c7, .int c8])), (k1, .inl (cI, 40, .inl c1)), (k4, .inr (8, [.ref k40, .ref k41, .ref k42, .ref k43, .ref k44, .ref k45, .ref k46, .ref k47, .ref k48, .int c49])), (k40, .inl (cI, 60, .inl c40)), (k41, .inl (cI, 60, .inl c41)), (k42, .inl (cI, 60, .inl c42)), (k43, .inl (cI, 60, .inl c43)), (k45, .inl (cI, 60, .inl sc45_8)), (k46, .inl (cI, 40, .inl sc46_9)), (k47, .inl (cI, 40, .inl sc47_10)), (k48, .inl (cI, 40, .inl sc48_11))] → va_S A s.heap H locs → W p l e ({ frames := 6, cells := 0, slots := 0, locals := 135 } : Room) s m args below meth c H locs 0 0 Q (F0 m 6 ls []) := by
    intro fu_; induction fu_ with
    | zero => intro l6_1 g6_k44 g6_k50 g6_gx i6_0 i6_1 i6_2 i6_3 i6_4 hm; exact absurd hm (by omega)
    | succ fu_ ih6 =>
        intro l6_1 g6_k44 g6_k50 g6_gx i6_0 i6_1 i6_2 i6_3 i6_4 hm ls H locs hl hP hD hS
        have lo_l6_1 := k_lo l6_1
        have hi_l6_1 := k_hi l6_1
        have i6_1 : WR c0 c1 c2 c3 c40 c41 c42 c43 g6_k44 sc45_8 sc46_9 sc47_10 sc48_11 c49 g6_k50 c51 c6 c7 c8 g6_gx := i6_1
        have t_18 : c49.toInt = (g6_gx 1).toInt := WKR.nt (WR.kw i6_1)
        have t_19 : c51.toInt = (g6_gx 2).toInt := PTR.nt (WR.kp i6_1)
        have t_20 : c8.toInt = (g6_gx 0).toInt := by rw [WR.dd i6_1]
        have i6_2 : g6_gx = dyA (eatS gx) l6_1.toInt.toNat := i6_2
        have i6_3 : SIX g6_gx (-1) := i6_3
        refine lv_iload_n hx hb dX9_endDay_6 rfl (lv_at hl 0 rfl) ?_
        refine lv_aload_n hx hb dX9_endDay_7 rfl (lv_at hl 1 rfl) ?_
        refine va_get (D := D) (ci := 9) (v := .ref k5) (C := RX9) (T := TX9) (N := 9) hx hb hT giX9 hown hK hP 5 rfl rfl 5 (by decide +kernel) (hT (Cond.fieldLink RX9 34 "DesertWire$World" "parties" "LDesertWire$Parties;") mw_100) (fun _ h9 => h9) rfl dX9_endDay_8 ?_
        refine va_get (D := D) (ci := 3) (v := .int c51) (C := RX3) (T := TX3) (N := 2) hx hb hT giX3 hown hK hP 2 rfl rfl 1 (by decide +kernel) (hT (Cond.fieldLink RX9 119 "DesertWire$Parties" "number" "I") mw_82) (fun _ h9 => h9) rfl dX9_endDay_11 ?_
        refine b_icmp_ge hx hb rfl rfl (tgt := 44) dX9_endDay_14 (by decide +kernel) (fun c_21 => ?_) (fun c_21 => ?_)
        · refine lv_iconst (v := 0) hx hb dX9_endDay_44 (by decide +kernel) ?_
          refine lv_istore_n (lv' := [(1, .int 0), (0, .ref k)]) hx hb dX9_endDay_45 rfl hl (by decide +kernel) rfl ?_
          clear hl
          intro ls hl
          have hloop_46 : ∀ (fu_ : Nat) (l46_1 : Int32) (f46_k49 : Int32) (g46_k40 : Nat → Int32) (g46_k41 : Nat → Int32) (g46_k42 : Nat → Int32) (g46_k43 : Nat → Int32) (g46_k44 : Nat → Int32) (g46_k45 : Nat → Int32) (g46_k46 : Nat → Int32) (g46_k47 : Nat → Int32) (g46_k48 : Nat → Int32) (g46_k50 : Nat → Int32) (g46_gx : Nat → Int32), 0 ≤ l46_1.toInt → WR c0 c1 c2 c3 g46_k40 g46_k41 g46_k42 g46_k43 g46_k44 g46_k45 g46_k46 g46_k47 g46_k48 f46_k49 g46_k50 c51 c6 c7 c8 g46_gx → g46_gx = dyB (dyA (eatS gx) (gx 2).toInt.toNat) l46_1.toInt.toNat → SIX g46_gx (-1) → l46_1.toInt ≤ c51.toInt → (c51.toInt - l46_1.toInt).toNat < fu_ → ∀ (ls : Array Slot) (H : Heap) (locs : List Loc), lv_has ls 2 [(1, .int l46_1), (0, .ref k)] → va_P D vwCl [(k0, .inl (cI, 12, .inl c0)), (k2, .inl (cI, 40, .inl c2)), (k5, .inr (3, [.ref k50, .int c51])), (k44, .inl (cI, 60, .inl g46_k44)), (k50, .inl (cI, 36, .inl g46_k50)), (k, .inr (9, [.ref k0, .ref k1, .ref k2, .ref k3, .ref k4, .ref k5, .int c6, .int c7, .int c8])), (k1, .inl (cI, 40, .inl c1)), (k4, .inr (8, [.ref k40, .ref k41, .ref k42, .ref k43, .ref k44, .ref k45, .ref k46, .ref k47, .ref k48, .int f46_k49])), (k40, .inl (cI, 60, .inl g46_k40)), (k41, .inl (cI, 60, .inl g46_k41)), (k42, .inl (cI, 60, .inl g46_k42)), (k43, .inl (cI, 60, .inl g46_k43)), (k45, .inl (cI, 60, .inl g46_k45)), (k46, .inl (cI, 40, .inl g46_k46)), (k47, .inl (cI, 40, .inl g46_k47)), (k48, .inl (cI, 40, .inl g46_k48))] H → va_D A [(k0, .inl (cI, 12, .inl c0)), (k2, .inl (cI, 40, .inl c2)), (k5, .inr (3, [.ref k50, .int c51])), (k44, .inl (cI, 60, .inl g46_k44)), (k50, .inl (cI, 36, .inl g46_k50)), (k, .inr (9, [.ref k0, .ref k1, .ref k2, .ref k3, .ref k4, .ref k5, .int c6, .int c7, .int c8])), (k1, .inl (cI, 40, .inl c1)), (k4, .inr (8, [.ref k40, .ref k41, .ref k42, .ref k43, .ref k44, .ref k45, .ref k46, .ref k47, .ref k48, .int f46_k49])), (k40, .inl (cI, 60, .inl g46_k40)), (k41, .inl (cI, 60, .inl g46_k41)), (k42, .inl (cI, 60, .inl g46_k42)), (k43, .inl (cI, 60, .inl g46_k43)), (k45, .inl (cI, 60, .inl g46_k45)), (k46, .inl (cI, 40, .inl g46_k46)), (k47, .inl (cI, 40, .inl g46_k47)), (k48, .inl (cI, 40, .inl g46_k48))] → va_S A s.heap H locs → W p l e ({ frames := 6, cells := 0, slots := 0, locals := 135 } : Room) s m args below meth c H locs 0 0 Q (F0 m 46 ls []) := by
            intro fu_; induction fu_ with
            | zero => intro l46_1 f46_k49 g46_k40 g46_k41 g46_k42 g46_k43 g46_k44 g46_k45 g46_k46 g46_k47 g46_k48 g46_k50 g46_gx i46_0 i46_1 i46_2 i46_3 i46_4 hm; exact absurd hm (by omega)
            | succ fu_ ih46 =>
                intro l46_1 f46_k49 g46_k40 g46_k41 g46_k42 g46_k43 g46_k44 g46_k45 g46_k46 g46_k47 g46_k48 g46_k50 g46_gx i46_0 i46_1 i46_2 i46_3 i46_4 hm ls H locs hl hP hD hS
                have lo_l46_1 := k_lo l46_1
                have hi_l46_1 := k_hi l46_1
                have lo_f46_k49 := k_lo f46_k49
                have hi_f46_k49 := k_hi f46_k49
                have i46_1 : WR c0 c1 c2 c3 g46_k40 g46_k41 g46_k42 g46_k43 g46_k44 g46_k45 g46_k46 g46_k47 g46_k48 f46_k49 g46_k50 c51 c6 c7 c8 g46_gx := i46_1
                have b_22 : 0 ≤ f46_k49.toInt ∧ f46_k49.toInt ≤ 60 := WKR.n0 (WR.kw i46_1)
                have t_23 : f46_k49.toInt = (g46_gx 1).toInt := WKR.nt (WR.kw i46_1)
                have t_24 : c51.toInt = (g46_gx 2).toInt := PTR.nt (WR.kp i46_1)
                have t_25 : c8.toInt = (g46_gx 0).toInt := by rw [WR.dd i46_1]
                have i46_2 : g46_gx = dyB (dyA (eatS gx) (gx 2).toInt.toNat) l46_1.toInt.toNat := i46_2
                have i46_3 : SIX g46_gx (-1) := i46_3
                refine lv_iload_n hx hb dX9_endDay_46 rfl (lv_at hl 0 rfl) ?_
                refine lv_aload_n hx hb dX9_endDay_47 rfl (lv_at hl 1 rfl) ?_
                refine va_get (D := D) (ci := 9) (v := .ref k5) (C := RX9) (T := TX9) (N := 9) hx hb hT giX9 hown hK hP 5 rfl rfl 5 (by decide +kernel) (hT (Cond.fieldLink RX9 34 "DesertWire$World" "parties" "LDesertWire$Parties;") mw_100) (fun _ h9 => h9) rfl dX9_endDay_48 ?_
                refine va_get (D := D) (ci := 3) (v := .int c51) (C := RX3) (T := TX3) (N := 2) hx hb hT giX3 hown hK hP 2 rfl rfl 1 (by decide +kernel) (hT (Cond.fieldLink RX9 119 "DesertWire$Parties" "number" "I") mw_82) (fun _ h9 => h9) rfl dX9_endDay_51 ?_
                refine b_icmp_ge hx hb rfl rfl (tgt := 81) dX9_endDay_54 (by decide +kernel) (fun c_26 => ?_) (fun c_26 => ?_)
                · refine lv_aload_n hx hb dX9_endDay_81 rfl (lv_at hl 1 rfl) ?_
                  refine lv_dup hx hb dX9_endDay_82 rfl ?_
                  refine va_get (D := D) (ci := 9) (v := .int c8) (C := RX9) (T := TX9) (N := 9) hx hb hT giX9 hown hK hP 5 rfl rfl 8 (by decide +kernel) (hT (Cond.fieldLink RX9 45 "DesertWire$World" "day" "I") mw_108) (fun _ h9 => h9) rfl dX9_endDay_83 ?_
                  refine lv_iconst (v := 1) hx hb dX9_endDay_86 (by decide +kernel) ?_
                  refine lv_iadd hx hb dX9_endDay_87 ?_
                  refine lv_topi (fun v_27 ev_27 => ?_)
                  have tv_27 : v_27.toInt = c8.toInt + 1 := by rw [ev_27]; exact k_addv rfl zl_1 (by omega) (by omega)
                  refine va_put (D := D) (ci := 9) (v := .int v_27) (ty := .int) (C := RX9) (T := TX9) (N := 9) hx hb hT giX9 tyX9 tyX9_ok nmX9 hown hK hP hD hS 5 rfl rfl 8 (by decide +kernel) (hT (Cond.fieldLink RX9 45 "DesertWire$World" "day" "I") mw_108) (fun _ h9 => h9) rfl (by decide +kernel) rfl rfl (Nat.le_of_ble_eq_true rfl) dX9_endDay_88 ?_
                  clear hP hD hS
                  intro H locs hP hD hS
                  replace hP : va_P D vwCl [(k0, .inl (cI, 12, .inl c0)), (k2, .inl (cI, 40, .inl c2)), (k5, .inr (3, [.ref k50, .int c51])), (k44, .inl (cI, 60, .inl g46_k44)), (k50, .inl (cI, 36, .inl g46_k50)), (k, .inr (9, [.ref k0, .ref k1, .ref k2, .ref k3, .ref k4, .ref k5, .int c6, .int c7, .int v_27])), (k1, .inl (cI, 40, .inl c1)), (k4, .inr (8, [.ref k40, .ref k41, .ref k42, .ref k43, .ref k44, .ref k45, .ref k46, .ref k47, .ref k48, .int f46_k49])), (k40, .inl (cI, 60, .inl g46_k40)), (k41, .inl (cI, 60, .inl g46_k41)), (k42, .inl (cI, 60, .inl g46_k42)), (k43, .inl (cI, 60, .inl g46_k43)), (k45, .inl (cI, 60, .inl g46_k45)), (k46, .inl (cI, 40, .inl g46_k46)), (k47, .inl (cI, 40, .inl g46_k47)), (k48, .inl (cI, 40, .inl g46_k48))] H := hP
                  replace hD : va_D A [(k0, .inl (cI, 12, .inl c0)), (k2, .inl (cI, 40, .inl c2)), (k5, .inr (3, [.ref k50, .int c51])), (k44, .inl (cI, 60, .inl g46_k44)), (k50, .inl (cI, 36, .inl g46_k50)), (k, .inr (9, [.ref k0, .ref k1, .ref k2, .ref k3, .ref k4, .ref k5, .int c6, .int c7, .int v_27])), (k1, .inl (cI, 40, .inl c1)), (k4, .inr (8, [.ref k40, .ref k41, .ref k42, .ref k43, .ref k44, .ref k45, .ref k46, .ref k47, .ref k48, .int f46_k49])), (k40, .inl (cI, 60, .inl g46_k40)), (k41, .inl (cI, 60, .inl g46_k41)), (k42, .inl (cI, 60, .inl g46_k42)), (k43, .inl (cI, 60, .inl g46_k43)), (k45, .inl (cI, 60, .inl g46_k45)), (k46, .inl (cI, 40, .inl g46_k46)), (k47, .inl (cI, 40, .inl g46_k47)), (k48, .inl (cI, 40, .inl g46_k48))] := hD
                  exact hRet (v_27, f46_k49, g46_k40, g46_k41, g46_k42, g46_k43, g46_k44, g46_k45, g46_k46, g46_k47, g46_k48, g46_k50) [5, 0, 6, 1, 7, 2, 8, 9, 10, 11, 3, 12, 13, 14, 15, 4] ⟨(WR.gt (WR.day i46_1 ev_27) (day_eq i46_2 (by omega))), (by first | omega | decide | assumption | rfl | (dsimp only; first | omega))⟩ hP hD (by decide +kernel) rfl hS dX9_endDay_91
                · refine lv_aload_n hx hb dX9_endDay_57 rfl (lv_at hl 1 rfl) ?_
                  refine va_get (D := D) (ci := 9) (v := .ref k5) (C := RX9) (T := TX9) (N := 9) hx hb hT giX9 hown hK hP 5 rfl rfl 5 (by decide +kernel) (hT (Cond.fieldLink RX9 34 "DesertWire$World" "parties" "LDesertWire$Parties;") mw_100) (fun _ h9 => h9) rfl dX9_endDay_58 ?_
                  refine lv_iload_n hx hb dX9_endDay_61 rfl (lv_at hl 0 rfl) ?_
                  refine lv_bipush (v := 8) hx hb dX9_endDay_62 (by decide +kernel) ?_
                  refine kJi (wr := [(k0, .inl (cI, 12, .inl c0)), (k2, .inl (cI, 40, .inl c2)), (k44, .inl (cI, 60, .inl g46_k44)), (k, .inr (9, [.ref k0, .ref k1, .ref k2, .ref k3, .ref k4, .ref k5, .int c6, .int c7, .int c8])), (k1, .inl (cI, 40, .inl c1)), (k4, .inr (8, [.ref k40, .ref k41, .ref k42, .ref k43, .ref k44, .ref k45, .ref k46, .ref k47, .ref k48, .int f46_k49])), (k40, .inl (cI, 60, .inl g46_k40)), (k41, .inl (cI, 60, .inl g46_k41)), (k42, .inl (cI, 60, .inl g46_k42)), (k43, .inl (cI, 60, .inl g46_k43)), (k45, .inl (cI, 60, .inl g46_k45)), (k46, .inl (cI, 40, .inl g46_k46)), (k47, .inl (cI, 40, .inl g46_k47)), (k48, .inl (cI, 40, .inl g46_k48))]) (va_runV (As := [.int l46_1, .int 8]) (rest := []) ⟨hx, hb, hml, hown, hT⟩ (c_X3_getD8 l D cI aK aV k5 k50 H.size c51 g46_k50 g46_gx l46_1 8 (WR.kp i46_1) (by first | omega | (simp only [zl_8]; first | done | omega) | decide | assumption | rfl) (by first | omega | (simp only [zl_8]; first | done | omega) | decide | assumption | rfl) (by first | omega | (simp only [zl_8]; first | done | omega) | decide | assumption | rfl)) (cwV 2 hT (gV_in mw_726 mw_978 mw_724 mw_725 mw_4) rfl rfl rfl (by decide +kernel) ⟨Nat.le_of_ble_eq_true rfl, Nat.le_of_ble_eq_true rfl⟩) (kRecvX (q0 := 2) (ci := 3) hK hP hD hN hXS hS hA rfl rfl [2, 4] rfl (by decide +kernel)) rfl rfl hl.1 rfl (lv_room (Nat.le_of_ble_eq_true rfl)) dX9_endDay_64 ⟨Nat.le_of_ble_eq_true rfl, Nat.le_of_ble_eq_true rfl⟩) hP hD hS hA [2, 4] [0, 1, 3, 5, 6, 7, 8, 9, 10, 11, 12, 13, 14, 15] rfl rfl (by decide +kernel) (by decide +kernel) ?_
                  clear hP hD hS
                  intro r_28 u_30 H locs w_29 hP hD hS
                  replace hP : va_P D vwCl [(k0, .inl (cI, 12, .inl c0)), (k2, .inl (cI, 40, .inl c2)), (k44, .inl (cI, 60, .inl g46_k44)), (k, .inr (9, [.ref k0, .ref k1, .ref k2, .ref k3, .ref k4, .ref k5, .int c6, .int c7, .int c8])), (k1, .inl (cI, 40, .inl c1)), (k4, .inr (8, [.ref k40, .ref k41, .ref k42, .ref k43, .ref k44, .ref k45, .ref k46, .ref k47, .ref k48, .int f46_k49])), (k40, .inl (cI, 60, .inl g46_k40)), (k41, .inl (cI, 60, .inl g46_k41)), (k42, .inl (cI, 60, .inl g46_k42)), (k43, .inl (cI, 60, .inl g46_k43)), (k45, .inl (cI, 60, .inl g46_k45)), (k46, .inl (cI, 40, .inl g46_k46)), (k47, .inl (cI, 40, .inl g46_k47)), (k48, .inl (cI, 40, .inl g46_k48)), (k5, .inr (3, [.ref k50, .int c51])), (k50, .inl (cI, 36, .inl g46_k50))] H := hP
                  replace hD : va_D A [(k0, .inl (cI, 12, .inl c0)), (k2, .inl (cI, 40, .inl c2)), (k44, .inl (cI, 60, .inl g46_k44)), (k, .inr (9, [.ref k0, .ref k1, .ref k2, .ref k3, .ref k4, .ref k5, .int c6, .int c7, .int c8])), (k1, .inl (cI, 40, .inl c1)), (k4, .inr (8, [.ref k40, .ref k41, .ref k42, .ref k43, .ref k44, .ref k45, .ref k46, .ref k47, .ref k48, .int f46_k49])), (k40, .inl (cI, 60, .inl g46_k40)), (k41, .inl (cI, 60, .inl g46_k41)), (k42, .inl (cI, 60, .inl g46_k42)), (k43, .inl (cI, 60, .inl g46_k43)), (k45, .inl (cI, 60, .inl g46_k45)), (k46, .inl (cI, 40, .inl g46_k46)), (k47, .inl (cI, 40, .inl g46_k47)), (k48, .inl (cI, 40, .inl g46_k48)), (k5, .inr (3, [.ref k50, .int c51])), (k50, .inl (cI, 36, .inl g46_k50))] := hD
                  have h_31 := w_29
                  have h_31 : r_28 = pW g46_gx l46_1 8 := h_31
                  have t_32 : r_28.toInt = (pW g46_gx l46_1 8).toInt := by rw [h_31]
                  have lo_r_28 := k_lo r_28
                  have hi_r_28 := k_hi r_28
                  refine b_if_ne hx hb rfl (tgt := 75) dX9_endDay_67 (by decide +kernel) (fun c_33 => ?_) (fun c_33 => ?_)
                  · obtain ⟨v_34, ev_34⟩ : ∃ y : Int32, y = l46_1 + 1 := ⟨_, rfl⟩
                    have tv_34 : v_34.toInt = l46_1.toInt + 1 := by rw [ev_34]; exact k_addv rfl zl_1 (by omega) (by omega)
                    refine lv_iinc (v := v_34) (lv' := [(1, .int v_34), (0, .ref k)]) hx hb dX9_endDay_75 hl (k := 0) rfl (by rw [ev_34]; rfl) (by decide +kernel) rfl ?_
                    clear hl
                    intro ls hl
                    refine lv_goto (tgt := 46) hx hb dX9_endDay_78 (by decide +kernel) ?_
                    exact ih46 v_34 f46_k49 g46_k40 g46_k41 g46_k42 g46_k43 g46_k44 g46_k45 g46_k46 g46_k47 g46_k48 g46_k50 g46_gx (by first | omega | decide | assumption | rfl) i46_1 (i46_2.trans (dyB_n (by omega) (by omega) (by rw [← i46_2]; omega))) (by rw [show g46_gx = dyB (dyA (eatS gx) (gx 2).toInt.toNat) v_34.toInt.toNat from (i46_2.trans (dyB_n (by omega) (by omega) (by rw [← i46_2]; omega)))]; exact (dyB_six (dyA_six (eatS_six pre1) _ (by omega) (by rw [eatS_2 pre1]; omega)).1 _ (by have := zl_0; omega) (by rw [dyA_2 pre1]; have := zl_0; omega)).1) (by first | omega | decide | assumption | rfl) (by omega) ls _ _ (lv_sub hl [0, 1] rfl) (hP.sub [0, 1, 14, 2, 15, 3, 4, 5, 6, 7, 8, 9, 10, 11, 12, 13] rfl) (hD.sub [0, 1, 14, 2, 15, 3, 4, 5, 6, 7, 8, 9, 10, 11, 12, 13] (by decide +kernel) rfl) hS
                  · refine lv_aload_n hx hb dX9_endDay_70 rfl (lv_at hl 1 rfl) ?_
                    refine lv_iload_n hx hb dX9_endDay_71 rfl (lv_at hl 0 rfl) ?_
                    refine kJv (wr := [(k2, .inl (cI, 40, .inl c2))]) (va_runV (As := [.int l46_1]) (rest := []) ⟨hx, hb, hml, hown, hT⟩ (c_X9_labourD l D cI aK aV k k0 k1 k2 k3 k4 k5 k40 k41 k42 k43 k44 k45 k46 k47 k48 k50 H.size c6 c7 c8 c0 c1 f46_k49 c51 g46_k40 g46_k41 g46_k42 g46_k43 g46_k44 g46_k45 g46_k46 g46_k47 g46_k48 g46_k50 c2 c3 g46_gx l46_1 i46_1 i46_3 (by first | omega | decide | assumption | rfl) (by first | omega | decide | assumption | rfl) (by first | omega | decide | assumption | rfl)) (cwV 1 hT (gV_in mw_995 mw_992 mw_994 mw_p3_3 mw_2) rfl rfl rfl (by decide +kernel) ⟨Nat.le_of_ble_eq_true rfl, Nat.le_of_ble_eq_true rfl⟩) (kRecvX (q0 := 3) (ci := 9) hK hP hD hN hXS hS hA rfl rfl [3, 0, 4, 5, 14, 6, 7, 8, 9, 2, 10, 11, 12, 13, 15] rfl (by decide +kernel)) rfl rfl hl.1 rfl (lv_room (Nat.le_of_ble_eq_true rfl)) dX9_endDay_72 ⟨Nat.le_of_ble_eq_true rfl, Nat.le_of_ble_eq_true rfl⟩) hP hD hS hA [3, 0, 4, 5, 14, 6, 7, 8, 9, 2, 10, 11, 12, 13, 15] [1] rfl rfl (by decide +kernel) (by decide +kernel) ?_
                    clear hP hD hS
                    intro u_48 H locs w_36 hP hD hS
                    obtain ⟨sc49_37, sc40_38, sc41_39, sc42_40, sc43_41, sc44_42, sc45_43, sc46_44, sc47_45, sc48_46, sc50_47⟩ := u_48
                    replace hP : va_P D vwCl [(k2, .inl (cI, 40, .inl c2)), (k, .inr (9, [.ref k0, .ref k1, .ref k2, .ref k3, .ref k4, .ref k5, .int c6, .int c7, .int c8])), (k0, .inl (cI, 12, .inl c0)), (k1, .inl (cI, 40, .inl c1)), (k4, .inr (8, [.ref k40, .ref k41, .ref k42, .ref k43, .ref k44, .ref k45, .ref k46, .ref k47, .ref k48, .int sc49_37])), (k5, .inr (3, [.ref k50, .int c51])), (k40, .inl (cI, 60, .inl sc40_38)), (k41, .inl (cI, 60, .inl sc41_39)), (k42, .inl (cI, 60, .inl sc42_40)), (k43, .inl (cI, 60, .inl sc43_41)), (k44, .inl (cI, 60, .inl sc44_42)), (k45, .inl (cI, 60, .inl sc45_43)), (k46, .inl (cI, 40, .inl sc46_44)), (k47, .inl (cI, 40, .inl sc47_45)), (k48, .inl (cI, 40, .inl sc48_46)), (k50, .inl (cI, 36, .inl sc50_47))] H := hP
                    replace hD : va_D A [(k2, .inl (cI, 40, .inl c2)), (k, .inr (9, [.ref k0, .ref k1, .ref k2, .ref k3, .ref k4, .ref k5, .int c6, .int c7, .int c8])), (k0, .inl (cI, 12, .inl c0)), (k1, .inl (cI, 40, .inl c1)), (k4, .inr (8, [.ref k40, .ref k41, .ref k42, .ref k43, .ref k44, .ref k45, .ref k46, .ref k47, .ref k48, .int sc49_37])), (k5, .inr (3, [.ref k50, .int c51])), (k40, .inl (cI, 60, .inl sc40_38)), (k41, .inl (cI, 60, .inl sc41_39)), (k42, .inl (cI, 60, .inl sc42_40)), (k43, .inl (cI, 60, .inl sc43_41)), (k44, .inl (cI, 60, .inl sc44_42)), (k45, .inl (cI, 60, .inl sc45_43)), (k46, .inl (cI, 40, .inl sc46_44)), (k47, .inl (cI, 40, .inl sc47_45)), (k48, .inl (cI, 40, .inl sc48_46)), (k50, .inl (cI, 36, .inl sc50_47))] := hD
                    have lo_sc49_37 := k_lo sc49_37
                    have hi_sc49_37 := k_hi sc49_37
                    have h_49 := w_36
                    have h_49 : WR c0 c1 c2 c3 sc40_38 sc41_39 sc42_40 sc43_41 sc44_42 sc45_43 sc46_44 sc47_45 sc48_46 sc49_37 sc50_47 c51 c6 c7 c8 (wrkS g46_gx l46_1.toInt.toNat) := h_49
                    have h_49 : WR c0 c1 c2 c3 sc40_38 sc41_39 sc42_40 sc43_41 sc44_42 sc45_43 sc46_44 sc47_45 sc48_46 sc49_37 sc50_47 c51 c6 c7 c8 (wrkS g46_gx l46_1.toInt.toNat) := h_49
                    obtain ⟨gg_50, egg_50⟩ : ∃ g_ : Nat → Int32, g_ = (wrkS g46_gx l46_1.toInt.toNat) := ⟨_, rfl⟩
                    rw [← egg_50] at h_49
                    have b_51 : 0 ≤ sc49_37.toInt ∧ sc49_37.toInt ≤ 60 := WKR.n0 (WR.kw h_49)
                    have t_52 : sc49_37.toInt = (gg_50 1).toInt := WKR.nt (WR.kw h_49)
                    have t_53 : c51.toInt = (gg_50 2).toInt := PTR.nt (WR.kp h_49)
                    have t_54 : c8.toInt = (gg_50 0).toInt := by rw [WR.dd h_49]
                    obtain ⟨v_55, ev_55⟩ : ∃ y : Int32, y = l46_1 + 1 := ⟨_, rfl⟩
                    have tv_55 : v_55.toInt = l46_1.toInt + 1 := by rw [ev_55]; exact k_addv rfl zl_1 (by omega) (by omega)
                    refine lv_iinc (v := v_55) (lv' := [(1, .int v_55), (0, .ref k)]) hx hb dX9_endDay_75 hl (k := 0) rfl (by rw [ev_55]; rfl) (by decide +kernel) rfl ?_
                    clear hl
                    intro ls hl
                    refine lv_goto (tgt := 46) hx hb dX9_endDay_78 (by decide +kernel) ?_
                    exact ih46 v_55 sc49_37 sc40_38 sc41_39 sc42_40 sc43_41 sc44_42 sc45_43 sc46_44 sc47_45 sc48_46 sc50_47 gg_50 (by first | omega | decide | assumption | rfl) h_49 (by rw [egg_50, i46_2]; exact dyB_y (by omega) (by omega) (by rw [← i46_2]; omega)) (by rw [show gg_50 = dyB (dyA (eatS gx) (gx 2).toInt.toNat) v_55.toInt.toNat from (by rw [egg_50, i46_2]; exact dyB_y (by omega) (by omega) (by rw [← i46_2]; omega))]; exact (dyB_six (dyA_six (eatS_six pre1) _ (by omega) (by rw [eatS_2 pre1]; omega)).1 _ (by have := zl_0; omega) (by rw [dyA_2 pre1]; have := zl_0; omega)).1) (by first | omega | decide | assumption | rfl) (by omega) ls _ _ (lv_sub hl [0, 1] rfl) (hP.sub [2, 0, 5, 10, 15, 1, 3, 4, 6, 7, 8, 9, 11, 12, 13, 14] rfl) (hD.sub [2, 0, 5, 10, 15, 1, 3, 4, 6, 7, 8, 9, 11, 12, 13, 14] (by decide +kernel) rfl) hS
          exact hloop_46 _ 0 c49 c40 c41 c42 c43 g6_k44 sc45_8 sc46_9 sc47_10 sc48_11 g6_k50 g6_gx (by first | omega | (simp only [zl_0]; first | done | omega) | decide | assumption | rfl) i6_1 (by rw [zl_0, show (gx 2).toInt.toNat = l6_1.toInt.toNat from by omega]; exact i6_2) (by rw [show g6_gx = dyB (dyA (eatS gx) (gx 2).toInt.toNat) (0 : Int32).toInt.toNat from (by rw [zl_0, show (gx 2).toInt.toNat = l6_1.toInt.toNat from by omega]; exact i6_2)]; exact (dyB_six (dyA_six (eatS_six pre1) _ (by omega) (by rw [eatS_2 pre1]; omega)).1 _ (by have := zl_0; omega) (by rw [dyA_2 pre1]; have := zl_0; omega)).1) (by first | omega | (simp only [zl_0]; first | done | omega) | decide | assumption | rfl) (Nat.lt_succ_self _) ls _ _ (lv_sub hl [0, 1] rfl) hP hD hS
        · refine lv_aload_n hx hb dX9_endDay_17 rfl (lv_at hl 1 rfl) ?_
          refine va_get (D := D) (ci := 9) (v := .ref k5) (C := RX9) (T := TX9) (N := 9) hx hb hT giX9 hown hK hP 5 rfl rfl 5 (by decide +kernel) (hT (Cond.fieldLink RX9 34 "DesertWire$World" "parties" "LDesertWire$Parties;") mw_100) (fun _ h9 => h9) rfl dX9_endDay_18 ?_
          refine lv_iload_n hx hb dX9_endDay_21 rfl (lv_at hl 0 rfl) ?_
          refine kJi (wr := [(k0, .inl (cI, 12, .inl c0)), (k2, .inl (cI, 40, .inl c2)), (k44, .inl (cI, 60, .inl g6_k44)), (k, .inr (9, [.ref k0, .ref k1, .ref k2, .ref k3, .ref k4, .ref k5, .int c6, .int c7, .int c8])), (k1, .inl (cI, 40, .inl c1)), (k4, .inr (8, [.ref k40, .ref k41, .ref k42, .ref k43, .ref k44, .ref k45, .ref k46, .ref k47, .ref k48, .int c49])), (k40, .inl (cI, 60, .inl c40)), (k41, .inl (cI, 60, .inl c41)), (k42, .inl (cI, 60, .inl c42)), (k43, .inl (cI, 60, .inl c43)), (k45, .inl (cI, 60, .inl sc45_8)), (k46, .inl (cI, 40, .inl sc46_9)), (k47, .inl (cI, 40, .inl sc47_10)), (k48, .inl (cI, 40, .inl sc48_11))]) (va_runV (As := [.int l6_1]) (rest := []) ⟨hx, hb, hml, hown, hT⟩ (c_X3_isLostD l D cI aK aV k5 k50 H.size c51 g6_k50 g6_gx l6_1 (WR.kp i6_1) (by first | omega | decide | assumption | rfl) (by first | omega | decide | assumption | rfl)) (cwV 1 hT (gV_in mw_734 mw_973 mw_732 mw_733 mw_4) rfl rfl rfl (by decide +kernel) ⟨Nat.le_of_ble_eq_true rfl, Nat.le_of_ble_eq_true rfl⟩) (kRecvX (q0 := 2) (ci := 3) hK hP hD hN hXS hS hA rfl rfl [2, 4] rfl (by decide +kernel)) rfl rfl hl.1 rfl (lv_room (Nat.le_of_ble_eq_true rfl)) dX9_endDay_22 ⟨Nat.le_of_ble_eq_true rfl, Nat.le_of_ble_eq_true rfl⟩) hP hD hS hA [2, 4] [0, 1, 3, 5, 6, 7, 8, 9, 10, 11, 12, 13, 14, 15] rfl rfl (by decide +kernel) (by decide +kernel) ?_
          clear hP hD hS
          intro r_56 u_58 H locs w_57 hP hD hS
          replace hP : va_P D vwCl [(k0, .inl (cI, 12, .inl c0)), (k2, .inl (cI, 40, .inl c2)), (k44, .inl (cI, 60, .inl g6_k44)), (k, .inr (9, [.ref k0, .ref k1, .ref k2, .ref k3, .ref k4, .ref k5, .int c6, .int c7, .int c8])), (k1, .inl (cI, 40, .inl c1)), (k4, .inr (8, [.ref k40, .ref k41, .ref k42, .ref k43, .ref k44, .ref k45, .ref k46, .ref k47, .ref k48, .int c49])), (k40, .inl (cI, 60, .inl c40)), (k41, .inl (cI, 60, .inl c41)), (k42, .inl (cI, 60, .inl c42)), (k43, .inl (cI, 60, .inl c43)), (k45, .inl (cI, 60, .inl sc45_8)), (k46, .inl (cI, 40, .inl sc46_9)), (k47, .inl (cI, 40, .inl sc47_10)), (k48, .inl (cI, 40, .inl sc48_11)), (k5, .inr (3, [.ref k50, .int c51])), (k50, .inl (cI, 36, .inl g6_k50))] H := hP
          replace hD : va_D A [(k0, .inl (cI, 12, .inl c0)), (k2, .inl (cI, 40, .inl c2)), (k44, .inl (cI, 60, .inl g6_k44)), (k, .inr (9, [.ref k0, .ref k1, .ref k2, .ref k3, .ref k4, .ref k5, .int c6, .int c7, .int c8])), (k1, .inl (cI, 40, .inl c1)), (k4, .inr (8, [.ref k40, .ref k41, .ref k42, .ref k43, .ref k44, .ref k45, .ref k46, .ref k47, .ref k48, .int c49])), (k40, .inl (cI, 60, .inl c40)), (k41, .inl (cI, 60, .inl c41)), (k42, .inl (cI, 60, .inl c42)), (k43, .inl (cI, 60, .inl c43)), (k45, .inl (cI, 60, .inl sc45_8)), (k46, .inl (cI, 40, .inl sc46_9)), (k47, .inl (cI, 40, .inl sc47_10)), (k48, .inl (cI, 40, .inl sc48_11)), (k5, .inr (3, [.ref k50, .int c51])), (k50, .inl (cI, 36, .inl g6_k50))] := hD
          rcases w_57 with ⟨hr_56, h_59⟩ | ⟨hr_56, h_60⟩
          · have h_59 : (pW g6_gx l6_1 8).toInt = 2 := h_59
            obtain rfl : r_56 = 1 := hr_56.trans (by decide +kernel)
            refine b_if_ne hx hb zl_1 (tgt := 38) dX9_endDay_25 (by decide +kernel) (fun c_61 => ?_) (fun c_61 => by exfalso; omega)
            obtain ⟨v_62, ev_62⟩ : ∃ y : Int32, y = l6_1 + 1 := ⟨_, rfl⟩
            have tv_62 : v_62.toInt = l6_1.toInt + 1 := by rw [ev_62]; exact k_addv rfl zl_1 (by omega) (by omega)
            refine lv_iinc (v := v_62) (lv' := [(1, .int v_62), (0, .ref k)]) hx hb dX9_endDay_38 hl (k := 0) rfl (by rw [ev_62]; rfl) (by decide +kernel) rfl ?_
            clear hl
            intro ls hl
            refine lv_goto (tgt := 6) hx hb dX9_endDay_41 (by decide +kernel) ?_
            exact ih6 v_62 g6_k44 g6_k50 g6_gx (by first | omega | decide | assumption | rfl) i6_1 (i6_2.trans (dyA_y (by omega) (by omega) (by rw [← i6_2]; assumption))) (by rw [show g6_gx = dyA (eatS gx) v_62.toInt.toNat from (i6_2.trans (dyA_y (by omega) (by omega) (by rw [← i6_2]; assumption)))]; exact (dyA_six (eatS_six pre1) _ (by omega) (by rw [eatS_2 pre1]; omega)).1) (by first | omega | decide | assumption | rfl) (by omega) ls _ _ (lv_sub hl [0, 1] rfl) (hP.sub [0, 1, 14, 2, 15, 3, 4, 5, 6, 7, 8, 9, 10, 11, 12, 13] rfl) (hD.sub [0, 1, 14, 2, 15, 3, 4, 5, 6, 7, 8, 9, 10, 11, 12, 13] (by decide +kernel) rfl) hS
          · have h_60 : (pW g6_gx l6_1 8).toInt ≠ 2 := h_60
            obtain rfl : r_56 = 0 := hr_56.trans (by decide +kernel)
            refine b_if_ne hx hb zl_0 (tgt := 38) dX9_endDay_25 (by decide +kernel) (fun c_63 => by exfalso; omega) (fun c_63 => ?_)
            refine lv_aload_n hx hb dX9_endDay_28 rfl (lv_at hl 1 rfl) ?_
            refine lv_iload_n hx hb dX9_endDay_29 rfl (lv_at hl 0 rfl) ?_
            refine kJv (wr := [(k0, .inl (cI, 12, .inl c0)), (k44, .inl (cI, 60, .inl g6_k44)), (k1, .inl (cI, 40, .inl c1)), (k40, .inl (cI, 60, .inl c40)), (k41, .inl (cI, 60, .inl c41)), (k42, .inl (cI, 60, .inl c42)), (k43, .inl (cI, 60, .inl c43)), (k45, .inl (cI, 60, .inl sc45_8)), (k46, .inl (cI, 40, .inl sc46_9)), (k48, .inl (cI, 40, .inl sc48_11))]) (va_runV (As := [.int l6_1]) (rest := []) ⟨hx, hb, hml, hown, hT⟩ (c_X9_drinkOfD l D cI aK aV k k0 k1 k2 k3 k4 k5 k40 k41 k42 k43 k44 k45 k46 k47 k48 k50 H.size c6 c7 c8 c2 c49 c51 sc47_10 g6_k50 c0 c1 c3 c40 c41 c42 c43 g6_k44 sc45_8 sc46_9 sc48_11 g6_gx l6_1 i6_1 (And.left i6_3) (by first | omega | decide | assumption | rfl) (by first | omega | decide | assumption | rfl)) (cwV 1 hT (gV_in mw_977 mw_974 mw_976 mw_p3_1 mw_2) rfl rfl rfl (by decide +kernel) ⟨Nat.le_of_ble_eq_true rfl, Nat.le_of_ble_eq_true rfl⟩) (kRecvX (q0 := 3) (ci := 9) hK hP hD hN hXS hS hA rfl rfl [3, 1, 5, 14, 12, 15] rfl (by decide +kernel)) rfl rfl hl.1 rfl (lv_room (Nat.le_of_ble_eq_true rfl)) dX9_endDay_30 ⟨Nat.le_of_ble_eq_true rfl, Nat.le_of_ble_eq_true rfl⟩) hP hD hS hA [3, 1, 5, 14, 12, 15] [0, 2, 4, 6, 7, 8, 9, 10, 11, 13] rfl rfl (by decide +kernel) (by decide +kernel) ?_
            clear hP hD hS
            intro sc50_66 H locs w_65 hP hD hS
            replace hP : va_P D vwCl [(k0, .inl (cI, 12, .inl c0)), (k44, .inl (cI, 60, .inl g6_k44)), (k1, .inl (cI, 40, .inl c1)), (k40, .inl (cI, 60, .inl c40)), (k41, .inl (cI, 60, .inl c41)), (k42, .inl (cI, 60, .inl c42)), (k43, .inl (cI, 60, .inl c43)), (k45, .inl (cI, 60, .inl sc45_8)), (k46, .inl (cI, 40, .inl sc46_9)), (k48, .inl (cI, 40, .inl sc48_11)), (k, .inr (9, [.ref k0, .ref k1, .ref k2, .ref k3, .ref k4, .ref k5, .int c6, .int c7, .int c8])), (k2, .inl (cI, 40, .inl c2)), (k4, .inr (8, [.ref k40, .ref k41, .ref k42, .ref k43, .ref k44, .ref k45, .ref k46, .ref k47, .ref k48, .int c49])), (k5, .inr (3, [.ref k50, .int c51])), (k47, .inl (cI, 40, .inl sc47_10)), (k50, .inl (cI, 36, .inl sc50_66))] H := hP
            replace hD : va_D A [(k0, .inl (cI, 12, .inl c0)), (k44, .inl (cI, 60, .inl g6_k44)), (k1, .inl (cI, 40, .inl c1)), (k40, .inl (cI, 60, .inl c40)), (k41, .inl (cI, 60, .inl c41)), (k42, .inl (cI, 60, .inl c42)), (k43, .inl (cI, 60, .inl c43)), (k45, .inl (cI, 60, .inl sc45_8)), (k46, .inl (cI, 40, .inl sc46_9)), (k48, .inl (cI, 40, .inl sc48_11)), (k, .inr (9, [.ref k0, .ref k1, .ref k2, .ref k3, .ref k4, .ref k5, .int c6, .int c7, .int c8])), (k2, .inl (cI, 40, .inl c2)), (k4, .inr (8, [.ref k40, .ref k41, .ref k42, .ref k43, .ref k44, .ref k45, .ref k46, .ref k47, .ref k48, .int c49])), (k5, .inr (3, [.ref k50, .int c51])), (k47, .inl (cI, 40, .inl sc47_10)), (k50, .inl (cI, 36, .inl sc50_66))] := hD
            have h_67 := w_65
            have h_67 : WR c0 c1 c2 c3 c40 c41 c42 c43 g6_k44 sc45_8 sc46_9 sc47_10 sc48_11 c49 sc50_66 c51 c6 c7 c8 (drkS g6_gx l6_1.toInt.toNat) := h_67
            have h_67 : WR c0 c1 c2 c3 c40 c41 c42 c43 g6_k44 sc45_8 sc46_9 sc47_10 sc48_11 c49 sc50_66 c51 c6 c7 c8 (drkS g6_gx l6_1.toInt.toNat) := h_67
            obtain ⟨gg_68, egg_68⟩ : ∃ g_ : Nat → Int32, g_ = (drkS g6_gx l6_1.toInt.toNat) := ⟨_, rfl⟩
            rw [← egg_68] at h_67
            have t_69 : c49.toInt = (gg_68 1).toInt := WKR.nt (WR.kw h_67)
            have t_70 : c51.toInt = (gg_68 2).toInt := PTR.nt (WR.kp h_67)
            have t_71 : c8.toInt = (gg_68 0).toInt := by rw [WR.dd h_67]
            refine lv_aload_n hx hb dX9_endDay_33 rfl (lv_at hl 1 rfl) ?_
            refine lv_iload_n hx hb dX9_endDay_34 rfl (lv_at hl 0 rfl) ?_
            refine kJv (wr := [(k0, .inl (cI, 12, .inl c0)), (k1, .inl (cI, 40, .inl c1)), (k42, .inl (cI, 60, .inl c42)), (k43, .inl (cI, 60, .inl c43)), (k46, .inl (cI, 40, .inl sc46_9)), (k2, .inl (cI, 40, .inl c2)), (k47, .inl (cI, 40, .inl sc47_10))]) (va_runV (As := [.int l6_1]) (rest := []) ⟨hx, hb, hml, hown, hT⟩ (c_X9_eatOfD l D cI aK aV k k0 k1 k2 k3 k4 k5 k40 k41 k42 k43 k44 k45 k46 k47 k48 k50 H.size c6 c7 c8 c49 c51 c40 c41 g6_k44 sc45_8 sc48_11 sc50_66 c0 c1 c2 c3 c42 c43 sc46_9 sc47_10 gg_68 l6_1 h_67 (by rw [egg_68]; exact drk_sixI i6_3 (by omega) (by omega) (by omega) (by assumption)) (by first | omega | decide | assumption | rfl) (by first | omega | decide | assumption | rfl)) (cwV 1 hT (gV_in mw_986 mw_983 mw_985 mw_p3_2 mw_2) rfl rfl rfl (by decide +kernel) ⟨Nat.le_of_ble_eq_true rfl, Nat.le_of_ble_eq_true rfl⟩) (kRecvX (q0 := 10) (ci := 9) hK hP hD hN hXS hS hA rfl rfl [10, 12, 13, 3, 4, 1, 7, 9, 15] rfl (by decide +kernel)) rfl rfl hl.1 rfl (lv_room (Nat.le_of_ble_eq_true rfl)) dX9_endDay_35 ⟨Nat.le_of_ble_eq_true rfl, Nat.le_of_ble_eq_true rfl⟩) hP hD hS hA [10, 12, 13, 3, 4, 1, 7, 9, 15] [0, 2, 5, 6, 8, 11, 14] rfl rfl (by decide +kernel) (by decide +kernel) ?_
            clear hP hD hS
            intro u_76 H locs w_73 hP hD hS
            obtain ⟨sc44_74, sc50_75⟩ := u_76
            replace hP : va_P D vwCl [(k0, .inl (cI, 12, .inl c0)), (k1, .inl (cI, 40, .inl c1)), (k42, .inl (cI, 60, .inl c42)), (k43, .inl (cI, 60, .inl c43)), (k46, .inl (cI, 40, .inl sc46_9)), (k2, .inl (cI, 40, .inl c2)), (k47, .inl (cI, 40, .inl sc47_10)), (k, .inr (9, [.ref k0, .ref k1, .ref k2, .ref k3, .ref k4, .ref k5, .int c6, .int c7, .int c8])), (k4, .inr (8, [.ref k40, .ref k41, .ref k42, .ref k43, .ref k44, .ref k45, .ref k46, .ref k47, .ref k48, .int c49])), (k5, .inr (3, [.ref k50, .int c51])), (k40, .inl (cI, 60, .inl c40)), (k41, .inl (cI, 60, .inl c41)), (k44, .inl (cI, 60, .inl sc44_74)), (k45, .inl (cI, 60, .inl sc45_8)), (k48, .inl (cI, 40, .inl sc48_11)), (k50, .inl (cI, 36, .inl sc50_75))] H := hP
            replace hD : va_D A [(k0, .inl (cI, 12, .inl c0)), (k1, .inl (cI, 40, .inl c1)), (k42, .inl (cI, 60, .inl c42)), (k43, .inl (cI, 60, .inl c43)), (k46, .inl (cI, 40, .inl sc46_9)), (k2, .inl (cI, 40, .inl c2)), (k47, .inl (cI, 40, .inl sc47_10)), (k, .inr (9, [.ref k0, .ref k1, .ref k2, .ref k3, .ref k4, .ref k5, .int c6, .int c7, .int c8])), (k4, .inr (8, [.ref k40, .ref k41, .ref k42, .ref k43, .ref k44, .ref k45, .ref k46, .ref k47, .ref k48, .int c49])), (k5, .inr (3, [.ref k50, .int c51])), (k40, .inl (cI, 60, .inl c40)), (k41, .inl (cI, 60, .inl c41)), (k44, .inl (cI, 60, .inl sc44_74)), (k45, .inl (cI, 60, .inl sc45_8)), (k48, .inl (cI, 40, .inl sc48_11)), (k50, .inl (cI, 36, .inl sc50_75))] := hD
            have h_77 := w_73
            have h_77 : WR c0 c1 c2 c3 c40 c41 c42 c43 sc44_74 sc45_8 sc46_9 sc47_10 sc48_11 c49 sc50_75 c51 c6 c7 c8 (sttS (eatP gg_68 l6_1.toInt.toNat) l6_1.toInt.toNat) := h_77
            have h_77 : WR c0 c1 c2 c3 c40 c41 c42 c43 sc44_74 sc45_8 sc46_9 sc47_10 sc48_11 c49 sc50_75 c51 c6 c7 c8 (sttS (eatP gg_68 l6_1.toInt.toNat) l6_1.toInt.toNat) := h_77
            obtain ⟨gg_78, egg_78⟩ : ∃ g_ : Nat → Int32, g_ = (sttS (eatP gg_68 l6_1.toInt.toNat) l6_1.toInt.toNat) := ⟨_, rfl⟩
            rw [← egg_78] at h_77
            have t_79 : c49.toInt = (gg_78 1).toInt := WKR.nt (WR.kw h_77)
            have t_80 : c51.toInt = (gg_78 2).toInt := PTR.nt (WR.kp h_77)
            have t_81 : c8.toInt = (gg_78 0).toInt := by rw [WR.dd h_77]
            obtain ⟨v_82, ev_82⟩ : ∃ y : Int32, y = l6_1 + 1 := ⟨_, rfl⟩
            have tv_82 : v_82.toInt = l6_1.toInt + 1 := by rw [ev_82]; exact k_addv rfl zl_1 (by omega) (by omega)
            refine lv_iinc (v := v_82) (lv' := [(1, .int v_82), (0, .ref k)]) hx hb dX9_endDay_38 hl (k := 0) rfl (by rw [ev_82]; rfl) (by decide +kernel) rfl ?_
            clear hl
            intro ls hl
            refine lv_goto (tgt := 6) hx hb dX9_endDay_41 (by decide +kernel) ?_
            exact ih6 v_82 sc44_74 sc50_75 gg_78 (by first | omega | decide | assumption | rfl) h_77 (by rw [egg_78, egg_68, i6_2]; exact dyA_n (by omega) (by omega) (by rw [← i6_2]; assumption)) (by rw [show gg_78 = dyA (eatS gx) v_82.toInt.toNat from (by rw [egg_78, egg_68, i6_2]; exact dyA_n (by omega) (by omega) (by rw [← i6_2]; assumption))]; exact (dyA_six (eatS_six pre1) _ (by omega) (by rw [eatS_2 pre1]; omega)).1) (by first | omega | decide | assumption | rfl) (by omega) ls _ _ (lv_sub hl [0, 1] rfl) (hP.sub [0, 5, 9, 12, 15, 7, 1, 8, 10, 11, 2, 3, 13, 4, 6, 14] rfl) (hD.sub [0, 5, 9, 12, 15, 7, 1, 8, 10, 11, 2, 3, 13, 4, 6, 14] (by decide +kernel) rfl) hS
  exact hloop_6 _ 0 c44 c50 gg_14 (by first | omega | (simp only [zl_0]; first | done | omega) | decide | assumption | rfl) h_13 (by rw [zl_0]; exact egg_14) (by rw [egg_14]; exact eatN_six pre1 _ (by omega)) (by first | omega | (simp only [zl_0]; first | done | omega) | decide | assumption | rfl) (Nat.lt_succ_self _) ls _ _ (lv_sub hl [0, 1] rfl) hP hD hS

set_option maxHeartbeats 4000000 in
set_option maxRecDepth 100000 in
theorem c_X9_copyFromD (l : Launch) (D : va_G) (cI : ClassId) (aK aV : Nat → Nat) (k o k0 k1 k2 k3 k4 k5 k40 k41 k42 k43 k44 k45 k46 k47 k48 k50 o0 o1 o2 o3 o4 o5 o40 o41 o42 o43 o44 o45 o46 o47 o48 o50 : Nat) (sz : Nat) (c6 : Int32) (c7 : Int32) (c8 : Int32) (c0 : Nat → Int32) (c1 : Nat → Int32) (c2 : Nat → Int32) (c3 : Nat → Int32) (c49 : Int32) (c51 : Int32) (c40 : Nat → Int32) (c41 : Nat → Int32) (c42 : Nat → Int32) (c43 : Nat → Int32) (c44 : Nat → Int32) (c45 : Nat → Int32) (c46 : Nat → Int32) (c47 : Nat → Int32) (c48 : Nat → Int32) (c50 : Nat → Int32) (d6 : Int32) (d7 : Int32) (d8 : Int32) (d0 : Nat → Int32) (d1 : Nat → Int32) (d2 : Nat → Int32) (d3 : Nat → Int32) (d49 : Int32) (d51 : Int32) (d40 : Nat → Int32) (d41 : Nat → Int32) (d42 : Nat → Int32) (d43 : Nat → Int32) (d44 : Nat → Int32) (d45 : Nat → Int32) (d46 : Nat → Int32) (d47 : Nat → Int32) (d48 : Nat → Int32) (d50 : Nat → Int32) (gy : Nat → Int32) (pre0 : WR d0 d1 d2 d3 d40 d41 d42 d43 d44 d45 d46 d47 d48 d49 d50 d51 d6 d7 d8 gy) : Met l yX9_copyFrom (gW yX9_copyFrom cX9_copyFrom 2 none) ({ frames := 2, cells := 0, slots := 0, locals := 85 } : Room) (kPreX D cI aK aV [.ref k, .ref o] [(k, .inr (9, [.ref k0, .ref k1, .ref k2, .ref k3, .ref k4, .ref k5, .int c6, .int c7, .int c8])), (k0, .inl (cI, 12, .inl c0)), (k1, .inl (cI, 40, .inl c1)), (k2, .inl (cI, 40, .inl c2)), (k3, .inl (cI, 20, .inl c3)), (k4, .inr (8, [.ref k40, .ref k41, .ref k42, .ref k43, .ref k44, .ref k45, .ref k46, .ref k47, .ref k48, .int c49])), (k5, .inr (3, [.ref k50, .int c51])), (k40, .inl (cI, 60, .inl c40)), (k41, .inl (cI, 60, .inl c41)), (k42, .inl (cI, 60, .inl c42)), (k43, .inl (cI, 60, .inl c43)), (k44, .inl (cI, 60, .inl c44)), (k45, .inl (cI, 60, .inl c45)), (k46, .inl (cI, 40, .inl c46)), (k47, .inl (cI, 40, .inl c47)), (k48, .inl (cI, 40, .inl c48)), (k50, .inl (cI, 36, .inl c50)), (o, .inr (9, [.ref o0, .ref o1, .ref o2, .ref o3, .ref o4, .ref o5, .int d6, .int d7, .int d8])), (o0, .inl (cI, 12, .inl d0)), (o1, .inl (cI, 40, .inl d1)), (o2, .inl (cI, 40, .inl d2)), (o3, .inl (cI, 20, .inl d3)), (o4, .inr (8, [.ref o40, .ref o41, .ref o42, .ref o43, .ref o44, .ref o45, .ref o46, .ref o47, .ref o48, .int d49])), (o5, .inr (3, [.ref o50, .int d51])), (o40, .inl (cI, 60, .inl d40)), (o41, .inl (cI, 60, .inl d41)), (o42, .inl (cI, 60, .inl d42)), (o43, .inl (cI, 60, .inl d43)), (o44, .inl (cI, 60, .inl d44)), (o45, .inl (cI, 60, .inl d45)), (o46, .inl (cI, 40, .inl d46)), (o47, .inl (cI, 40, .inl d47)), (o48, .inl (cI, 40, .inl d48)), (o50, .inl (cI, 36, .inl d50))] sz) (va_Qv (fun (u : Int32 × Int32 × Int32 × (Nat → Int32) × (Nat → Int32) × (Nat → Int32) × (Nat → Int32) × Int32 × Int32 × (Nat → Int32) × (Nat → Int32) × (Nat → Int32) × (Nat → Int32) × (Nat → Int32) × (Nat → Int32) × (Nat → Int32) × (Nat → Int32) × (Nat → Int32) × (Nat → Int32)) => WR u.2.2.2.1 u.2.2.2.2.1 u.2.2.2.2.2.1 u.2.2.2.2.2.2.1 u.2.2.2.2.2.2.2.2.2.1 u.2.2.2.2.2.2.2.2.2.2.1 u.2.2.2.2.2.2.2.2.2.2.2.1 u.2.2.2.2.2.2.2.2.2.2.2.2.1 u.2.2.2.2.2.2.2.2.2.2.2.2.2.1 u.2.2.2.2.2.2.2.2.2.2.2.2.2.2.1 u.2.2.2.2.2.2.2.2.2.2.2.2.2.2.2.1 u.2.2.2.2.2.2.2.2.2.2.2.2.2.2.2.2.1 u.2.2.2.2.2.2.2.2.2.2.2.2.2.2.2.2.2.1 u.2.2.2.2.2.2.2.1 u.2.2.2.2.2.2.2.2.2.2.2.2.2.2.2.2.2.2 u.2.2.2.2.2.2.2.2.1 u.1 u.2.1 u.2.2.1 gy) (fun u t => kWd D cI (va_A [(k, .inr (9, [.ref k0, .ref k1, .ref k2, .ref k3, .ref k4, .ref k5, .int c6, .int c7, .int c8])), (k0, .inl (cI, 12, .inl c0)), (k1, .inl (cI, 40, .inl c1)), (k2, .inl (cI, 40, .inl c2)), (k3, .inl (cI, 20, .inl c3)), (k4, .inr (8, [.ref k40, .ref k41, .ref k42, .ref k43, .ref k44, .ref k45, .ref k46, .ref k47, .ref k48, .int c49])), (k5, .inr (3, [.ref k50, .int c51])), (k40, .inl (cI, 60, .inl c40)), (k41, .inl (cI, 60, .inl c41)), (k42, .inl (cI, 60, .inl c42)), (k43, .inl (cI, 60, .inl c43)), (k44, .inl (cI, 60, .inl c44)), (k45, .inl (cI, 60, .inl c45)), (k46, .inl (cI, 40, .inl c46)), (k47, .inl (cI, 40, .inl c47)), (k48, .inl (cI, 40, .inl c48)), (k50, .inl (cI, 36, .inl c50)), (o, .inr (9, [.ref o0, .ref o1, .ref o2, .ref o3, .ref o4, .ref o5, .int d6, .int d7, .int d8])), (o0, .inl (cI, 12, .inl d0)), (o1, .inl (cI, 40, .inl d1)), (o2, .inl (cI, 40, .inl d2)), (o3, .inl (cI, 20, .inl d3)), (o4, .inr (8, [.ref o40, .ref o41, .ref o42, .ref o43, .ref o44, .ref o45, .ref o46, .ref o47, .ref o48, .int d49])), (o5, .inr (3, [.ref o50, .int d51])), (o40, .inl (cI, 60, .inl d40)), (o41, .inl (cI, 60, .inl d41)), (o42, .inl (cI, 60, .inl d42)), (o43, .inl (cI, 60, .inl d43)), (o44, .inl (cI, 60, .inl d44)), (o45, .inl (cI, 60, .inl d45)), (o46, .inl (cI, 40, .inl d46)), (o47, .inl (cI, 40, .inl d47)), (o48, .inl (cI, 40, .inl d48)), (o50, .inl (cI, 36, .inl d50))] sz) [(k, .inr (9, [.ref k0, .ref k1, .ref k2, .ref k3, .ref k4, .ref k5, .int u.1, .int u.2.1, .int u.2.2.1])), (k0, .inl (cI, 12, .inl u.2.2.2.1)), (k1, .inl (cI, 40, .inl u.2.2.2.2.1)), (k2, .inl (cI, 40, .inl u.2.2.2.2.2.1)), (k3, .inl (cI, 20, .inl u.2.2.2.2.2.2.1)), (k4, .inr (8, [.ref k40, .ref k41, .ref k42, .ref k43, .ref k44, .ref k45, .ref k46, .ref k47, .ref k48, .int u.2.2.2.2.2.2.2.1])), (k5, .inr (3, [.ref k50, .int u.2.2.2.2.2.2.2.2.1])), (k40, .inl (cI, 60, .inl u.2.2.2.2.2.2.2.2.2.1)), (k41, .inl (cI, 60, .inl u.2.2.2.2.2.2.2.2.2.2.1)), (k42, .inl (cI, 60, .inl u.2.2.2.2.2.2.2.2.2.2.2.1)), (k43, .inl (cI, 60, .inl u.2.2.2.2.2.2.2.2.2.2.2.2.1)), (k44, .inl (cI, 60, .inl u.2.2.2.2.2.2.2.2.2.2.2.2.2.1)), (k45, .inl (cI, 60, .inl u.2.2.2.2.2.2.2.2.2.2.2.2.2.2.1)), (k46, .inl (cI, 40, .inl u.2.2.2.2.2.2.2.2.2.2.2.2.2.2.2.1)), (k47, .inl (cI, 40, .inl u.2.2.2.2.2.2.2.2.2.2.2.2.2.2.2.2.1)), (k48, .inl (cI, 40, .inl u.2.2.2.2.2.2.2.2.2.2.2.2.2.2.2.2.2.1)), (k50, .inl (cI, 36, .inl u.2.2.2.2.2.2.2.2.2.2.2.2.2.2.2.2.2.2)), (o, .inr (9, [.ref o0, .ref o1, .ref o2, .ref o3, .ref o4, .ref o5, .int d6, .int d7, .int d8])), (o0, .inl (cI, 12, .inl d0)), (o1, .inl (cI, 40, .inl d1)), (o2, .inl (cI, 40, .inl d2)), (o3, .inl (cI, 20, .inl d3)), (o4, .inr (8, [.ref o40, .ref o41, .ref o42, .ref o43, .ref o44, .ref o45, .ref o46, .ref o47, .ref o48, .int d49])), (o5, .inr (3, [.ref o50, .int d51])), (o40, .inl (cI, 60, .inl d40)), (o41, .inl (cI, 60, .inl d41)), (o42, .inl (cI, 60, .inl d42)), (o43, .inl (cI, 60, .inl d43)), (o44, .inl (cI, 60, .inl d44)), (o45, .inl (cI, 60, .inl d45)), (o46, .inl (cI, 40, .inl d46)), (o47, .inl (cI, 40, .inl d47)), (o48, .inl (cI, 40, .inl d48)), (o50, .inl (cI, 36, .inl d50))] t) (va_A [(k, .inr (9, [.ref k0, .ref k1, .ref k2, .ref k3, .ref k4, .ref k5, .int c6, .int c7, .int c8])), (k0, .inl (cI, 12, .inl c0)), (k1, .inl (cI, 40, .inl c1)), (k2, .inl (cI, 40, .inl c2)), (k3, .inl (cI, 20, .inl c3)), (k4, .inr (8, [.ref k40, .ref k41, .ref k42, .ref k43, .ref k44, .ref k45, .ref k46, .ref k47, .ref k48, .int c49])), (k5, .inr (3, [.ref k50, .int c51])), (k40, .inl (cI, 60, .inl c40)), (k41, .inl (cI, 60, .inl c41)), (k42, .inl (cI, 60, .inl c42)), (k43, .inl (cI, 60, .inl c43)), (k44, .inl (cI, 60, .inl c44)), (k45, .inl (cI, 60, .inl c45)), (k46, .inl (cI, 40, .inl c46)), (k47, .inl (cI, 40, .inl c47)), (k48, .inl (cI, 40, .inl c48)), (k50, .inl (cI, 36, .inl c50)), (o, .inr (9, [.ref o0, .ref o1, .ref o2, .ref o3, .ref o4, .ref o5, .int d6, .int d7, .int d8])), (o0, .inl (cI, 12, .inl d0)), (o1, .inl (cI, 40, .inl d1)), (o2, .inl (cI, 40, .inl d2)), (o3, .inl (cI, 20, .inl d3)), (o4, .inr (8, [.ref o40, .ref o41, .ref o42, .ref o43, .ref o44, .ref o45, .ref o46, .ref o47, .ref o48, .int d49])), (o5, .inr (3, [.ref o50, .int d51])), (o40, .inl (cI, 60, .inl d40)), (o41, .inl (cI, 60, .inl d41)), (o42, .inl (cI, 60, .inl d42)), (o43, .inl (cI, 60, .inl d43)), (o44, .inl (cI, 60, .inl d44)), (o45, .inl (cI, 60, .inl d45)), (o46, .inl (cI, 40, .inl d46)), (o47, .inl (cI, 40, .inl d47)), (o48, .inl (cI, 40, .inl d48)), (o50, .inl (cI, 36, .inl d50))] sz)) 0 0 (va_A [(k, .inr (9, [.ref k0, .ref k1, .ref k2, .ref k3, .ref k4, .ref k5, .int c6, .int c7, .int c8])), (k0, .inl (cI, 12, .inl c0)), (k1, .inl (cI, 40, .inl c1)), (k2, .inl (cI, 40, .inl c2)), (k3, .inl (cI, 20, .inl c3)), (k4, .inr (8, [.ref k40, .ref k41, .ref k42, .ref k43, .ref k44, .ref k45, .ref k46, .ref k47, .ref k48, .int c49])), (k5, .inr (3, [.ref k50, .int c51])), (k40, .inl (cI, 60, .inl c40)), (k41, .inl (cI, 60, .inl c41)), (k42, .inl (cI, 60, .inl c42)), (k43, .inl (cI, 60, .inl c43)), (k44, .inl (cI, 60, .inl c44)), (k45, .inl (cI, 60, .inl c45)), (k46, .inl (cI, 40, .inl c46)), (k47, .inl (cI, 40, .inl c47)), (k48, .inl (cI, 40, .inl c48)), (k50, .inl (cI, 36, .inl c50)), (o, .inr (9, [.ref o0, .ref o1, .ref o2, .ref o3, .ref o4, .ref o5, .int d6, .int d7, .int d8])), (o0, .inl (cI, 12, .inl d0)), (o1, .inl (cI, 40, .inl d1)), (o2, .inl (cI, 40, .inl d2)), (o3, .inl (cI, 20, .inl d3)), (o4, .inr (8, [.ref o40, .ref o41, .ref o42, .ref o43, .ref o44, .ref o45, .ref o46, .ref o47, .ref o48, .int d49])), (o5, .inr (3, [.ref o50, .int d51])), (o40, .inl (cI, 60, .inl d40)), (o41, .inl (cI, 60, .inl d41)), (o42, .inl (cI, 60, .inl d42)), (o43, .inl (cI, 60, .inl d43)), (o44, .inl (cI, 60, .inl d44)), (o45, .inl (cI, 60, .inl d45)), (o46, .inl (cI, 40, .inl d46)), (o47, .inl (cI, 40, .inl d47)), (o48, .inl (cI, 40, .inl d48)), (o50, .inl (cI, 36, .inl d50))] sz) := by
  refine kMetVX (own := RX9) (by decide +kernel) rfl (Nat.le_of_ble_eq_true rfl) ?_
  intro p e s m args below meth c hx hb hT hown hname hml A Q hK hP hD hS hA hN hXS hRet ls hl
  have hl : lv_has ls 2 [(0, .ref k), (1, .ref o)] := hl
  have lo_d6 := k_lo d6
  have hi_d6 := k_hi d6
  have lo_d7 := k_lo d7
  have hi_d7 := k_hi d7
  have lo_d8 := k_lo d8
  have hi_d8 := k_hi d8
  have lo_d49 := k_lo d49
  have hi_d49 := k_hi d49
  have lo_d51 := k_lo d51
  have hi_d51 := k_hi d51
  have pre0 : WR d0 d1 d2 d3 d40 d41 d42 d43 d44 d45 d46 d47 d48 d49 d50 d51 d6 d7 d8 gy := pre0
  have b_1 : 0 ≤ d49.toInt ∧ d49.toInt ≤ 60 := WKR.n0 (WR.kw pre0)
  have t_2 : d49.toInt = (gy 1).toInt := WKR.nt (WR.kw pre0)
  have b_3 : 0 ≤ d51.toInt ∧ d51.toInt ≤ 4 := ((WR.kp pre0)).2.1
  have t_4 : d51.toInt = (gy 2).toInt := PTR.nt (WR.kp pre0)
  have t_5 : d8.toInt = (gy 0).toInt := by rw [WR.dd pre0]
  refine lv_aload_n hx hb dX9_copyFrom_0 rfl (lv_at hl 1 rfl) ?_
  refine va_get (D := D) (ci := 9) (v := .ref o0) (C := RX9) (T := TX9) (N := 9) hx hb hT giX9 hown hK hP 17 rfl rfl 0 (by decide +kernel) (hT (Cond.fieldLink RX9 9 "DesertWire$World" "rains" "[I") mw_89) (fun _ h9 => h9) rfl dX9_copyFrom_1 ?_
  refine lv_iconst (v := 0) hx hb dX9_copyFrom_4 (by decide +kernel) ?_
  refine lv_aload_n hx hb dX9_copyFrom_5 rfl (lv_at hl 0 rfl) ?_
  refine va_get (D := D) (ci := 9) (v := .ref k0) (C := RX9) (T := TX9) (N := 9) hx hb hT giX9 hown hK hP 0 rfl rfl 0 (by decide +kernel) (hT (Cond.fieldLink RX9 9 "DesertWire$World" "rains" "[I") mw_89) (fun _ h9 => h9) rfl dX9_copyFrom_6 ?_
  refine lv_iconst (v := 0) hx hb dX9_copyFrom_9 (by decide +kernel) ?_
  refine lv_bipush (v := 12) hx hb dX9_copyFrom_10 (by decide +kernel) ?_
  refine k_copy (c0 := cI) (c1 := cI) hx hb (hml.trans hl.1.symm) hown (hT _ mw_1015) (hT _ mw_865) (hT _ mw_864) (hT _ mw_19) hK hP hD hS 18 1 rfl rfl (by decide +kernel) (by decide +kernel) (Nat.le_of_ble_eq_true rfl) (by decide +kernel) dX9_copyFrom_12 ?_
  clear hP hD hS
  intro H locs hP hD hS
  replace hP : va_P D vwCl [(k, .inr (9, [.ref k0, .ref k1, .ref k2, .ref k3, .ref k4, .ref k5, .int c6, .int c7, .int c8])), (k0, .inl (cI, 12, .inl d0)), (k1, .inl (cI, 40, .inl c1)), (k2, .inl (cI, 40, .inl c2)), (k3, .inl (cI, 20, .inl c3)), (k4, .inr (8, [.ref k40, .ref k41, .ref k42, .ref k43, .ref k44, .ref k45, .ref k46, .ref k47, .ref k48, .int c49])), (k5, .inr (3, [.ref k50, .int c51])), (k40, .inl (cI, 60, .inl c40)), (k41, .inl (cI, 60, .inl c41)), (k42, .inl (cI, 60, .inl c42)), (k43, .inl (cI, 60, .inl c43)), (k44, .inl (cI, 60, .inl c44)), (k45, .inl (cI, 60, .inl c45)), (k46, .inl (cI, 40, .inl c46)), (k47, .inl (cI, 40, .inl c47)), (k48, .inl (cI, 40, .inl c48)), (k50, .inl (cI, 36, .inl c50)), (o, .inr (9, [.ref o0, .ref o1, .ref o2, .ref o3, .ref o4, .ref o5, .int d6, .int d7, .int d8])), (o0, .inl (cI, 12, .inl d0)), (o1, .inl (cI, 40, .inl d1)), (o2, .inl (cI, 40, .inl d2)), (o3, .inl (cI, 20, .inl d3)), (o4, .inr (8, [.ref o40, .ref o41, .ref o42, .ref o43, .ref o44, .ref o45, .ref o46, .ref o47, .ref o48, .int d49])), (o5, .inr (3, [.ref o50, .int d51])), (o40, .inl (cI, 60, .inl d40)), (o41, .inl (cI, 60, .inl d41)), (o42, .inl (cI, 60, .inl d42)), (o43, .inl (cI, 60, .inl d43)), (o44, .inl (cI, 60, .inl d44)), (o45, .inl (cI, 60, .inl d45)), (o46, .inl (cI, 40, .inl d46)), (o47, .inl (cI, 40, .inl d47)), (o48, .inl (cI, 40, .inl d48)), (o50, .inl (cI, 36, .inl d50))] H := hP
  replace hD : va_D A [(k, .inr (9, [.ref k0, .ref k1, .ref k2, .ref k3, .ref k4, .ref k5, .int c6, .int c7, .int c8])), (k0, .inl (cI, 12, .inl d0)), (k1, .inl (cI, 40, .inl c1)), (k2, .inl (cI, 40, .inl c2)), (k3, .inl (cI, 20, .inl c3)), (k4, .inr (8, [.ref k40, .ref k41, .ref k42, .ref k43, .ref k44, .ref k45, .ref k46, .ref k47, .ref k48, .int c49])), (k5, .inr (3, [.ref k50, .int c51])), (k40, .inl (cI, 60, .inl c40)), (k41, .inl (cI, 60, .inl c41)), (k42, .inl (cI, 60, .inl c42)), (k43, .inl (cI, 60, .inl c43)), (k44, .inl (cI, 60, .inl c44)), (k45, .inl (cI, 60, .inl c45)), (k46, .inl (cI, 40, .inl c46)), (k47, .inl (cI, 40, .inl c47)), (k48, .inl (cI, 40, .inl c48)), (k50, .inl (cI, 36, .inl c50)), (o, .inr (9, [.ref o0, .ref o1, .ref o2, .ref o3, .ref o4, .ref o5, .int d6, .int d7, .int d8])), (o0, .inl (cI, 12, .inl d0)), (o1, .inl (cI, 40, .inl d1)), (o2, .inl (cI, 40, .inl d2)), (o3, .inl (cI, 20, .inl d3)), (o4, .inr (8, [.ref o40, .ref o41, .ref o42, .ref o43, .ref o44, .ref o45, .ref o46, .ref o47, .ref o48, .int d49])), (o5, .inr (3, [.ref o50, .int d51])), (o40, .inl (cI, 60, .inl d40)), (o41, .inl (cI, 60, .inl d41)), (o42, .inl (cI, 60, .inl d42)), (o43, .inl (cI, 60, .inl d43)), (o44, .inl (cI, 60, .inl d44)), (o45, .inl (cI, 60, .inl d45)), (o46, .inl (cI, 40, .inl d46)), (o47, .inl (cI, 40, .inl d47)), (o48, .inl (cI, 40, .inl d48)), (o50, .inl (cI, 36, .inl d50))] := hD
  refine lv_aload_n hx hb dX9_copyFrom_15 rfl (lv_at hl 1 rfl) ?_
  refine va_get (D := D) (ci := 9) (v := .ref o1) (C := RX9) (T := TX9) (N := 9) hx hb hT giX9 hown hK hP 17 rfl rfl 1 (by decide +kernel) (hT (Cond.fieldLink RX9 15 "DesertWire$World" "soils" "[I") mw_91) (fun _ h9 => h9) rfl dX9_copyFrom_16 ?_
  refine lv_iconst (v := 0) hx hb dX9_copyFrom_19 (by decide +kernel) ?_
  refine lv_aload_n hx hb dX9_copyFrom_20 rfl (lv_at hl 0 rfl) ?_
  refine va_get (D := D) (ci := 9) (v := .ref k1) (C := RX9) (T := TX9) (N := 9) hx hb hT giX9 hown hK hP 0 rfl rfl 1 (by decide +kernel) (hT (Cond.fieldLink RX9 15 "DesertWire$World" "soils" "[I") mw_91) (fun _ h9 => h9) rfl dX9_copyFrom_21 ?_
  refine lv_iconst (v := 0) hx hb dX9_copyFrom_24 (by decide +kernel) ?_
  refine lv_bipush (v := 40) hx hb dX9_copyFrom_25 (by decide +kernel) ?_
  refine k_copy (c0 := cI) (c1 := cI) hx hb (hml.trans hl.1.symm) hown (hT _ mw_1015) (hT _ mw_865) (hT _ mw_864) (hT _ mw_19) hK hP hD hS 19 2 rfl rfl (by decide +kernel) (by decide +kernel) (Nat.le_of_ble_eq_true rfl) (by decide +kernel) dX9_copyFrom_27 ?_
  clear hP hD hS
  intro H locs hP hD hS
  replace hP : va_P D vwCl [(k, .inr (9, [.ref k0, .ref k1, .ref k2, .ref k3, .ref k4, .ref k5, .int c6, .int c7, .int c8])), (k0, .inl (cI, 12, .inl d0)), (k1, .inl (cI, 40, .inl d1)), (k2, .inl (cI, 40, .inl c2)), (k3, .inl (cI, 20, .inl c3)), (k4, .inr (8, [.ref k40, .ref k41, .ref k42, .ref k43, .ref k44, .ref k45, .ref k46, .ref k47, .ref k48, .int c49])), (k5, .inr (3, [.ref k50, .int c51])), (k40, .inl (cI, 60, .inl c40)), (k41, .inl (cI, 60, .inl c41)), (k42, .inl (cI, 60, .inl c42)), (k43, .inl (cI, 60, .inl c43)), (k44, .inl (cI, 60, .inl c44)), (k45, .inl (cI, 60, .inl c45)), (k46, .inl (cI, 40, .inl c46)), (k47, .inl (cI, 40, .inl c47)), (k48, .inl (cI, 40, .inl c48)), (k50, .inl (cI, 36, .inl c50)), (o, .inr (9, [.ref o0, .ref o1, .ref o2, .ref o3, .ref o4, .ref o5, .int d6, .int d7, .int d8])), (o0, .inl (cI, 12, .inl d0)), (o1, .inl (cI, 40, .inl d1)), (o2, .inl (cI, 40, .inl d2)), (o3, .inl (cI, 20, .inl d3)), (o4, .inr (8, [.ref o40, .ref o41, .ref o42, .ref o43, .ref o44, .ref o45, .ref o46, .ref o47, .ref o48, .int d49])), (o5, .inr (3, [.ref o50, .int d51])), (o40, .inl (cI, 60, .inl d40)), (o41, .inl (cI, 60, .inl d41)), (o42, .inl (cI, 60, .inl d42)), (o43, .inl (cI, 60, .inl d43)), (o44, .inl (cI, 60, .inl d44)), (o45, .inl (cI, 60, .inl d45)), (o46, .inl (cI, 40, .inl d46)), (o47, .inl (cI, 40, .inl d47)), (o48, .inl (cI, 40, .inl d48)), (o50, .inl (cI, 36, .inl d50))] H := hP
  replace hD : va_D A [(k, .inr (9, [.ref k0, .ref k1, .ref k2, .ref k3, .ref k4, .ref k5, .int c6, .int c7, .int c8])), (k0, .inl (cI, 12, .inl d0)), (k1, .inl (cI, 40, .inl d1)), (k2, .inl (cI, 40, .inl c2)), (k3, .inl (cI, 20, .inl c3)), (k4, .inr (8, [.ref k40, .ref k41, .ref k42, .ref k43, .ref k44, .ref k45, .ref k46, .ref k47, .ref k48, .int c49])), (k5, .inr (3, [.ref k50, .int c51])), (k40, .inl (cI, 60, .inl c40)), (k41, .inl (cI, 60, .inl c41)), (k42, .inl (cI, 60, .inl c42)), (k43, .inl (cI, 60, .inl c43)), (k44, .inl (cI, 60, .inl c44)), (k45, .inl (cI, 60, .inl c45)), (k46, .inl (cI, 40, .inl c46)), (k47, .inl (cI, 40, .inl c47)), (k48, .inl (cI, 40, .inl c48)), (k50, .inl (cI, 36, .inl c50)), (o, .inr (9, [.ref o0, .ref o1, .ref o2, .ref o3, .ref o4, .ref o5, .int d6, .int d7, .int d8])), (o0, .inl (cI, 12, .inl d0)), (o1, .inl (cI, 40, .inl d1)), (o2, .inl (cI, 40, .inl d2)), (o3, .inl (cI, 20, .inl d3)), (o4, .inr (8, [.ref o40, .ref o41, .ref o42, .ref o43, .ref o44, .ref o45, .ref o46, .ref o47, .ref o48, .int d49])), (o5, .inr (3, [.ref o50, .int d51])), (o40, .inl (cI, 60, .inl d40)), (o41, .inl (cI, 60, .inl d41)), (o42, .inl (cI, 60, .inl d42)), (o43, .inl (cI, 60, .inl d43)), (o44, .inl (cI, 60, .inl d44)), (o45, .inl (cI, 60, .inl d45)), (o46, .inl (cI, 40, .inl d46)), (o47, .inl (cI, 40, .inl d47)), (o48, .inl (cI, 40, .inl d48)), (o50, .inl (cI, 36, .inl d50))] := hD
  refine lv_aload_n hx hb dX9_copyFrom_30 rfl (lv_at hl 1 rfl) ?_
  refine va_get (D := D) (ci := 9) (v := .ref o2) (C := RX9) (T := TX9) (N := 9) hx hb hT giX9 hown hK hP 17 rfl rfl 2 (by decide +kernel) (hT (Cond.fieldLink RX9 18 "DesertWire$World" "springs" "[I") mw_93) (fun _ h9 => h9) rfl dX9_copyFrom_31 ?_
  refine lv_iconst (v := 0) hx hb dX9_copyFrom_34 (by decide +kernel) ?_
  refine lv_aload_n hx hb dX9_copyFrom_35 rfl (lv_at hl 0 rfl) ?_
  refine va_get (D := D) (ci := 9) (v := .ref k2) (C := RX9) (T := TX9) (N := 9) hx hb hT giX9 hown hK hP 0 rfl rfl 2 (by decide +kernel) (hT (Cond.fieldLink RX9 18 "DesertWire$World" "springs" "[I") mw_93) (fun _ h9 => h9) rfl dX9_copyFrom_36 ?_
  refine lv_iconst (v := 0) hx hb dX9_copyFrom_39 (by decide +kernel) ?_
  refine lv_bipush (v := 40) hx hb dX9_copyFrom_40 (by decide +kernel) ?_
  refine k_copy (c0 := cI) (c1 := cI) hx hb (hml.trans hl.1.symm) hown (hT _ mw_1015) (hT _ mw_865) (hT _ mw_864) (hT _ mw_19) hK hP hD hS 20 3 rfl rfl (by decide +kernel) (by decide +kernel) (Nat.le_of_ble_eq_true rfl) (by decide +kernel) dX9_copyFrom_42 ?_
  clear hP hD hS
  intro H locs hP hD hS
  replace hP : va_P D vwCl [(k, .inr (9, [.ref k0, .ref k1, .ref k2, .ref k3, .ref k4, .ref k5, .int c6, .int c7, .int c8])), (k0, .inl (cI, 12, .inl d0)), (k1, .inl (cI, 40, .inl d1)), (k2, .inl (cI, 40, .inl d2)), (k3, .inl (cI, 20, .inl c3)), (k4, .inr (8, [.ref k40, .ref k41, .ref k42, .ref k43, .ref k44, .ref k45, .ref k46, .ref k47, .ref k48, .int c49])), (k5, .inr (3, [.ref k50, .int c51])), (k40, .inl (cI, 60, .inl c40)), (k41, .inl (cI, 60, .inl c41)), (k42, .inl (cI, 60, .inl c42)), (k43, .inl (cI, 60, .inl c43)), (k44, .inl (cI, 60, .inl c44)), (k45, .inl (cI, 60, .inl c45)), (k46, .inl (cI, 40, .inl c46)), (k47, .inl (cI, 40, .inl c47)), (k48, .inl (cI, 40, .inl c48)), (k50, .inl (cI, 36, .inl c50)), (o, .inr (9, [.ref o0, .ref o1, .ref o2, .ref o3, .ref o4, .ref o5, .int d6, .int d7, .int d8])), (o0, .inl (cI, 12, .inl d0)), (o1, .inl (cI, 40, .inl d1)), (o2, .inl (cI, 40, .inl d2)), (o3, .inl (cI, 20, .inl d3)), (o4, .inr (8, [.ref o40, .ref o41, .ref o42, .ref o43, .ref o44, .ref o45, .ref o46, .ref o47, .ref o48, .int d49])), (o5, .inr (3, [.ref o50, .int d51])), (o40, .inl (cI, 60, .inl d40)), (o41, .inl (cI, 60, .inl d41)), (o42, .inl (cI, 60, .inl d42)), (o43, .inl (cI, 60, .inl d43)), (o44, .inl (cI, 60, .inl d44)), (o45, .inl (cI, 60, .inl d45)), (o46, .inl (cI, 40, .inl d46)), (o47, .inl (cI, 40, .inl d47)), (o48, .inl (cI, 40, .inl d48)), (o50, .inl (cI, 36, .inl d50))] H := hP
  replace hD : va_D A [(k, .inr (9, [.ref k0, .ref k1, .ref k2, .ref k3, .ref k4, .ref k5, .int c6, .int c7, .int c8])), (k0, .inl (cI, 12, .inl d0)), (k1, .inl (cI, 40, .inl d1)), (k2, .inl (cI, 40, .inl d2)), (k3, .inl (cI, 20, .inl c3)), (k4, .inr (8, [.ref k40, .ref k41, .ref k42, .ref k43, .ref k44, .ref k45, .ref k46, .ref k47, .ref k48, .int c49])), (k5, .inr (3, [.ref k50, .int c51])), (k40, .inl (cI, 60, .inl c40)), (k41, .inl (cI, 60, .inl c41)), (k42, .inl (cI, 60, .inl c42)), (k43, .inl (cI, 60, .inl c43)), (k44, .inl (cI, 60, .inl c44)), (k45, .inl (cI, 60, .inl c45)), (k46, .inl (cI, 40, .inl c46)), (k47, .inl (cI, 40, .inl c47)), (k48, .inl (cI, 40, .inl c48)), (k50, .inl (cI, 36, .inl c50)), (o, .inr (9, [.ref o0, .ref o1, .ref o2, .ref o3, .ref o4, .ref o5, .int d6, .int d7, .int d8])), (o0, .inl (cI, 12, .inl d0)), (o1, .inl (cI, 40, .inl d1)), (o2, .inl (cI, 40, .inl d2)), (o3, .inl (cI, 20, .inl d3)), (o4, .inr (8, [.ref o40, .ref o41, .ref o42, .ref o43, .ref o44, .ref o45, .ref o46, .ref o47, .ref o48, .int d49])), (o5, .inr (3, [.ref o50, .int d51])), (o40, .inl (cI, 60, .inl d40)), (o41, .inl (cI, 60, .inl d41)), (o42, .inl (cI, 60, .inl d42)), (o43, .inl (cI, 60, .inl d43)), (o44, .inl (cI, 60, .inl d44)), (o45, .inl (cI, 60, .inl d45)), (o46, .inl (cI, 40, .inl d46)), (o47, .inl (cI, 40, .inl d47)), (o48, .inl (cI, 40, .inl d48)), (o50, .inl (cI, 36, .inl d50))] := hD
  refine lv_aload_n hx hb dX9_copyFrom_45 rfl (lv_at hl 1 rfl) ?_
  refine va_get (D := D) (ci := 9) (v := .ref o3) (C := RX9) (T := TX9) (N := 9) hx hb hT giX9 hown hK hP 17 rfl rfl 3 (by decide +kernel) (hT (Cond.fieldLink RX9 21 "DesertWire$World" "waits" "[I") mw_95) (fun _ h9 => h9) rfl dX9_copyFrom_46 ?_
  refine lv_iconst (v := 0) hx hb dX9_copyFrom_49 (by decide +kernel) ?_
  refine lv_aload_n hx hb dX9_copyFrom_50 rfl (lv_at hl 0 rfl) ?_
  refine va_get (D := D) (ci := 9) (v := .ref k3) (C := RX9) (T := TX9) (N := 9) hx hb hT giX9 hown hK hP 0 rfl rfl 3 (by decide +kernel) (hT (Cond.fieldLink RX9 21 "DesertWire$World" "waits" "[I") mw_95) (fun _ h9 => h9) rfl dX9_copyFrom_51 ?_
  refine lv_iconst (v := 0) hx hb dX9_copyFrom_54 (by decide +kernel) ?_
  refine lv_bipush (v := 20) hx hb dX9_copyFrom_55 (by decide +kernel) ?_
  refine k_copy (c0 := cI) (c1 := cI) hx hb (hml.trans hl.1.symm) hown (hT _ mw_1015) (hT _ mw_865) (hT _ mw_864) (hT _ mw_19) hK hP hD hS 21 4 rfl rfl (by decide +kernel) (by decide +kernel) (Nat.le_of_ble_eq_true rfl) (by decide +kernel) dX9_copyFrom_57 ?_
  clear hP hD hS
  intro H locs hP hD hS
  replace hP : va_P D vwCl [(k, .inr (9, [.ref k0, .ref k1, .ref k2, .ref k3, .ref k4, .ref k5, .int c6, .int c7, .int c8])), (k0, .inl (cI, 12, .inl d0)), (k1, .inl (cI, 40, .inl d1)), (k2, .inl (cI, 40, .inl d2)), (k3, .inl (cI, 20, .inl d3)), (k4, .inr (8, [.ref k40, .ref k41, .ref k42, .ref k43, .ref k44, .ref k45, .ref k46, .ref k47, .ref k48, .int c49])), (k5, .inr (3, [.ref k50, .int c51])), (k40, .inl (cI, 60, .inl c40)), (k41, .inl (cI, 60, .inl c41)), (k42, .inl (cI, 60, .inl c42)), (k43, .inl (cI, 60, .inl c43)), (k44, .inl (cI, 60, .inl c44)), (k45, .inl (cI, 60, .inl c45)), (k46, .inl (cI, 40, .inl c46)), (k47, .inl (cI, 40, .inl c47)), (k48, .inl (cI, 40, .inl c48)), (k50, .inl (cI, 36, .inl c50)), (o, .inr (9, [.ref o0, .ref o1, .ref o2, .ref o3, .ref o4, .ref o5, .int d6, .int d7, .int d8])), (o0, .inl (cI, 12, .inl d0)), (o1, .inl (cI, 40, .inl d1)), (o2, .inl (cI, 40, .inl d2)), (o3, .inl (cI, 20, .inl d3)), (o4, .inr (8, [.ref o40, .ref o41, .ref o42, .ref o43, .ref o44, .ref o45, .ref o46, .ref o47, .ref o48, .int d49])), (o5, .inr (3, [.ref o50, .int d51])), (o40, .inl (cI, 60, .inl d40)), (o41, .inl (cI, 60, .inl d41)), (o42, .inl (cI, 60, .inl d42)), (o43, .inl (cI, 60, .inl d43)), (o44, .inl (cI, 60, .inl d44)), (o45, .inl (cI, 60, .inl d45)), (o46, .inl (cI, 40, .inl d46)), (o47, .inl (cI, 40, .inl d47)), (o48, .inl (cI, 40, .inl d48)), (o50, .inl (cI, 36, .inl d50))] H := hP
  replace hD : va_D A [(k, .inr (9, [.ref k0, .ref k1, .ref k2, .ref k3, .ref k4, .ref k5, .int c6, .int c7, .int c8])), (k0, .inl (cI, 12, .inl d0)), (k1, .inl (cI, 40, .inl d1)), (k2, .inl (cI, 40, .inl d2)), (k3, .inl (cI, 20, .inl d3)), (k4, .inr (8, [.ref k40, .ref k41, .ref k42, .ref k43, .ref k44, .ref k45, .ref k46, .ref k47, .ref k48, .int c49])), (k5, .inr (3, [.ref k50, .int c51])), (k40, .inl (cI, 60, .inl c40)), (k41, .inl (cI, 60, .inl c41)), (k42, .inl (cI, 60, .inl c42)), (k43, .inl (cI, 60, .inl c43)), (k44, .inl (cI, 60, .inl c44)), (k45, .inl (cI, 60, .inl c45)), (k46, .inl (cI, 40, .inl c46)), (k47, .inl (cI, 40, .inl c47)), (k48, .inl (cI, 40, .inl c48)), (k50, .inl (cI, 36, .inl c50)), (o, .inr (9, [.ref o0, .ref o1, .ref o2, .ref o3, .ref o4, .ref o5, .int d6, .int d7, .int d8])), (o0, .inl (cI, 12, .inl d0)), (o1, .inl (cI, 40, .inl d1)), (o2, .inl (cI, 40, .inl d2)), (o3, .inl (cI, 20, .inl d3)), (o4, .inr (8, [.ref o40, .ref o41, .ref o42, .ref o43, .ref o44, .ref o45, .ref o46, .ref o47, .ref o48, .int d49])), (o5, .inr (3, [.ref o50, .int d51])), (o40, .inl (cI, 60, .inl d40)), (o41, .inl (cI, 60, .inl d41)), (o42, .inl (cI, 60, .inl d42)), (o43, .inl (cI, 60, .inl d43)), (o44, .inl (cI, 60, .inl d44)), (o45, .inl (cI, 60, .inl d45)), (o46, .inl (cI, 40, .inl d46)), (o47, .inl (cI, 40, .inl d47)), (o48, .inl (cI, 40, .inl d48)), (o50, .inl (cI, 36, .inl d50))] := hD
  refine lv_aload_n hx hb dX9_copyFrom_60 rfl (lv_at hl 0 rfl) ?_
  refine va_get (D := D) (ci := 9) (v := .ref k4) (C := RX9) (T := TX9) (N := 9) hx hb hT giX9 hown hK hP 0 rfl rfl 4 (by decide +kernel) (hT (Cond.fieldLink RX9 27 "DesertWire$World" "works" "LDesertWire$Works;") mw_97) (fun _ h9 => h9) rfl dX9_copyFrom_61 ?_
  refine lv_aload_n hx hb dX9_copyFrom_64 rfl (lv_at hl 1 rfl) ?_
  refine va_get (D := D) (ci := 9) (v := .ref o4) (C := RX9) (T := TX9) (N := 9) hx hb hT giX9 hown hK hP 17 rfl rfl 4 (by decide +kernel) (hT (Cond.fieldLink RX9 27 "DesertWire$World" "works" "LDesertWire$Works;") mw_97) (fun _ h9 => h9) rfl dX9_copyFrom_65 ?_
  refine kJv (wr := [(k, .inr (9, [.ref k0, .ref k1, .ref k2, .ref k3, .ref k4, .ref k5, .int c6, .int c7, .int c8])), (k0, .inl (cI, 12, .inl d0)), (k1, .inl (cI, 40, .inl d1)), (k2, .inl (cI, 40, .inl d2)), (k3, .inl (cI, 20, .inl d3)), (k5, .inr (3, [.ref k50, .int c51])), (k50, .inl (cI, 36, .inl c50)), (o, .inr (9, [.ref o0, .ref o1, .ref o2, .ref o3, .ref o4, .ref o5, .int d6, .int d7, .int d8])), (o0, .inl (cI, 12, .inl d0)), (o1, .inl (cI, 40, .inl d1)), (o2, .inl (cI, 40, .inl d2)), (o3, .inl (cI, 20, .inl d3)), (o5, .inr (3, [.ref o50, .int d51])), (o50, .inl (cI, 36, .inl d50))]) (va_runV (As := [.ref o4]) (rest := []) ⟨hx, hb, hml, hown, hT⟩ (c_X8_copyFromD l D cI aK aV k4 o4 k40 k41 k42 k43 k44 k45 k46 k47 k48 o40 o41 o42 o43 o44 o45 o46 o47 o48 H.size c49 c40 c41 c42 c43 c44 c45 c46 c47 c48 d49 d40 d41 d42 d43 d44 d45 d46 d47 d48) (cwV 1 hT (gV_in mw_1019 mw_1016 mw_1017 mw_1018 mw_3) rfl rfl rfl (by decide +kernel) ⟨Nat.le_of_ble_eq_true rfl, Nat.le_of_ble_eq_true rfl⟩) (kRecvX (q0 := 5) (ci := 8) hK hP hD hN hXS hS hA rfl rfl [5, 7, 8, 9, 10, 11, 12, 13, 14, 15, 22, 24, 25, 26, 27, 28, 29, 30, 31, 32] rfl (by decide +kernel)) rfl rfl hl.1 rfl (lv_room (Nat.le_of_ble_eq_true rfl)) dX9_copyFrom_68 ⟨Nat.le_of_ble_eq_true rfl, Nat.le_of_ble_eq_true rfl⟩) hP hD hS hA [5, 7, 8, 9, 10, 11, 12, 13, 14, 15, 22, 24, 25, 26, 27, 28, 29, 30, 31, 32] [0, 1, 2, 3, 4, 6, 16, 17, 18, 19, 20, 21, 23, 33] rfl rfl (by decide +kernel) (by decide +kernel) ?_
  clear hP hD hS
  intro u_18 H locs w_7 hP hD hS
  obtain ⟨sc9_8, sc0_9, sc1_10, sc2_11, sc3_12, sc4_13, sc5_14, sc6_15, sc7_16, sc8_17⟩ := u_18
  replace hP : va_P D vwCl [(k, .inr (9, [.ref k0, .ref k1, .ref k2, .ref k3, .ref k4, .ref k5, .int c6, .int c7, .int c8])), (k0, .inl (cI, 12, .inl d0)), (k1, .inl (cI, 40, .inl d1)), (k2, .inl (cI, 40, .inl d2)), (k3, .inl (cI, 20, .inl d3)), (k5, .inr (3, [.ref k50, .int c51])), (k50, .inl (cI, 36, .inl c50)), (o, .inr (9, [.ref o0, .ref o1, .ref o2, .ref o3, .ref o4, .ref o5, .int d6, .int d7, .int d8])), (o0, .inl (cI, 12, .inl d0)), (o1, .inl (cI, 40, .inl d1)), (o2, .inl (cI, 40, .inl d2)), (o3, .inl (cI, 20, .inl d3)), (o5, .inr (3, [.ref o50, .int d51])), (o50, .inl (cI, 36, .inl d50)), (k4, .inr (8, [.ref k40, .ref k41, .ref k42, .ref k43, .ref k44, .ref k45, .ref k46, .ref k47, .ref k48, .int sc9_8])), (k40, .inl (cI, 60, .inl sc0_9)), (k41, .inl (cI, 60, .inl sc1_10)), (k42, .inl (cI, 60, .inl sc2_11)), (k43, .inl (cI, 60, .inl sc3_12)), (k44, .inl (cI, 60, .inl sc4_13)), (k45, .inl (cI, 60, .inl sc5_14)), (k46, .inl (cI, 40, .inl sc6_15)), (k47, .inl (cI, 40, .inl sc7_16)), (k48, .inl (cI, 40, .inl sc8_17)), (o4, .inr (8, [.ref o40, .ref o41, .ref o42, .ref o43, .ref o44, .ref o45, .ref o46, .ref o47, .ref o48, .int d49])), (o40, .inl (cI, 60, .inl d40)), (o41, .inl (cI, 60, .inl d41)), (o42, .inl (cI, 60, .inl d42)), (o43, .inl (cI, 60, .inl d43)), (o44, .inl (cI, 60, .inl d44)), (o45, .inl (cI, 60, .inl d45)), (o46, .inl (cI, 40, .inl d46)), (o47, .inl (cI, 40, .inl d47)), (o48, .inl (cI, 40, .inl d48))] H := hP
  replace hD : va_D A [(k, .inr (9, [.ref k0, .ref k1, .ref k2, .ref k3, .ref k4, .ref k5, .int c6, .int c7, .int c8])), (k0, .inl (cI, 12, .inl d0)), (k1, .inl (cI, 40, .inl d1)), (k2, .inl (cI, 40, .inl d2)), (k3, .inl (cI, 20, .inl d3)), (k5, .inr (3, [.ref k50, .int c51])), (k50, .inl (cI, 36, .inl c50)), (o, .inr (9, [.ref o0, .ref o1, .ref o2, .ref o3, .ref o4, .ref o5, .int d6, .int d7, .int d8])), (o0, .inl (cI, 12, .inl d0)), (o1, .inl (cI, 40, .inl d1)), (o2, .inl (cI, 40, .inl d2)), (o3, .inl (cI, 20, .inl d3)), (o5, .inr (3, [.ref o50, .int d51])), (o50, .inl (cI, 36, .inl d50)), (k4, .inr (8, [.ref k40, .ref k41, .ref k42, .ref k43, .ref k44, .ref k45, .ref k46, .ref k47, .ref k48, .int sc9_8])), (k40, .inl (cI, 60, .inl sc0_9)), (k41, .inl (cI, 60, .inl sc1_10)), (k42, .inl (cI, 60, .inl sc2_11)), (k43, .inl (cI, 60, .inl sc3_12)), (k44, .inl (cI, 60, .inl sc4_13)), (k45, .inl (cI, 60, .inl sc5_14)), (k46, .inl (cI, 40, .inl sc6_15)), (k47, .inl (cI, 40, .inl sc7_16)), (k48, .inl (cI, 40, .inl sc8_17)), (o4, .inr (8, [.ref o40, .ref o41, .ref o42, .ref o43, .ref o44, .ref o45, .ref o46, .ref o47, .ref o48, .int d49])), (o40, .inl (cI, 60, .inl d40)), (o41, .inl (cI, 60, .inl d41)), (o42, .inl (cI, 60, .inl d42)), (o43, .inl (cI, 60, .inl d43)), (o44, .inl (cI, 60, .inl d44)), (o45, .inl (cI, 60, .inl d45)), (o46, .inl (cI, 40, .inl d46)), (o47, .inl (cI, 40, .inl d47)), (o48, .inl (cI, 40, .inl d48))] := hD
  have lo_sc9_8 := k_lo sc9_8
  have hi_sc9_8 := k_hi sc9_8
  obtain ⟨h_19, h_20, h_21, h_22, h_23, h_24, h_25, h_26, h_27, h_28⟩ := w_7
  have h_19 : sc0_9 = d40 := h_19
  have h_20 : sc1_10 = d41 := h_20
  have h_21 : sc2_11 = d42 := h_21
  have h_22 : sc3_12 = d43 := h_22
  have h_23 : sc4_13 = d44 := h_23
  have h_24 : sc5_14 = d45 := h_24
  have h_25 : sc6_15 = d46 := h_25
  have h_26 : sc7_16 = d47 := h_26
  have h_27 : sc8_17 = d48 := h_27
  have h_28 : sc9_8 = d49 := h_28
  refine lv_aload_n hx hb dX9_copyFrom_71 rfl (lv_at hl 0 rfl) ?_
  refine va_get (D := D) (ci := 9) (v := .ref k5) (C := RX9) (T := TX9) (N := 9) hx hb hT giX9 hown hK hP 0 rfl rfl 5 (by decide +kernel) (hT (Cond.fieldLink RX9 34 "DesertWire$World" "parties" "LDesertWire$Parties;") mw_100) (fun _ h9 => h9) rfl dX9_copyFrom_72 ?_
  refine lv_aload_n hx hb dX9_copyFrom_75 rfl (lv_at hl 1 rfl) ?_
  refine va_get (D := D) (ci := 9) (v := .ref o5) (C := RX9) (T := TX9) (N := 9) hx hb hT giX9 hown hK hP 7 rfl rfl 5 (by decide +kernel) (hT (Cond.fieldLink RX9 34 "DesertWire$World" "parties" "LDesertWire$Parties;") mw_100) (fun _ h9 => h9) rfl dX9_copyFrom_76 ?_
  refine kJv (wr := [(k, .inr (9, [.ref k0, .ref k1, .ref k2, .ref k3, .ref k4, .ref k5, .int c6, .int c7, .int c8])), (k0, .inl (cI, 12, .inl d0)), (k1, .inl (cI, 40, .inl d1)), (k2, .inl (cI, 40, .inl d2)), (k3, .inl (cI, 20, .inl d3)), (o, .inr (9, [.ref o0, .ref o1, .ref o2, .ref o3, .ref o4, .ref o5, .int d6, .int d7, .int d8])), (o0, .inl (cI, 12, .inl d0)), (o1, .inl (cI, 40, .inl d1)), (o2, .inl (cI, 40, .inl d2)), (o3, .inl (cI, 20, .inl d3)), (k4, .inr (8, [.ref k40, .ref k41, .ref k42, .ref k43, .ref k44, .ref k45, .ref k46, .ref k47, .ref k48, .int sc9_8])), (k40, .inl (cI, 60, .inl sc0_9)), (k41, .inl (cI, 60, .inl sc1_10)), (k42, .inl (cI, 60, .inl sc2_11)), (k43, .inl (cI, 60, .inl sc3_12)), (k44, .inl (cI, 60, .inl sc4_13)), (k45, .inl (cI, 60, .inl sc5_14)), (k46, .inl (cI, 40, .inl sc6_15)), (k47, .inl (cI, 40, .inl sc7_16)), (k48, .inl (cI, 40, .inl sc8_17)), (o4, .inr (8, [.ref o40, .ref o41, .ref o42, .ref o43, .ref o44, .ref o45, .ref o46, .ref o47, .ref o48, .int d49])), (o40, .inl (cI, 60, .inl d40)), (o41, .inl (cI, 60, .inl d41)), (o42, .inl (cI, 60, .inl d42)), (o43, .inl (cI, 60, .inl d43)), (o44, .inl (cI, 60, .inl d44)), (o45, .inl (cI, 60, .inl d45)), (o46, .inl (cI, 40, .inl d46)), (o47, .inl (cI, 40, .inl d47)), (o48, .inl (cI, 40, .inl d48))]) (va_runV (As := [.ref o5]) (rest := []) ⟨hx, hb, hml, hown, hT⟩ (c_X3_copyFromD l D cI aK aV k5 o5 k50 o50 H.size c51 c50 d51 d50) (cwV 1 hT (gV_in mw_1024 mw_1021 mw_1022 mw_1023 mw_4) rfl rfl rfl (by decide +kernel) ⟨Nat.le_of_ble_eq_true rfl, Nat.le_of_ble_eq_true rfl⟩) (kRecvX (q0 := 5) (ci := 3) hK hP hD hN hXS hS hA rfl rfl [5, 6, 12, 13] rfl (by decide +kernel)) rfl rfl hl.1 rfl (lv_room (Nat.le_of_ble_eq_true rfl)) dX9_copyFrom_79 ⟨Nat.le_of_ble_eq_true rfl, Nat.le_of_ble_eq_true rfl⟩) hP hD hS hA [5, 6, 12, 13] [0, 1, 2, 3, 4, 7, 8, 9, 10, 11, 14, 15, 16, 17, 18, 19, 20, 21, 22, 23, 24, 25, 26, 27, 28, 29, 30, 31, 32, 33] rfl rfl (by decide +kernel) (by decide +kernel) ?_
  clear hP hD hS
  intro u_33 H locs w_30 hP hD hS
  obtain ⟨sc1_31, sc0_32⟩ := u_33
  replace hP : va_P D vwCl [(k, .inr (9, [.ref k0, .ref k1, .ref k2, .ref k3, .ref k4, .ref k5, .int c6, .int c7, .int c8])), (k0, .inl (cI, 12, .inl d0)), (k1, .inl (cI, 40, .inl d1)), (k2, .inl (cI, 40, .inl d2)), (k3, .inl (cI, 20, .inl d3)), (o, .inr (9, [.ref o0, .ref o1, .ref o2, .ref o3, .ref o4, .ref o5, .int d6, .int d7, .int d8])), (o0, .inl (cI, 12, .inl d0)), (o1, .inl (cI, 40, .inl d1)), (o2, .inl (cI, 40, .inl d2)), (o3, .inl (cI, 20, .inl d3)), (k4, .inr (8, [.ref k40, .ref k41, .ref k42, .ref k43, .ref k44, .ref k45, .ref k46, .ref k47, .ref k48, .int sc9_8])), (k40, .inl (cI, 60, .inl sc0_9)), (k41, .inl (cI, 60, .inl sc1_10)), (k42, .inl (cI, 60, .inl sc2_11)), (k43, .inl (cI, 60, .inl sc3_12)), (k44, .inl (cI, 60, .inl sc4_13)), (k45, .inl (cI, 60, .inl sc5_14)), (k46, .inl (cI, 40, .inl sc6_15)), (k47, .inl (cI, 40, .inl sc7_16)), (k48, .inl (cI, 40, .inl sc8_17)), (o4, .inr (8, [.ref o40, .ref o41, .ref o42, .ref o43, .ref o44, .ref o45, .ref o46, .ref o47, .ref o48, .int d49])), (o40, .inl (cI, 60, .inl d40)), (o41, .inl (cI, 60, .inl d41)), (o42, .inl (cI, 60, .inl d42)), (o43, .inl (cI, 60, .inl d43)), (o44, .inl (cI, 60, .inl d44)), (o45, .inl (cI, 60, .inl d45)), (o46, .inl (cI, 40, .inl d46)), (o47, .inl (cI, 40, .inl d47)), (o48, .inl (cI, 40, .inl d48)), (k5, .inr (3, [.ref k50, .int sc1_31])), (k50, .inl (cI, 36, .inl sc0_32)), (o5, .inr (3, [.ref o50, .int d51])), (o50, .inl (cI, 36, .inl d50))] H := hP
  replace hD : va_D A [(k, .inr (9, [.ref k0, .ref k1, .ref k2, .ref k3, .ref k4, .ref k5, .int c6, .int c7, .int c8])), (k0, .inl (cI, 12, .inl d0)), (k1, .inl (cI, 40, .inl d1)), (k2, .inl (cI, 40, .inl d2)), (k3, .inl (cI, 20, .inl d3)), (o, .inr (9, [.ref o0, .ref o1, .ref o2, .ref o3, .ref o4, .ref o5, .int d6, .int d7, .int d8])), (o0, .inl (cI, 12, .inl d0)), (o1, .inl (cI, 40, .inl d1)), (o2, .inl (cI, 40, .inl d2)), (o3, .inl (cI, 20, .inl d3)), (k4, .inr (8, [.ref k40, .ref k41, .ref k42, .ref k43, .ref k44, .ref k45, .ref k46, .ref k47, .ref k48, .int sc9_8])), (k40, .inl (cI, 60, .inl sc0_9)), (k41, .inl (cI, 60, .inl sc1_10)), (k42, .inl (cI, 60, .inl sc2_11)), (k43, .inl (cI, 60, .inl sc3_12)), (k44, .inl (cI, 60, .inl sc4_13)), (k45, .inl (cI, 60, .inl sc5_14)), (k46, .inl (cI, 40, .inl sc6_15)), (k47, .inl (cI, 40, .inl sc7_16)), (k48, .inl (cI, 40, .inl sc8_17)), (o4, .inr (8, [.ref o40, .ref o41, .ref o42, .ref o43, .ref o44, .ref o45, .ref o46, .ref o47, .ref o48, .int d49])), (o40, .inl (cI, 60, .inl d40)), (o41, .inl (cI, 60, .inl d41)), (o42, .inl (cI, 60, .inl d42)), (o43, .inl (cI, 60, .inl d43)), (o44, .inl (cI, 60, .inl d44)), (o45, .inl (cI, 60, .inl d45)), (o46, .inl (cI, 40, .inl d46)), (o47, .inl (cI, 40, .inl d47)), (o48, .inl (cI, 40, .inl d48)), (k5, .inr (3, [.ref k50, .int sc1_31])), (k50, .inl (cI, 36, .inl sc0_32)), (o5, .inr (3, [.ref o50, .int d51])), (o50, .inl (cI, 36, .inl d50))] := hD
  have lo_sc1_31 := k_lo sc1_31
  have hi_sc1_31 := k_hi sc1_31
  obtain ⟨h_34, h_35⟩ := w_30
  have h_34 : sc0_32 = d50 := h_34
  have h_35 : sc1_31 = d51 := h_35
  refine lv_aload_n hx hb dX9_copyFrom_82 rfl (lv_at hl 0 rfl) ?_
  refine lv_aload_n hx hb dX9_copyFrom_83 rfl (lv_at hl 1 rfl) ?_
  refine va_get (D := D) (ci := 9) (v := .int d6) (C := RX9) (T := TX9) (N := 9) hx hb hT giX9 hown hK hP 5 rfl rfl 6 (by decide +kernel) (hT (Cond.fieldLink RX9 38 "DesertWire$World" "waiting" "I") mw_103) (fun _ h9 => h9) rfl dX9_copyFrom_84 ?_
  refine va_put (D := D) (ci := 9) (v := .int d6) (ty := .int) (C := RX9) (T := TX9) (N := 9) hx hb hT giX9 tyX9 tyX9_ok nmX9 hown hK hP hD hS 0 rfl rfl 6 (by decide +kernel) (hT (Cond.fieldLink RX9 38 "DesertWire$World" "waiting" "I") mw_103) (fun _ h9 => h9) rfl (by decide +kernel) rfl rfl (Nat.le_of_ble_eq_true rfl) dX9_copyFrom_87 ?_
  clear hP hD hS
  intro H locs hP hD hS
  replace hP : va_P D vwCl [(k, .inr (9, [.ref k0, .ref k1, .ref k2, .ref k3, .ref k4, .ref k5, .int d6, .int c7, .int c8])), (k0, .inl (cI, 12, .inl d0)), (k1, .inl (cI, 40, .inl d1)), (k2, .inl (cI, 40, .inl d2)), (k3, .inl (cI, 20, .inl d3)), (o, .inr (9, [.ref o0, .ref o1, .ref o2, .ref o3, .ref o4, .ref o5, .int d6, .int d7, .int d8])), (o0, .inl (cI, 12, .inl d0)), (o1, .inl (cI, 40, .inl d1)), (o2, .inl (cI, 40, .inl d2)), (o3, .inl (cI, 20, .inl d3)), (k4, .inr (8, [.ref k40, .ref k41, .ref k42, .ref k43, .ref k44, .ref k45, .ref k46, .ref k47, .ref k48, .int sc9_8])), (k40, .inl (cI, 60, .inl sc0_9)), (k41, .inl (cI, 60, .inl sc1_10)), (k42, .inl (cI, 60, .inl sc2_11)), (k43, .inl (cI, 60, .inl sc3_12)), (k44, .inl (cI, 60, .inl sc4_13)), (k45, .inl (cI, 60, .inl sc5_14)), (k46, .inl (cI, 40, .inl sc6_15)), (k47, .inl (cI, 40, .inl sc7_16)), (k48, .inl (cI, 40, .inl sc8_17)), (o4, .inr (8, [.ref o40, .ref o41, .ref o42, .ref o43, .ref o44, .ref o45, .ref o46, .ref o47, .ref o48, .int d49])), (o40, .inl (cI, 60, .inl d40)), (o41, .inl (cI, 60, .inl d41)), (o42, .inl (cI, 60, .inl d42)), (o43, .inl (cI, 60, .inl d43)), (o44, .inl (cI, 60, .inl d44)), (o45, .inl (cI, 60, .inl d45)), (o46, .inl (cI, 40, .inl d46)), (o47, .inl (cI, 40, .inl d47)), (o48, .inl (cI, 40, .inl d48)), (k5, .inr (3, [.ref k50, .int sc1_31])), (k50, .inl (cI, 36, .inl sc0_32)), (o5, .inr (3, [.ref o50, .int d51])), (o50, .inl (cI, 36, .inl d50))] H := hP
  replace hD : va_D A [(k, .inr (9, [.ref k0, .ref k1, .ref k2, .ref k3, .ref k4, .ref k5, .int d6, .int c7, .int c8])), (k0, .inl (cI, 12, .inl d0)), (k1, .inl (cI, 40, .inl d1)), (k2, .inl (cI, 40, .inl d2)), (k3, .inl (cI, 20, .inl d3)), (o, .inr (9, [.ref o0, .ref o1, .ref o2, .ref o3, .ref o4, .ref o5, .int d6, .int d7, .int d8])), (o0, .inl (cI, 12, .inl d0)), (o1, .inl (cI, 40, .inl d1)), (o2, .inl (cI, 40, .inl d2)), (o3, .inl (cI, 20, .inl d3)), (k4, .inr (8, [.ref k40, .ref k41, .ref k42, .ref k43, .ref k44, .ref k45, .ref k46, .ref k47, .ref k48, .int sc9_8])), (k40, .inl (cI, 60, .inl sc0_9)), (k41, .inl (cI, 60, .inl sc1_10)), (k42, .inl (cI, 60, .inl sc2_11)), (k43, .inl (cI, 60, .inl sc3_12)), (k44, .inl (cI, 60, .inl sc4_13)), (k45, .inl (cI, 60, .inl sc5_14)), (k46, .inl (cI, 40, .inl sc6_15)), (k47, .inl (cI, 40, .inl sc7_16)), (k48, .inl (cI, 40, .inl sc8_17)), (o4, .inr (8, [.ref o40, .ref o41, .ref o42, .ref o43, .ref o44, .ref o45, .ref o46, .ref o47, .ref o48, .int d49])), (o40, .inl (cI, 60, .inl d40)), (o41, .inl (cI, 60, .inl d41)), (o42, .inl (cI, 60, .inl d42)), (o43, .inl (cI, 60, .inl d43)), (o44, .inl (cI, 60, .inl d44)), (o45, .inl (cI, 60, .inl d45)), (o46, .inl (cI, 40, .inl d46)), (o47, .inl (cI, 40, .inl d47)), (o48, .inl (cI, 40, .inl d48)), (k5, .inr (3, [.ref k50, .int sc1_31])), (k50, .inl (cI, 36, .inl sc0_32)), (o5, .inr (3, [.ref o50, .int d51])), (o50, .inl (cI, 36, .inl d50))] := hD
  refine lv_aload_n hx hb dX9_copyFrom_90 rfl (lv_at hl 0 rfl) ?_
  refine lv_aload_n hx hb dX9_copyFrom_91 rfl (lv_at hl 1 rfl) ?_
  refine va_get (D := D) (ci := 9) (v := .int d7) (C := RX9) (T := TX9) (N := 9) hx hb hT giX9 hown hK hP 5 rfl rfl 7 (by decide +kernel) (hT (Cond.fieldLink RX9 42 "DesertWire$World" "reach" "I") mw_105) (fun _ h9 => h9) rfl dX9_copyFrom_92 ?_
  refine va_put (D := D) (ci := 9) (v := .int d7) (ty := .int) (C := RX9) (T := TX9) (N := 9) hx hb hT giX9 tyX9 tyX9_ok nmX9 hown hK hP hD hS 0 rfl rfl 7 (by decide +kernel) (hT (Cond.fieldLink RX9 42 "DesertWire$World" "reach" "I") mw_105) (fun _ h9 => h9) rfl (by decide +kernel) rfl rfl (Nat.le_of_ble_eq_true rfl) dX9_copyFrom_95 ?_
  clear hP hD hS
  intro H locs hP hD hS
  replace hP : va_P D vwCl [(k, .inr (9, [.ref k0, .ref k1, .ref k2, .ref k3, .ref k4, .ref k5, .int d6, .int d7, .int c8])), (k0, .inl (cI, 12, .inl d0)), (k1, .inl (cI, 40, .inl d1)), (k2, .inl (cI, 40, .inl d2)), (k3, .inl (cI, 20, .inl d3)), (o, .inr (9, [.ref o0, .ref o1, .ref o2, .ref o3, .ref o4, .ref o5, .int d6, .int d7, .int d8])), (o0, .inl (cI, 12, .inl d0)), (o1, .inl (cI, 40, .inl d1)), (o2, .inl (cI, 40, .inl d2)), (o3, .inl (cI, 20, .inl d3)), (k4, .inr (8, [.ref k40, .ref k41, .ref k42, .ref k43, .ref k44, .ref k45, .ref k46, .ref k47, .ref k48, .int sc9_8])), (k40, .inl (cI, 60, .inl sc0_9)), (k41, .inl (cI, 60, .inl sc1_10)), (k42, .inl (cI, 60, .inl sc2_11)), (k43, .inl (cI, 60, .inl sc3_12)), (k44, .inl (cI, 60, .inl sc4_13)), (k45, .inl (cI, 60, .inl sc5_14)), (k46, .inl (cI, 40, .inl sc6_15)), (k47, .inl (cI, 40, .inl sc7_16)), (k48, .inl (cI, 40, .inl sc8_17)), (o4, .inr (8, [.ref o40, .ref o41, .ref o42, .ref o43, .ref o44, .ref o45, .ref o46, .ref o47, .ref o48, .int d49])), (o40, .inl (cI, 60, .inl d40)), (o41, .inl (cI, 60, .inl d41)), (o42, .inl (cI, 60, .inl d42)), (o43, .inl (cI, 60, .inl d43)), (o44, .inl (cI, 60, .inl d44)), (o45, .inl (cI, 60, .inl d45)), (o46, .inl (cI, 40, .inl d46)), (o47, .inl (cI, 40, .inl d47)), (o48, .inl (cI, 40, .inl d48)), (k5, .inr (3, [.ref k50, .int sc1_31])), (k50, .inl (cI, 36, .inl sc0_32)), (o5, .inr (3, [.ref o50, .int d51])), (o50, .inl (cI, 36, .inl d50))] H := hP
  replace hD : va_D A [(k, .inr (9, [.ref k0, .ref k1, .ref k2, .ref k3, .ref k4, .ref k5, .int d6, .int d7, .int c8])), (k0, .inl (cI, 12, .inl d0)), (k1, .inl (cI, 40, .inl d1)), (k2, .inl (cI, 40, .inl d2)), (k3, .inl (cI, 20, .inl d3)), (o, .inr (9, [.ref o0, .ref o1, .ref o2, .ref o3, .ref o4, .ref o5, .int d6, .int d7, .int d8])), (o0, .inl (cI, 12, .inl d0)), (o1, .inl (cI, 40, .inl d1)), (o2, .inl (cI, 40, .inl d2)), (o3, .inl (cI, 20, .inl d3)), (k4, .inr (8, [.ref k40, .ref k41, .ref k42, .ref k43, .ref k44, .ref k45, .ref k46, .ref k47, .ref k48, .int sc9_8])), (k40, .inl (cI, 60, .inl sc0_9)), (k41, .inl (cI, 60, .inl sc1_10)), (k42, .inl (cI, 60, .inl sc2_11)), (k43, .inl (cI, 60, .inl sc3_12)), (k44, .inl (cI, 60, .inl sc4_13)), (k45, .inl (cI, 60, .inl sc5_14)), (k46, .inl (cI, 40, .inl sc6_15)), (k47, .inl (cI, 40, .inl sc7_16)), (k48, .inl (cI, 40, .inl sc8_17)), (o4, .inr (8, [.ref o40, .ref o41, .ref o42, .ref o43, .ref o44, .ref o45, .ref o46, .ref o47, .ref o48, .int d49])), (o40, .inl (cI, 60, .inl d40)), (o41, .inl (cI, 60, .inl d41)), (o42, .inl (cI, 60, .inl d42)), (o43, .inl (cI, 60, .inl d43)), (o44, .inl (cI, 60, .inl d44)), (o45, .inl (cI, 60, .inl d45)), (o46, .inl (cI, 40, .inl d46)), (o47, .inl (cI, 40, .inl d47)), (o48, .inl (cI, 40, .inl d48)), (k5, .inr (3, [.ref k50, .int sc1_31])), (k50, .inl (cI, 36, .inl sc0_32)), (o5, .inr (3, [.ref o50, .int d51])), (o50, .inl (cI, 36, .inl d50))] := hD
  refine lv_aload_n hx hb dX9_copyFrom_98 rfl (lv_at hl 0 rfl) ?_
  refine lv_aload_n hx hb dX9_copyFrom_99 rfl (lv_at hl 1 rfl) ?_
  refine va_get (D := D) (ci := 9) (v := .int d8) (C := RX9) (T := TX9) (N := 9) hx hb hT giX9 hown hK hP 5 rfl rfl 8 (by decide +kernel) (hT (Cond.fieldLink RX9 45 "DesertWire$World" "day" "I") mw_108) (fun _ h9 => h9) rfl dX9_copyFrom_100 ?_
  refine va_put (D := D) (ci := 9) (v := .int d8) (ty := .int) (C := RX9) (T := TX9) (N := 9) hx hb hT giX9 tyX9 tyX9_ok nmX9 hown hK hP hD hS 0 rfl rfl 8 (by decide +kernel) (hT (Cond.fieldLink RX9 45 "DesertWire$World" "day" "I") mw_108) (fun _ h9 => h9) rfl (by decide +kernel) rfl rfl (Nat.le_of_ble_eq_true rfl) dX9_copyFrom_103 ?_
  clear hP hD hS
  intro H locs hP hD hS
  replace hP : va_P D vwCl [(k, .inr (9, [.ref k0, .ref k1, .ref k2, .ref k3, .ref k4, .ref k5, .int d6, .int d7, .int d8])), (k0, .inl (cI, 12, .inl d0)), (k1, .inl (cI, 40, .inl d1)), (k2, .inl (cI, 40, .inl d2)), (k3, .inl (cI, 20, .inl d3)), (o, .inr (9, [.ref o0, .ref o1, .ref o2, .ref o3, .ref o4, .ref o5, .int d6, .int d7, .int d8])), (o0, .inl (cI, 12, .inl d0)), (o1, .inl (cI, 40, .inl d1)), (o2, .inl (cI, 40, .inl d2)), (o3, .inl (cI, 20, .inl d3)), (k4, .inr (8, [.ref k40, .ref k41, .ref k42, .ref k43, .ref k44, .ref k45, .ref k46, .ref k47, .ref k48, .int sc9_8])), (k40, .inl (cI, 60, .inl sc0_9)), (k41, .inl (cI, 60, .inl sc1_10)), (k42, .inl (cI, 60, .inl sc2_11)), (k43, .inl (cI, 60, .inl sc3_12)), (k44, .inl (cI, 60, .inl sc4_13)), (k45, .inl (cI, 60, .inl sc5_14)), (k46, .inl (cI, 40, .inl sc6_15)), (k47, .inl (cI, 40, .inl sc7_16)), (k48, .inl (cI, 40, .inl sc8_17)), (o4, .inr (8, [.ref o40, .ref o41, .ref o42, .ref o43, .ref o44, .ref o45, .ref o46, .ref o47, .ref o48, .int d49])), (o40, .inl (cI, 60, .inl d40)), (o41, .inl (cI, 60, .inl d41)), (o42, .inl (cI, 60, .inl d42)), (o43, .inl (cI, 60, .inl d43)), (o44, .inl (cI, 60, .inl d44)), (o45, .inl (cI, 60, .inl d45)), (o46, .inl (cI, 40, .inl d46)), (o47, .inl (cI, 40, .inl d47)), (o48, .inl (cI, 40, .inl d48)), (k5, .inr (3, [.ref k50, .int sc1_31])), (k50, .inl (cI, 36, .inl sc0_32)), (o5, .inr (3, [.ref o50, .int d51])), (o50, .inl (cI, 36, .inl d50))] H := hP
  replace hD : va_D A [(k, .inr (9, [.ref k0, .ref k1, .ref k2, .ref k3, .ref k4, .ref k5, .int d6, .int d7, .int d8])), (k0, .inl (cI, 12, .inl d0)), (k1, .inl (cI, 40, .inl d1)), (k2, .inl (cI, 40, .inl d2)), (k3, .inl (cI, 20, .inl d3)), (o, .inr (9, [.ref o0, .ref o1, .ref o2, .ref o3, .ref o4, .ref o5, .int d6, .int d7, .int d8])), (o0, .inl (cI, 12, .inl d0)), (o1, .inl (cI, 40, .inl d1)), (o2, .inl (cI, 40, .inl d2)), (o3, .inl (cI, 20, .inl d3)), (k4, .inr (8, [.ref k40, .ref k41, .ref k42, .ref k43, .ref k44, .ref k45, .ref k46, .ref k47, .ref k48, .int sc9_8])), (k40, .inl (cI, 60, .inl sc0_9)), (k41, .inl (cI, 60, .inl sc1_10)), (k42, .inl (cI, 60, .inl sc2_11)), (k43, .inl (cI, 60, .inl sc3_12)), (k44, .inl (cI, 60, .inl sc4_13)), (k45, .inl (cI, 60, .inl sc5_14)), (k46, .inl (cI, 40, .inl sc6_15)), (k47, .inl (cI, 40, .inl sc7_16)), (k48, .inl (cI, 40, .inl sc8_17)), (o4, .inr (8, [.ref o40, .ref o41, .ref o42, .ref o43, .ref o44, .ref o45, .ref o46, .ref o47, .ref o48, .int d49])), (o40, .inl (cI, 60, .inl d40)), (o41, .inl (cI, 60, .inl d41)), (o42, .inl (cI, 60, .inl d42)), (o43, .inl (cI, 60, .inl d43)), (o44, .inl (cI, 60, .inl d44)), (o45, .inl (cI, 60, .inl d45)), (o46, .inl (cI, 40, .inl d46)), (o47, .inl (cI, 40, .inl d47)), (o48, .inl (cI, 40, .inl d48)), (k5, .inr (3, [.ref k50, .int sc1_31])), (k50, .inl (cI, 36, .inl sc0_32)), (o5, .inr (3, [.ref o50, .int d51])), (o50, .inl (cI, 36, .inl d50))] := hD
  exact hRet (d6, d7, d8, d0, d1, d2, d3, sc9_8, sc1_31, sc0_9, sc1_10, sc2_11, sc3_12, sc4_13, sc5_14, sc6_15, sc7_16, sc8_17, sc0_32) [0, 1, 2, 3, 4, 10, 30, 11, 12, 13, 14, 15, 16, 17, 18, 19, 31, 5, 6, 7, 8, 9, 20, 32, 21, 22, 23, 24, 25, 26, 27, 28, 29, 33] (WR.cp pre0 rfl rfl rfl rfl h_19 h_20 h_21 h_22 h_23 h_24 h_25 h_26 h_27 h_28 h_34 h_35 rfl rfl rfl rfl) hP hD (by decide +kernel) rfl hS dX9_copyFrom_106

set_option maxHeartbeats 4000000 in
set_option maxRecDepth 100000 in
theorem c_X9_eatenOnD (l : Launch) (D : va_G) (cI : ClassId) (aK aV : Nat → Nat) (k k0 k1 k2 k3 k4 k5 k40 k41 k42 k43 k44 k45 k46 k47 k48 : Nat) (sz : Nat) (c6 : Int32) (c7 : Int32) (c8 : Int32) (c1 : Nat → Int32) (c49 : Int32) (c40 : Nat → Int32) (c41 : Nat → Int32) (c43 : Nat → Int32) (c45 : Nat → Int32) (c0 : Nat → Int32) (c2 : Nat → Int32) (c3 : Nat → Int32) (c42 : Nat → Int32) (c44 : Nat → Int32) (c46 : Nat → Int32) (c47 : Nat → Int32) (c48 : Nat → Int32) (c50 : Nat → Int32) (c51 : Int32) (gx : Nat → Int32) (a0 : Int32) (pre0 : WR c0 c1 c2 c3 c40 c41 c42 c43 c44 c45 c46 c47 c48 c49 c50 c51 c6 c7 c8 gx) (pre1 : SB gx) (pre2 : 0 ≤ a0.toInt) (pre3 : a0.toInt < c49.toInt) : Met l yX9_eatenOn (gW yX9_eatenOn cX9_eatenOn 2 (some .int)) ({ frames := 3, cells := 0, slots := 0, locals := 63 } : Room) (kPreX D cI aK aV [.ref k, .int a0] [(k, .inr (9, [.ref k0, .ref k1, .ref k2, .ref k3, .ref k4, .ref k5, .int c6, .int c7, .int c8])), (k1, .inl (cI, 40, .inl c1)), (k4, .inr (8, [.ref k40, .ref k41, .ref k42, .ref k43, .ref k44, .ref k45, .ref k46, .ref k47, .ref k48, .int c49])), (k40, .inl (cI, 60, .inl c40)), (k41, .inl (cI, 60, .inl c41)), (k43, .inl (cI, 60, .inl c43)), (k45, .inl (cI, 60, .inl c45))] sz) (va_Qi (fun (r : Int32) (u : Unit) => r = eoN gx a0.toInt.toNat) (fun u t => kWd D cI (va_A [(k, .inr (9, [.ref k0, .ref k1, .ref k2, .ref k3, .ref k4, .ref k5, .int c6, .int c7, .int c8])), (k1, .inl (cI, 40, .inl c1)), (k4, .inr (8, [.ref k40, .ref k41, .ref k42, .ref k43, .ref k44, .ref k45, .ref k46, .ref k47, .ref k48, .int c49])), (k40, .inl (cI, 60, .inl c40)), (k41, .inl (cI, 60, .inl c41)), (k43, .inl (cI, 60, .inl c43)), (k45, .inl (cI, 60, .inl c45))] sz) [(k, .inr (9, [.ref k0, .ref k1, .ref k2, .ref k3, .ref k4, .ref k5, .int c6, .int c7, .int c8])), (k1, .inl (cI, 40, .inl c1)), (k4, .inr (8, [.ref k40, .ref k41, .ref k42, .ref k43, .ref k44, .ref k45, .ref k46, .ref k47, .ref k48, .int c49])), (k40, .inl (cI, 60, .inl c40)), (k41, .inl (cI, 60, .inl c41)), (k43, .inl (cI, 60, .inl c43)), (k45, .inl (cI, 60, .inl c45))] t) (va_A [(k, .inr (9, [.ref k0, .ref k1, .ref k2, .ref k3, .ref k4, .ref k5, .int c6, .int c7, .int c8])), (k1, .inl (cI, 40, .inl c1)), (k4, .inr (8, [.ref k40, .ref k41, .ref k42, .ref k43, .ref k44, .ref k45, .ref k46, .ref k47, .ref k48, .int c49])), (k40, .inl (cI, 60, .inl c40)), (k41, .inl (cI, 60, .inl c41)), (k43, .inl (cI, 60, .inl c43)), (k45, .inl (cI, 60, .inl c45))] sz)) 0 0 (va_A [(k, .inr (9, [.ref k0, .ref k1, .ref k2, .ref k3, .ref k4, .ref k5, .int c6, .int c7, .int c8])), (k1, .inl (cI, 40, .inl c1)), (k4, .inr (8, [.ref k40, .ref k41, .ref k42, .ref k43, .ref k44, .ref k45, .ref k46, .ref k47, .ref k48, .int c49])), (k40, .inl (cI, 60, .inl c40)), (k41, .inl (cI, 60, .inl c41)), (k43, .inl (cI, 60, .inl c43)), (k45, .inl (cI, 60, .inl c45))] sz) := by
  refine kMetIX (own := RX9) (by decide +kernel) rfl (Nat.le_of_ble_eq_true rfl) ?_
  intro p e s m args below meth c hx hb hT hown hname hml A Q hK hP hD hS hA hN hXS hRet ls hl
  have hl : lv_has ls 2 [(0, .ref k), (1, .int a0)] := hl
  have lo_a0 := k_lo a0
  have hi_a0 := k_hi a0
  have lo_c6 := k_lo c6
  have hi_c6 := k_hi c6
  have lo_c7 := k_lo c7
  have hi_c7 := k_hi c7
  have lo_c8 := k_lo c8
  have hi_c8 := k_hi c8
  have lo_c49 := k_lo c49
  have hi_c49 := k_hi c49
  have lo_c51 := k_lo c51
  have hi_c51 := k_hi c51
  have pre0 : WR c0 c1 c2 c3 c40 c41 c42 c43 c44 c45 c46 c47 c48 c49 c50 c51 c6 c7 c8 gx := pre0
  have b_1 : 0 ≤ c49.toInt ∧ c49.toInt ≤ 60 := WKR.n0 (WR.kw pre0)
  have t_2 : c49.toInt = (gx 1).toInt := WKR.nt (WR.kw pre0)
  have b_3 : 0 ≤ c51.toInt ∧ c51.toInt ≤ 4 := ((WR.kp pre0)).2.1
  have t_4 : c51.toInt = (gx 2).toInt := PTR.nt (WR.kp pre0)
  have t_5 : c8.toInt = (gx 0).toInt := by rw [WR.dd pre0]
  have pre1 : SB gx := pre1
  refine lv_aload_n hx hb dX9_eatenOn_0 rfl (lv_at hl 0 rfl) ?_
  refine va_get (D := D) (ci := 9) (v := .ref k4) (C := RX9) (T := TX9) (N := 9) hx hb hT giX9 hown hK hP 0 rfl rfl 4 (by decide +kernel) (hT (Cond.fieldLink RX9 27 "DesertWire$World" "works" "LDesertWire$Works;") mw_97) (fun _ h9 => h9) rfl dX9_eatenOn_1 ?_
  refine lv_iload_n hx hb dX9_eatenOn_4 rfl (lv_at hl 1 rfl) ?_
  refine kJi (wr := [(k, .inr (9, [.ref k0, .ref k1, .ref k2, .ref k3, .ref k4, .ref k5, .int c6, .int c7, .int c8])), (k1, .inl (cI, 40, .inl c1)), (k41, .inl (cI, 60, .inl c41)), (k43, .inl (cI, 60, .inl c43)), (k45, .inl (cI, 60, .inl c45))]) (va_runV (As := [.int a0]) (rest := []) ⟨hx, hb, hml, hown, hT⟩ (c_X8_kindOfD l D cI aK aV k4 k40 k41 k42 k43 k44 k45 k46 k47 k48 s.heap.size c49 c40 a0) (cwV 1 hT (gV_in mw_384 mw_412 mw_382 mw_383 mw_3) rfl rfl rfl (by decide +kernel) ⟨Nat.le_of_ble_eq_true rfl, Nat.le_of_ble_eq_true rfl⟩) (kRecvX (q0 := 2) (ci := 8) hK hP hD hN hXS hS hA rfl rfl [2, 3] rfl (by decide +kernel)) rfl rfl hl.1 rfl (lv_room (Nat.le_of_ble_eq_true rfl)) dX9_eatenOn_5 ⟨Nat.le_of_ble_eq_true rfl, Nat.le_of_ble_eq_true rfl⟩) hP hD hS hA [2, 3] [0, 1, 4, 5, 6] rfl rfl (by decide +kernel) (by decide +kernel) ?_
  clear hP hD hS
  intro r_6 u_8 H locs w_7 hP hD hS
  replace hP : va_P D vwCl [(k, .inr (9, [.ref k0, .ref k1, .ref k2, .ref k3, .ref k4, .ref k5, .int c6, .int c7, .int c8])), (k1, .inl (cI, 40, .inl c1)), (k41, .inl (cI, 60, .inl c41)), (k43, .inl (cI, 60, .inl c43)), (k45, .inl (cI, 60, .inl c45)), (k4, .inr (8, [.ref k40, .ref k41, .ref k42, .ref k43, .ref k44, .ref k45, .ref k46, .ref k47, .ref k48, .int c49])), (k40, .inl (cI, 60, .inl c40))] H := hP
  replace hD : va_D A [(k, .inr (9, [.ref k0, .ref k1, .ref k2, .ref k3, .ref k4, .ref k5, .int c6, .int c7, .int c8])), (k1, .inl (cI, 40, .inl c1)), (k41, .inl (cI, 60, .inl c41)), (k43, .inl (cI, 60, .inl c43)), (k45, .inl (cI, 60, .inl c45)), (k4, .inr (8, [.ref k40, .ref k41, .ref k42, .ref k43, .ref k44, .ref k45, .ref k46, .ref k47, .ref k48, .int c49])), (k40, .inl (cI, 60, .inl c40))] := hD
  rcases w_7 with ⟨h_9, h_10, h_11, h_12⟩ | ⟨hr_6, h_13⟩
  · have h_9 : 0 ≤ a0.toInt := h_9
    have h_10 : a0.toInt < c49.toInt := h_10
    have h_11 : a0.toInt ≤ 59 := h_11
    have h_12 : r_6 = c40 a0.toNatClampNeg := h_12
    have h_14 : r_6 = wW gx a0 0 := Eq.trans h_12 (WKR.r0 (WR.kw pre0) (by omega) (by omega))
    have t_15 : r_6.toInt = (wW gx a0 0).toInt := by rw [h_14]
    have b_16 : 0 ≤ r_6.toInt ∧ r_6.toInt ≤ 5 := by rw [h_14]; exact SB.w0 pre1 (by omega) (by omega)
    have lo_r_6 := k_lo r_6
    have hi_r_6 := k_hi r_6
    refine lv_iconst (v := 1) hx hb dX9_eatenOn_8 (by decide +kernel) ?_
    refine b_icmp_ne hx hb rfl zl_1 (tgt := 23) dX9_eatenOn_9 (by decide +kernel) (fun c_17 => ?_) (fun c_17 => ?_)
    · refine lv_iconst (v := (-1)) hx hb dX9_eatenOn_23 (by decide +kernel) ?_
      exact hRet () [0, 1, 5, 6, 2, 3, 4] (Eq.symm (eo_n (Or.inl (by rw [← h_14]; omega)))) hP hD (by decide +kernel) rfl hS rfl dX9_eatenOn_24
    · refine lv_aload_n hx hb dX9_eatenOn_12 rfl (lv_at hl 0 rfl) ?_
      refine va_get (D := D) (ci := 9) (v := .ref k4) (C := RX9) (T := TX9) (N := 9) hx hb hT giX9 hown hK hP 0 rfl rfl 4 (by decide +kernel) (hT (Cond.fieldLink RX9 27 "DesertWire$World" "works" "LDesertWire$Works;") mw_97) (fun _ h9 => h9) rfl dX9_eatenOn_13 ?_
      refine lv_iload_n hx hb dX9_eatenOn_16 rfl (lv_at hl 1 rfl) ?_
      refine kJi (wr := [(k, .inr (9, [.ref k0, .ref k1, .ref k2, .ref k3, .ref k4, .ref k5, .int c6, .int c7, .int c8])), (k1, .inl (cI, 40, .inl c1)), (k41, .inl (cI, 60, .inl c41)), (k43, .inl (cI, 60, .inl c43)), (k40, .inl (cI, 60, .inl c40))]) (va_runV (As := [.int a0]) (rest := []) ⟨hx, hb, hml, hown, hT⟩ (c_X8_isDownD l D cI aK aV k4 k40 k41 k42 k43 k44 k45 k46 k47 k48 H.size c49 c45 a0) (cwV 1 hT (gV_in mw_407 mw_413 mw_405 mw_406 mw_3) rfl rfl rfl (by decide +kernel) ⟨Nat.le_of_ble_eq_true rfl, Nat.le_of_ble_eq_true rfl⟩) (kRecvX (q0 := 5) (ci := 8) hK hP hD hN hXS hS hA rfl rfl [5, 4] rfl (by decide +kernel)) rfl rfl hl.1 rfl (lv_room (Nat.le_of_ble_eq_true rfl)) dX9_eatenOn_17 ⟨Nat.le_of_ble_eq_true rfl, Nat.le_of_ble_eq_true rfl⟩) hP hD hS hA [5, 4] [0, 1, 2, 3, 6] rfl rfl (by decide +kernel) (by decide +kernel) ?_
      clear hP hD hS
      intro r_18 u_20 H locs w_19 hP hD hS
      replace hP : va_P D vwCl [(k, .inr (9, [.ref k0, .ref k1, .ref k2, .ref k3, .ref k4, .ref k5, .int c6, .int c7, .int c8])), (k1, .inl (cI, 40, .inl c1)), (k41, .inl (cI, 60, .inl c41)), (k43, .inl (cI, 60, .inl c43)), (k40, .inl (cI, 60, .inl c40)), (k4, .inr (8, [.ref k40, .ref k41, .ref k42, .ref k43, .ref k44, .ref k45, .ref k46, .ref k47, .ref k48, .int c49])), (k45, .inl (cI, 60, .inl c45))] H := hP
      replace hD : va_D A [(k, .inr (9, [.ref k0, .ref k1, .ref k2, .ref k3, .ref k4, .ref k5, .int c6, .int c7, .int c8])), (k1, .inl (cI, 40, .inl c1)), (k41, .inl (cI, 60, .inl c41)), (k43, .inl (cI, 60, .inl c43)), (k40, .inl (cI, 60, .inl c40)), (k4, .inr (8, [.ref k40, .ref k41, .ref k42, .ref k43, .ref k44, .ref k45, .ref k46, .ref k47, .ref k48, .int c49])), (k45, .inl (cI, 60, .inl c45))] := hD
      rcases w_19 with ⟨hr_18, h_21, h_22, h_23, h_24⟩ | ⟨hr_18, h_25, h_26, h_27, h_28⟩ | ⟨hr_18, h_29⟩
      · have h_21 : 0 ≤ a0.toInt := h_21
        have h_22 : a0.toInt < c49.toInt := h_22
        have h_23 : a0.toInt ≤ 59 := h_23
        have h_24 : (c45 a0.toNatClampNeg).toInt ≠ 0 := h_24
        have t_30 : (c45 a0.toNatClampNeg).toInt = (wW gx a0 4).toInt := by rw [WKR.r4 (WR.kw pre0) (by omega) (by omega)]
        obtain rfl : r_18 = 1 := hr_18.trans (by decide +kernel)
        refine b_if_eq hx hb zl_1 (tgt := 25) dX9_eatenOn_20 (by decide +kernel) (fun c_31 => by exfalso; omega) (fun c_31 => ?_)
        refine lv_iconst (v := (-1)) hx hb dX9_eatenOn_23 (by decide +kernel) ?_
        exact hRet () [0, 1, 5, 4, 2, 3, 6] (Eq.symm (eo_n (Or.inr (by rw [← WKR.r4 (WR.kw pre0) (by omega) (by omega)]; omega)))) hP hD (by decide +kernel) rfl hS rfl dX9_eatenOn_24
      · have h_25 : 0 ≤ a0.toInt := h_25
        have h_26 : a0.toInt < c49.toInt := h_26
        have h_27 : a0.toInt ≤ 59 := h_27
        have h_28 : (c45 a0.toNatClampNeg).toInt = 0 := h_28
        have t_32 : (c45 a0.toNatClampNeg).toInt = (wW gx a0 4).toInt := by rw [WKR.r4 (WR.kw pre0) (by omega) (by omega)]
        obtain rfl : r_18 = 0 := hr_18.trans (by decide +kernel)
        refine b_if_eq hx hb zl_0 (tgt := 25) dX9_eatenOn_20 (by decide +kernel) (fun c_33 => ?_) (fun c_33 => by exfalso; omega)
        refine lv_aload_n hx hb dX9_eatenOn_25 rfl (lv_at hl 0 rfl) ?_
        refine va_get (D := D) (ci := 9) (v := .int c8) (C := RX9) (T := TX9) (N := 9) hx hb hT giX9 hown hK hP 0 rfl rfl 8 (by decide +kernel) (hT (Cond.fieldLink RX9 45 "DesertWire$World" "day" "I") mw_108) (fun _ h9 => h9) rfl dX9_eatenOn_26 ?_
        refine lv_iconst (v := 1) hx hb dX9_eatenOn_29 (by decide +kernel) ?_
        refine lv_iadd hx hb dX9_eatenOn_30 ?_
        refine lv_topi (fun v_34 ev_34 => ?_)
        have lo_v_34 := k_lo v_34
        have hi_v_34 := k_hi v_34
        refine lv_aload_n hx hb dX9_eatenOn_31 rfl (lv_at hl 0 rfl) ?_
        refine va_get (D := D) (ci := 9) (v := .ref k4) (C := RX9) (T := TX9) (N := 9) hx hb hT giX9 hown hK hP 0 rfl rfl 4 (by decide +kernel) (hT (Cond.fieldLink RX9 27 "DesertWire$World" "works" "LDesertWire$Works;") mw_97) (fun _ h9 => h9) rfl dX9_eatenOn_32 ?_
        refine lv_iload_n hx hb dX9_eatenOn_35 rfl (lv_at hl 1 rfl) ?_
        refine kJi (wr := [(k, .inr (9, [.ref k0, .ref k1, .ref k2, .ref k3, .ref k4, .ref k5, .int c6, .int c7, .int c8])), (k1, .inl (cI, 40, .inl c1)), (k41, .inl (cI, 60, .inl c41)), (k40, .inl (cI, 60, .inl c40)), (k45, .inl (cI, 60, .inl c45))]) (va_runV (As := [.int a0]) (rest := [.int v_34]) ⟨hx, hb, hml, hown, hT⟩ (c_X8_sinceOfD l D cI aK aV k4 k40 k41 k42 k43 k44 k45 k46 k47 k48 H.size c49 c43 a0) (cwV 1 hT (gV_in mw_403 mw_414 mw_401 mw_402 mw_3) rfl rfl rfl (by decide +kernel) ⟨Nat.le_of_ble_eq_true rfl, Nat.le_of_ble_eq_true rfl⟩) (kRecvX (q0 := 5) (ci := 8) hK hP hD hN hXS hS hA rfl rfl [5, 3] rfl (by decide +kernel)) rfl rfl hl.1 rfl (lv_room (Nat.le_of_ble_eq_true rfl)) dX9_eatenOn_36 ⟨Nat.le_of_ble_eq_true rfl, Nat.le_of_ble_eq_true rfl⟩) hP hD hS hA [5, 3] [0, 1, 2, 4, 6] rfl rfl (by decide +kernel) (by decide +kernel) ?_
        clear hP hD hS
        intro r_35 u_37 H locs w_36 hP hD hS
        replace hP : va_P D vwCl [(k, .inr (9, [.ref k0, .ref k1, .ref k2, .ref k3, .ref k4, .ref k5, .int c6, .int c7, .int c8])), (k1, .inl (cI, 40, .inl c1)), (k41, .inl (cI, 60, .inl c41)), (k40, .inl (cI, 60, .inl c40)), (k45, .inl (cI, 60, .inl c45)), (k4, .inr (8, [.ref k40, .ref k41, .ref k42, .ref k43, .ref k44, .ref k45, .ref k46, .ref k47, .ref k48, .int c49])), (k43, .inl (cI, 60, .inl c43))] H := hP
        replace hD : va_D A [(k, .inr (9, [.ref k0, .ref k1, .ref k2, .ref k3, .ref k4, .ref k5, .int c6, .int c7, .int c8])), (k1, .inl (cI, 40, .inl c1)), (k41, .inl (cI, 60, .inl c41)), (k40, .inl (cI, 60, .inl c40)), (k45, .inl (cI, 60, .inl c45)), (k4, .inr (8, [.ref k40, .ref k41, .ref k42, .ref k43, .ref k44, .ref k45, .ref k46, .ref k47, .ref k48, .int c49])), (k43, .inl (cI, 60, .inl c43))] := hD
        rcases w_36 with ⟨h_38, h_39, h_40, h_41⟩ | ⟨hr_35, h_42⟩
        · have h_38 : 0 ≤ a0.toInt := h_38
          have h_39 : a0.toInt < c49.toInt := h_39
          have h_40 : a0.toInt ≤ 59 := h_40
          have h_41 : r_35 = c43 a0.toNatClampNeg := h_41
          have h_43 : r_35 = wW gx a0 3 := Eq.trans h_41 (WKR.r3 (WR.kw pre0) (by omega) (by omega))
          have t_44 : r_35.toInt = (wW gx a0 3).toInt := by rw [h_43]
          have b_45 : 0 ≤ r_35.toInt ∧ r_35.toInt ≤ 2001 := by rw [h_43]; exact SB.w3 pre1 (by omega) (by omega)
          have lo_r_35 := k_lo r_35
          have hi_r_35 := k_hi r_35
          refine lv_aload_n hx hb dX9_eatenOn_39 rfl (lv_at hl 0 rfl) ?_
          refine lv_iload_n hx hb dX9_eatenOn_40 rfl (lv_at hl 1 rfl) ?_
          refine kJi (wr := [(k40, .inl (cI, 60, .inl c40)), (k45, .inl (cI, 60, .inl c45)), (k43, .inl (cI, 60, .inl c43))]) (va_runV (As := [.int a0]) (rest := [.int r_35, .int v_34]) ⟨hx, hb, hml, hown, hT⟩ (c_X9_lifeOfD l D cI aK aV k k0 k1 k2 k3 k4 k5 k40 k41 k42 k43 k44 k45 k46 k47 k48 H.size c6 c7 c8 c1 c49 c41 c0 c2 c3 c40 c42 c43 c44 c45 c46 c47 c48 c50 c51 gx a0 pre0 pre1 (by first | omega | decide | assumption | rfl) (by first | omega | decide | assumption | rfl)) (cwV 1 hT (gV_in mw_418 mw_415 mw_417 mw_p1_2 mw_2) rfl rfl rfl (by decide +kernel) ⟨Nat.le_of_ble_eq_true rfl, Nat.le_of_ble_eq_true rfl⟩) (kRecvX (q0 := 0) (ci := 9) hK hP hD hN hXS hS hA rfl rfl [0, 1, 5, 2] rfl (by decide +kernel)) rfl rfl hl.1 rfl (lv_room (Nat.le_of_ble_eq_true rfl)) dX9_eatenOn_41 ⟨Nat.le_of_ble_eq_true rfl, Nat.le_of_ble_eq_true rfl⟩) hP hD hS hA [0, 1, 5, 2] [3, 4, 6] rfl rfl (by decide +kernel) (by decide +kernel) ?_
          clear hP hD hS
          intro r_46 u_48 H locs w_47 hP hD hS
          replace hP : va_P D vwCl [(k40, .inl (cI, 60, .inl c40)), (k45, .inl (cI, 60, .inl c45)), (k43, .inl (cI, 60, .inl c43)), (k, .inr (9, [.ref k0, .ref k1, .ref k2, .ref k3, .ref k4, .ref k5, .int c6, .int c7, .int c8])), (k1, .inl (cI, 40, .inl c1)), (k4, .inr (8, [.ref k40, .ref k41, .ref k42, .ref k43, .ref k44, .ref k45, .ref k46, .ref k47, .ref k48, .int c49])), (k41, .inl (cI, 60, .inl c41))] H := hP
          replace hD : va_D A [(k40, .inl (cI, 60, .inl c40)), (k45, .inl (cI, 60, .inl c45)), (k43, .inl (cI, 60, .inl c43)), (k, .inr (9, [.ref k0, .ref k1, .ref k2, .ref k3, .ref k4, .ref k5, .int c6, .int c7, .int c8])), (k1, .inl (cI, 40, .inl c1)), (k4, .inr (8, [.ref k40, .ref k41, .ref k42, .ref k43, .ref k44, .ref k45, .ref k46, .ref k47, .ref k48, .int c49])), (k41, .inl (cI, 60, .inl c41))] := hD
          rcases w_47 with ⟨hr_46, h_49⟩ | ⟨hr_46, h_50⟩
          · have h_49 : r_46 = lifN gx a0.toInt.toNat := h_49
            have h_49 : r_46 = lifN gx a0.toInt.toNat := h_49
            obtain rfl : r_46 = 60 := hr_46.trans (by decide +kernel)
            have hl_51 : (60 : Int32) = lifN gx a0.toInt.toNat := h_49
            refine lv_iadd hx hb dX9_eatenOn_44 ?_
            refine lv_topi (fun v_52 ev_52 => ?_)
            have tv_52 : v_52.toInt = r_35.toInt + 60 := by rw [ev_52]; exact k_addv rfl zl_60 (by omega) (by omega)
            refine va_mmax hx hb (hml.trans hl.1.symm) hown (hT _ mw_425) (hT _ mw_426) (hT _ mw_13) (hT _ mw_427) (Nat.le_of_ble_eq_true rfl) (Nat.le_of_ble_eq_true rfl) (Nat.le_of_ble_eq_true rfl) (Nat.le_of_ble_eq_true rfl) dX9_eatenOn_45 ?_
            refine lv_topi (fun v_53 ev_53 => ?_)
            have lo_v_53 := k_lo v_53
            have hi_v_53 := k_hi v_53
            have tv_53 : v_53.toInt = k_max v_34.toInt v_52.toInt := by rw [ev_53]; exact k_mmax rfl rfl
            try rw [tv_52] at tv_53
            have sv_53 := k_max_spec (v_34.toInt) (v_52.toInt)
            try rw [tv_52] at sv_53
            exact hRet () [3, 4, 5, 0, 6, 2, 1] (eo_1 pre1 (by omega) (by omega) (by rw [← h_14]; omega) (by rw [← WKR.r4 (WR.kw pre0) (by omega) (by omega)]; omega) hl_51 h_43 (by rw [ev_34, WR.dd pre0]) ev_52 ev_53) hP hD (by decide +kernel) rfl hS rfl dX9_eatenOn_48
          · have h_50 : r_46 = lifN gx a0.toInt.toNat := h_50
            have h_50 : r_46 = lifN gx a0.toInt.toNat := h_50
            obtain rfl : r_46 = 120 := hr_46.trans (by decide +kernel)
            have hl_54 : (120 : Int32) = lifN gx a0.toInt.toNat := h_50
            refine lv_iadd hx hb dX9_eatenOn_44 ?_
            refine lv_topi (fun v_55 ev_55 => ?_)
            have tv_55 : v_55.toInt = r_35.toInt + 120 := by rw [ev_55]; exact k_addv rfl zl_120 (by omega) (by omega)
            refine va_mmax hx hb (hml.trans hl.1.symm) hown (hT _ mw_425) (hT _ mw_426) (hT _ mw_13) (hT _ mw_427) (Nat.le_of_ble_eq_true rfl) (Nat.le_of_ble_eq_true rfl) (Nat.le_of_ble_eq_true rfl) (Nat.le_of_ble_eq_true rfl) dX9_eatenOn_45 ?_
            refine lv_topi (fun v_56 ev_56 => ?_)
            have lo_v_56 := k_lo v_56
            have hi_v_56 := k_hi v_56
            have tv_56 : v_56.toInt = k_max v_34.toInt v_55.toInt := by rw [ev_56]; exact k_mmax rfl rfl
            try rw [tv_55] at tv_56
            have sv_56 := k_max_spec (v_34.toInt) (v_55.toInt)
            try rw [tv_55] at sv_56
            exact hRet () [3, 4, 5, 0, 6, 2, 1] (eo_1 pre1 (by omega) (by omega) (by rw [← h_14]; omega) (by rw [← WKR.r4 (WR.kw pre0) (by omega) (by omega)]; omega) hl_54 h_43 (by rw [ev_34, WR.dd pre0]) ev_55 ev_56) hP hD (by decide +kernel) rfl hS rfl dX9_eatenOn_48
        · exfalso; omega
      · exfalso; omega
  · exfalso; omega

set_option maxHeartbeats 4000000 in
set_option maxRecDepth 100000 in
theorem c_X9_leakOfD (l : Launch) (D : va_G) (cI : ClassId) (aK aV : Nat → Nat) (k k0 k1 k2 k3 k4 k5 k40 k41 k42 k43 k44 k45 k46 k47 k48 : Nat) (sz : Nat) (c6 : Int32) (c7 : Int32) (c8 : Int32) (c0 : Nat → Int32) (c49 : Int32) (c40 : Nat → Int32) (c41 : Nat → Int32) (c43 : Nat → Int32) (c45 : Nat → Int32) (c46 : Nat → Int32) (c1 : Nat → Int32) (c2 : Nat → Int32) (c3 : Nat → Int32) (c42 : Nat → Int32) (c44 : Nat → Int32) (c47 : Nat → Int32) (c48 : Nat → Int32) (c50 : Nat → Int32) (c51 : Int32) (gx : Nat → Int32) (a0 : Int32) (pre0 : WR c0 c1 c2 c3 c40 c41 c42 c43 c44 c45 c46 c47 c48 c49 c50 c51 c6 c7 c8 gx) (pre1 : 0 ≤ a0.toInt) (pre2 : a0.toInt ≤ 39) (pre3 : 0 ≤ c8.toInt) : Met l yX9_leakOf (gW yX9_leakOf cX9_leakOf 6 (some .int)) ({ frames := 2, cells := 0, slots := 0, locals := 43 } : Room) (kPreX D cI aK aV [.ref k, .int a0] [(k, .inr (9, [.ref k0, .ref k1, .ref k2, .ref k3, .ref k4, .ref k5, .int c6, .int c7, .int c8])), (k0, .inl (cI, 12, .inl c0)), (k4, .inr (8, [.ref k40, .ref k41, .ref k42, .ref k43, .ref k44, .ref k45, .ref k46, .ref k47, .ref k48, .int c49])), (k40, .inl (cI, 60, .inl c40)), (k41, .inl (cI, 60, .inl c41)), (k43, .inl (cI, 60, .inl c43)), (k45, .inl (cI, 60, .inl c45)), (k46, .inl (cI, 40, .inl c46))] sz) (va_Qi (fun (r : Int32) (u : Unit) => r = lkF gx a0.toInt) (fun u t => kWd D cI (va_A [(k, .inr (9, [.ref k0, .ref k1, .ref k2, .ref k3, .ref k4, .ref k5, .int c6, .int c7, .int c8])), (k0, .inl (cI, 12, .inl c0)), (k4, .inr (8, [.ref k40, .ref k41, .ref k42, .ref k43, .ref k44, .ref k45, .ref k46, .ref k47, .ref k48, .int c49])), (k40, .inl (cI, 60, .inl c40)), (k41, .inl (cI, 60, .inl c41)), (k43, .inl (cI, 60, .inl c43)), (k45, .inl (cI, 60, .inl c45)), (k46, .inl (cI, 40, .inl c46))] sz) [(k, .inr (9, [.ref k0, .ref k1, .ref k2, .ref k3, .ref k4, .ref k5, .int c6, .int c7, .int c8])), (k0, .inl (cI, 12, .inl c0)), (k4, .inr (8, [.ref k40, .ref k41, .ref k42, .ref k43, .ref k44, .ref k45, .ref k46, .ref k47, .ref k48, .int c49])), (k40, .inl (cI, 60, .inl c40)), (k41, .inl (cI, 60, .inl c41)), (k43, .inl (cI, 60, .inl c43)), (k45, .inl (cI, 60, .inl c45)), (k46, .inl (cI, 40, .inl c46))] t) (va_A [(k, .inr (9, [.ref k0, .ref k1, .ref k2, .ref k3, .ref k4, .ref k5, .int c6, .int c7, .int c8])), (k0, .inl (cI, 12, .inl c0)), (k4, .inr (8, [.ref k40, .ref k41, .ref k42, .ref k43, .ref k44, .ref k45, .ref k46, .ref k47, .ref k48, .int c49])), (k40, .inl (cI, 60, .inl c40)), (k41, .inl (cI, 60, .inl c41)), (k43, .inl (cI, 60, .inl c43)), (k45, .inl (cI, 60, .inl c45)), (k46, .inl (cI, 40, .inl c46))] sz)) 0 0 (va_A [(k, .inr (9, [.ref k0, .ref k1, .ref k2, .ref k3, .ref k4, .ref k5, .int c6, .int c7, .int c8])), (k0, .inl (cI, 12, .inl c0)), (k4, .inr (8, [.ref k40, .ref k41, .ref k42, .ref k43, .ref k44, .ref k45, .ref k46, .ref k47, .ref k48, .int c49])), (k40, .inl (cI, 60, .inl c40)), (k41, .inl (cI, 60, .inl c41)), (k43, .inl (cI, 60, .inl c43)), (k45, .inl (cI, 60, .inl c45)), (k46, .inl (cI, 40, .inl c46))] sz) := by
  refine kMetIX (own := RX9) (by decide +kernel) rfl (Nat.le_of_ble_eq_true rfl) ?_
  intro p e s m args below meth c hx hb hT hown hname hml A Q hK hP hD hS hA hN hXS hRet ls hl
  have hl : lv_has ls 6 [(0, .ref k), (1, .int a0)] := hl
  have lo_a0 := k_lo a0
  have hi_a0 := k_hi a0
  have lo_c6 := k_lo c6
  have hi_c6 := k_hi c6
  have lo_c7 := k_lo c7
  have hi_c7 := k_hi c7
  have lo_c8 := k_lo c8
  have hi_c8 := k_hi c8
  have lo_c49 := k_lo c49
  have hi_c49 := k_hi c49
  have lo_c51 := k_lo c51
  have hi_c51 := k_hi c51
  have pre0 : WR c0 c1 c2 c3 c40 c41 c42 c43 c44 c45 c46 c47 c48 c49 c50 c51 c6 c7 c8 gx := pre0
  have b_1 : 0 ≤ c49.toInt ∧ c49.toInt ≤ 60 := WKR.n0 (WR.kw pre0)
  have t_2 : c49.toInt = (gx 1).toInt := WKR.nt (WR.kw pre0)
  have b_3 : 0 ≤ c51.toInt ∧ c51.toInt ≤ 4 := ((WR.kp pre0)).2.1
  have t_4 : c51.toInt = (gx 2).toInt := PTR.nt (WR.kp pre0)
  have t_5 : c8.toInt = (gx 0).toInt := by rw [WR.dd pre0]
  refine lv_iconst (v := (-1)) hx hb dX9_leakOf_0 (by decide +kernel) ?_
  refine lv_istore_n (lv' := [(2, .int (-1)), (0, .ref k), (1, .int a0)]) hx hb dX9_leakOf_1 rfl hl (by decide +kernel) rfl ?_
  clear hl
  intro ls hl
  refine lv_aload_n hx hb dX9_leakOf_2 rfl (lv_at hl 1 rfl) ?_
  refine va_get (D := D) (ci := 9) (v := .ref k4) (C := RX9) (T := TX9) (N := 9) hx hb hT giX9 hown hK hP 0 rfl rfl 4 (by decide +kernel) (hT (Cond.fieldLink RX9 27 "DesertWire$World" "works" "LDesertWire$Works;") mw_97) (fun _ h9 => h9) rfl dX9_leakOf_3 ?_
  refine lv_iload_n hx hb dX9_leakOf_6 rfl (lv_at hl 2 rfl) ?_
  refine kJi (wr := [(k, .inr (9, [.ref k0, .ref k1, .ref k2, .ref k3, .ref k4, .ref k5, .int c6, .int c7, .int c8])), (k0, .inl (cI, 12, .inl c0)), (k40, .inl (cI, 60, .inl c40)), (k41, .inl (cI, 60, .inl c41)), (k43, .inl (cI, 60, .inl c43)), (k45, .inl (cI, 60, .inl c45))]) (va_runV (As := [.int a0]) (rest := []) ⟨hx, hb, hml, hown, hT⟩ (c_X8_isWiredD l D cI aK aV k4 k40 k41 k42 k43 k44 k45 k46 k47 k48 s.heap.size c49 c46 c40 c41 c42 c43 c44 c45 c47 c48 gx a0 (WR.kw pre0)) (cwV 1 hT (gV_in mw_624 mw_629 mw_622 mw_623 mw_3) rfl rfl rfl (by decide +kernel) ⟨Nat.le_of_ble_eq_true rfl, Nat.le_of_ble_eq_true rfl⟩) (kRecvX (q0 := 2) (ci := 8) hK hP hD hN hXS hS hA rfl rfl [2, 7] rfl (by decide +kernel)) rfl rfl hl.1 rfl (lv_room (Nat.le_of_ble_eq_true rfl)) dX9_leakOf_7 ⟨Nat.le_of_ble_eq_true rfl, Nat.le_of_ble_eq_true rfl⟩) hP hD hS hA [2, 7] [0, 1, 3, 4, 5, 6] rfl rfl (by decide +kernel) (by decide +kernel) ?_
  clear hP hD hS
  intro r_6 u_8 H locs w_7 hP hD hS
  replace hP : va_P D vwCl [(k, .inr (9, [.ref k0, .ref k1, .ref k2, .ref k3, .ref k4, .ref k5, .int c6, .int c7, .int c8])), (k0, .inl (cI, 12, .inl c0)), (k40, .inl (cI, 60, .inl c40)), (k41, .inl (cI, 60, .inl c41)), (k43, .inl (cI, 60, .inl c43)), (k45, .inl (cI, 60, .inl c45)), (k4, .inr (8, [.ref k40, .ref k41, .ref k42, .ref k43, .ref k44, .ref k45, .ref k46, .ref k47, .ref k48, .int c49])), (k46, .inl (cI, 40, .inl c46))] H := hP
  replace hD : va_D A [(k, .inr (9, [.ref k0, .ref k1, .ref k2, .ref k3, .ref k4, .ref k5, .int c6, .int c7, .int c8])), (k0, .inl (cI, 12, .inl c0)), (k40, .inl (cI, 60, .inl c40)), (k41, .inl (cI, 60, .inl c41)), (k43, .inl (cI, 60, .inl c43)), (k45, .inl (cI, 60, .inl c45)), (k4, .inr (8, [.ref k40, .ref k41, .ref k42, .ref k43, .ref k44, .ref k45, .ref k46, .ref k47, .ref k48, .int c49])), (k46, .inl (cI, 40, .inl c46))] := hD
  rcases w_7 with ⟨hr_6, h_9, h_10, h_11⟩ | ⟨hr_6, h_12, h_13, h_14⟩ | ⟨hr_6, h_15⟩
  · have h_9 : 0 ≤ a0.toInt := h_9
    have h_10 : a0.toInt ≤ 39 := h_10
    have h_11 : wdF gx a0.toInt = 1 := h_11
    have h_11 : wdF gx a0.toInt = 1 := h_11
    obtain rfl : r_6 = 1 := hr_6.trans (by decide +kernel)
    refine b_if_ne hx hb zl_1 (tgt := 15) dX9_leakOf_10 (by decide +kernel) (fun c_16 => ?_) (fun c_16 => by exfalso; omega)
    refine lv_aload_n hx hb dX9_leakOf_15 rfl (lv_at hl 1 rfl) ?_
    refine kJi (wr := [(k40, .inl (cI, 60, .inl c40)), (k41, .inl (cI, 60, .inl c41)), (k43, .inl (cI, 60, .inl c43)), (k45, .inl (cI, 60, .inl c45)), (k4, .inr (8, [.ref k40, .ref k41, .ref k42, .ref k43, .ref k44, .ref k45, .ref k46, .ref k47, .ref k48, .int c49])), (k46, .inl (cI, 40, .inl c46))]) (va_runV (As := []) (rest := []) ⟨hx, hb, hml, hown, hT⟩ (c_X9_rainNowD l D cI aK aV k k0 k1 k2 k3 k4 k5 H.size c6 c7 c8 c0 c1 c2 c3 c40 c41 c42 c43 c44 c45 c46 c47 c48 c49 c50 c51 gx pre0 (by first | omega | decide | assumption | rfl)) (cwV 0 hT (gV_in mw_633 mw_630 mw_631 mw_632 mw_2) rfl rfl rfl (by decide +kernel) ⟨Nat.le_of_ble_eq_true rfl, Nat.le_of_ble_eq_true rfl⟩) (kRecvX (q0 := 0) (ci := 9) hK hP hD hN hXS hS hA rfl rfl [0, 1] rfl (by decide +kernel)) rfl rfl hl.1 rfl (lv_room (Nat.le_of_ble_eq_true rfl)) dX9_leakOf_16 ⟨Nat.le_of_ble_eq_true rfl, Nat.le_of_ble_eq_true rfl⟩) hP hD hS hA [0, 1] [2, 3, 4, 5, 6, 7] rfl rfl (by decide +kernel) (by decide +kernel) ?_
    clear hP hD hS
    intro r_17 u_19 H locs w_18 hP hD hS
    replace hP : va_P D vwCl [(k40, .inl (cI, 60, .inl c40)), (k41, .inl (cI, 60, .inl c41)), (k43, .inl (cI, 60, .inl c43)), (k45, .inl (cI, 60, .inl c45)), (k4, .inr (8, [.ref k40, .ref k41, .ref k42, .ref k43, .ref k44, .ref k45, .ref k46, .ref k47, .ref k48, .int c49])), (k46, .inl (cI, 40, .inl c46)), (k, .inr (9, [.ref k0, .ref k1, .ref k2, .ref k3, .ref k4, .ref k5, .int c6, .int c7, .int c8])), (k0, .inl (cI, 12, .inl c0))] H := hP
    replace hD : va_D A [(k40, .inl (cI, 60, .inl c40)), (k41, .inl (cI, 60, .inl c41)), (k43, .inl (cI, 60, .inl c43)), (k45, .inl (cI, 60, .inl c45)), (k4, .inr (8, [.ref k40, .ref k41, .ref k42, .ref k43, .ref k44, .ref k45, .ref k46, .ref k47, .ref k48, .int c49])), (k46, .inl (cI, 40, .inl c46)), (k, .inr (9, [.ref k0, .ref k1, .ref k2, .ref k3, .ref k4, .ref k5, .int c6, .int c7, .int c8])), (k0, .inl (cI, 12, .inl c0))] := hD
    have h_20 := w_18
    have h_20 : r_17 = rnF gx := h_20
    have lo_r_17 := k_lo r_17
    have hi_r_17 := k_hi r_17
    refine lv_istore_n (lv' := [(3, .int r_17), (2, .int (-1)), (0, .ref k), (1, .int a0)]) hx hb dX9_leakOf_19 rfl hl (by decide +kernel) rfl ?_
    clear hl
    intro ls hl
    refine lv_iconst (v := 0) hx hb dX9_leakOf_20 (by decide +kernel) ?_
    refine lv_istore (lv' := [(4, .int 0), (3, .int r_17), (2, .int (-1)), (0, .ref k), (1, .int a0)]) hx hb dX9_leakOf_21 hl (by decide +kernel) rfl ?_
    clear hl
    intro ls hl
    have hloop_23 : ∀ (fu_ : Nat) (l23_2 : Int32) (l23_4 : Int32), 0 ≤ l23_4.toInt → l23_2 = LK gx a0.toInt l23_4.toInt.toNat → l23_4.toInt ≤ c49.toInt → (c49.toInt - l23_4.toInt).toNat < fu_ → ∀ (ls : Array Slot) (H : Heap) (locs : List Loc), lv_has ls 6 [(4, .int l23_4), (3, .int r_17), (2, .int l23_2), (0, .ref k), (1, .int a0)] → va_P D vwCl [(k40, .inl (cI, 60, .inl c40)), (k41, .inl (cI, 60, .inl c41)), (k43, .inl (cI, 60, .inl c43)), (k45, .inl (cI, 60, .inl c45)), (k4, .inr (8, [.ref k40, .ref k41, .ref k42, .ref k43, .ref k44, .ref k45, .ref k46, .ref k47, .ref k48, .int c49])), (k46, .inl (cI, 40, .inl c46)), (k, .inr (9, [.ref k0, .ref k1, .ref k2, .ref k3, .ref k4, .ref k5, .int c6, .int c7, .int c8])), (k0, .inl (cI, 12, .inl c0))] H → va_D A [(k40, .inl (cI, 60, .inl c40)), (k41, .inl (cI, 60, .inl c41)), (k43, .inl (cI, 60, .inl c43)), (k45, .inl (cI, 60, .inl c45)), (k4, .inr (8, [.ref k40, .ref k41, .ref k42, .ref k43, .ref k44, .ref k45, .ref k46, .ref k47, .ref k48, .int c49])), (k46, .inl (cI, 40, .inl c46)), (k, .inr (9, [.ref k0, .ref k1, .ref k2, .ref k3, .ref k4, .ref k5, .int c6, .int c7, .int c8])), (k0, .inl (cI, 12, .inl c0))] → va_S A s.heap H locs → W p l e ({ frames := 2, cells := 0, slots := 0, locals := 43 } : Room) s m args below meth c H locs 0 0 Q (F0 m 23 ls []) := by
      intro fu_; induction fu_ with
      | zero => intro l23_2 l23_4 i23_0 i23_1 i23_2 hm; exact absurd hm (by omega)
      | succ fu_ ih23 =>
          intro l23_2 l23_4 i23_0 i23_1 i23_2 hm ls H locs hl hP hD hS
          have lo_l23_2 := k_lo l23_2
          have hi_l23_2 := k_hi l23_2
          have lo_l23_4 := k_lo l23_4
          have hi_l23_4 := k_hi l23_4
          refine lv_iload hx hb dX9_leakOf_23 (lv_at hl 0 rfl) ?_
          refine lv_aload_n hx hb dX9_leakOf_25 rfl (lv_at hl 3 rfl) ?_
          refine va_get (D := D) (ci := 9) (v := .ref k4) (C := RX9) (T := TX9) (N := 9) hx hb hT giX9 hown hK hP 6 rfl rfl 4 (by decide +kernel) (hT (Cond.fieldLink RX9 27 "DesertWire$World" "works" "LDesertWire$Works;") mw_97) (fun _ h9 => h9) rfl dX9_leakOf_26 ?_
          refine va_get (D := D) (ci := 8) (v := .int c49) (C := RX8) (T := TX8) (N := 10) hx hb hT giX8 hown hK hP 4 rfl rfl 9 (by decide +kernel) (hT (Cond.fieldLink RX9 83 "DesertWire$Works" "number" "I") mw_50) (fun _ h9 => h9) rfl dX9_leakOf_29 ?_
          refine b_icmp_ge hx hb rfl rfl (tgt := 119) dX9_leakOf_32 (by decide +kernel) (fun c_21 => ?_) (fun c_21 => ?_)
          · refine lv_iload_n hx hb dX9_leakOf_119 rfl (lv_at hl 2 rfl) ?_
            exact hRet () [6, 7, 4, 0, 1, 2, 3, 5] (by unfold lkF; rw [i23_1, show l23_4.toInt.toNat = (gx 1).toInt.toNat from by omega]) hP hD (by decide +kernel) rfl hS rfl dX9_leakOf_120
          · refine lv_aload_n hx hb dX9_leakOf_35 rfl (lv_at hl 3 rfl) ?_
            refine va_get (D := D) (ci := 9) (v := .ref k4) (C := RX9) (T := TX9) (N := 9) hx hb hT giX9 hown hK hP 6 rfl rfl 4 (by decide +kernel) (hT (Cond.fieldLink RX9 27 "DesertWire$World" "works" "LDesertWire$Works;") mw_97) (fun _ h9 => h9) rfl dX9_leakOf_36 ?_
            refine lv_iload hx hb dX9_leakOf_39 (lv_at hl 0 rfl) ?_
            refine lv_iload_n hx hb dX9_leakOf_41 rfl (lv_at hl 4 rfl) ?_
            refine kJi (wr := [(k43, .inl (cI, 60, .inl c43)), (k46, .inl (cI, 40, .inl c46)), (k, .inr (9, [.ref k0, .ref k1, .ref k2, .ref k3, .ref k4, .ref k5, .int c6, .int c7, .int c8])), (k0, .inl (cI, 12, .inl c0))]) (va_runV (As := [.int l23_4, .int a0]) (rest := []) ⟨hx, hb, hml, hown, hT⟩ (c_X8_standsAsPoleD l D cI aK aV k4 k40 k41 k42 k43 k44 k45 k46 k47 k48 H.size c49 c40 c41 c45 l23_4 a0) (cwV 2 hT (gV_in mw_640 mw_637 mw_638 mw_639 mw_3) rfl rfl rfl (by decide +kernel) ⟨Nat.le_of_ble_eq_true rfl, Nat.le_of_ble_eq_true rfl⟩) (kRecvX (q0 := 4) (ci := 8) hK hP hD hN hXS hS hA rfl rfl [4, 0, 1, 3] rfl (by decide +kernel)) rfl rfl hl.1 rfl (lv_room (Nat.le_of_ble_eq_true rfl)) dX9_leakOf_42 ⟨Nat.le_of_ble_eq_true rfl, Nat.le_of_ble_eq_true rfl⟩) hP hD hS hA [4, 0, 1, 3] [2, 5, 6, 7] rfl rfl (by decide +kernel) (by decide +kernel) ?_
            clear hP hD hS
            intro r_22 u_24 H locs w_23 hP hD hS
            replace hP : va_P D vwCl [(k43, .inl (cI, 60, .inl c43)), (k46, .inl (cI, 40, .inl c46)), (k, .inr (9, [.ref k0, .ref k1, .ref k2, .ref k3, .ref k4, .ref k5, .int c6, .int c7, .int c8])), (k0, .inl (cI, 12, .inl c0)), (k4, .inr (8, [.ref k40, .ref k41, .ref k42, .ref k43, .ref k44, .ref k45, .ref k46, .ref k47, .ref k48, .int c49])), (k40, .inl (cI, 60, .inl c40)), (k41, .inl (cI, 60, .inl c41)), (k45, .inl (cI, 60, .inl c45))] H := hP
            replace hD : va_D A [(k43, .inl (cI, 60, .inl c43)), (k46, .inl (cI, 40, .inl c46)), (k, .inr (9, [.ref k0, .ref k1, .ref k2, .ref k3, .ref k4, .ref k5, .int c6, .int c7, .int c8])), (k0, .inl (cI, 12, .inl c0)), (k4, .inr (8, [.ref k40, .ref k41, .ref k42, .ref k43, .ref k44, .ref k45, .ref k46, .ref k47, .ref k48, .int c49])), (k40, .inl (cI, 60, .inl c40)), (k41, .inl (cI, 60, .inl c41)), (k45, .inl (cI, 60, .inl c45))] := hD
            rcases w_23 with ⟨hr_22, h_25, h_26, h_27, h_28, h_29, h_30⟩ | ⟨hr_22, h_31, h_32, h_33, h_34⟩ | ⟨hr_22, h_35, h_36, h_37, h_38⟩ | ⟨hr_22, h_39, h_40, h_41, h_42, h_43, h_44⟩ | ⟨hr_22, h_45⟩
            · have h_25 : 0 ≤ l23_4.toInt := h_25
              have h_26 : l23_4.toInt < c49.toInt := h_26
              have h_27 : l23_4.toInt ≤ 59 := h_27
              have h_28 : (c45 l23_4.toNatClampNeg).toInt = 0 := h_28
              have t_46 : (c45 l23_4.toNatClampNeg).toInt = (wW gx l23_4 4).toInt := by rw [WKR.r4 (WR.kw pre0) (by omega) (by omega)]
              have h_29 : (c41 l23_4.toNatClampNeg).toInt = a0.toInt := h_29
              have t_47 : (c41 l23_4.toNatClampNeg).toInt = (wW gx l23_4 1).toInt := by rw [WKR.r1 (WR.kw pre0) (by omega) (by omega)]
              have h_30 : (c40 l23_4.toNatClampNeg).toInt = 1 ∨ (c40 l23_4.toNatClampNeg).toInt = 2 ∨ (c40 l23_4.toNatClampNeg).toInt = 3 := h_30
              have t_48 : (c40 l23_4.toNatClampNeg).toInt = (wW gx l23_4 0).toInt := by rw [WKR.r0 (WR.kw pre0) (by omega) (by omega)]
              obtain rfl : r_22 = 1 := hr_22.trans (by decide +kernel)
              refine b_if_eq hx hb zl_1 (tgt := 113) dX9_leakOf_45 (by decide +kernel) (fun c_49 => by exfalso; omega) (fun c_49 => ?_)
              refine lv_bipush (v := 9) hx hb dX9_leakOf_48 (by decide +kernel) ?_
              refine lv_iconst (v := 1) hx hb dX9_leakOf_50 (by decide +kernel) ?_
              refine lv_iload_n hx hb dX9_leakOf_51 rfl (lv_at hl 1 rfl) ?_
              refine lv_iadd hx hb dX9_leakOf_52 ?_
              refine lv_topi (fun v_50 ev_50 => ?_)
              have lo_v_50 := k_lo v_50
              have hi_v_50 := k_hi v_50
              refine lv_aload_n hx hb dX9_leakOf_53 rfl (lv_at hl 3 rfl) ?_
              refine va_get (D := D) (ci := 9) (v := .int c8) (C := RX9) (T := TX9) (N := 9) hx hb hT giX9 hown hK hP 2 rfl rfl 8 (by decide +kernel) (hT (Cond.fieldLink RX9 45 "DesertWire$World" "day" "I") mw_108) (fun _ h9 => h9) rfl dX9_leakOf_54 ?_
              refine lv_aload_n hx hb dX9_leakOf_57 rfl (lv_at hl 3 rfl) ?_
              refine va_get (D := D) (ci := 9) (v := .ref k4) (C := RX9) (T := TX9) (N := 9) hx hb hT giX9 hown hK hP 2 rfl rfl 4 (by decide +kernel) (hT (Cond.fieldLink RX9 27 "DesertWire$World" "works" "LDesertWire$Works;") mw_97) (fun _ h9 => h9) rfl dX9_leakOf_58 ?_
              refine lv_iload hx hb dX9_leakOf_61 (lv_at hl 0 rfl) ?_
              refine kJi (wr := [(k46, .inl (cI, 40, .inl c46)), (k, .inr (9, [.ref k0, .ref k1, .ref k2, .ref k3, .ref k4, .ref k5, .int c6, .int c7, .int c8])), (k0, .inl (cI, 12, .inl c0)), (k40, .inl (cI, 60, .inl c40)), (k41, .inl (cI, 60, .inl c41)), (k45, .inl (cI, 60, .inl c45))]) (va_runV (As := [.int l23_4]) (rest := [.int c8, .int v_50, .int 9]) ⟨hx, hb, hml, hown, hT⟩ (c_X8_sinceOfD l D cI aK aV k4 k40 k41 k42 k43 k44 k45 k46 k47 k48 H.size c49 c43 l23_4) (cwV 1 hT (gV_in mw_403 mw_414 mw_401 mw_402 mw_3) rfl rfl rfl (by decide +kernel) ⟨Nat.le_of_ble_eq_true rfl, Nat.le_of_ble_eq_true rfl⟩) (kRecvX (q0 := 4) (ci := 8) hK hP hD hN hXS hS hA rfl rfl [4, 0] rfl (by decide +kernel)) rfl rfl hl.1 rfl (lv_room (Nat.le_of_ble_eq_true rfl)) dX9_leakOf_63 ⟨Nat.le_of_ble_eq_true rfl, Nat.le_of_ble_eq_true rfl⟩) hP hD hS hA [4, 0] [1, 2, 3, 5, 6, 7] rfl rfl (by decide +kernel) (by decide +kernel) ?_
              clear hP hD hS
              intro r_51 u_53 H locs w_52 hP hD hS
              replace hP : va_P D vwCl [(k46, .inl (cI, 40, .inl c46)), (k, .inr (9, [.ref k0, .ref k1, .ref k2, .ref k3, .ref k4, .ref k5, .int c6, .int c7, .int c8])), (k0, .inl (cI, 12, .inl c0)), (k40, .inl (cI, 60, .inl c40)), (k41, .inl (cI, 60, .inl c41)), (k45, .inl (cI, 60, .inl c45)), (k4, .inr (8, [.ref k40, .ref k41, .ref k42, .ref k43, .ref k44, .ref k45, .ref k46, .ref k47, .ref k48, .int c49])), (k43, .inl (cI, 60, .inl c43))] H := hP
              replace hD : va_D A [(k46, .inl (cI, 40, .inl c46)), (k, .inr (9, [.ref k0, .ref k1, .ref k2, .ref k3, .ref k4, .ref k5, .int c6, .int c7, .int c8])), (k0, .inl (cI, 12, .inl c0)), (k40, .inl (cI, 60, .inl c40)), (k41, .inl (cI, 60, .inl c41)), (k45, .inl (cI, 60, .inl c45)), (k4, .inr (8, [.ref k40, .ref k41, .ref k42, .ref k43, .ref k44, .ref k45, .ref k46, .ref k47, .ref k48, .int c49])), (k43, .inl (cI, 60, .inl c43))] := hD
              rcases w_52 with ⟨h_54, h_55, h_56, h_57⟩ | ⟨hr_51, h_58⟩
              · have h_54 : 0 ≤ l23_4.toInt := h_54
                have h_55 : l23_4.toInt < c49.toInt := h_55
                have h_56 : l23_4.toInt ≤ 59 := h_56
                have h_57 : r_51 = c43 l23_4.toNatClampNeg := h_57
                have h_59 : r_51 = wW gx l23_4 3 := Eq.trans h_57 (WKR.r3 (WR.kw pre0) (by omega) (by omega))
                have t_60 : r_51.toInt = (wW gx l23_4 3).toInt := by rw [h_59]
                have lo_r_51 := k_lo r_51
                have hi_r_51 := k_hi r_51
                refine lv_isub hx hb dX9_leakOf_66 ?_
                refine lv_topi (fun v_61 ev_61 => ?_)
                have lo_v_61 := k_lo v_61
                have hi_v_61 := k_hi v_61
                refine lv_bipush (v := 30) hx hb dX9_leakOf_67 (by decide +kernel) ?_
                refine lv_idiv hx hb dX9_leakOf_69 (by decide +kernel) ?_
                refine lv_topi (fun v_62 ev_62 => ?_)
                have lo_v_62 := k_lo v_62
                have hi_v_62 := k_hi v_62
                refine lv_iadd hx hb dX9_leakOf_70 ?_
                refine lv_topi (fun v_63 ev_63 => ?_)
                have lo_v_63 := k_lo v_63
                have hi_v_63 := k_hi v_63
                refine va_mmin hx hb (hml.trans hl.1.symm) hown (hT _ mw_641) (hT _ mw_538) (hT _ mw_13) (hT _ mw_539) (Nat.le_of_ble_eq_true rfl) (Nat.le_of_ble_eq_true rfl) (Nat.le_of_ble_eq_true rfl) (Nat.le_of_ble_eq_true rfl) dX9_leakOf_71 ?_
                refine lv_topi (fun v_64 ev_64 => ?_)
                have lo_v_64 := k_lo v_64
                have hi_v_64 := k_hi v_64
                have tv_64 : v_64.toInt = k_min 9 v_63.toInt := by rw [ev_64]; exact k_mmin zl_9 rfl
                have sv_64 := k_min_spec (9) (v_63.toInt)
                refine lv_istore (lv' := [(5, .int v_64), (4, .int l23_4), (3, .int r_17), (2, .int l23_2), (0, .ref k), (1, .int a0)]) hx hb dX9_leakOf_74 hl (by decide +kernel) rfl ?_
                clear hl
                intro ls hl
                refine lv_aload_n hx hb dX9_leakOf_76 rfl (lv_at hl 4 rfl) ?_
                refine va_get (D := D) (ci := 9) (v := .ref k4) (C := RX9) (T := TX9) (N := 9) hx hb hT giX9 hown hK hP 1 rfl rfl 4 (by decide +kernel) (hT (Cond.fieldLink RX9 27 "DesertWire$World" "works" "LDesertWire$Works;") mw_97) (fun _ h9 => h9) rfl dX9_leakOf_77 ?_
                refine lv_iload hx hb dX9_leakOf_80 (lv_at hl 1 rfl) ?_
                refine kJi (wr := [(k46, .inl (cI, 40, .inl c46)), (k, .inr (9, [.ref k0, .ref k1, .ref k2, .ref k3, .ref k4, .ref k5, .int c6, .int c7, .int c8])), (k0, .inl (cI, 12, .inl c0)), (k41, .inl (cI, 60, .inl c41)), (k45, .inl (cI, 60, .inl c45)), (k43, .inl (cI, 60, .inl c43))]) (va_runV (As := [.int l23_4]) (rest := []) ⟨hx, hb, hml, hown, hT⟩ (c_X8_kindOfD l D cI aK aV k4 k40 k41 k42 k43 k44 k45 k46 k47 k48 H.size c49 c40 l23_4) (cwV 1 hT (gV_in mw_384 mw_412 mw_382 mw_383 mw_3) rfl rfl rfl (by decide +kernel) ⟨Nat.le_of_ble_eq_true rfl, Nat.le_of_ble_eq_true rfl⟩) (kRecvX (q0 := 6) (ci := 8) hK hP hD hN hXS hS hA rfl rfl [6, 3] rfl (by decide +kernel)) rfl rfl hl.1 rfl (lv_room (Nat.le_of_ble_eq_true rfl)) dX9_leakOf_82 ⟨Nat.le_of_ble_eq_true rfl, Nat.le_of_ble_eq_true rfl⟩) hP hD hS hA [6, 3] [0, 1, 2, 4, 5, 7] rfl rfl (by decide +kernel) (by decide +kernel) ?_
                clear hP hD hS
                intro r_65 u_67 H locs w_66 hP hD hS
                replace hP : va_P D vwCl [(k46, .inl (cI, 40, .inl c46)), (k, .inr (9, [.ref k0, .ref k1, .ref k2, .ref k3, .ref k4, .ref k5, .int c6, .int c7, .int c8])), (k0, .inl (cI, 12, .inl c0)), (k41, .inl (cI, 60, .inl c41)), (k45, .inl (cI, 60, .inl c45)), (k43, .inl (cI, 60, .inl c43)), (k4, .inr (8, [.ref k40, .ref k41, .ref k42, .ref k43, .ref k44, .ref k45, .ref k46, .ref k47, .ref k48, .int c49])), (k40, .inl (cI, 60, .inl c40))] H := hP
                replace hD : va_D A [(k46, .inl (cI, 40, .inl c46)), (k, .inr (9, [.ref k0, .ref k1, .ref k2, .ref k3, .ref k4, .ref k5, .int c6, .int c7, .int c8])), (k0, .inl (cI, 12, .inl c0)), (k41, .inl (cI, 60, .inl c41)), (k45, .inl (cI, 60, .inl c45)), (k43, .inl (cI, 60, .inl c43)), (k4, .inr (8, [.ref k40, .ref k41, .ref k42, .ref k43, .ref k44, .ref k45, .ref k46, .ref k47, .ref k48, .int c49])), (k40, .inl (cI, 60, .inl c40))] := hD
                rcases w_66 with ⟨h_68, h_69, h_70, h_71⟩ | ⟨hr_65, h_72⟩
                · have h_68 : 0 ≤ l23_4.toInt := h_68
                  have h_69 : l23_4.toInt < c49.toInt := h_69
                  have h_70 : l23_4.toInt ≤ 59 := h_70
                  have h_71 : r_65 = c40 l23_4.toNatClampNeg := h_71
                  have h_73 : r_65 = wW gx l23_4 0 := Eq.trans h_71 (WKR.r0 (WR.kw pre0) (by omega) (by omega))
                  have t_74 : r_65.toInt = (wW gx l23_4 0).toInt := by rw [h_73]
                  have lo_r_65 := k_lo r_65
                  have hi_r_65 := k_hi r_65
                  refine kJi (wr := [(k46, .inl (cI, 40, .inl c46)), (k, .inr (9, [.ref k0, .ref k1, .ref k2, .ref k3, .ref k4, .ref k5, .int c6, .int c7, .int c8])), (k0, .inl (cI, 12, .inl c0)), (k41, .inl (cI, 60, .inl c41)), (k45, .inl (cI, 60, .inl c45)), (k43, .inl (cI, 60, .inl c43)), (k4, .inr (8, [.ref k40, .ref k41, .ref k42, .ref k43, .ref k44, .ref k45, .ref k46, .ref k47, .ref k48, .int c49])), (k40, .inl (cI, 60, .inl c40))]) (va_runSN (As := [.int r_65]) (rest := []) ⟨hx, hb, hml, hown, hT⟩ (c_X10_isIronD l D cI aK aV H.size r_65) ⟨va_cnB 1 hT (gW_in mw_644) rfl rfl rfl (hN _ mw_642) (hT _ mw_1) (by decide +kernel) ⟨Nat.le_of_ble_eq_true rfl, Nat.le_of_ble_eq_true rfl⟩, hT _ mw_643, trivial⟩ (kStatX hK hP hD hN hXS hS hA [] rfl (by decide +kernel)) rfl rfl hl.1 rfl (lv_room (Nat.le_of_ble_eq_true rfl)) dX9_leakOf_85 ⟨Nat.le_of_ble_eq_true rfl, Nat.le_of_ble_eq_true rfl⟩) hP hD hS hA [] [0, 1, 2, 3, 4, 5, 6, 7] rfl rfl (by decide +kernel) (by decide +kernel) ?_
                  clear hP hD hS
                  intro r_75 u_77 H locs w_76 hP hD hS
                  replace hP : va_P D vwCl [(k46, .inl (cI, 40, .inl c46)), (k, .inr (9, [.ref k0, .ref k1, .ref k2, .ref k3, .ref k4, .ref k5, .int c6, .int c7, .int c8])), (k0, .inl (cI, 12, .inl c0)), (k41, .inl (cI, 60, .inl c41)), (k45, .inl (cI, 60, .inl c45)), (k43, .inl (cI, 60, .inl c43)), (k4, .inr (8, [.ref k40, .ref k41, .ref k42, .ref k43, .ref k44, .ref k45, .ref k46, .ref k47, .ref k48, .int c49])), (k40, .inl (cI, 60, .inl c40))] H := hP
                  replace hD : va_D A [(k46, .inl (cI, 40, .inl c46)), (k, .inr (9, [.ref k0, .ref k1, .ref k2, .ref k3, .ref k4, .ref k5, .int c6, .int c7, .int c8])), (k0, .inl (cI, 12, .inl c0)), (k41, .inl (cI, 60, .inl c41)), (k45, .inl (cI, 60, .inl c45)), (k43, .inl (cI, 60, .inl c43)), (k4, .inr (8, [.ref k40, .ref k41, .ref k42, .ref k43, .ref k44, .ref k45, .ref k46, .ref k47, .ref k48, .int c49])), (k40, .inl (cI, 60, .inl c40))] := hD
                  rcases w_76 with ⟨hr_75, h_78⟩ | ⟨hr_75, h_79, h_80⟩
                  · have h_78 : r_65.toInt = 2 ∨ r_65.toInt = 3 := h_78
                    obtain rfl : r_75 = 1 := hr_75.trans (by decide +kernel)
                    refine b_if_eq hx hb zl_1 (tgt := 97) dX9_leakOf_88 (by decide +kernel) (fun c_81 => by exfalso; omega) (fun c_81 => ?_)
                    refine lv_iload hx hb dX9_leakOf_91 (lv_at hl 0 rfl) ?_
                    refine lv_iconst (v := 2) hx hb dX9_leakOf_93 (by decide +kernel) ?_
                    refine lv_idiv hx hb dX9_leakOf_94 (by decide +kernel) ?_
                    refine lv_topi (fun v_82 ev_82 => ?_)
                    have lo_v_82 := k_lo v_82
                    have hi_v_82 := k_hi v_82
                    refine lv_istore (lv' := [(5, .int v_82), (4, .int l23_4), (3, .int r_17), (2, .int l23_2), (0, .ref k), (1, .int a0)]) hx hb dX9_leakOf_95 hl (by decide +kernel) rfl ?_
                    clear hl
                    intro ls hl
                    refine lv_iload_n hx hb dX9_leakOf_97 rfl (lv_at hl 3 rfl) ?_
                    refine b_if_ge hx hb rfl (tgt := 106) dX9_leakOf_98 (by decide +kernel) (fun c_83 => ?_) (fun c_83 => ?_)
                    · refine lv_iload_n hx hb dX9_leakOf_106 rfl (lv_at hl 3 rfl) ?_
                      refine lv_iload hx hb dX9_leakOf_107 (lv_at hl 0 rfl) ?_
                      refine va_mmin hx hb (hml.trans hl.1.symm) hown (hT _ mw_641) (hT _ mw_538) (hT _ mw_13) (hT _ mw_539) (Nat.le_of_ble_eq_true rfl) (Nat.le_of_ble_eq_true rfl) (Nat.le_of_ble_eq_true rfl) (Nat.le_of_ble_eq_true rfl) dX9_leakOf_109 ?_
                      refine lv_topi (fun v_84 ev_84 => ?_)
                      have lo_v_84 := k_lo v_84
                      have hi_v_84 := k_hi v_84
                      have tv_84 : v_84.toInt = k_min l23_2.toInt v_82.toInt := by rw [ev_84]; exact k_mmin rfl rfl
                      have sv_84 := k_min_spec (l23_2.toInt) (v_82.toInt)
                      refine lv_istore_n (lv' := [(2, .int v_84), (5, .int v_82), (4, .int l23_4), (3, .int r_17), (0, .ref k), (1, .int a0)]) hx hb dX9_leakOf_112 rfl hl (by decide +kernel) rfl ?_
                      clear hl
                      intro ls hl
                      obtain ⟨v_85, ev_85⟩ : ∃ y : Int32, y = l23_4 + 1 := ⟨_, rfl⟩
                      have tv_85 : v_85.toInt = l23_4.toInt + 1 := by rw [ev_85]; exact k_addv rfl zl_1 (by omega) (by omega)
                      refine lv_iinc (v := v_85) (lv' := [(4, .int v_85), (2, .int v_84), (5, .int v_82), (3, .int r_17), (0, .ref k), (1, .int a0)]) hx hb dX9_leakOf_113 hl (k := 2) rfl (by rw [ev_85]; rfl) (by decide +kernel) rfl ?_
                      clear hl
                      intro ls hl
                      refine lv_goto (tgt := 23) hx hb dX9_leakOf_116 (by decide +kernel) ?_
                      exact ih23 v_84 v_85 (by first | omega | decide | assumption | rfl) (LK_step i23_1 (by omega) (by omega) (lkStep_in (v1 := v_63) (v2 := v_64) (v3 := v_82) rfl (by rw [← WKR.r1 (WR.kw pre0) (by omega) (by omega)]; omega) (WKR.pole (WR.kw pre0) (by omega) (by omega) (by omega) (by omega)) (by rw [ev_63, ev_50, h_20, ev_62, ev_61, WR.dd pre0, h_59]) (lk_9 ev_64) (Or.inl ⟨(WKR.iron (WR.kw pre0) (w := l23_4) (by omega) (by omega) (by omega) h_73).1 (by omega), ev_82⟩) (lk_b (by omega) ev_84))) (by first | omega | decide | assumption | rfl) (by omega) ls _ _ (lv_sub hl [0, 3, 1, 4, 5] rfl) (hP.sub [7, 3, 5, 4, 6, 0, 1, 2] rfl) (hD.sub [7, 3, 5, 4, 6, 0, 1, 2] (by decide +kernel) rfl) hS
                    · refine lv_iload hx hb dX9_leakOf_101 (lv_at hl 0 rfl) ?_
                      refine lv_goto (tgt := 112) hx hb dX9_leakOf_103 (by decide +kernel) ?_
                      refine lv_istore_n (lv' := [(2, .int v_82), (5, .int v_82), (4, .int l23_4), (3, .int r_17), (0, .ref k), (1, .int a0)]) hx hb dX9_leakOf_112 rfl hl (by decide +kernel) rfl ?_
                      clear hl
                      intro ls hl
                      obtain ⟨v_86, ev_86⟩ : ∃ y : Int32, y = l23_4 + 1 := ⟨_, rfl⟩
                      have tv_86 : v_86.toInt = l23_4.toInt + 1 := by rw [ev_86]; exact k_addv rfl zl_1 (by omega) (by omega)
                      refine lv_iinc (v := v_86) (lv' := [(4, .int v_86), (2, .int v_82), (5, .int v_82), (3, .int r_17), (0, .ref k), (1, .int a0)]) hx hb dX9_leakOf_113 hl (k := 2) rfl (by rw [ev_86]; rfl) (by decide +kernel) rfl ?_
                      clear hl
                      intro ls hl
                      refine lv_goto (tgt := 23) hx hb dX9_leakOf_116 (by decide +kernel) ?_
                      exact ih23 v_82 v_86 (by first | omega | decide | assumption | rfl) (LK_step i23_1 (by omega) (by omega) (lkStep_in (v1 := v_63) (v2 := v_64) (v3 := v_82) rfl (by rw [← WKR.r1 (WR.kw pre0) (by omega) (by omega)]; omega) (WKR.pole (WR.kw pre0) (by omega) (by omega) (by omega) (by omega)) (by rw [ev_63, ev_50, h_20, ev_62, ev_61, WR.dd pre0, h_59]) (lk_9 ev_64) (Or.inl ⟨(WKR.iron (WR.kw pre0) (w := l23_4) (by omega) (by omega) (by omega) h_73).1 (by omega), ev_82⟩) (Or.inl ⟨Or.inl (by omega), rfl⟩))) (by first | omega | decide | assumption | rfl) (by omega) ls _ _ (lv_sub hl [0, 3, 1, 4, 5] rfl) (hP.sub [7, 3, 5, 4, 6, 0, 1, 2] rfl) (hD.sub [7, 3, 5, 4, 6, 0, 1, 2] (by decide +kernel) rfl) hS
                  · have h_79 : r_65.toInt ≠ 2 := h_79
                    have h_80 : r_65.toInt ≠ 3 := h_80
                    obtain rfl : r_75 = 0 := hr_75.trans (by decide +kernel)
                    refine b_if_eq hx hb zl_0 (tgt := 97) dX9_leakOf_88 (by decide +kernel) (fun c_87 => ?_) (fun c_87 => by exfalso; omega)
                    refine lv_iload_n hx hb dX9_leakOf_97 rfl (lv_at hl 3 rfl) ?_
                    refine b_if_ge hx hb rfl (tgt := 106) dX9_leakOf_98 (by decide +kernel) (fun c_88 => ?_) (fun c_88 => ?_)
                    · refine lv_iload_n hx hb dX9_leakOf_106 rfl (lv_at hl 3 rfl) ?_
                      refine lv_iload hx hb dX9_leakOf_107 (lv_at hl 0 rfl) ?_
                      refine va_mmin hx hb (hml.trans hl.1.symm) hown (hT _ mw_641) (hT _ mw_538) (hT _ mw_13) (hT _ mw_539) (Nat.le_of_ble_eq_true rfl) (Nat.le_of_ble_eq_true rfl) (Nat.le_of_ble_eq_true rfl) (Nat.le_of_ble_eq_true rfl) dX9_leakOf_109 ?_
                      refine lv_topi (fun v_89 ev_89 => ?_)
                      have lo_v_89 := k_lo v_89
                      have hi_v_89 := k_hi v_89
                      have tv_89 : v_89.toInt = k_min l23_2.toInt v_64.toInt := by rw [ev_89]; exact k_mmin rfl rfl
                      try rw [tv_64] at tv_89
                      have sv_89 := k_min_spec (l23_2.toInt) (v_64.toInt)
                      try rw [tv_64] at sv_89
                      refine lv_istore_n (lv' := [(2, .int v_89), (5, .int v_64), (4, .int l23_4), (3, .int r_17), (0, .ref k), (1, .int a0)]) hx hb dX9_leakOf_112 rfl hl (by decide +kernel) rfl ?_
                      clear hl
                      intro ls hl
                      obtain ⟨v_90, ev_90⟩ : ∃ y : Int32, y = l23_4 + 1 := ⟨_, rfl⟩
                      have tv_90 : v_90.toInt = l23_4.toInt + 1 := by rw [ev_90]; exact k_addv rfl zl_1 (by omega) (by omega)
                      refine lv_iinc (v := v_90) (lv' := [(4, .int v_90), (2, .int v_89), (5, .int v_64), (3, .int r_17), (0, .ref k), (1, .int a0)]) hx hb dX9_leakOf_113 hl (k := 2) rfl (by rw [ev_90]; rfl) (by decide +kernel) rfl ?_
                      clear hl
                      intro ls hl
                      refine lv_goto (tgt := 23) hx hb dX9_leakOf_116 (by decide +kernel) ?_
                      exact ih23 v_89 v_90 (by first | omega | decide | assumption | rfl) (LK_step i23_1 (by omega) (by omega) (lkStep_in (v1 := v_63) (v2 := v_64) (v3 := v_64) rfl (by rw [← WKR.r1 (WR.kw pre0) (by omega) (by omega)]; omega) (WKR.pole (WR.kw pre0) (by omega) (by omega) (by omega) (by omega)) (by rw [ev_63, ev_50, h_20, ev_62, ev_61, WR.dd pre0, h_59]) (lk_9 ev_64) (Or.inr ⟨(WKR.iron (WR.kw pre0) (w := l23_4) (by omega) (by omega) (by omega) h_73).2 (by omega), rfl⟩) (lk_b (by omega) ev_89))) (by first | omega | decide | assumption | rfl) (by omega) ls _ _ (lv_sub hl [0, 3, 1, 4, 5] rfl) (hP.sub [7, 3, 5, 4, 6, 0, 1, 2] rfl) (hD.sub [7, 3, 5, 4, 6, 0, 1, 2] (by decide +kernel) rfl) hS
                    · refine lv_iload hx hb dX9_leakOf_101 (lv_at hl 0 rfl) ?_
                      refine lv_goto (tgt := 112) hx hb dX9_leakOf_103 (by decide +kernel) ?_
                      refine lv_istore_n (lv' := [(2, .int v_64), (5, .int v_64), (4, .int l23_4), (3, .int r_17), (0, .ref k), (1, .int a0)]) hx hb dX9_leakOf_112 rfl hl (by decide +kernel) rfl ?_
                      clear hl
                      intro ls hl
                      obtain ⟨v_91, ev_91⟩ : ∃ y : Int32, y = l23_4 + 1 := ⟨_, rfl⟩
                      have tv_91 : v_91.toInt = l23_4.toInt + 1 := by rw [ev_91]; exact k_addv rfl zl_1 (by omega) (by omega)
                      refine lv_iinc (v := v_91) (lv' := [(4, .int v_91), (2, .int v_64), (5, .int v_64), (3, .int r_17), (0, .ref k), (1, .int a0)]) hx hb dX9_leakOf_113 hl (k := 2) rfl (by rw [ev_91]; rfl) (by decide +kernel) rfl ?_
                      clear hl
                      intro ls hl
                      refine lv_goto (tgt := 23) hx hb dX9_leakOf_116 (by decide +kernel) ?_
                      exact ih23 v_64 v_91 (by first | omega | decide | assumption | rfl) (LK_step i23_1 (by omega) (by omega) (lkStep_in (v1 := v_63) (v2 := v_64) (v3 := v_64) rfl (by rw [← WKR.r1 (WR.kw pre0) (by omega) (by omega)]; omega) (WKR.pole (WR.kw pre0) (by omega) (by omega) (by omega) (by omega)) (by rw [ev_63, ev_50, h_20, ev_62, ev_61, WR.dd pre0, h_59]) (lk_9 ev_64) (Or.inr ⟨(WKR.iron (WR.kw pre0) (w := l23_4) (by omega) (by omega) (by omega) h_73).2 (by omega), rfl⟩) (Or.inl ⟨Or.inl (by omega), rfl⟩))) (by first | omega | decide | assumption | rfl) (by omega) ls _ _ (lv_sub hl [0, 3, 1, 4, 5] rfl) (hP.sub [7, 3, 5, 4, 6, 0, 1, 2] rfl) (hD.sub [7, 3, 5, 4, 6, 0, 1, 2] (by decide +kernel) rfl) hS
                · exfalso; omega
              · exfalso; omega
            · have h_31 : 0 ≤ l23_4.toInt := h_31
              have h_32 : l23_4.toInt < c49.toInt := h_32
              have h_33 : l23_4.toInt ≤ 59 := h_33
              have h_34 : (c45 l23_4.toNatClampNeg).toInt ≠ 0 := h_34
              have t_92 : (c45 l23_4.toNatClampNeg).toInt = (wW gx l23_4 4).toInt := by rw [WKR.r4 (WR.kw pre0) (by omega) (by omega)]
              obtain rfl : r_22 = 0 := hr_22.trans (by decide +kernel)
              refine b_if_eq hx hb zl_0 (tgt := 113) dX9_leakOf_45 (by decide +kernel) (fun c_93 => ?_) (fun c_93 => by exfalso; omega)
              obtain ⟨v_94, ev_94⟩ : ∃ y : Int32, y = l23_4 + 1 := ⟨_, rfl⟩
              have tv_94 : v_94.toInt = l23_4.toInt + 1 := by rw [ev_94]; exact k_addv rfl zl_1 (by omega) (by omega)
              refine lv_iinc (v := v_94) (lv' := [(4, .int v_94), (3, .int r_17), (2, .int l23_2), (0, .ref k), (1, .int a0)]) hx hb dX9_leakOf_113 hl (k := 0) rfl (by rw [ev_94]; rfl) (by decide +kernel) rfl ?_
              clear hl
              intro ls hl
              refine lv_goto (tgt := 23) hx hb dX9_leakOf_116 (by decide +kernel) ?_
              exact ih23 l23_2 v_94 (by first | omega | decide | assumption | rfl) (LK_step i23_1 (by omega) (by omega) (lkStep_s (WKR.pole0 (WR.kw pre0) (by omega) (by omega) (by omega)))) (by first | omega | decide | assumption | rfl) (by omega) ls _ _ (lv_sub hl [0, 1, 2, 3, 4] rfl) (hP.sub [5, 6, 0, 7, 4, 1, 2, 3] rfl) (hD.sub [5, 6, 0, 7, 4, 1, 2, 3] (by decide +kernel) rfl) hS
            · have h_35 : 0 ≤ l23_4.toInt := h_35
              have h_36 : l23_4.toInt < c49.toInt := h_36
              have h_37 : l23_4.toInt ≤ 59 := h_37
              have h_38 : (c41 l23_4.toNatClampNeg).toInt ≠ a0.toInt := h_38
              have t_95 : (c41 l23_4.toNatClampNeg).toInt = (wW gx l23_4 1).toInt := by rw [WKR.r1 (WR.kw pre0) (by omega) (by omega)]
              obtain rfl : r_22 = 0 := hr_22.trans (by decide +kernel)
              refine b_if_eq hx hb zl_0 (tgt := 113) dX9_leakOf_45 (by decide +kernel) (fun c_96 => ?_) (fun c_96 => by exfalso; omega)
              obtain ⟨v_97, ev_97⟩ : ∃ y : Int32, y = l23_4 + 1 := ⟨_, rfl⟩
              have tv_97 : v_97.toInt = l23_4.toInt + 1 := by rw [ev_97]; exact k_addv rfl zl_1 (by omega) (by omega)
              refine lv_iinc (v := v_97) (lv' := [(4, .int v_97), (3, .int r_17), (2, .int l23_2), (0, .ref k), (1, .int a0)]) hx hb dX9_leakOf_113 hl (k := 0) rfl (by rw [ev_97]; rfl) (by decide +kernel) rfl ?_
              clear hl
              intro ls hl
              refine lv_goto (tgt := 23) hx hb dX9_leakOf_116 (by decide +kernel) ?_
              exact ih23 l23_2 v_97 (by first | omega | decide | assumption | rfl) (LK_step i23_1 (by omega) (by omega) (lkStep_m rfl (by rw [← WKR.r1 (WR.kw pre0) (by omega) (by omega)]; omega))) (by first | omega | decide | assumption | rfl) (by omega) ls _ _ (lv_sub hl [0, 1, 2, 3, 4] rfl) (hP.sub [5, 6, 0, 7, 4, 1, 2, 3] rfl) (hD.sub [5, 6, 0, 7, 4, 1, 2, 3] (by decide +kernel) rfl) hS
            · have h_39 : 0 ≤ l23_4.toInt := h_39
              have h_40 : l23_4.toInt < c49.toInt := h_40
              have h_41 : l23_4.toInt ≤ 59 := h_41
              have h_42 : (c40 l23_4.toNatClampNeg).toInt ≠ 1 := h_42
              have t_98 : (c40 l23_4.toNatClampNeg).toInt = (wW gx l23_4 0).toInt := by rw [WKR.r0 (WR.kw pre0) (by omega) (by omega)]
              have h_43 : (c40 l23_4.toNatClampNeg).toInt ≠ 2 := h_43
              have h_44 : (c40 l23_4.toNatClampNeg).toInt ≠ 3 := h_44
              obtain rfl : r_22 = 0 := hr_22.trans (by decide +kernel)
              refine b_if_eq hx hb zl_0 (tgt := 113) dX9_leakOf_45 (by decide +kernel) (fun c_99 => ?_) (fun c_99 => by exfalso; omega)
              obtain ⟨v_100, ev_100⟩ : ∃ y : Int32, y = l23_4 + 1 := ⟨_, rfl⟩
              have tv_100 : v_100.toInt = l23_4.toInt + 1 := by rw [ev_100]; exact k_addv rfl zl_1 (by omega) (by omega)
              refine lv_iinc (v := v_100) (lv' := [(4, .int v_100), (3, .int r_17), (2, .int l23_2), (0, .ref k), (1, .int a0)]) hx hb dX9_leakOf_113 hl (k := 0) rfl (by rw [ev_100]; rfl) (by decide +kernel) rfl ?_
              clear hl
              intro ls hl
              refine lv_goto (tgt := 23) hx hb dX9_leakOf_116 (by decide +kernel) ?_
              exact ih23 l23_2 v_100 (by first | omega | decide | assumption | rfl) (LK_step i23_1 (by omega) (by omega) (lkStep_s (WKR.pole0 (WR.kw pre0) (by omega) (by omega) (by omega)))) (by first | omega | decide | assumption | rfl) (by omega) ls _ _ (lv_sub hl [0, 1, 2, 3, 4] rfl) (hP.sub [5, 6, 0, 7, 4, 1, 2, 3] rfl) (hD.sub [5, 6, 0, 7, 4, 1, 2, 3] (by decide +kernel) rfl) hS
            · exfalso; omega
    exact hloop_23 _ (-1) 0 (by first | omega | (simp only [zl_m1, zl_0]; first | done | omega) | decide | assumption | rfl) (LK_zero (by decide +kernel)) (by first | omega | (simp only [zl_m1, zl_0]; first | done | omega) | decide | assumption | rfl) (Nat.lt_succ_self _) ls _ _ (lv_sub hl [0, 1, 2, 3, 4] rfl) hP hD hS
  · have h_12 : 0 ≤ a0.toInt := h_12
    have h_13 : a0.toInt ≤ 39 := h_13
    have h_14 : wdF gx a0.toInt = 0 := h_14
    have h_14 : wdF gx a0.toInt = 0 := h_14
    obtain rfl : r_6 = 0 := hr_6.trans (by decide +kernel)
    refine b_if_ne hx hb zl_0 (tgt := 15) dX9_leakOf_10 (by decide +kernel) (fun c_101 => by exfalso; omega) (fun c_101 => ?_)
    refine lv_iload_n hx hb dX9_leakOf_13 rfl (lv_at hl 0 rfl) ?_
    exact hRet () [0, 1, 6, 2, 3, 4, 5, 7] (lk_none h_14).symm hP hD (by decide +kernel) rfl hS rfl dX9_leakOf_14
  · exfalso; omega

set_option maxHeartbeats 4000000 in
set_option maxRecDepth 100000 in
theorem c_X10_rainD (l : Launch) (D : va_G) (cI : ClassId) (aK aV : Nat → Nat) (k k0 k1 k2 k3 k4 k5 k6 k7 k8 k9 ka kb k00 k01 k02 k03 k04 k05 : Nat) (sz : Nat) (cc : Int32) (c06 : Int32) (c07 : Int32) (c08 : Int32) (cb : Nat → Int32) (c00 : Nat → Int32) (c01 : Nat → Int32) (c02 : Nat → Int32) (c03 : Nat → Int32) (c040 : Nat → Int32) (c041 : Nat → Int32) (c042 : Nat → Int32) (c043 : Nat → Int32) (c044 : Nat → Int32) (c045 : Nat → Int32) (c046 : Nat → Int32) (c047 : Nat → Int32) (c048 : Nat → Int32) (c049 : Int32) (c050 : Nat → Int32) (c051 : Int32) (gx : Nat → Int32) (a0 : Int32) (a1 : Int32) (pre0 : WR c00 c01 c02 c03 c040 c041 c042 c043 c044 c045 c046 c047 c048 c049 c050 c051 c06 c07 c08 gx) : Met l yX10_rain (gW yX10_rain cX10_rain 4 (some .int)) ({ frames := 1, cells := 0, slots := 0, locals := 21 } : Room) (kPreX D cI aK aV [.ref k, .int a0, .int a1] [(k, .inr (10, [.ref k0, .ref k1, .ref k2, .ref k3, .ref k4, .ref k5, .ref k6, .ref k7, .ref k8, .ref k9, .ref ka, .ref kb, .int cc])), (k0, .inr (9, [.ref k00, .ref k01, .ref k02, .ref k03, .ref k04, .ref k05, .int c06, .int c07, .int c08])), (kb, .inl (cI, 6, .inl cb)), (k00, .inl (cI, 12, .inl c00))] sz) (va_Qi (fun (r : Int32) (u : (Nat → Int32) × (Nat → Int32)) => r = rainR 7 gx a0 a1 ∧ WR u.2 c01 c02 c03 c040 c041 c042 c043 c044 c045 c046 c047 c048 c049 c050 c051 c06 c07 c08 (rainS 7 gx a0 a1)) (fun u t => kWd D cI (va_A [(k, .inr (10, [.ref k0, .ref k1, .ref k2, .ref k3, .ref k4, .ref k5, .ref k6, .ref k7, .ref k8, .ref k9, .ref ka, .ref kb, .int cc])), (k0, .inr (9, [.ref k00, .ref k01, .ref k02, .ref k03, .ref k04, .ref k05, .int c06, .int c07, .int c08])), (kb, .inl (cI, 6, .inl cb)), (k00, .inl (cI, 12, .inl c00))] sz) [(k, .inr (10, [.ref k0, .ref k1, .ref k2, .ref k3, .ref k4, .ref k5, .ref k6, .ref k7, .ref k8, .ref k9, .ref ka, .ref kb, .int cc])), (k0, .inr (9, [.ref k00, .ref k01, .ref k02, .ref k03, .ref k04, .ref k05, .int c06, .int c07, .int c08])), (kb, .inl (cI, 6, .inl u.1)), (k00, .inl (cI, 12, .inl u.2))] t) (va_A [(k, .inr (10, [.ref k0, .ref k1, .ref k2, .ref k3, .ref k4, .ref k5, .ref k6, .ref k7, .ref k8, .ref k9, .ref ka, .ref kb, .int cc])), (k0, .inr (9, [.ref k00, .ref k01, .ref k02, .ref k03, .ref k04, .ref k05, .int c06, .int c07, .int c08])), (kb, .inl (cI, 6, .inl cb)), (k00, .inl (cI, 12, .inl c00))] sz)) 0 0 (va_A [(k, .inr (10, [.ref k0, .ref k1, .ref k2, .ref k3, .ref k4, .ref k5, .ref k6, .ref k7, .ref k8, .ref k9, .ref ka, .ref kb, .int cc])), (k0, .inr (9, [.ref k00, .ref k01, .ref k02, .ref k03, .ref k04, .ref k05, .int c06, .int c07, .int c08])), (kb, .inl (cI, 6, .inl cb)), (k00, .inl (cI, 12, .inl c00))] sz) := by
  refine kMetIX (own := RX10) (by decide +kernel) rfl (Nat.le_of_ble_eq_true rfl) ?_
  intro p e s m args below meth c hx hb hT hown hname hml A Q hK hP hD hS hA hN hXS hRet ls hl
  have hl : lv_has ls 4 [(0, .ref k), (1, .int a0), (2, .int a1)] := hl
  have lo_a0 := k_lo a0
  have hi_a0 := k_hi a0
  have lo_a1 := k_lo a1
  have hi_a1 := k_hi a1
  have lo_c06 := k_lo c06
  have hi_c06 := k_hi c06
  have lo_c07 := k_lo c07
  have hi_c07 := k_hi c07
  have lo_c08 := k_lo c08
  have hi_c08 := k_hi c08
  have lo_c049 := k_lo c049
  have hi_c049 := k_hi c049
  have lo_c051 := k_lo c051
  have hi_c051 := k_hi c051
  have pre0 : WR c00 c01 c02 c03 c040 c041 c042 c043 c044 c045 c046 c047 c048 c049 c050 c051 c06 c07 c08 gx := pre0
  have b_1 : 0 ≤ c049.toInt ∧ c049.toInt ≤ 60 := WKR.n0 (WR.kw pre0)
  have t_2 : c049.toInt = (gx 1).toInt := WKR.nt (WR.kw pre0)
  have b_3 : 0 ≤ c051.toInt ∧ c051.toInt ≤ 4 := ((WR.kp pre0)).2.1
  have t_4 : c051.toInt = (gx 2).toInt := PTR.nt (WR.kp pre0)
  have t_5 : c08.toInt = (gx 0).toInt := by rw [WR.dd pre0]
  refine lv_iload_n hx hb dX10_rain_0 rfl (lv_at hl 1 rfl) ?_
  refine b_if_lt hx hb rfl (tgt := 20) dX10_rain_1 (by decide +kernel) (fun c_6 => ?_) (fun c_6 => ?_)
  · refine lv_aload_n hx hb dX10_rain_20 rfl (lv_at hl 0 rfl) ?_
    refine lv_iconst (v := 1) hx hb dX10_rain_21 (by decide +kernel) ?_
    refine kJi (wr := [(k0, .inr (9, [.ref k00, .ref k01, .ref k02, .ref k03, .ref k04, .ref k05, .int c06, .int c07, .int c08])), (k00, .inl (cI, 12, .inl c00))]) (va_runV (As := [.int 1]) (rest := []) ⟨hx, hb, hml, hown, hT⟩ (c_X10_findingG l D cI aK aV k k0 k1 k2 k3 k4 k5 k6 k7 k8 k9 ka kb s.heap.size cc cb 1) (cwV 1 hT (gV_in mw_338 mw_335 mw_337 mw_p1_0 mw_1) rfl rfl rfl (by decide +kernel) ⟨Nat.le_of_ble_eq_true rfl, Nat.le_of_ble_eq_true rfl⟩) (kRecvX (q0 := 0) (ci := 10) hK hP hD hN hXS hS hA rfl rfl [0, 2] rfl (by decide +kernel)) rfl rfl hl.1 rfl (lv_room (Nat.le_of_ble_eq_true rfl)) dX10_rain_22 ⟨Nat.le_of_ble_eq_true rfl, Nat.le_of_ble_eq_true rfl⟩) hP hD hS hA [0, 2] [1, 3] rfl rfl (by decide +kernel) (by decide +kernel) ?_
    clear hP hD hS
    intro r_7 scb_9 H locs w_8 hP hD hS
    replace hP : va_P D vwCl [(k0, .inr (9, [.ref k00, .ref k01, .ref k02, .ref k03, .ref k04, .ref k05, .int c06, .int c07, .int c08])), (k00, .inl (cI, 12, .inl c00)), (k, .inr (10, [.ref k0, .ref k1, .ref k2, .ref k3, .ref k4, .ref k5, .ref k6, .ref k7, .ref k8, .ref k9, .ref ka, .ref kb, .int cc])), (kb, .inl (cI, 6, .inl scb_9))] H := hP
    replace hD : va_D A [(k0, .inr (9, [.ref k00, .ref k01, .ref k02, .ref k03, .ref k04, .ref k05, .int c06, .int c07, .int c08])), (k00, .inl (cI, 12, .inl c00)), (k, .inr (10, [.ref k0, .ref k1, .ref k2, .ref k3, .ref k4, .ref k5, .ref k6, .ref k7, .ref k8, .ref k9, .ref ka, .ref kb, .int cc])), (kb, .inl (cI, 6, .inl scb_9))] := hD
    have hr_7 := w_8
    obtain rfl : r_7 = (-1000001) := hr_7.trans (by decide +kernel)
    exact hRet (scb_9, c00) [2, 0, 3, 1] ⟨(by (try dsimp only); unfold rainR; (repeat (first | rw [if_pos (by omega)] | rw [if_neg (by omega)]))), (WR.gt pre0 (by (try dsimp only); unfold rainS; (repeat (first | rw [if_pos (by omega)] | rw [if_neg (by omega)]))))⟩ hP hD (by decide +kernel) rfl hS rfl dX10_rain_25
  · refine lv_iload_n hx hb dX10_rain_4 rfl (lv_at hl 1 rfl) ?_
    refine lv_bipush (v := 12) hx hb dX10_rain_5 (by decide +kernel) ?_
    refine b_icmp_ge hx hb rfl zl_12 (tgt := 20) dX10_rain_7 (by decide +kernel) (fun c_10 => ?_) (fun c_10 => ?_)
    · refine lv_aload_n hx hb dX10_rain_20 rfl (lv_at hl 0 rfl) ?_
      refine lv_iconst (v := 1) hx hb dX10_rain_21 (by decide +kernel) ?_
      refine kJi (wr := [(k0, .inr (9, [.ref k00, .ref k01, .ref k02, .ref k03, .ref k04, .ref k05, .int c06, .int c07, .int c08])), (k00, .inl (cI, 12, .inl c00))]) (va_runV (As := [.int 1]) (rest := []) ⟨hx, hb, hml, hown, hT⟩ (c_X10_findingG l D cI aK aV k k0 k1 k2 k3 k4 k5 k6 k7 k8 k9 ka kb s.heap.size cc cb 1) (cwV 1 hT (gV_in mw_338 mw_335 mw_337 mw_p1_0 mw_1) rfl rfl rfl (by decide +kernel) ⟨Nat.le_of_ble_eq_true rfl, Nat.le_of_ble_eq_true rfl⟩) (kRecvX (q0 := 0) (ci := 10) hK hP hD hN hXS hS hA rfl rfl [0, 2] rfl (by decide +kernel)) rfl rfl hl.1 rfl (lv_room (Nat.le_of_ble_eq_true rfl)) dX10_rain_22 ⟨Nat.le_of_ble_eq_true rfl, Nat.le_of_ble_eq_true rfl⟩) hP hD hS hA [0, 2] [1, 3] rfl rfl (by decide +kernel) (by decide +kernel) ?_
      clear hP hD hS
      intro r_11 scb_13 H locs w_12 hP hD hS
      replace hP : va_P D vwCl [(k0, .inr (9, [.ref k00, .ref k01, .ref k02, .ref k03, .ref k04, .ref k05, .int c06, .int c07, .int c08])), (k00, .inl (cI, 12, .inl c00)), (k, .inr (10, [.ref k0, .ref k1, .ref k2, .ref k3, .ref k4, .ref k5, .ref k6, .ref k7, .ref k8, .ref k9, .ref ka, .ref kb, .int cc])), (kb, .inl (cI, 6, .inl scb_13))] H := hP
      replace hD : va_D A [(k0, .inr (9, [.ref k00, .ref k01, .ref k02, .ref k03, .ref k04, .ref k05, .int c06, .int c07, .int c08])), (k00, .inl (cI, 12, .inl c00)), (k, .inr (10, [.ref k0, .ref k1, .ref k2, .ref k3, .ref k4, .ref k5, .ref k6, .ref k7, .ref k8, .ref k9, .ref ka, .ref kb, .int cc])), (kb, .inl (cI, 6, .inl scb_13))] := hD
      have hr_11 := w_12
      obtain rfl : r_11 = (-1000001) := hr_11.trans (by decide +kernel)
      exact hRet (scb_13, c00) [2, 0, 3, 1] ⟨(by (try dsimp only); unfold rainR; (repeat (first | rw [if_pos (by omega)] | rw [if_neg (by omega)]))), (WR.gt pre0 (by (try dsimp only); unfold rainS; (repeat (first | rw [if_pos (by omega)] | rw [if_neg (by omega)]))))⟩ hP hD (by decide +kernel) rfl hS rfl dX10_rain_25
    · refine lv_iload_n hx hb dX10_rain_10 rfl (lv_at hl 2 rfl) ?_
      refine b_if_lt hx hb rfl (tgt := 20) dX10_rain_11 (by decide +kernel) (fun c_14 => ?_) (fun c_14 => ?_)
      · refine lv_aload_n hx hb dX10_rain_20 rfl (lv_at hl 0 rfl) ?_
        refine lv_iconst (v := 1) hx hb dX10_rain_21 (by decide +kernel) ?_
        refine kJi (wr := [(k0, .inr (9, [.ref k00, .ref k01, .ref k02, .ref k03, .ref k04, .ref k05, .int c06, .int c07, .int c08])), (k00, .inl (cI, 12, .inl c00))]) (va_runV (As := [.int 1]) (rest := []) ⟨hx, hb, hml, hown, hT⟩ (c_X10_findingG l D cI aK aV k k0 k1 k2 k3 k4 k5 k6 k7 k8 k9 ka kb s.heap.size cc cb 1) (cwV 1 hT (gV_in mw_338 mw_335 mw_337 mw_p1_0 mw_1) rfl rfl rfl (by decide +kernel) ⟨Nat.le_of_ble_eq_true rfl, Nat.le_of_ble_eq_true rfl⟩) (kRecvX (q0 := 0) (ci := 10) hK hP hD hN hXS hS hA rfl rfl [0, 2] rfl (by decide +kernel)) rfl rfl hl.1 rfl (lv_room (Nat.le_of_ble_eq_true rfl)) dX10_rain_22 ⟨Nat.le_of_ble_eq_true rfl, Nat.le_of_ble_eq_true rfl⟩) hP hD hS hA [0, 2] [1, 3] rfl rfl (by decide +kernel) (by decide +kernel) ?_
        clear hP hD hS
        intro r_15 scb_17 H locs w_16 hP hD hS
        replace hP : va_P D vwCl [(k0, .inr (9, [.ref k00, .ref k01, .ref k02, .ref k03, .ref k04, .ref k05, .int c06, .int c07, .int c08])), (k00, .inl (cI, 12, .inl c00)), (k, .inr (10, [.ref k0, .ref k1, .ref k2, .ref k3, .ref k4, .ref k5, .ref k6, .ref k7, .ref k8, .ref k9, .ref ka, .ref kb, .int cc])), (kb, .inl (cI, 6, .inl scb_17))] H := hP
        replace hD : va_D A [(k0, .inr (9, [.ref k00, .ref k01, .ref k02, .ref k03, .ref k04, .ref k05, .int c06, .int c07, .int c08])), (k00, .inl (cI, 12, .inl c00)), (k, .inr (10, [.ref k0, .ref k1, .ref k2, .ref k3, .ref k4, .ref k5, .ref k6, .ref k7, .ref k8, .ref k9, .ref ka, .ref kb, .int cc])), (kb, .inl (cI, 6, .inl scb_17))] := hD
        have hr_15 := w_16
        obtain rfl : r_15 = (-1000001) := hr_15.trans (by decide +kernel)
        exact hRet (scb_17, c00) [2, 0, 3, 1] ⟨(by (try dsimp only); unfold rainR; (repeat (first | rw [if_pos (by omega)] | rw [if_neg (by omega)]))), (WR.gt pre0 (by (try dsimp only); unfold rainS; (repeat (first | rw [if_pos (by omega)] | rw [if_neg (by omega)]))))⟩ hP hD (by decide +kernel) rfl hS rfl dX10_rain_25
      · refine lv_iload_n hx hb dX10_rain_14 rfl (lv_at hl 2 rfl) ?_
        refine lv_bipush (v := 9) hx hb dX10_rain_15 (by decide +kernel) ?_
        refine b_icmp_le hx hb rfl zl_9 (tgt := 26) dX10_rain_17 (by decide +kernel) (fun c_18 => ?_) (fun c_18 => ?_)
        · refine lv_aload_n hx hb dX10_rain_26 rfl (lv_at hl 0 rfl) ?_
          refine va_get (D := D) (ci := 10) (v := .ref k0) (C := RX10) (T := TX10) (N := 13) hx hb hT giX10 hown hK hP 0 rfl rfl 0 (by decide +kernel) (hT (Cond.fieldLink RX10 12 "DesertWire" "now" "LDesertWire$World;") mw_291) (fun _ h9 => h9) rfl dX10_rain_27 ?_
          refine va_get (D := D) (ci := 9) (v := .ref k00) (C := RX9) (T := TX9) (N := 9) hx hb hT giX9 hown hK hP 1 rfl rfl 0 (by decide +kernel) (hT (Cond.fieldLink RX10 86 "DesertWire$World" "rains" "[I") mw_90) (fun _ h9 => h9) rfl dX10_rain_30 ?_
          refine lv_iload_n hx hb dX10_rain_33 rfl (lv_at hl 1 rfl) ?_
          refine k_iald (v := (c00 a0.toNatClampNeg)) hx hb hK hP 3 0 rfl rfl (k_in (by omega) (by omega)) rfl dX10_rain_34 ?_
          refine lv_topi (fun v_19 ev_19 => ?_)
          have lo_v_19 := k_lo v_19
          have hi_v_19 := k_hi v_19
          have tv_19 : v_19.toInt = (c00 a0.toNatClampNeg).toInt := by rw [ev_19]
          have h_20 : v_19 = gx (7 + a0.toInt.toNat) := Eq.trans ev_19 (WR.rn pre0 (by omega) (by omega))
          refine lv_istore_n (lv' := [(3, .int v_19), (0, .ref k), (1, .int a0), (2, .int a1)]) hx hb dX10_rain_35 rfl hl (by decide +kernel) rfl ?_
          clear hl
          intro ls hl
          refine lv_aload_n hx hb dX10_rain_36 rfl (lv_at hl 1 rfl) ?_
          refine va_get (D := D) (ci := 10) (v := .ref k0) (C := RX10) (T := TX10) (N := 13) hx hb hT giX10 hown hK hP 0 rfl rfl 0 (by decide +kernel) (hT (Cond.fieldLink RX10 12 "DesertWire" "now" "LDesertWire$World;") mw_291) (fun _ h9 => h9) rfl dX10_rain_37 ?_
          refine va_get (D := D) (ci := 9) (v := .ref k00) (C := RX9) (T := TX9) (N := 9) hx hb hT giX9 hown hK hP 1 rfl rfl 0 (by decide +kernel) (hT (Cond.fieldLink RX10 86 "DesertWire$World" "rains" "[I") mw_90) (fun _ h9 => h9) rfl dX10_rain_40 ?_
          refine lv_iload_n hx hb dX10_rain_43 rfl (lv_at hl 2 rfl) ?_
          refine lv_iload_n hx hb dX10_rain_44 rfl (lv_at hl 3 rfl) ?_
          refine va_iast hx hb hK hP hD hS 3 0 rfl rfl (k_in (by omega) (by omega)) dX10_rain_45 ?_
          clear hP hD hS
          intro H locs hP hD hS
          replace hP : va_P D vwCl [(k, .inr (10, [.ref k0, .ref k1, .ref k2, .ref k3, .ref k4, .ref k5, .ref k6, .ref k7, .ref k8, .ref k9, .ref ka, .ref kb, .int cc])), (k0, .inr (9, [.ref k00, .ref k01, .ref k02, .ref k03, .ref k04, .ref k05, .int c06, .int c07, .int c08])), (kb, .inl (cI, 6, .inl cb)), (k00, .inl (cI, 12, .inl (upd c00 a0.toNatClampNeg a1)))] H := hP
          replace hD : va_D A [(k, .inr (10, [.ref k0, .ref k1, .ref k2, .ref k3, .ref k4, .ref k5, .ref k6, .ref k7, .ref k8, .ref k9, .ref ka, .ref kb, .int cc])), (k0, .inr (9, [.ref k00, .ref k01, .ref k02, .ref k03, .ref k04, .ref k05, .int c06, .int c07, .int c08])), (kb, .inl (cI, 6, .inl cb)), (k00, .inl (cI, 12, .inl (upd c00 a0.toNatClampNeg a1)))] := hD
          obtain ⟨f_21, ef_21⟩ : ∃ g : Nat → Int32, g = upd c00 a0.toNatClampNeg a1 := ⟨_, rfl⟩
          rw [← ef_21] at hP hD
          refine lv_iload_n hx hb dX10_rain_46 rfl (lv_at hl 0 rfl) ?_
          exact hRet (cb, f_21) [0, 1, 2, 3] ⟨(by (try dsimp only); unfold rainR; (repeat (first | rw [if_pos (by omega)] | rw [if_neg (by omega)])); first | done | exact h_20), (WR.rain pre0 (by unfold rainS; rw [if_pos (by omega)]; exact up_in ef_21 (by omega)))⟩ hP hD (by decide +kernel) rfl hS rfl dX10_rain_47
        · refine lv_aload_n hx hb dX10_rain_20 rfl (lv_at hl 0 rfl) ?_
          refine lv_iconst (v := 1) hx hb dX10_rain_21 (by decide +kernel) ?_
          refine kJi (wr := [(k0, .inr (9, [.ref k00, .ref k01, .ref k02, .ref k03, .ref k04, .ref k05, .int c06, .int c07, .int c08])), (k00, .inl (cI, 12, .inl c00))]) (va_runV (As := [.int 1]) (rest := []) ⟨hx, hb, hml, hown, hT⟩ (c_X10_findingG l D cI aK aV k k0 k1 k2 k3 k4 k5 k6 k7 k8 k9 ka kb s.heap.size cc cb 1) (cwV 1 hT (gV_in mw_338 mw_335 mw_337 mw_p1_0 mw_1) rfl rfl rfl (by decide +kernel) ⟨Nat.le_of_ble_eq_true rfl, Nat.le_of_ble_eq_true rfl⟩) (kRecvX (q0 := 0) (ci := 10) hK hP hD hN hXS hS hA rfl rfl [0, 2] rfl (by decide +kernel)) rfl rfl hl.1 rfl (lv_room (Nat.le_of_ble_eq_true rfl)) dX10_rain_22 ⟨Nat.le_of_ble_eq_true rfl, Nat.le_of_ble_eq_true rfl⟩) hP hD hS hA [0, 2] [1, 3] rfl rfl (by decide +kernel) (by decide +kernel) ?_
          clear hP hD hS
          intro r_22 scb_24 H locs w_23 hP hD hS
          replace hP : va_P D vwCl [(k0, .inr (9, [.ref k00, .ref k01, .ref k02, .ref k03, .ref k04, .ref k05, .int c06, .int c07, .int c08])), (k00, .inl (cI, 12, .inl c00)), (k, .inr (10, [.ref k0, .ref k1, .ref k2, .ref k3, .ref k4, .ref k5, .ref k6, .ref k7, .ref k8, .ref k9, .ref ka, .ref kb, .int cc])), (kb, .inl (cI, 6, .inl scb_24))] H := hP
          replace hD : va_D A [(k0, .inr (9, [.ref k00, .ref k01, .ref k02, .ref k03, .ref k04, .ref k05, .int c06, .int c07, .int c08])), (k00, .inl (cI, 12, .inl c00)), (k, .inr (10, [.ref k0, .ref k1, .ref k2, .ref k3, .ref k4, .ref k5, .ref k6, .ref k7, .ref k8, .ref k9, .ref ka, .ref kb, .int cc])), (kb, .inl (cI, 6, .inl scb_24))] := hD
          have hr_22 := w_23
          obtain rfl : r_22 = (-1000001) := hr_22.trans (by decide +kernel)
          exact hRet (scb_24, c00) [2, 0, 3, 1] ⟨(by (try dsimp only); unfold rainR; (repeat (first | rw [if_pos (by omega)] | rw [if_neg (by omega)]))), (WR.gt pre0 (by (try dsimp only); unfold rainS; (repeat (first | rw [if_pos (by omega)] | rw [if_neg (by omega)]))))⟩ hP hD (by decide +kernel) rfl hS rfl dX10_rain_25

set_option maxHeartbeats 4000000 in
set_option maxRecDepth 100000 in
theorem c_X10_landD (l : Launch) (D : va_G) (cI : ClassId) (aK aV : Nat → Nat) (k k0 k1 k2 k3 k4 k5 k6 k7 k8 k9 ka kb k00 k01 k02 k03 k04 k05 : Nat) (sz : Nat) (cc : Int32) (c06 : Int32) (c07 : Int32) (c08 : Int32) (cb : Nat → Int32) (c01 : Nat → Int32) (c02 : Nat → Int32) (c00 : Nat → Int32) (c03 : Nat → Int32) (c040 : Nat → Int32) (c041 : Nat → Int32) (c042 : Nat → Int32) (c043 : Nat → Int32) (c044 : Nat → Int32) (c045 : Nat → Int32) (c046 : Nat → Int32) (c047 : Nat → Int32) (c048 : Nat → Int32) (c049 : Int32) (c050 : Nat → Int32) (c051 : Int32) (gx : Nat → Int32) (a0 : Int32) (a1 : Int32) (a2 : Int32) (pre0 : WR c00 c01 c02 c03 c040 c041 c042 c043 c044 c045 c046 c047 c048 c049 c050 c051 c06 c07 c08 gx) : Met l yX10_land (gW yX10_land cX10_land 5 (some .int)) ({ frames := 1, cells := 0, slots := 0, locals := 21 } : Room) (kPreX D cI aK aV [.ref k, .int a0, .int a1, .int a2] [(k, .inr (10, [.ref k0, .ref k1, .ref k2, .ref k3, .ref k4, .ref k5, .ref k6, .ref k7, .ref k8, .ref k9, .ref ka, .ref kb, .int cc])), (k0, .inr (9, [.ref k00, .ref k01, .ref k02, .ref k03, .ref k04, .ref k05, .int c06, .int c07, .int c08])), (kb, .inl (cI, 6, .inl cb)), (k01, .inl (cI, 40, .inl c01)), (k02, .inl (cI, 40, .inl c02))] sz) (va_Qi (fun (r : Int32) (u : (Nat → Int32) × (Nat → Int32) × (Nat → Int32)) => r = landR 19 gx 59 gx a0 a1 a2 ∧ WR c00 u.2.1 u.2.2 c03 c040 c041 c042 c043 c044 c045 c046 c047 c048 c049 c050 c051 c06 c07 c08 (landS 59 (landS 19 gx a0 a1 a2 a1) a0 a1 a2 a2)) (fun u t => kWd D cI (va_A [(k, .inr (10, [.ref k0, .ref k1, .ref k2, .ref k3, .ref k4, .ref k5, .ref k6, .ref k7, .ref k8, .ref k9, .ref ka, .ref kb, .int cc])), (k0, .inr (9, [.ref k00, .ref k01, .ref k02, .ref k03, .ref k04, .ref k05, .int c06, .int c07, .int c08])), (kb, .inl (cI, 6, .inl cb)), (k01, .inl (cI, 40, .inl c01)), (k02, .inl (cI, 40, .inl c02))] sz) [(k, .inr (10, [.ref k0, .ref k1, .ref k2, .ref k3, .ref k4, .ref k5, .ref k6, .ref k7, .ref k8, .ref k9, .ref ka, .ref kb, .int cc])), (k0, .inr (9, [.ref k00, .ref k01, .ref k02, .ref k03, .ref k04, .ref k05, .int c06, .int c07, .int c08])), (kb, .inl (cI, 6, .inl u.1)), (k01, .inl (cI, 40, .inl u.2.1)), (k02, .inl (cI, 40, .inl u.2.2))] t) (va_A [(k, .inr (10, [.ref k0, .ref k1, .ref k2, .ref k3, .ref k4, .ref k5, .ref k6, .ref k7, .ref k8, .ref k9, .ref ka, .ref kb, .int cc])), (k0, .inr (9, [.ref k00, .ref k01, .ref k02, .ref k03, .ref k04, .ref k05, .int c06, .int c07, .int c08])), (kb, .inl (cI, 6, .inl cb)), (k01, .inl (cI, 40, .inl c01)), (k02, .inl (cI, 40, .inl c02))] sz)) 0 0 (va_A [(k, .inr (10, [.ref k0, .ref k1, .ref k2, .ref k3, .ref k4, .ref k5, .ref k6, .ref k7, .ref k8, .ref k9, .ref ka, .ref kb, .int cc])), (k0, .inr (9, [.ref k00, .ref k01, .ref k02, .ref k03, .ref k04, .ref k05, .int c06, .int c07, .int c08])), (kb, .inl (cI, 6, .inl cb)), (k01, .inl (cI, 40, .inl c01)), (k02, .inl (cI, 40, .inl c02))] sz) := by
  refine kMetIX (own := RX10) (by decide +kernel) rfl (Nat.le_of_ble_eq_true rfl) ?_
  intro p e s m args below meth c hx hb hT hown hname hml A Q hK hP hD hS hA hN hXS hRet ls hl
  have hl : lv_has ls 5 [(0, .ref k), (1, .int a0), (2, .int a1), (3, .int a2)] := hl
  have lo_a0 := k_lo a0
  have hi_a0 := k_hi a0
  have lo_a1 := k_lo a1
  have hi_a1 := k_hi a1
  have lo_a2 := k_lo a2
  have hi_a2 := k_hi a2
  have lo_c06 := k_lo c06
  have hi_c06 := k_hi c06
  have lo_c07 := k_lo c07
  have hi_c07 := k_hi c07
  have lo_c08 := k_lo c08
  have hi_c08 := k_hi c08
  have lo_c049 := k_lo c049
  have hi_c049 := k_hi c049
  have lo_c051 := k_lo c051
  have hi_c051 := k_hi c051
  have pre0 : WR c00 c01 c02 c03 c040 c041 c042 c043 c044 c045 c046 c047 c048 c049 c050 c051 c06 c07 c08 gx := pre0
  have b_1 : 0 ≤ c049.toInt ∧ c049.toInt ≤ 60 := WKR.n0 (WR.kw pre0)
  have t_2 : c049.toInt = (gx 1).toInt := WKR.nt (WR.kw pre0)
  have b_3 : 0 ≤ c051.toInt ∧ c051.toInt ≤ 4 := ((WR.kp pre0)).2.1
  have t_4 : c051.toInt = (gx 2).toInt := PTR.nt (WR.kp pre0)
  have t_5 : c08.toInt = (gx 0).toInt := by rw [WR.dd pre0]
  refine lv_iload_n hx hb dX10_land_0 rfl (lv_at hl 1 rfl) ?_
  refine kJi (wr := [(k, .inr (10, [.ref k0, .ref k1, .ref k2, .ref k3, .ref k4, .ref k5, .ref k6, .ref k7, .ref k8, .ref k9, .ref ka, .ref kb, .int cc])), (k0, .inr (9, [.ref k00, .ref k01, .ref k02, .ref k03, .ref k04, .ref k05, .int c06, .int c07, .int c08])), (kb, .inl (cI, 6, .inl cb)), (k01, .inl (cI, 40, .inl c01)), (k02, .inl (cI, 40, .inl c02))]) (va_runS (As := [.int a0]) (rest := []) ⟨hx, hb, hml, hown, hT⟩ (c_X10_isMileG l D cI aK aV s.heap.size a0) (cwS 1 hT (gS_in mw_346 mw_344 mw_345 mw_1) rfl rfl rfl (by decide +kernel) ⟨Nat.le_of_ble_eq_true rfl, Nat.le_of_ble_eq_true rfl⟩) (kStatX hK hP hD hN hXS hS hA [] rfl (by decide +kernel)) rfl rfl hl.1 rfl (lv_room (Nat.le_of_ble_eq_true rfl)) dX10_land_1 ⟨Nat.le_of_ble_eq_true rfl, Nat.le_of_ble_eq_true rfl⟩) hP hD hS hA [] [0, 1, 2, 3, 4] rfl rfl (by decide +kernel) (by decide +kernel) ?_
  clear hP hD hS
  intro r_6 u_8 H locs w_7 hP hD hS
  replace hP : va_P D vwCl [(k, .inr (10, [.ref k0, .ref k1, .ref k2, .ref k3, .ref k4, .ref k5, .ref k6, .ref k7, .ref k8, .ref k9, .ref ka, .ref kb, .int cc])), (k0, .inr (9, [.ref k00, .ref k01, .ref k02, .ref k03, .ref k04, .ref k05, .int c06, .int c07, .int c08])), (kb, .inl (cI, 6, .inl cb)), (k01, .inl (cI, 40, .inl c01)), (k02, .inl (cI, 40, .inl c02))] H := hP
  replace hD : va_D A [(k, .inr (10, [.ref k0, .ref k1, .ref k2, .ref k3, .ref k4, .ref k5, .ref k6, .ref k7, .ref k8, .ref k9, .ref ka, .ref kb, .int cc])), (k0, .inr (9, [.ref k00, .ref k01, .ref k02, .ref k03, .ref k04, .ref k05, .int c06, .int c07, .int c08])), (kb, .inl (cI, 6, .inl cb)), (k01, .inl (cI, 40, .inl c01)), (k02, .inl (cI, 40, .inl c02))] := hD
  rcases w_7 with ⟨hr_6, h_9, h_10⟩ | ⟨hr_6, h_11⟩
  · have h_9 : 0 ≤ a0.toInt := h_9
    have h_10 : a0.toInt ≤ 39 := h_10
    obtain rfl : r_6 = 1 := hr_6.trans (by decide +kernel)
    refine b_if_eq hx hb zl_1 (tgt := 26) dX10_land_4 (by decide +kernel) (fun c_12 => by exfalso; omega) (fun c_12 => ?_)
    refine lv_iload_n hx hb dX10_land_7 rfl (lv_at hl 2 rfl) ?_
    refine b_if_lt hx hb rfl (tgt := 26) dX10_land_8 (by decide +kernel) (fun c_13 => ?_) (fun c_13 => ?_)
    · refine lv_aload_n hx hb dX10_land_26 rfl (lv_at hl 0 rfl) ?_
      refine lv_iconst (v := 1) hx hb dX10_land_27 (by decide +kernel) ?_
      refine kJi (wr := [(k0, .inr (9, [.ref k00, .ref k01, .ref k02, .ref k03, .ref k04, .ref k05, .int c06, .int c07, .int c08])), (k01, .inl (cI, 40, .inl c01)), (k02, .inl (cI, 40, .inl c02))]) (va_runV (As := [.int 1]) (rest := []) ⟨hx, hb, hml, hown, hT⟩ (c_X10_findingG l D cI aK aV k k0 k1 k2 k3 k4 k5 k6 k7 k8 k9 ka kb H.size cc cb 1) (cwV 1 hT (gV_in mw_338 mw_335 mw_337 mw_p1_0 mw_1) rfl rfl rfl (by decide +kernel) ⟨Nat.le_of_ble_eq_true rfl, Nat.le_of_ble_eq_true rfl⟩) (kRecvX (q0 := 0) (ci := 10) hK hP hD hN hXS hS hA rfl rfl [0, 2] rfl (by decide +kernel)) rfl rfl hl.1 rfl (lv_room (Nat.le_of_ble_eq_true rfl)) dX10_land_28 ⟨Nat.le_of_ble_eq_true rfl, Nat.le_of_ble_eq_true rfl⟩) hP hD hS hA [0, 2] [1, 3, 4] rfl rfl (by decide +kernel) (by decide +kernel) ?_
      clear hP hD hS
      intro r_14 scb_16 H locs w_15 hP hD hS
      replace hP : va_P D vwCl [(k0, .inr (9, [.ref k00, .ref k01, .ref k02, .ref k03, .ref k04, .ref k05, .int c06, .int c07, .int c08])), (k01, .inl (cI, 40, .inl c01)), (k02, .inl (cI, 40, .inl c02)), (k, .inr (10, [.ref k0, .ref k1, .ref k2, .ref k3, .ref k4, .ref k5, .ref k6, .ref k7, .ref k8, .ref k9, .ref ka, .ref kb, .int cc])), (kb, .inl (cI, 6, .inl scb_16))] H := hP
      replace hD : va_D A [(k0, .inr (9, [.ref k00, .ref k01, .ref k02, .ref k03, .ref k04, .ref k05, .int c06, .int c07, .int c08])), (k01, .inl (cI, 40, .inl c01)), (k02, .inl (cI, 40, .inl c02)), (k, .inr (10, [.ref k0, .ref k1, .ref k2, .ref k3, .ref k4, .ref k5, .ref k6, .ref k7, .ref k8, .ref k9, .ref ka, .ref kb, .int cc])), (kb, .inl (cI, 6, .inl scb_16))] := hD
      have hr_14 := w_15
      obtain rfl : r_14 = (-1000001) := hr_14.trans (by decide +kernel)
      exact hRet (scb_16, c01, c02) [3, 0, 4, 1, 2] ⟨(by (try dsimp only); unfold landR; (repeat (first | rw [if_pos (by omega)] | rw [if_neg (by omega)]))), (WR.gt pre0 (by unfold landS; (repeat (first | rw [if_pos (by omega)] | rw [if_neg (by omega)]))))⟩ hP hD (by decide +kernel) rfl hS rfl dX10_land_31
    · refine lv_iload_n hx hb dX10_land_11 rfl (lv_at hl 2 rfl) ?_
      refine lv_iconst (v := 2) hx hb dX10_land_12 (by decide +kernel) ?_
      refine b_icmp_gt hx hb rfl zl_2 (tgt := 26) dX10_land_13 (by decide +kernel) (fun c_17 => ?_) (fun c_17 => ?_)
      · refine lv_aload_n hx hb dX10_land_26 rfl (lv_at hl 0 rfl) ?_
        refine lv_iconst (v := 1) hx hb dX10_land_27 (by decide +kernel) ?_
        refine kJi (wr := [(k0, .inr (9, [.ref k00, .ref k01, .ref k02, .ref k03, .ref k04, .ref k05, .int c06, .int c07, .int c08])), (k01, .inl (cI, 40, .inl c01)), (k02, .inl (cI, 40, .inl c02))]) (va_runV (As := [.int 1]) (rest := []) ⟨hx, hb, hml, hown, hT⟩ (c_X10_findingG l D cI aK aV k k0 k1 k2 k3 k4 k5 k6 k7 k8 k9 ka kb H.size cc cb 1) (cwV 1 hT (gV_in mw_338 mw_335 mw_337 mw_p1_0 mw_1) rfl rfl rfl (by decide +kernel) ⟨Nat.le_of_ble_eq_true rfl, Nat.le_of_ble_eq_true rfl⟩) (kRecvX (q0 := 0) (ci := 10) hK hP hD hN hXS hS hA rfl rfl [0, 2] rfl (by decide +kernel)) rfl rfl hl.1 rfl (lv_room (Nat.le_of_ble_eq_true rfl)) dX10_land_28 ⟨Nat.le_of_ble_eq_true rfl, Nat.le_of_ble_eq_true rfl⟩) hP hD hS hA [0, 2] [1, 3, 4] rfl rfl (by decide +kernel) (by decide +kernel) ?_
        clear hP hD hS
        intro r_18 scb_20 H locs w_19 hP hD hS
        replace hP : va_P D vwCl [(k0, .inr (9, [.ref k00, .ref k01, .ref k02, .ref k03, .ref k04, .ref k05, .int c06, .int c07, .int c08])), (k01, .inl (cI, 40, .inl c01)), (k02, .inl (cI, 40, .inl c02)), (k, .inr (10, [.ref k0, .ref k1, .ref k2, .ref k3, .ref k4, .ref k5, .ref k6, .ref k7, .ref k8, .ref k9, .ref ka, .ref kb, .int cc])), (kb, .inl (cI, 6, .inl scb_20))] H := hP
        replace hD : va_D A [(k0, .inr (9, [.ref k00, .ref k01, .ref k02, .ref k03, .ref k04, .ref k05, .int c06, .int c07, .int c08])), (k01, .inl (cI, 40, .inl c01)), (k02, .inl (cI, 40, .inl c02)), (k, .inr (10, [.ref k0, .ref k1, .ref k2, .ref k3, .ref k4, .ref k5, .ref k6, .ref k7, .ref k8, .ref k9, .ref ka, .ref kb, .int cc])), (kb, .inl (cI, 6, .inl scb_20))] := hD
        have hr_18 := w_19
        obtain rfl : r_18 = (-1000001) := hr_18.trans (by decide +kernel)
        exact hRet (scb_20, c01, c02) [3, 0, 4, 1, 2] ⟨(by (try dsimp only); unfold landR; (repeat (first | rw [if_pos (by omega)] | rw [if_neg (by omega)]))), (WR.gt pre0 (by unfold landS; (repeat (first | rw [if_pos (by omega)] | rw [if_neg (by omega)]))))⟩ hP hD (by decide +kernel) rfl hS rfl dX10_land_31
      · refine lv_iload_n hx hb dX10_land_16 rfl (lv_at hl 3 rfl) ?_
        refine b_if_lt hx hb rfl (tgt := 26) dX10_land_17 (by decide +kernel) (fun c_21 => ?_) (fun c_21 => ?_)
        · refine lv_aload_n hx hb dX10_land_26 rfl (lv_at hl 0 rfl) ?_
          refine lv_iconst (v := 1) hx hb dX10_land_27 (by decide +kernel) ?_
          refine kJi (wr := [(k0, .inr (9, [.ref k00, .ref k01, .ref k02, .ref k03, .ref k04, .ref k05, .int c06, .int c07, .int c08])), (k01, .inl (cI, 40, .inl c01)), (k02, .inl (cI, 40, .inl c02))]) (va_runV (As := [.int 1]) (rest := []) ⟨hx, hb, hml, hown, hT⟩ (c_X10_findingG l D cI aK aV k k0 k1 k2 k3 k4 k5 k6 k7 k8 k9 ka kb H.size cc cb 1) (cwV 1 hT (gV_in mw_338 mw_335 mw_337 mw_p1_0 mw_1) rfl rfl rfl (by decide +kernel) ⟨Nat.le_of_ble_eq_true rfl, Nat.le_of_ble_eq_true rfl⟩) (kRecvX (q0 := 0) (ci := 10) hK hP hD hN hXS hS hA rfl rfl [0, 2] rfl (by decide +kernel)) rfl rfl hl.1 rfl (lv_room (Nat.le_of_ble_eq_true rfl)) dX10_land_28 ⟨Nat.le_of_ble_eq_true rfl, Nat.le_of_ble_eq_true rfl⟩) hP hD hS hA [0, 2] [1, 3, 4] rfl rfl (by decide +kernel) (by decide +kernel) ?_
          clear hP hD hS
          intro r_22 scb_24 H locs w_23 hP hD hS
          replace hP : va_P D vwCl [(k0, .inr (9, [.ref k00, .ref k01, .ref k02, .ref k03, .ref k04, .ref k05, .int c06, .int c07, .int c08])), (k01, .inl (cI, 40, .inl c01)), (k02, .inl (cI, 40, .inl c02)), (k, .inr (10, [.ref k0, .ref k1, .ref k2, .ref k3, .ref k4, .ref k5, .ref k6, .ref k7, .ref k8, .ref k9, .ref ka, .ref kb, .int cc])), (kb, .inl (cI, 6, .inl scb_24))] H := hP
          replace hD : va_D A [(k0, .inr (9, [.ref k00, .ref k01, .ref k02, .ref k03, .ref k04, .ref k05, .int c06, .int c07, .int c08])), (k01, .inl (cI, 40, .inl c01)), (k02, .inl (cI, 40, .inl c02)), (k, .inr (10, [.ref k0, .ref k1, .ref k2, .ref k3, .ref k4, .ref k5, .ref k6, .ref k7, .ref k8, .ref k9, .ref ka, .ref kb, .int cc])), (kb, .inl (cI, 6, .inl scb_24))] := hD
          have hr_22 := w_23
          obtain rfl : r_22 = (-1000001) := hr_22.trans (by decide +kernel)
          exact hRet (scb_24, c01, c02) [3, 0, 4, 1, 2] ⟨(by (try dsimp only); unfold landR; (repeat (first | rw [if_pos (by omega)] | rw [if_neg (by omega)]))), (WR.gt pre0 (by unfold landS; (repeat (first | rw [if_pos (by omega)] | rw [if_neg (by omega)]))))⟩ hP hD (by decide +kernel) rfl hS rfl dX10_land_31
        · refine lv_iload_n hx hb dX10_land_20 rfl (lv_at hl 3 rfl) ?_
          refine lv_bipush (v := 99) hx hb dX10_land_21 (by decide +kernel) ?_
          refine b_icmp_le hx hb rfl zl_99 (tgt := 32) dX10_land_23 (by decide +kernel) (fun c_25 => ?_) (fun c_25 => ?_)
          · refine lv_bipush (v := 100) hx hb dX10_land_32 (by decide +kernel) ?_
            refine lv_aload_n hx hb dX10_land_34 rfl (lv_at hl 0 rfl) ?_
            refine va_get (D := D) (ci := 10) (v := .ref k0) (C := RX10) (T := TX10) (N := 13) hx hb hT giX10 hown hK hP 0 rfl rfl 0 (by decide +kernel) (hT (Cond.fieldLink RX10 12 "DesertWire" "now" "LDesertWire$World;") mw_291) (fun _ h9 => h9) rfl dX10_land_35 ?_
            refine va_get (D := D) (ci := 9) (v := .ref k01) (C := RX9) (T := TX9) (N := 9) hx hb hT giX9 hown hK hP 1 rfl rfl 1 (by decide +kernel) (hT (Cond.fieldLink RX10 93 "DesertWire$World" "soils" "[I") mw_92) (fun _ h9 => h9) rfl dX10_land_38 ?_
            refine lv_iload_n hx hb dX10_land_41 rfl (lv_at hl 1 rfl) ?_
            refine k_iald (v := (c01 a0.toNatClampNeg)) hx hb hK hP 3 0 rfl rfl (k_in (by omega) (by omega)) rfl dX10_land_42 ?_
            refine lv_topi (fun v_26 ev_26 => ?_)
            have lo_v_26 := k_lo v_26
            have hi_v_26 := k_hi v_26
            have tv_26 : v_26.toInt = (c01 a0.toNatClampNeg).toInt := by rw [ev_26]
            have h_27 : v_26 = gx (19 + a0.toInt.toNat) := Eq.trans ev_26 (WR.qso pre0 (by omega) (by omega))
            refine lv_imul hx hb dX10_land_43 ?_
            refine lv_topi (fun v_28 ev_28 => ?_)
            have lo_v_28 := k_lo v_28
            have hi_v_28 := k_hi v_28
            refine lv_aload_n hx hb dX10_land_44 rfl (lv_at hl 0 rfl) ?_
            refine va_get (D := D) (ci := 10) (v := .ref k0) (C := RX10) (T := TX10) (N := 13) hx hb hT giX10 hown hK hP 0 rfl rfl 0 (by decide +kernel) (hT (Cond.fieldLink RX10 12 "DesertWire" "now" "LDesertWire$World;") mw_291) (fun _ h9 => h9) rfl dX10_land_45 ?_
            refine va_get (D := D) (ci := 9) (v := .ref k02) (C := RX9) (T := TX9) (N := 9) hx hb hT giX9 hown hK hP 1 rfl rfl 2 (by decide +kernel) (hT (Cond.fieldLink RX10 96 "DesertWire$World" "springs" "[I") mw_94) (fun _ h9 => h9) rfl dX10_land_48 ?_
            refine lv_iload_n hx hb dX10_land_51 rfl (lv_at hl 1 rfl) ?_
            refine k_iald (v := (c02 a0.toNatClampNeg)) hx hb hK hP 4 0 rfl rfl (k_in (by omega) (by omega)) rfl dX10_land_52 ?_
            refine lv_topi (fun v_29 ev_29 => ?_)
            have lo_v_29 := k_lo v_29
            have hi_v_29 := k_hi v_29
            have tv_29 : v_29.toInt = (c02 a0.toNatClampNeg).toInt := by rw [ev_29]
            have h_30 : v_29 = gx (59 + a0.toInt.toNat) := Eq.trans ev_29 (WR.qsp pre0 (by omega) (by omega))
            refine lv_iadd hx hb dX10_land_53 ?_
            refine lv_topi (fun v_31 ev_31 => ?_)
            have lo_v_31 := k_lo v_31
            have hi_v_31 := k_hi v_31
            refine lv_istore (lv' := [(4, .int v_31), (0, .ref k), (1, .int a0), (2, .int a1), (3, .int a2)]) hx hb dX10_land_54 hl (by decide +kernel) rfl ?_
            clear hl
            intro ls hl
            refine lv_aload_n hx hb dX10_land_56 rfl (lv_at hl 1 rfl) ?_
            refine va_get (D := D) (ci := 10) (v := .ref k0) (C := RX10) (T := TX10) (N := 13) hx hb hT giX10 hown hK hP 0 rfl rfl 0 (by decide +kernel) (hT (Cond.fieldLink RX10 12 "DesertWire" "now" "LDesertWire$World;") mw_291) (fun _ h9 => h9) rfl dX10_land_57 ?_
            refine va_get (D := D) (ci := 9) (v := .ref k01) (C := RX9) (T := TX9) (N := 9) hx hb hT giX9 hown hK hP 1 rfl rfl 1 (by decide +kernel) (hT (Cond.fieldLink RX10 93 "DesertWire$World" "soils" "[I") mw_92) (fun _ h9 => h9) rfl dX10_land_60 ?_
            refine lv_iload_n hx hb dX10_land_63 rfl (lv_at hl 2 rfl) ?_
            refine lv_iload_n hx hb dX10_land_64 rfl (lv_at hl 3 rfl) ?_
            refine va_iast hx hb hK hP hD hS 3 0 rfl rfl (k_in (by omega) (by omega)) dX10_land_65 ?_
            clear hP hD hS
            intro H locs hP hD hS
            replace hP : va_P D vwCl [(k, .inr (10, [.ref k0, .ref k1, .ref k2, .ref k3, .ref k4, .ref k5, .ref k6, .ref k7, .ref k8, .ref k9, .ref ka, .ref kb, .int cc])), (k0, .inr (9, [.ref k00, .ref k01, .ref k02, .ref k03, .ref k04, .ref k05, .int c06, .int c07, .int c08])), (kb, .inl (cI, 6, .inl cb)), (k01, .inl (cI, 40, .inl (upd c01 a0.toNatClampNeg a1))), (k02, .inl (cI, 40, .inl c02))] H := hP
            replace hD : va_D A [(k, .inr (10, [.ref k0, .ref k1, .ref k2, .ref k3, .ref k4, .ref k5, .ref k6, .ref k7, .ref k8, .ref k9, .ref ka, .ref kb, .int cc])), (k0, .inr (9, [.ref k00, .ref k01, .ref k02, .ref k03, .ref k04, .ref k05, .int c06, .int c07, .int c08])), (kb, .inl (cI, 6, .inl cb)), (k01, .inl (cI, 40, .inl (upd c01 a0.toNatClampNeg a1))), (k02, .inl (cI, 40, .inl c02))] := hD
            obtain ⟨f_32, ef_32⟩ : ∃ g : Nat → Int32, g = upd c01 a0.toNatClampNeg a1 := ⟨_, rfl⟩
            rw [← ef_32] at hP hD
            refine lv_aload_n hx hb dX10_land_66 rfl (lv_at hl 1 rfl) ?_
            refine va_get (D := D) (ci := 10) (v := .ref k0) (C := RX10) (T := TX10) (N := 13) hx hb hT giX10 hown hK hP 0 rfl rfl 0 (by decide +kernel) (hT (Cond.fieldLink RX10 12 "DesertWire" "now" "LDesertWire$World;") mw_291) (fun _ h9 => h9) rfl dX10_land_67 ?_
            refine va_get (D := D) (ci := 9) (v := .ref k02) (C := RX9) (T := TX9) (N := 9) hx hb hT giX9 hown hK hP 1 rfl rfl 2 (by decide +kernel) (hT (Cond.fieldLink RX10 96 "DesertWire$World" "springs" "[I") mw_94) (fun _ h9 => h9) rfl dX10_land_70 ?_
            refine lv_iload_n hx hb dX10_land_73 rfl (lv_at hl 2 rfl) ?_
            refine lv_iload_n hx hb dX10_land_74 rfl (lv_at hl 4 rfl) ?_
            refine va_iast hx hb hK hP hD hS 4 0 rfl rfl (k_in (by omega) (by omega)) dX10_land_75 ?_
            clear hP hD hS
            intro H locs hP hD hS
            replace hP : va_P D vwCl [(k, .inr (10, [.ref k0, .ref k1, .ref k2, .ref k3, .ref k4, .ref k5, .ref k6, .ref k7, .ref k8, .ref k9, .ref ka, .ref kb, .int cc])), (k0, .inr (9, [.ref k00, .ref k01, .ref k02, .ref k03, .ref k04, .ref k05, .int c06, .int c07, .int c08])), (kb, .inl (cI, 6, .inl cb)), (k01, .inl (cI, 40, .inl f_32)), (k02, .inl (cI, 40, .inl (upd c02 a0.toNatClampNeg a2)))] H := hP
            replace hD : va_D A [(k, .inr (10, [.ref k0, .ref k1, .ref k2, .ref k3, .ref k4, .ref k5, .ref k6, .ref k7, .ref k8, .ref k9, .ref ka, .ref kb, .int cc])), (k0, .inr (9, [.ref k00, .ref k01, .ref k02, .ref k03, .ref k04, .ref k05, .int c06, .int c07, .int c08])), (kb, .inl (cI, 6, .inl cb)), (k01, .inl (cI, 40, .inl f_32)), (k02, .inl (cI, 40, .inl (upd c02 a0.toNatClampNeg a2)))] := hD
            obtain ⟨f_33, ef_33⟩ : ∃ g : Nat → Int32, g = upd c02 a0.toNatClampNeg a2 := ⟨_, rfl⟩
            rw [← ef_33] at hP hD
            refine lv_iload hx hb dX10_land_76 (lv_at hl 0 rfl) ?_
            exact hRet (cb, f_32, f_33) [0, 1, 2, 3, 4] ⟨(by (try dsimp only); unfold landR; (repeat (first | rw [if_pos (by omega)] | rw [if_neg (by omega)])); first | done | exact (by rw [ev_31, ev_28, h_27, h_30])), (WR.land pre0 (by unfold landS; rw [if_pos (by omega)]; exact up_in ef_32 (by omega)) (by unfold landS; rw [if_pos (by omega)]; exact up_in ef_33 (by omega)))⟩ hP hD (by decide +kernel) rfl hS rfl dX10_land_78
          · refine lv_aload_n hx hb dX10_land_26 rfl (lv_at hl 0 rfl) ?_
            refine lv_iconst (v := 1) hx hb dX10_land_27 (by decide +kernel) ?_
            refine kJi (wr := [(k0, .inr (9, [.ref k00, .ref k01, .ref k02, .ref k03, .ref k04, .ref k05, .int c06, .int c07, .int c08])), (k01, .inl (cI, 40, .inl c01)), (k02, .inl (cI, 40, .inl c02))]) (va_runV (As := [.int 1]) (rest := []) ⟨hx, hb, hml, hown, hT⟩ (c_X10_findingG l D cI aK aV k k0 k1 k2 k3 k4 k5 k6 k7 k8 k9 ka kb H.size cc cb 1) (cwV 1 hT (gV_in mw_338 mw_335 mw_337 mw_p1_0 mw_1) rfl rfl rfl (by decide +kernel) ⟨Nat.le_of_ble_eq_true rfl, Nat.le_of_ble_eq_true rfl⟩) (kRecvX (q0 := 0) (ci := 10) hK hP hD hN hXS hS hA rfl rfl [0, 2] rfl (by decide +kernel)) rfl rfl hl.1 rfl (lv_room (Nat.le_of_ble_eq_true rfl)) dX10_land_28 ⟨Nat.le_of_ble_eq_true rfl, Nat.le_of_ble_eq_true rfl⟩) hP hD hS hA [0, 2] [1, 3, 4] rfl rfl (by decide +kernel) (by decide +kernel) ?_
            clear hP hD hS
            intro r_34 scb_36 H locs w_35 hP hD hS
            replace hP : va_P D vwCl [(k0, .inr (9, [.ref k00, .ref k01, .ref k02, .ref k03, .ref k04, .ref k05, .int c06, .int c07, .int c08])), (k01, .inl (cI, 40, .inl c01)), (k02, .inl (cI, 40, .inl c02)), (k, .inr (10, [.ref k0, .ref k1, .ref k2, .ref k3, .ref k4, .ref k5, .ref k6, .ref k7, .ref k8, .ref k9, .ref ka, .ref kb, .int cc])), (kb, .inl (cI, 6, .inl scb_36))] H := hP
            replace hD : va_D A [(k0, .inr (9, [.ref k00, .ref k01, .ref k02, .ref k03, .ref k04, .ref k05, .int c06, .int c07, .int c08])), (k01, .inl (cI, 40, .inl c01)), (k02, .inl (cI, 40, .inl c02)), (k, .inr (10, [.ref k0, .ref k1, .ref k2, .ref k3, .ref k4, .ref k5, .ref k6, .ref k7, .ref k8, .ref k9, .ref ka, .ref kb, .int cc])), (kb, .inl (cI, 6, .inl scb_36))] := hD
            have hr_34 := w_35
            obtain rfl : r_34 = (-1000001) := hr_34.trans (by decide +kernel)
            exact hRet (scb_36, c01, c02) [3, 0, 4, 1, 2] ⟨(by (try dsimp only); unfold landR; (repeat (first | rw [if_pos (by omega)] | rw [if_neg (by omega)]))), (WR.gt pre0 (by unfold landS; (repeat (first | rw [if_pos (by omega)] | rw [if_neg (by omega)]))))⟩ hP hD (by decide +kernel) rfl hS rfl dX10_land_31
  · have h_11 : a0.toInt < 0 ∨ 39 < a0.toInt := h_11
    obtain rfl : r_6 = 0 := hr_6.trans (by decide +kernel)
    refine b_if_eq hx hb zl_0 (tgt := 26) dX10_land_4 (by decide +kernel) (fun c_37 => ?_) (fun c_37 => by exfalso; omega)
    refine lv_aload_n hx hb dX10_land_26 rfl (lv_at hl 0 rfl) ?_
    refine lv_iconst (v := 1) hx hb dX10_land_27 (by decide +kernel) ?_
    refine kJi (wr := [(k0, .inr (9, [.ref k00, .ref k01, .ref k02, .ref k03, .ref k04, .ref k05, .int c06, .int c07, .int c08])), (k01, .inl (cI, 40, .inl c01)), (k02, .inl (cI, 40, .inl c02))]) (va_runV (As := [.int 1]) (rest := []) ⟨hx, hb, hml, hown, hT⟩ (c_X10_findingG l D cI aK aV k k0 k1 k2 k3 k4 k5 k6 k7 k8 k9 ka kb H.size cc cb 1) (cwV 1 hT (gV_in mw_338 mw_335 mw_337 mw_p1_0 mw_1) rfl rfl rfl (by decide +kernel) ⟨Nat.le_of_ble_eq_true rfl, Nat.le_of_ble_eq_true rfl⟩) (kRecvX (q0 := 0) (ci := 10) hK hP hD hN hXS hS hA rfl rfl [0, 2] rfl (by decide +kernel)) rfl rfl hl.1 rfl (lv_room (Nat.le_of_ble_eq_true rfl)) dX10_land_28 ⟨Nat.le_of_ble_eq_true rfl, Nat.le_of_ble_eq_true rfl⟩) hP hD hS hA [0, 2] [1, 3, 4] rfl rfl (by decide +kernel) (by decide +kernel) ?_
    clear hP hD hS
    intro r_38 scb_40 H locs w_39 hP hD hS
    replace hP : va_P D vwCl [(k0, .inr (9, [.ref k00, .ref k01, .ref k02, .ref k03, .ref k04, .ref k05, .int c06, .int c07, .int c08])), (k01, .inl (cI, 40, .inl c01)), (k02, .inl (cI, 40, .inl c02)), (k, .inr (10, [.ref k0, .ref k1, .ref k2, .ref k3, .ref k4, .ref k5, .ref k6, .ref k7, .ref k8, .ref k9, .ref ka, .ref kb, .int cc])), (kb, .inl (cI, 6, .inl scb_40))] H := hP
    replace hD : va_D A [(k0, .inr (9, [.ref k00, .ref k01, .ref k02, .ref k03, .ref k04, .ref k05, .int c06, .int c07, .int c08])), (k01, .inl (cI, 40, .inl c01)), (k02, .inl (cI, 40, .inl c02)), (k, .inr (10, [.ref k0, .ref k1, .ref k2, .ref k3, .ref k4, .ref k5, .ref k6, .ref k7, .ref k8, .ref k9, .ref ka, .ref kb, .int cc])), (kb, .inl (cI, 6, .inl scb_40))] := hD
    have hr_38 := w_39
    obtain rfl : r_38 = (-1000001) := hr_38.trans (by decide +kernel)
    exact hRet (scb_40, c01, c02) [3, 0, 4, 1, 2] ⟨(by (try dsimp only); unfold landR; (repeat (first | rw [if_pos (by omega)] | rw [if_neg (by omega)]))), (WR.gt pre0 (by unfold landS; (repeat (first | rw [if_pos (by omega)] | rw [if_neg (by omega)]))))⟩ hP hD (by decide +kernel) rfl hS rfl dX10_land_31

set_option maxHeartbeats 4000000 in
set_option maxRecDepth 100000 in
theorem c_X10_workD (l : Launch) (D : va_G) (cI : ClassId) (aK aV : Nat → Nat) (k k0 k1 k2 k3 k4 k5 k6 k7 k8 k9 ka kb k00 k01 k02 k03 k04 k05 k040 k041 k042 k043 k044 k045 k046 k047 k048 : Nat) (sz : Nat) (cc : Int32) (c06 : Int32) (c07 : Int32) (c08 : Int32) (cb : Nat → Int32) (c049 : Int32) (c040 : Nat → Int32) (c041 : Nat → Int32) (c042 : Nat → Int32) (c043 : Nat → Int32) (c044 : Nat → Int32) (c045 : Nat → Int32) (c046 : Nat → Int32) (c047 : Nat → Int32) (c048 : Nat → Int32) (c00 : Nat → Int32) (c01 : Nat → Int32) (c02 : Nat → Int32) (c03 : Nat → Int32) (c050 : Nat → Int32) (c051 : Int32) (gx : Nat → Int32) (a0 : Int32) (a1 : Int32) (a2 : Int32) (pre0 : WR c00 c01 c02 c03 c040 c041 c042 c043 c044 c045 c046 c047 c048 c049 c050 c051 c06 c07 c08 gx) (pre1 : SB gx) : Met l yX10_work (gW yX10_work cX10_work 4 (some .int)) ({ frames := 4, cells := 0, slots := 0, locals := 90 } : Room) (kPreX D cI aK aV [.ref k, .int a0, .int a1, .int a2] [(k, .inr (10, [.ref k0, .ref k1, .ref k2, .ref k3, .ref k4, .ref k5, .ref k6, .ref k7, .ref k8, .ref k9, .ref ka, .ref kb, .int cc])), (k0, .inr (9, [.ref k00, .ref k01, .ref k02, .ref k03, .ref k04, .ref k05, .int c06, .int c07, .int c08])), (kb, .inl (cI, 6, .inl cb)), (k04, .inr (8, [.ref k040, .ref k041, .ref k042, .ref k043, .ref k044, .ref k045, .ref k046, .ref k047, .ref k048, .int c049])), (k040, .inl (cI, 60, .inl c040)), (k041, .inl (cI, 60, .inl c041)), (k042, .inl (cI, 60, .inl c042)), (k043, .inl (cI, 60, .inl c043)), (k044, .inl (cI, 60, .inl c044)), (k045, .inl (cI, 60, .inl c045)), (k046, .inl (cI, 40, .inl c046)), (k047, .inl (cI, 40, .inl c047)), (k048, .inl (cI, 40, .inl c048))] sz) (va_Qi (fun (r : Int32) (u : (Nat → Int32) × Int32 × (Nat → Int32) × (Nat → Int32) × (Nat → Int32) × (Nat → Int32) × (Nat → Int32) × (Nat → Int32) × (Nat → Int32) × (Nat → Int32) × (Nat → Int32)) => r = workR gx a0 a1 a2 ∧ WR c00 c01 c02 c03 u.2.2.1 u.2.2.2.1 u.2.2.2.2.1 u.2.2.2.2.2.1 u.2.2.2.2.2.2.1 u.2.2.2.2.2.2.2.1 u.2.2.2.2.2.2.2.2.1 u.2.2.2.2.2.2.2.2.2.1 u.2.2.2.2.2.2.2.2.2.2 u.2.1 c050 c051 c06 c07 c08 (workS gx a0 a1 a2)) (fun u t => kWd D cI (va_A [(k, .inr (10, [.ref k0, .ref k1, .ref k2, .ref k3, .ref k4, .ref k5, .ref k6, .ref k7, .ref k8, .ref k9, .ref ka, .ref kb, .int cc])), (k0, .inr (9, [.ref k00, .ref k01, .ref k02, .ref k03, .ref k04, .ref k05, .int c06, .int c07, .int c08])), (kb, .inl (cI, 6, .inl cb)), (k04, .inr (8, [.ref k040, .ref k041, .ref k042, .ref k043, .ref k044, .ref k045, .ref k046, .ref k047, .ref k048, .int c049])), (k040, .inl (cI, 60, .inl c040)), (k041, .inl (cI, 60, .inl c041)), (k042, .inl (cI, 60, .inl c042)), (k043, .inl (cI, 60, .inl c043)), (k044, .inl (cI, 60, .inl c044)), (k045, .inl (cI, 60, .inl c045)), (k046, .inl (cI, 40, .inl c046)), (k047, .inl (cI, 40, .inl c047)), (k048, .inl (cI, 40, .inl c048))] sz) [(k, .inr (10, [.ref k0, .ref k1, .ref k2, .ref k3, .ref k4, .ref k5, .ref k6, .ref k7, .ref k8, .ref k9, .ref ka, .ref kb, .int cc])), (k0, .inr (9, [.ref k00, .ref k01, .ref k02, .ref k03, .ref k04, .ref k05, .int c06, .int c07, .int c08])), (kb, .inl (cI, 6, .inl u.1)), (k04, .inr (8, [.ref k040, .ref k041, .ref k042, .ref k043, .ref k044, .ref k045, .ref k046, .ref k047, .ref k048, .int u.2.1])), (k040, .inl (cI, 60, .inl u.2.2.1)), (k041, .inl (cI, 60, .inl u.2.2.2.1)), (k042, .inl (cI, 60, .inl u.2.2.2.2.1)), (k043, .inl (cI, 60, .inl u.2.2.2.2.2.1)), (k044, .inl (cI, 60, .inl u.2.2.2.2.2.2.1)), (k045, .inl (cI, 60, .inl u.2.2.2.2.2.2.2.1)), (k046, .inl (cI, 40, .inl u.2.2.2.2.2.2.2.2.1)), (k047, .inl (cI, 40, .inl u.2.2.2.2.2.2.2.2.2.1)), (k048, .inl (cI, 40, .inl u.2.2.2.2.2.2.2.2.2.2))] t) (va_A [(k, .inr (10, [.ref k0, .ref k1, .ref k2, .ref k3, .ref k4, .ref k5, .ref k6, .ref k7, .ref k8, .ref k9, .ref ka, .ref kb, .int cc])), (k0, .inr (9, [.ref k00, .ref k01, .ref k02, .ref k03, .ref k04, .ref k05, .int c06, .int c07, .int c08])), (kb, .inl (cI, 6, .inl cb)), (k04, .inr (8, [.ref k040, .ref k041, .ref k042, .ref k043, .ref k044, .ref k045, .ref k046, .ref k047, .ref k048, .int c049])), (k040, .inl (cI, 60, .inl c040)), (k041, .inl (cI, 60, .inl c041)), (k042, .inl (cI, 60, .inl c042)), (k043, .inl (cI, 60, .inl c043)), (k044, .inl (cI, 60, .inl c044)), (k045, .inl (cI, 60, .inl c045)), (k046, .inl (cI, 40, .inl c046)), (k047, .inl (cI, 40, .inl c047)), (k048, .inl (cI, 40, .inl c048))] sz)) 0 0 (va_A [(k, .inr (10, [.ref k0, .ref k1, .ref k2, .ref k3, .ref k4, .ref k5, .ref k6, .ref k7, .ref k8, .ref k9, .ref ka, .ref kb, .int cc])), (k0, .inr (9, [.ref k00, .ref k01, .ref k02, .ref k03, .ref k04, .ref k05, .int c06, .int c07, .int c08])), (kb, .inl (cI, 6, .inl cb)), (k04, .inr (8, [.ref k040, .ref k041, .ref k042, .ref k043, .ref k044, .ref k045, .ref k046, .ref k047, .ref k048, .int c049])), (k040, .inl (cI, 60, .inl c040)), (k041, .inl (cI, 60, .inl c041)), (k042, .inl (cI, 60, .inl c042)), (k043, .inl (cI, 60, .inl c043)), (k044, .inl (cI, 60, .inl c044)), (k045, .inl (cI, 60, .inl c045)), (k046, .inl (cI, 40, .inl c046)), (k047, .inl (cI, 40, .inl c047)), (k048, .inl (cI, 40, .inl c048))] sz) := by
  refine kMetIX (own := RX10) (by decide +kernel) rfl (Nat.le_of_ble_eq_true rfl) ?_
  intro p e s m args below meth c hx hb hT hown hname hml A Q hK hP hD hS hA hN hXS hRet ls hl
  have hl : lv_has ls 4 [(0, .ref k), (1, .int a0), (2, .int a1), (3, .int a2)] := hl
  have lo_a0 := k_lo a0
  have hi_a0 := k_hi a0
  have lo_a1 := k_lo a1
  have hi_a1 := k_hi a1
  have lo_a2 := k_lo a2
  have hi_a2 := k_hi a2
  have lo_c06 := k_lo c06
  have hi_c06 := k_hi c06
  have lo_c07 := k_lo c07
  have hi_c07 := k_hi c07
  have lo_c08 := k_lo c08
  have hi_c08 := k_hi c08
  have lo_c049 := k_lo c049
  have hi_c049 := k_hi c049
  have lo_c051 := k_lo c051
  have hi_c051 := k_hi c051
  have pre0 : WR c00 c01 c02 c03 c040 c041 c042 c043 c044 c045 c046 c047 c048 c049 c050 c051 c06 c07 c08 gx := pre0
  have b_1 : 0 ≤ c049.toInt ∧ c049.toInt ≤ 60 := WKR.n0 (WR.kw pre0)
  have t_2 : c049.toInt = (gx 1).toInt := WKR.nt (WR.kw pre0)
  have b_3 : 0 ≤ c051.toInt ∧ c051.toInt ≤ 4 := ((WR.kp pre0)).2.1
  have t_4 : c051.toInt = (gx 2).toInt := PTR.nt (WR.kp pre0)
  have t_5 : c08.toInt = (gx 0).toInt := by rw [WR.dd pre0]
  have pre1 : SB gx := pre1
  refine lv_iload_n hx hb dX10_work_0 rfl (lv_at hl 1 rfl) ?_
  refine b_if_lt hx hb rfl (tgt := 28) dX10_work_1 (by decide +kernel) (fun c_6 => ?_) (fun c_6 => ?_)
  · refine lv_aload_n hx hb dX10_work_28 rfl (lv_at hl 0 rfl) ?_
    refine lv_iconst (v := 1) hx hb dX10_work_29 (by decide +kernel) ?_
    refine kJi (wr := [(k0, .inr (9, [.ref k00, .ref k01, .ref k02, .ref k03, .ref k04, .ref k05, .int c06, .int c07, .int c08])), (k04, .inr (8, [.ref k040, .ref k041, .ref k042, .ref k043, .ref k044, .ref k045, .ref k046, .ref k047, .ref k048, .int c049])), (k040, .inl (cI, 60, .inl c040)), (k041, .inl (cI, 60, .inl c041)), (k042, .inl (cI, 60, .inl c042)), (k043, .inl (cI, 60, .inl c043)), (k044, .inl (cI, 60, .inl c044)), (k045, .inl (cI, 60, .inl c045)), (k046, .inl (cI, 40, .inl c046)), (k047, .inl (cI, 40, .inl c047)), (k048, .inl (cI, 40, .inl c048))]) (va_runV (As := [.int 1]) (rest := []) ⟨hx, hb, hml, hown, hT⟩ (c_X10_findingG l D cI aK aV k k0 k1 k2 k3 k4 k5 k6 k7 k8 k9 ka kb s.heap.size cc cb 1) (cwV 1 hT (gV_in mw_338 mw_335 mw_337 mw_p1_0 mw_1) rfl rfl rfl (by decide +kernel) ⟨Nat.le_of_ble_eq_true rfl, Nat.le_of_ble_eq_true rfl⟩) (kRecvX (q0 := 0) (ci := 10) hK hP hD hN hXS hS hA rfl rfl [0, 2] rfl (by decide +kernel)) rfl rfl hl.1 rfl (lv_room (Nat.le_of_ble_eq_true rfl)) dX10_work_30 ⟨Nat.le_of_ble_eq_true rfl, Nat.le_of_ble_eq_true rfl⟩) hP hD hS hA [0, 2] [1, 3, 4, 5, 6, 7, 8, 9, 10, 11, 12] rfl rfl (by decide +kernel) (by decide +kernel) ?_
    clear hP hD hS
    intro r_7 scb_9 H locs w_8 hP hD hS
    replace hP : va_P D vwCl [(k0, .inr (9, [.ref k00, .ref k01, .ref k02, .ref k03, .ref k04, .ref k05, .int c06, .int c07, .int c08])), (k04, .inr (8, [.ref k040, .ref k041, .ref k042, .ref k043, .ref k044, .ref k045, .ref k046, .ref k047, .ref k048, .int c049])), (k040, .inl (cI, 60, .inl c040)), (k041, .inl (cI, 60, .inl c041)), (k042, .inl (cI, 60, .inl c042)), (k043, .inl (cI, 60, .inl c043)), (k044, .inl (cI, 60, .inl c044)), (k045, .inl (cI, 60, .inl c045)), (k046, .inl (cI, 40, .inl c046)), (k047, .inl (cI, 40, .inl c047)), (k048, .inl (cI, 40, .inl c048)), (k, .inr (10, [.ref k0, .ref k1, .ref k2, .ref k3, .ref k4, .ref k5, .ref k6, .ref k7, .ref k8, .ref k9, .ref ka, .ref kb, .int cc])), (kb, .inl (cI, 6, .inl scb_9))] H := hP
    replace hD : va_D A [(k0, .inr (9, [.ref k00, .ref k01, .ref k02, .ref k03, .ref k04, .ref k05, .int c06, .int c07, .int c08])), (k04, .inr (8, [.ref k040, .ref k041, .ref k042, .ref k043, .ref k044, .ref k045, .ref k046, .ref k047, .ref k048, .int c049])), (k040, .inl (cI, 60, .inl c040)), (k041, .inl (cI, 60, .inl c041)), (k042, .inl (cI, 60, .inl c042)), (k043, .inl (cI, 60, .inl c043)), (k044, .inl (cI, 60, .inl c044)), (k045, .inl (cI, 60, .inl c045)), (k046, .inl (cI, 40, .inl c046)), (k047, .inl (cI, 40, .inl c047)), (k048, .inl (cI, 40, .inl c048)), (k, .inr (10, [.ref k0, .ref k1, .ref k2, .ref k3, .ref k4, .ref k5, .ref k6, .ref k7, .ref k8, .ref k9, .ref ka, .ref kb, .int cc])), (kb, .inl (cI, 6, .inl scb_9))] := hD
    have hr_7 := w_8
    obtain rfl : r_7 = (-1000001) := hr_7.trans (by decide +kernel)
    exact hRet (scb_9, c049, c040, c041, c042, c043, c044, c045, c046, c047, c048) [11, 0, 12, 1, 2, 3, 4, 5, 6, 7, 8, 9, 10] ⟨(by (try dsimp only); unfold workR; (repeat (first | rw [if_pos (by omega)] | rw [if_neg (by omega)]))), (WR.gt pre0 (by (try dsimp only); unfold workS; (repeat (first | rw [if_pos (by omega)] | rw [if_neg (by omega)]))))⟩ hP hD (by decide +kernel) rfl hS rfl dX10_work_33
  · refine lv_iload_n hx hb dX10_work_4 rfl (lv_at hl 1 rfl) ?_
    refine lv_bipush (v := 6) hx hb dX10_work_5 (by decide +kernel) ?_
    refine b_icmp_ge hx hb rfl zl_6 (tgt := 28) dX10_work_7 (by decide +kernel) (fun c_10 => ?_) (fun c_10 => ?_)
    · refine lv_aload_n hx hb dX10_work_28 rfl (lv_at hl 0 rfl) ?_
      refine lv_iconst (v := 1) hx hb dX10_work_29 (by decide +kernel) ?_
      refine kJi (wr := [(k0, .inr (9, [.ref k00, .ref k01, .ref k02, .ref k03, .ref k04, .ref k05, .int c06, .int c07, .int c08])), (k04, .inr (8, [.ref k040, .ref k041, .ref k042, .ref k043, .ref k044, .ref k045, .ref k046, .ref k047, .ref k048, .int c049])), (k040, .inl (cI, 60, .inl c040)), (k041, .inl (cI, 60, .inl c041)), (k042, .inl (cI, 60, .inl c042)), (k043, .inl (cI, 60, .inl c043)), (k044, .inl (cI, 60, .inl c044)), (k045, .inl (cI, 60, .inl c045)), (k046, .inl (cI, 40, .inl c046)), (k047, .inl (cI, 40, .inl c047)), (k048, .inl (cI, 40, .inl c048))]) (va_runV (As := [.int 1]) (rest := []) ⟨hx, hb, hml, hown, hT⟩ (c_X10_findingG l D cI aK aV k k0 k1 k2 k3 k4 k5 k6 k7 k8 k9 ka kb s.heap.size cc cb 1) (cwV 1 hT (gV_in mw_338 mw_335 mw_337 mw_p1_0 mw_1) rfl rfl rfl (by decide +kernel) ⟨Nat.le_of_ble_eq_true rfl, Nat.le_of_ble_eq_true rfl⟩) (kRecvX (q0 := 0) (ci := 10) hK hP hD hN hXS hS hA rfl rfl [0, 2] rfl (by decide +kernel)) rfl rfl hl.1 rfl (lv_room (Nat.le_of_ble_eq_true rfl)) dX10_work_30 ⟨Nat.le_of_ble_eq_true rfl, Nat.le_of_ble_eq_true rfl⟩) hP hD hS hA [0, 2] [1, 3, 4, 5, 6, 7, 8, 9, 10, 11, 12] rfl rfl (by decide +kernel) (by decide +kernel) ?_
      clear hP hD hS
      intro r_11 scb_13 H locs w_12 hP hD hS
      replace hP : va_P D vwCl [(k0, .inr (9, [.ref k00, .ref k01, .ref k02, .ref k03, .ref k04, .ref k05, .int c06, .int c07, .int c08])), (k04, .inr (8, [.ref k040, .ref k041, .ref k042, .ref k043, .ref k044, .ref k045, .ref k046, .ref k047, .ref k048, .int c049])), (k040, .inl (cI, 60, .inl c040)), (k041, .inl (cI, 60, .inl c041)), (k042, .inl (cI, 60, .inl c042)), (k043, .inl (cI, 60, .inl c043)), (k044, .inl (cI, 60, .inl c044)), (k045, .inl (cI, 60, .inl c045)), (k046, .inl (cI, 40, .inl c046)), (k047, .inl (cI, 40, .inl c047)), (k048, .inl (cI, 40, .inl c048)), (k, .inr (10, [.ref k0, .ref k1, .ref k2, .ref k3, .ref k4, .ref k5, .ref k6, .ref k7, .ref k8, .ref k9, .ref ka, .ref kb, .int cc])), (kb, .inl (cI, 6, .inl scb_13))] H := hP
      replace hD : va_D A [(k0, .inr (9, [.ref k00, .ref k01, .ref k02, .ref k03, .ref k04, .ref k05, .int c06, .int c07, .int c08])), (k04, .inr (8, [.ref k040, .ref k041, .ref k042, .ref k043, .ref k044, .ref k045, .ref k046, .ref k047, .ref k048, .int c049])), (k040, .inl (cI, 60, .inl c040)), (k041, .inl (cI, 60, .inl c041)), (k042, .inl (cI, 60, .inl c042)), (k043, .inl (cI, 60, .inl c043)), (k044, .inl (cI, 60, .inl c044)), (k045, .inl (cI, 60, .inl c045)), (k046, .inl (cI, 40, .inl c046)), (k047, .inl (cI, 40, .inl c047)), (k048, .inl (cI, 40, .inl c048)), (k, .inr (10, [.ref k0, .ref k1, .ref k2, .ref k3, .ref k4, .ref k5, .ref k6, .ref k7, .ref k8, .ref k9, .ref ka, .ref kb, .int cc])), (kb, .inl (cI, 6, .inl scb_13))] := hD
      have hr_11 := w_12
      obtain rfl : r_11 = (-1000001) := hr_11.trans (by decide +kernel)
      exact hRet (scb_13, c049, c040, c041, c042, c043, c044, c045, c046, c047, c048) [11, 0, 12, 1, 2, 3, 4, 5, 6, 7, 8, 9, 10] ⟨(by (try dsimp only); unfold workR; (repeat (first | rw [if_pos (by omega)] | rw [if_neg (by omega)]))), (WR.gt pre0 (by (try dsimp only); unfold workS; (repeat (first | rw [if_pos (by omega)] | rw [if_neg (by omega)]))))⟩ hP hD (by decide +kernel) rfl hS rfl dX10_work_33
    · refine lv_iload_n hx hb dX10_work_10 rfl (lv_at hl 2 rfl) ?_
      refine kJi (wr := [(k, .inr (10, [.ref k0, .ref k1, .ref k2, .ref k3, .ref k4, .ref k5, .ref k6, .ref k7, .ref k8, .ref k9, .ref ka, .ref kb, .int cc])), (k0, .inr (9, [.ref k00, .ref k01, .ref k02, .ref k03, .ref k04, .ref k05, .int c06, .int c07, .int c08])), (kb, .inl (cI, 6, .inl cb)), (k04, .inr (8, [.ref k040, .ref k041, .ref k042, .ref k043, .ref k044, .ref k045, .ref k046, .ref k047, .ref k048, .int c049])), (k040, .inl (cI, 60, .inl c040)), (k041, .inl (cI, 60, .inl c041)), (k042, .inl (cI, 60, .inl c042)), (k043, .inl (cI, 60, .inl c043)), (k044, .inl (cI, 60, .inl c044)), (k045, .inl (cI, 60, .inl c045)), (k046, .inl (cI, 40, .inl c046)), (k047, .inl (cI, 40, .inl c047)), (k048, .inl (cI, 40, .inl c048))]) (va_runS (As := [.int a1]) (rest := []) ⟨hx, hb, hml, hown, hT⟩ (c_X10_isMileG l D cI aK aV s.heap.size a1) (cwS 1 hT (gS_in mw_346 mw_344 mw_345 mw_1) rfl rfl rfl (by decide +kernel) ⟨Nat.le_of_ble_eq_true rfl, Nat.le_of_ble_eq_true rfl⟩) (kStatX hK hP hD hN hXS hS hA [] rfl (by decide +kernel)) rfl rfl hl.1 rfl (lv_room (Nat.le_of_ble_eq_true rfl)) dX10_work_11 ⟨Nat.le_of_ble_eq_true rfl, Nat.le_of_ble_eq_true rfl⟩) hP hD hS hA [] [0, 1, 2, 3, 4, 5, 6, 7, 8, 9, 10, 11, 12] rfl rfl (by decide +kernel) (by decide +kernel) ?_
      clear hP hD hS
      intro r_14 u_16 H locs w_15 hP hD hS
      replace hP : va_P D vwCl [(k, .inr (10, [.ref k0, .ref k1, .ref k2, .ref k3, .ref k4, .ref k5, .ref k6, .ref k7, .ref k8, .ref k9, .ref ka, .ref kb, .int cc])), (k0, .inr (9, [.ref k00, .ref k01, .ref k02, .ref k03, .ref k04, .ref k05, .int c06, .int c07, .int c08])), (kb, .inl (cI, 6, .inl cb)), (k04, .inr (8, [.ref k040, .ref k041, .ref k042, .ref k043, .ref k044, .ref k045, .ref k046, .ref k047, .ref k048, .int c049])), (k040, .inl (cI, 60, .inl c040)), (k041, .inl (cI, 60, .inl c041)), (k042, .inl (cI, 60, .inl c042)), (k043, .inl (cI, 60, .inl c043)), (k044, .inl (cI, 60, .inl c044)), (k045, .inl (cI, 60, .inl c045)), (k046, .inl (cI, 40, .inl c046)), (k047, .inl (cI, 40, .inl c047)), (k048, .inl (cI, 40, .inl c048))] H := hP
      replace hD : va_D A [(k, .inr (10, [.ref k0, .ref k1, .ref k2, .ref k3, .ref k4, .ref k5, .ref k6, .ref k7, .ref k8, .ref k9, .ref ka, .ref kb, .int cc])), (k0, .inr (9, [.ref k00, .ref k01, .ref k02, .ref k03, .ref k04, .ref k05, .int c06, .int c07, .int c08])), (kb, .inl (cI, 6, .inl cb)), (k04, .inr (8, [.ref k040, .ref k041, .ref k042, .ref k043, .ref k044, .ref k045, .ref k046, .ref k047, .ref k048, .int c049])), (k040, .inl (cI, 60, .inl c040)), (k041, .inl (cI, 60, .inl c041)), (k042, .inl (cI, 60, .inl c042)), (k043, .inl (cI, 60, .inl c043)), (k044, .inl (cI, 60, .inl c044)), (k045, .inl (cI, 60, .inl c045)), (k046, .inl (cI, 40, .inl c046)), (k047, .inl (cI, 40, .inl c047)), (k048, .inl (cI, 40, .inl c048))] := hD
      rcases w_15 with ⟨hr_14, h_17, h_18⟩ | ⟨hr_14, h_19⟩
      · have h_17 : 0 ≤ a1.toInt := h_17
        have h_18 : a1.toInt ≤ 39 := h_18
        obtain rfl : r_14 = 1 := hr_14.trans (by decide +kernel)
        refine b_if_eq hx hb zl_1 (tgt := 28) dX10_work_14 (by decide +kernel) (fun c_20 => by exfalso; omega) (fun c_20 => ?_)
        refine lv_iload_n hx hb dX10_work_17 rfl (lv_at hl 3 rfl) ?_
        refine lv_iconst (v := 1) hx hb dX10_work_18 (by decide +kernel) ?_
        refine b_icmp_lt hx hb rfl zl_1 (tgt := 28) dX10_work_19 (by decide +kernel) (fun c_21 => ?_) (fun c_21 => ?_)
        · refine lv_aload_n hx hb dX10_work_28 rfl (lv_at hl 0 rfl) ?_
          refine lv_iconst (v := 1) hx hb dX10_work_29 (by decide +kernel) ?_
          refine kJi (wr := [(k0, .inr (9, [.ref k00, .ref k01, .ref k02, .ref k03, .ref k04, .ref k05, .int c06, .int c07, .int c08])), (k04, .inr (8, [.ref k040, .ref k041, .ref k042, .ref k043, .ref k044, .ref k045, .ref k046, .ref k047, .ref k048, .int c049])), (k040, .inl (cI, 60, .inl c040)), (k041, .inl (cI, 60, .inl c041)), (k042, .inl (cI, 60, .inl c042)), (k043, .inl (cI, 60, .inl c043)), (k044, .inl (cI, 60, .inl c044)), (k045, .inl (cI, 60, .inl c045)), (k046, .inl (cI, 40, .inl c046)), (k047, .inl (cI, 40, .inl c047)), (k048, .inl (cI, 40, .inl c048))]) (va_runV (As := [.int 1]) (rest := []) ⟨hx, hb, hml, hown, hT⟩ (c_X10_findingG l D cI aK aV k k0 k1 k2 k3 k4 k5 k6 k7 k8 k9 ka kb H.size cc cb 1) (cwV 1 hT (gV_in mw_338 mw_335 mw_337 mw_p1_0 mw_1) rfl rfl rfl (by decide +kernel) ⟨Nat.le_of_ble_eq_true rfl, Nat.le_of_ble_eq_true rfl⟩) (kRecvX (q0 := 0) (ci := 10) hK hP hD hN hXS hS hA rfl rfl [0, 2] rfl (by decide +kernel)) rfl rfl hl.1 rfl (lv_room (Nat.le_of_ble_eq_true rfl)) dX10_work_30 ⟨Nat.le_of_ble_eq_true rfl, Nat.le_of_ble_eq_true rfl⟩) hP hD hS hA [0, 2] [1, 3, 4, 5, 6, 7, 8, 9, 10, 11, 12] rfl rfl (by decide +kernel) (by decide +kernel) ?_
          clear hP hD hS
          intro r_22 scb_24 H locs w_23 hP hD hS
          replace hP : va_P D vwCl [(k0, .inr (9, [.ref k00, .ref k01, .ref k02, .ref k03, .ref k04, .ref k05, .int c06, .int c07, .int c08])), (k04, .inr (8, [.ref k040, .ref k041, .ref k042, .ref k043, .ref k044, .ref k045, .ref k046, .ref k047, .ref k048, .int c049])), (k040, .inl (cI, 60, .inl c040)), (k041, .inl (cI, 60, .inl c041)), (k042, .inl (cI, 60, .inl c042)), (k043, .inl (cI, 60, .inl c043)), (k044, .inl (cI, 60, .inl c044)), (k045, .inl (cI, 60, .inl c045)), (k046, .inl (cI, 40, .inl c046)), (k047, .inl (cI, 40, .inl c047)), (k048, .inl (cI, 40, .inl c048)), (k, .inr (10, [.ref k0, .ref k1, .ref k2, .ref k3, .ref k4, .ref k5, .ref k6, .ref k7, .ref k8, .ref k9, .ref ka, .ref kb, .int cc])), (kb, .inl (cI, 6, .inl scb_24))] H := hP
          replace hD : va_D A [(k0, .inr (9, [.ref k00, .ref k01, .ref k02, .ref k03, .ref k04, .ref k05, .int c06, .int c07, .int c08])), (k04, .inr (8, [.ref k040, .ref k041, .ref k042, .ref k043, .ref k044, .ref k045, .ref k046, .ref k047, .ref k048, .int c049])), (k040, .inl (cI, 60, .inl c040)), (k041, .inl (cI, 60, .inl c041)), (k042, .inl (cI, 60, .inl c042)), (k043, .inl (cI, 60, .inl c043)), (k044, .inl (cI, 60, .inl c044)), (k045, .inl (cI, 60, .inl c045)), (k046, .inl (cI, 40, .inl c046)), (k047, .inl (cI, 40, .inl c047)), (k048, .inl (cI, 40, .inl c048)), (k, .inr (10, [.ref k0, .ref k1, .ref k2, .ref k3, .ref k4, .ref k5, .ref k6, .ref k7, .ref k8, .ref k9, .ref ka, .ref kb, .int cc])), (kb, .inl (cI, 6, .inl scb_24))] := hD
          have hr_22 := w_23
          obtain rfl : r_22 = (-1000001) := hr_22.trans (by decide +kernel)
          exact hRet (scb_24, c049, c040, c041, c042, c043, c044, c045, c046, c047, c048) [11, 0, 12, 1, 2, 3, 4, 5, 6, 7, 8, 9, 10] ⟨(by (try dsimp only); unfold workR; (repeat (first | rw [if_pos (by omega)] | rw [if_neg (by omega)]))), (WR.gt pre0 (by (try dsimp only); unfold workS; (repeat (first | rw [if_pos (by omega)] | rw [if_neg (by omega)]))))⟩ hP hD (by decide +kernel) rfl hS rfl dX10_work_33
        · refine lv_iload_n hx hb dX10_work_22 rfl (lv_at hl 3 rfl) ?_
          refine lv_bipush (v := 50) hx hb dX10_work_23 (by decide +kernel) ?_
          refine b_icmp_le hx hb rfl zl_50 (tgt := 34) dX10_work_25 (by decide +kernel) (fun c_25 => ?_) (fun c_25 => ?_)
          · refine lv_aload_n hx hb dX10_work_34 rfl (lv_at hl 0 rfl) ?_
            refine va_get (D := D) (ci := 10) (v := .ref k0) (C := RX10) (T := TX10) (N := 13) hx hb hT giX10 hown hK hP 0 rfl rfl 0 (by decide +kernel) (hT (Cond.fieldLink RX10 12 "DesertWire" "now" "LDesertWire$World;") mw_291) (fun _ h9 => h9) rfl dX10_work_35 ?_
            refine va_get (D := D) (ci := 9) (v := .ref k04) (C := RX9) (T := TX9) (N := 9) hx hb hT giX9 hown hK hP 1 rfl rfl 4 (by decide +kernel) (hT (Cond.fieldLink RX10 99 "DesertWire$World" "works" "LDesertWire$Works;") mw_99) (fun _ h9 => h9) rfl dX10_work_38 ?_
            refine kJi (wr := [(k, .inr (10, [.ref k0, .ref k1, .ref k2, .ref k3, .ref k4, .ref k5, .ref k6, .ref k7, .ref k8, .ref k9, .ref ka, .ref kb, .int cc])), (k0, .inr (9, [.ref k00, .ref k01, .ref k02, .ref k03, .ref k04, .ref k05, .int c06, .int c07, .int c08])), (kb, .inl (cI, 6, .inl cb)), (k040, .inl (cI, 60, .inl c040)), (k041, .inl (cI, 60, .inl c041)), (k042, .inl (cI, 60, .inl c042)), (k043, .inl (cI, 60, .inl c043)), (k044, .inl (cI, 60, .inl c044)), (k045, .inl (cI, 60, .inl c045)), (k046, .inl (cI, 40, .inl c046)), (k047, .inl (cI, 40, .inl c047)), (k048, .inl (cI, 40, .inl c048))]) (va_runV (As := []) (rest := []) ⟨hx, hb, hml, hown, hT⟩ (c_X8_hasRoomG l D cI aK aV k04 k040 k041 k042 k043 k044 k045 k046 k047 k048 H.size c049) (cwV 0 hT (gV_in mw_354 mw_351 mw_352 mw_353 mw_3) rfl rfl rfl (by decide +kernel) ⟨Nat.le_of_ble_eq_true rfl, Nat.le_of_ble_eq_true rfl⟩) (kRecvX (q0 := 3) (ci := 8) hK hP hD hN hXS hS hA rfl rfl [3] rfl (by decide +kernel)) rfl rfl hl.1 rfl (lv_room (Nat.le_of_ble_eq_true rfl)) dX10_work_41 ⟨Nat.le_of_ble_eq_true rfl, Nat.le_of_ble_eq_true rfl⟩) hP hD hS hA [3] [0, 1, 2, 4, 5, 6, 7, 8, 9, 10, 11, 12] rfl rfl (by decide +kernel) (by decide +kernel) ?_
            clear hP hD hS
            intro r_26 u_28 H locs w_27 hP hD hS
            replace hP : va_P D vwCl [(k, .inr (10, [.ref k0, .ref k1, .ref k2, .ref k3, .ref k4, .ref k5, .ref k6, .ref k7, .ref k8, .ref k9, .ref ka, .ref kb, .int cc])), (k0, .inr (9, [.ref k00, .ref k01, .ref k02, .ref k03, .ref k04, .ref k05, .int c06, .int c07, .int c08])), (kb, .inl (cI, 6, .inl cb)), (k040, .inl (cI, 60, .inl c040)), (k041, .inl (cI, 60, .inl c041)), (k042, .inl (cI, 60, .inl c042)), (k043, .inl (cI, 60, .inl c043)), (k044, .inl (cI, 60, .inl c044)), (k045, .inl (cI, 60, .inl c045)), (k046, .inl (cI, 40, .inl c046)), (k047, .inl (cI, 40, .inl c047)), (k048, .inl (cI, 40, .inl c048)), (k04, .inr (8, [.ref k040, .ref k041, .ref k042, .ref k043, .ref k044, .ref k045, .ref k046, .ref k047, .ref k048, .int c049]))] H := hP
            replace hD : va_D A [(k, .inr (10, [.ref k0, .ref k1, .ref k2, .ref k3, .ref k4, .ref k5, .ref k6, .ref k7, .ref k8, .ref k9, .ref ka, .ref kb, .int cc])), (k0, .inr (9, [.ref k00, .ref k01, .ref k02, .ref k03, .ref k04, .ref k05, .int c06, .int c07, .int c08])), (kb, .inl (cI, 6, .inl cb)), (k040, .inl (cI, 60, .inl c040)), (k041, .inl (cI, 60, .inl c041)), (k042, .inl (cI, 60, .inl c042)), (k043, .inl (cI, 60, .inl c043)), (k044, .inl (cI, 60, .inl c044)), (k045, .inl (cI, 60, .inl c045)), (k046, .inl (cI, 40, .inl c046)), (k047, .inl (cI, 40, .inl c047)), (k048, .inl (cI, 40, .inl c048)), (k04, .inr (8, [.ref k040, .ref k041, .ref k042, .ref k043, .ref k044, .ref k045, .ref k046, .ref k047, .ref k048, .int c049]))] := hD
            rcases w_27 with ⟨hr_26, h_29, h_30⟩ | ⟨hr_26, h_31⟩
            · have h_29 : 0 ≤ c049.toInt := h_29
              have h_30 : c049.toInt < 60 := h_30
              obtain rfl : r_26 = 1 := hr_26.trans (by decide +kernel)
              refine b_if_ne hx hb zl_1 (tgt := 53) dX10_work_44 (by decide +kernel) (fun c_32 => ?_) (fun c_32 => by exfalso; omega)
              refine lv_aload_n hx hb dX10_work_53 rfl (lv_at hl 0 rfl) ?_
              refine va_get (D := D) (ci := 10) (v := .ref k0) (C := RX10) (T := TX10) (N := 13) hx hb hT giX10 hown hK hP 0 rfl rfl 0 (by decide +kernel) (hT (Cond.fieldLink RX10 12 "DesertWire" "now" "LDesertWire$World;") mw_291) (fun _ h9 => h9) rfl dX10_work_54 ?_
              refine va_get (D := D) (ci := 9) (v := .ref k04) (C := RX9) (T := TX9) (N := 9) hx hb hT giX9 hown hK hP 1 rfl rfl 4 (by decide +kernel) (hT (Cond.fieldLink RX10 99 "DesertWire$World" "works" "LDesertWire$Works;") mw_99) (fun _ h9 => h9) rfl dX10_work_57 ?_
              refine lv_iload_n hx hb dX10_work_60 rfl (lv_at hl 1 rfl) ?_
              refine lv_iload_n hx hb dX10_work_61 rfl (lv_at hl 2 rfl) ?_
              refine lv_iload_n hx hb dX10_work_62 rfl (lv_at hl 3 rfl) ?_
              refine lv_aload_n hx hb dX10_work_63 rfl (lv_at hl 0 rfl) ?_
              refine va_get (D := D) (ci := 10) (v := .ref k0) (C := RX10) (T := TX10) (N := 13) hx hb hT giX10 hown hK hP 0 rfl rfl 0 (by decide +kernel) (hT (Cond.fieldLink RX10 12 "DesertWire" "now" "LDesertWire$World;") mw_291) (fun _ h9 => h9) rfl dX10_work_64 ?_
              refine va_get (D := D) (ci := 9) (v := .int c08) (C := RX9) (T := TX9) (N := 9) hx hb hT giX9 hown hK hP 1 rfl rfl 8 (by decide +kernel) (hT (Cond.fieldLink RX10 109 "DesertWire$World" "day" "I") mw_110) (fun _ h9 => h9) rfl dX10_work_67 ?_
              refine kJi (wr := [(k, .inr (10, [.ref k0, .ref k1, .ref k2, .ref k3, .ref k4, .ref k5, .ref k6, .ref k7, .ref k8, .ref k9, .ref ka, .ref kb, .int cc])), (k0, .inr (9, [.ref k00, .ref k01, .ref k02, .ref k03, .ref k04, .ref k05, .int c06, .int c07, .int c08])), (kb, .inl (cI, 6, .inl cb))]) (va_runV (As := [.int a0, .int a1, .int a2, .int c08]) (rest := []) ⟨hx, hb, hml, hown, hT⟩ (c_X8_addD l D cI aK aV k04 k040 k041 k042 k043 k044 k045 k046 k047 k048 H.size c049 c040 c041 c042 c043 c044 c045 c046 c047 c048 gx a0 a1 a2 c08 (WR.kw pre0) (by first | omega | decide | assumption | rfl) (by first | omega | decide | assumption | rfl) (by first | omega | decide | assumption | rfl) (by first | omega | decide | assumption | rfl) (by first | omega | decide | assumption | rfl)) (cwV 4 hT (gV_in mw_358 mw_355 mw_356 mw_357 mw_3) rfl rfl rfl (by decide +kernel) ⟨Nat.le_of_ble_eq_true rfl, Nat.le_of_ble_eq_true rfl⟩) (kRecvX (q0 := 12) (ci := 8) hK hP hD hN hXS hS hA rfl rfl [12, 3, 4, 5, 6, 7, 8, 9, 10, 11] rfl (by decide +kernel)) rfl rfl hl.1 rfl (lv_room (Nat.le_of_ble_eq_true rfl)) dX10_work_70 ⟨Nat.le_of_ble_eq_true rfl, Nat.le_of_ble_eq_true rfl⟩) hP hD hS hA [12, 3, 4, 5, 6, 7, 8, 9, 10, 11] [0, 1, 2] rfl rfl (by decide +kernel) (by decide +kernel) ?_
              clear hP hD hS
              intro r_33 u_45 H locs w_34 hP hD hS
              obtain ⟨sc9_35, sc0_36, sc1_37, sc2_38, sc3_39, sc4_40, sc5_41, sc6_42, sc7_43, sc8_44⟩ := u_45
              replace hP : va_P D vwCl [(k, .inr (10, [.ref k0, .ref k1, .ref k2, .ref k3, .ref k4, .ref k5, .ref k6, .ref k7, .ref k8, .ref k9, .ref ka, .ref kb, .int cc])), (k0, .inr (9, [.ref k00, .ref k01, .ref k02, .ref k03, .ref k04, .ref k05, .int c06, .int c07, .int c08])), (kb, .inl (cI, 6, .inl cb)), (k04, .inr (8, [.ref k040, .ref k041, .ref k042, .ref k043, .ref k044, .ref k045, .ref k046, .ref k047, .ref k048, .int sc9_35])), (k040, .inl (cI, 60, .inl sc0_36)), (k041, .inl (cI, 60, .inl sc1_37)), (k042, .inl (cI, 60, .inl sc2_38)), (k043, .inl (cI, 60, .inl sc3_39)), (k044, .inl (cI, 60, .inl sc4_40)), (k045, .inl (cI, 60, .inl sc5_41)), (k046, .inl (cI, 40, .inl sc6_42)), (k047, .inl (cI, 40, .inl sc7_43)), (k048, .inl (cI, 40, .inl sc8_44))] H := hP
              replace hD : va_D A [(k, .inr (10, [.ref k0, .ref k1, .ref k2, .ref k3, .ref k4, .ref k5, .ref k6, .ref k7, .ref k8, .ref k9, .ref ka, .ref kb, .int cc])), (k0, .inr (9, [.ref k00, .ref k01, .ref k02, .ref k03, .ref k04, .ref k05, .int c06, .int c07, .int c08])), (kb, .inl (cI, 6, .inl cb)), (k04, .inr (8, [.ref k040, .ref k041, .ref k042, .ref k043, .ref k044, .ref k045, .ref k046, .ref k047, .ref k048, .int sc9_35])), (k040, .inl (cI, 60, .inl sc0_36)), (k041, .inl (cI, 60, .inl sc1_37)), (k042, .inl (cI, 60, .inl sc2_38)), (k043, .inl (cI, 60, .inl sc3_39)), (k044, .inl (cI, 60, .inl sc4_40)), (k045, .inl (cI, 60, .inl sc5_41)), (k046, .inl (cI, 40, .inl sc6_42)), (k047, .inl (cI, 40, .inl sc7_43)), (k048, .inl (cI, 40, .inl sc8_44))] := hD
              have lo_sc9_35 := k_lo sc9_35
              have hi_sc9_35 := k_hi sc9_35
              obtain ⟨h_46, h_47, h_48, h_49⟩ := w_34
              have h_46 : r_33 = c049 := h_46
              have h_47 : r_33.toInt = c049.toInt := h_47
              have h_48 : sc9_35.toInt = c049.toInt + 1 := h_48
              have h_49 : WKR sc0_36 sc1_37 sc2_38 sc3_39 sc4_40 sc5_41 sc6_42 sc7_43 sc8_44 sc9_35 (comS gx a0 a1 a2 c08) := h_49
              obtain ⟨gg_50, egg_50⟩ : ∃ g_ : Nat → Int32, g_ = (comS gx a0 a1 a2 c08) := ⟨_, rfl⟩
              rw [← egg_50] at h_49
              have hW_51 : WR c00 c01 c02 c03 sc0_36 sc1_37 sc2_38 sc3_39 sc4_40 sc5_41 sc6_42 sc7_43 sc8_44 sc9_35 c050 c051 c06 c07 c08 gg_50 := WR.ofW pre0 h_49 (by rw [egg_50]; exact OFW.com (by omega))
              have b_52 : 0 ≤ sc9_35.toInt ∧ sc9_35.toInt ≤ 60 := WKR.n0 (WR.kw hW_51)
              have t_53 : sc9_35.toInt = (gg_50 1).toInt := WKR.nt (WR.kw hW_51)
              have lo_r_33 := k_lo r_33
              have hi_r_33 := k_hi r_33
              exact hRet (cb, sc9_35, sc0_36, sc1_37, sc2_38, sc3_39, sc4_40, sc5_41, sc6_42, sc7_43, sc8_44) [0, 1, 2, 3, 4, 5, 6, 7, 8, 9, 10, 11, 12] ⟨(by (try dsimp only); unfold workR; (repeat (first | rw [if_pos (by omega)] | rw [if_neg (by omega)])); first | done | exact (k_inj (by omega))), (WR.gt hW_51 (by (try dsimp only); unfold workS; (repeat (first | rw [if_pos (by omega)] | rw [if_neg (by omega)])); first | done | exact (by rw [egg_50, WR.dd pre0])))⟩ hP hD (by decide +kernel) rfl hS rfl dX10_work_73
            · have h_31 : c049.toInt < 0 ∨ 60 ≤ c049.toInt := h_31
              obtain rfl : r_26 = 0 := hr_26.trans (by decide +kernel)
              refine b_if_ne hx hb zl_0 (tgt := 53) dX10_work_44 (by decide +kernel) (fun c_54 => by exfalso; omega) (fun c_54 => ?_)
              refine lv_aload_n hx hb dX10_work_47 rfl (lv_at hl 0 rfl) ?_
              refine lv_iconst (v := 4) hx hb dX10_work_48 (by decide +kernel) ?_
              refine kJi (wr := [(k0, .inr (9, [.ref k00, .ref k01, .ref k02, .ref k03, .ref k04, .ref k05, .int c06, .int c07, .int c08])), (k040, .inl (cI, 60, .inl c040)), (k041, .inl (cI, 60, .inl c041)), (k042, .inl (cI, 60, .inl c042)), (k043, .inl (cI, 60, .inl c043)), (k044, .inl (cI, 60, .inl c044)), (k045, .inl (cI, 60, .inl c045)), (k046, .inl (cI, 40, .inl c046)), (k047, .inl (cI, 40, .inl c047)), (k048, .inl (cI, 40, .inl c048)), (k04, .inr (8, [.ref k040, .ref k041, .ref k042, .ref k043, .ref k044, .ref k045, .ref k046, .ref k047, .ref k048, .int c049]))]) (va_runV (As := [.int 4]) (rest := []) ⟨hx, hb, hml, hown, hT⟩ (c_X10_findingG l D cI aK aV k k0 k1 k2 k3 k4 k5 k6 k7 k8 k9 ka kb H.size cc cb 4) (cwV 1 hT (gV_in mw_338 mw_335 mw_337 mw_p1_0 mw_1) rfl rfl rfl (by decide +kernel) ⟨Nat.le_of_ble_eq_true rfl, Nat.le_of_ble_eq_true rfl⟩) (kRecvX (q0 := 0) (ci := 10) hK hP hD hN hXS hS hA rfl rfl [0, 2] rfl (by decide +kernel)) rfl rfl hl.1 rfl (lv_room (Nat.le_of_ble_eq_true rfl)) dX10_work_49 ⟨Nat.le_of_ble_eq_true rfl, Nat.le_of_ble_eq_true rfl⟩) hP hD hS hA [0, 2] [1, 3, 4, 5, 6, 7, 8, 9, 10, 11, 12] rfl rfl (by decide +kernel) (by decide +kernel) ?_
              clear hP hD hS
              intro r_55 scb_57 H locs w_56 hP hD hS
              replace hP : va_P D vwCl [(k0, .inr (9, [.ref k00, .ref k01, .ref k02, .ref k03, .ref k04, .ref k05, .int c06, .int c07, .int c08])), (k040, .inl (cI, 60, .inl c040)), (k041, .inl (cI, 60, .inl c041)), (k042, .inl (cI, 60, .inl c042)), (k043, .inl (cI, 60, .inl c043)), (k044, .inl (cI, 60, .inl c044)), (k045, .inl (cI, 60, .inl c045)), (k046, .inl (cI, 40, .inl c046)), (k047, .inl (cI, 40, .inl c047)), (k048, .inl (cI, 40, .inl c048)), (k04, .inr (8, [.ref k040, .ref k041, .ref k042, .ref k043, .ref k044, .ref k045, .ref k046, .ref k047, .ref k048, .int c049])), (k, .inr (10, [.ref k0, .ref k1, .ref k2, .ref k3, .ref k4, .ref k5, .ref k6, .ref k7, .ref k8, .ref k9, .ref ka, .ref kb, .int cc])), (kb, .inl (cI, 6, .inl scb_57))] H := hP
              replace hD : va_D A [(k0, .inr (9, [.ref k00, .ref k01, .ref k02, .ref k03, .ref k04, .ref k05, .int c06, .int c07, .int c08])), (k040, .inl (cI, 60, .inl c040)), (k041, .inl (cI, 60, .inl c041)), (k042, .inl (cI, 60, .inl c042)), (k043, .inl (cI, 60, .inl c043)), (k044, .inl (cI, 60, .inl c044)), (k045, .inl (cI, 60, .inl c045)), (k046, .inl (cI, 40, .inl c046)), (k047, .inl (cI, 40, .inl c047)), (k048, .inl (cI, 40, .inl c048)), (k04, .inr (8, [.ref k040, .ref k041, .ref k042, .ref k043, .ref k044, .ref k045, .ref k046, .ref k047, .ref k048, .int c049])), (k, .inr (10, [.ref k0, .ref k1, .ref k2, .ref k3, .ref k4, .ref k5, .ref k6, .ref k7, .ref k8, .ref k9, .ref ka, .ref kb, .int cc])), (kb, .inl (cI, 6, .inl scb_57))] := hD
              have hr_55 := w_56
              obtain rfl : r_55 = (-1000004) := hr_55.trans (by decide +kernel)
              exact hRet (scb_57, c049, c040, c041, c042, c043, c044, c045, c046, c047, c048) [11, 0, 12, 10, 1, 2, 3, 4, 5, 6, 7, 8, 9] ⟨(by (try dsimp only); unfold workR; (repeat (first | rw [if_pos (by omega)] | rw [if_neg (by omega)]))), (WR.gt pre0 (by (try dsimp only); unfold workS; (repeat (first | rw [if_pos (by omega)] | rw [if_neg (by omega)]))))⟩ hP hD (by decide +kernel) rfl hS rfl dX10_work_52
          · refine lv_aload_n hx hb dX10_work_28 rfl (lv_at hl 0 rfl) ?_
            refine lv_iconst (v := 1) hx hb dX10_work_29 (by decide +kernel) ?_
            refine kJi (wr := [(k0, .inr (9, [.ref k00, .ref k01, .ref k02, .ref k03, .ref k04, .ref k05, .int c06, .int c07, .int c08])), (k04, .inr (8, [.ref k040, .ref k041, .ref k042, .ref k043, .ref k044, .ref k045, .ref k046, .ref k047, .ref k048, .int c049])), (k040, .inl (cI, 60, .inl c040)), (k041, .inl (cI, 60, .inl c041)), (k042, .inl (cI, 60, .inl c042)), (k043, .inl (cI, 60, .inl c043)), (k044, .inl (cI, 60, .inl c044)), (k045, .inl (cI, 60, .inl c045)), (k046, .inl (cI, 40, .inl c046)), (k047, .inl (cI, 40, .inl c047)), (k048, .inl (cI, 40, .inl c048))]) (va_runV (As := [.int 1]) (rest := []) ⟨hx, hb, hml, hown, hT⟩ (c_X10_findingG l D cI aK aV k k0 k1 k2 k3 k4 k5 k6 k7 k8 k9 ka kb H.size cc cb 1) (cwV 1 hT (gV_in mw_338 mw_335 mw_337 mw_p1_0 mw_1) rfl rfl rfl (by decide +kernel) ⟨Nat.le_of_ble_eq_true rfl, Nat.le_of_ble_eq_true rfl⟩) (kRecvX (q0 := 0) (ci := 10) hK hP hD hN hXS hS hA rfl rfl [0, 2] rfl (by decide +kernel)) rfl rfl hl.1 rfl (lv_room (Nat.le_of_ble_eq_true rfl)) dX10_work_30 ⟨Nat.le_of_ble_eq_true rfl, Nat.le_of_ble_eq_true rfl⟩) hP hD hS hA [0, 2] [1, 3, 4, 5, 6, 7, 8, 9, 10, 11, 12] rfl rfl (by decide +kernel) (by decide +kernel) ?_
            clear hP hD hS
            intro r_58 scb_60 H locs w_59 hP hD hS
            replace hP : va_P D vwCl [(k0, .inr (9, [.ref k00, .ref k01, .ref k02, .ref k03, .ref k04, .ref k05, .int c06, .int c07, .int c08])), (k04, .inr (8, [.ref k040, .ref k041, .ref k042, .ref k043, .ref k044, .ref k045, .ref k046, .ref k047, .ref k048, .int c049])), (k040, .inl (cI, 60, .inl c040)), (k041, .inl (cI, 60, .inl c041)), (k042, .inl (cI, 60, .inl c042)), (k043, .inl (cI, 60, .inl c043)), (k044, .inl (cI, 60, .inl c044)), (k045, .inl (cI, 60, .inl c045)), (k046, .inl (cI, 40, .inl c046)), (k047, .inl (cI, 40, .inl c047)), (k048, .inl (cI, 40, .inl c048)), (k, .inr (10, [.ref k0, .ref k1, .ref k2, .ref k3, .ref k4, .ref k5, .ref k6, .ref k7, .ref k8, .ref k9, .ref ka, .ref kb, .int cc])), (kb, .inl (cI, 6, .inl scb_60))] H := hP
            replace hD : va_D A [(k0, .inr (9, [.ref k00, .ref k01, .ref k02, .ref k03, .ref k04, .ref k05, .int c06, .int c07, .int c08])), (k04, .inr (8, [.ref k040, .ref k041, .ref k042, .ref k043, .ref k044, .ref k045, .ref k046, .ref k047, .ref k048, .int c049])), (k040, .inl (cI, 60, .inl c040)), (k041, .inl (cI, 60, .inl c041)), (k042, .inl (cI, 60, .inl c042)), (k043, .inl (cI, 60, .inl c043)), (k044, .inl (cI, 60, .inl c044)), (k045, .inl (cI, 60, .inl c045)), (k046, .inl (cI, 40, .inl c046)), (k047, .inl (cI, 40, .inl c047)), (k048, .inl (cI, 40, .inl c048)), (k, .inr (10, [.ref k0, .ref k1, .ref k2, .ref k3, .ref k4, .ref k5, .ref k6, .ref k7, .ref k8, .ref k9, .ref ka, .ref kb, .int cc])), (kb, .inl (cI, 6, .inl scb_60))] := hD
            have hr_58 := w_59
            obtain rfl : r_58 = (-1000001) := hr_58.trans (by decide +kernel)
            exact hRet (scb_60, c049, c040, c041, c042, c043, c044, c045, c046, c047, c048) [11, 0, 12, 1, 2, 3, 4, 5, 6, 7, 8, 9, 10] ⟨(by (try dsimp only); unfold workR; (repeat (first | rw [if_pos (by omega)] | rw [if_neg (by omega)]))), (WR.gt pre0 (by (try dsimp only); unfold workS; (repeat (first | rw [if_pos (by omega)] | rw [if_neg (by omega)]))))⟩ hP hD (by decide +kernel) rfl hS rfl dX10_work_33
      · have h_19 : a1.toInt < 0 ∨ 39 < a1.toInt := h_19
        obtain rfl : r_14 = 0 := hr_14.trans (by decide +kernel)
        refine b_if_eq hx hb zl_0 (tgt := 28) dX10_work_14 (by decide +kernel) (fun c_61 => ?_) (fun c_61 => by exfalso; omega)
        refine lv_aload_n hx hb dX10_work_28 rfl (lv_at hl 0 rfl) ?_
        refine lv_iconst (v := 1) hx hb dX10_work_29 (by decide +kernel) ?_
        refine kJi (wr := [(k0, .inr (9, [.ref k00, .ref k01, .ref k02, .ref k03, .ref k04, .ref k05, .int c06, .int c07, .int c08])), (k04, .inr (8, [.ref k040, .ref k041, .ref k042, .ref k043, .ref k044, .ref k045, .ref k046, .ref k047, .ref k048, .int c049])), (k040, .inl (cI, 60, .inl c040)), (k041, .inl (cI, 60, .inl c041)), (k042, .inl (cI, 60, .inl c042)), (k043, .inl (cI, 60, .inl c043)), (k044, .inl (cI, 60, .inl c044)), (k045, .inl (cI, 60, .inl c045)), (k046, .inl (cI, 40, .inl c046)), (k047, .inl (cI, 40, .inl c047)), (k048, .inl (cI, 40, .inl c048))]) (va_runV (As := [.int 1]) (rest := []) ⟨hx, hb, hml, hown, hT⟩ (c_X10_findingG l D cI aK aV k k0 k1 k2 k3 k4 k5 k6 k7 k8 k9 ka kb H.size cc cb 1) (cwV 1 hT (gV_in mw_338 mw_335 mw_337 mw_p1_0 mw_1) rfl rfl rfl (by decide +kernel) ⟨Nat.le_of_ble_eq_true rfl, Nat.le_of_ble_eq_true rfl⟩) (kRecvX (q0 := 0) (ci := 10) hK hP hD hN hXS hS hA rfl rfl [0, 2] rfl (by decide +kernel)) rfl rfl hl.1 rfl (lv_room (Nat.le_of_ble_eq_true rfl)) dX10_work_30 ⟨Nat.le_of_ble_eq_true rfl, Nat.le_of_ble_eq_true rfl⟩) hP hD hS hA [0, 2] [1, 3, 4, 5, 6, 7, 8, 9, 10, 11, 12] rfl rfl (by decide +kernel) (by decide +kernel) ?_
        clear hP hD hS
        intro r_62 scb_64 H locs w_63 hP hD hS
        replace hP : va_P D vwCl [(k0, .inr (9, [.ref k00, .ref k01, .ref k02, .ref k03, .ref k04, .ref k05, .int c06, .int c07, .int c08])), (k04, .inr (8, [.ref k040, .ref k041, .ref k042, .ref k043, .ref k044, .ref k045, .ref k046, .ref k047, .ref k048, .int c049])), (k040, .inl (cI, 60, .inl c040)), (k041, .inl (cI, 60, .inl c041)), (k042, .inl (cI, 60, .inl c042)), (k043, .inl (cI, 60, .inl c043)), (k044, .inl (cI, 60, .inl c044)), (k045, .inl (cI, 60, .inl c045)), (k046, .inl (cI, 40, .inl c046)), (k047, .inl (cI, 40, .inl c047)), (k048, .inl (cI, 40, .inl c048)), (k, .inr (10, [.ref k0, .ref k1, .ref k2, .ref k3, .ref k4, .ref k5, .ref k6, .ref k7, .ref k8, .ref k9, .ref ka, .ref kb, .int cc])), (kb, .inl (cI, 6, .inl scb_64))] H := hP
        replace hD : va_D A [(k0, .inr (9, [.ref k00, .ref k01, .ref k02, .ref k03, .ref k04, .ref k05, .int c06, .int c07, .int c08])), (k04, .inr (8, [.ref k040, .ref k041, .ref k042, .ref k043, .ref k044, .ref k045, .ref k046, .ref k047, .ref k048, .int c049])), (k040, .inl (cI, 60, .inl c040)), (k041, .inl (cI, 60, .inl c041)), (k042, .inl (cI, 60, .inl c042)), (k043, .inl (cI, 60, .inl c043)), (k044, .inl (cI, 60, .inl c044)), (k045, .inl (cI, 60, .inl c045)), (k046, .inl (cI, 40, .inl c046)), (k047, .inl (cI, 40, .inl c047)), (k048, .inl (cI, 40, .inl c048)), (k, .inr (10, [.ref k0, .ref k1, .ref k2, .ref k3, .ref k4, .ref k5, .ref k6, .ref k7, .ref k8, .ref k9, .ref ka, .ref kb, .int cc])), (kb, .inl (cI, 6, .inl scb_64))] := hD
        have hr_62 := w_63
        obtain rfl : r_62 = (-1000001) := hr_62.trans (by decide +kernel)
        exact hRet (scb_64, c049, c040, c041, c042, c043, c044, c045, c046, c047, c048) [11, 0, 12, 1, 2, 3, 4, 5, 6, 7, 8, 9, 10] ⟨(by (try dsimp only); unfold workR; (repeat (first | rw [if_pos (by omega)] | rw [if_neg (by omega)]))), (WR.gt pre0 (by (try dsimp only); unfold workS; (repeat (first | rw [if_pos (by omega)] | rw [if_neg (by omega)]))))⟩ hP hD (by decide +kernel) rfl hS rfl dX10_work_33

set_option maxHeartbeats 4000000 in
set_option maxRecDepth 100000 in
theorem c_X10_asD (l : Launch) (D : va_G) (cI : ClassId) (aK aV : Nat → Nat) (k k0 k1 k2 k3 k4 k5 k6 k7 k8 k9 ka kb k00 k01 k02 k03 k04 k05 k040 k041 k042 k043 k044 k045 k046 k047 k048 : Nat) (sz : Nat) (cc : Int32) (c06 : Int32) (c07 : Int32) (c08 : Int32) (cb : Nat → Int32) (c049 : Int32) (c040 : Nat → Int32) (c042 : Nat → Int32) (c00 : Nat → Int32) (c01 : Nat → Int32) (c02 : Nat → Int32) (c03 : Nat → Int32) (c041 : Nat → Int32) (c043 : Nat → Int32) (c044 : Nat → Int32) (c045 : Nat → Int32) (c046 : Nat → Int32) (c047 : Nat → Int32) (c048 : Nat → Int32) (c050 : Nat → Int32) (c051 : Int32) (gx : Nat → Int32) (a0 : Int32) (a1 : Int32) (pre0 : WR c00 c01 c02 c03 c040 c041 c042 c043 c044 c045 c046 c047 c048 c049 c050 c051 c06 c07 c08 gx) (pre1 : SB gx) : Met l yX10_as (gW yX10_as cX10_as 3 (some .int)) ({ frames := 2, cells := 0, slots := 0, locals := 43 } : Room) (kPreX D cI aK aV [.ref k, .int a0, .int a1] [(k, .inr (10, [.ref k0, .ref k1, .ref k2, .ref k3, .ref k4, .ref k5, .ref k6, .ref k7, .ref k8, .ref k9, .ref ka, .ref kb, .int cc])), (k0, .inr (9, [.ref k00, .ref k01, .ref k02, .ref k03, .ref k04, .ref k05, .int c06, .int c07, .int c08])), (kb, .inl (cI, 6, .inl cb)), (k04, .inr (8, [.ref k040, .ref k041, .ref k042, .ref k043, .ref k044, .ref k045, .ref k046, .ref k047, .ref k048, .int c049])), (k040, .inl (cI, 60, .inl c040)), (k042, .inl (cI, 60, .inl c042))] sz) (va_Qi (fun (r : Int32) (u : (Nat → Int32)) => r = asR gx a0 a1) (fun u t => kWd D cI (va_A [(k, .inr (10, [.ref k0, .ref k1, .ref k2, .ref k3, .ref k4, .ref k5, .ref k6, .ref k7, .ref k8, .ref k9, .ref ka, .ref kb, .int cc])), (k0, .inr (9, [.ref k00, .ref k01, .ref k02, .ref k03, .ref k04, .ref k05, .int c06, .int c07, .int c08])), (kb, .inl (cI, 6, .inl cb)), (k04, .inr (8, [.ref k040, .ref k041, .ref k042, .ref k043, .ref k044, .ref k045, .ref k046, .ref k047, .ref k048, .int c049])), (k040, .inl (cI, 60, .inl c040)), (k042, .inl (cI, 60, .inl c042))] sz) [(k, .inr (10, [.ref k0, .ref k1, .ref k2, .ref k3, .ref k4, .ref k5, .ref k6, .ref k7, .ref k8, .ref k9, .ref ka, .ref kb, .int cc])), (k0, .inr (9, [.ref k00, .ref k01, .ref k02, .ref k03, .ref k04, .ref k05, .int c06, .int c07, .int c08])), (kb, .inl (cI, 6, .inl u)), (k04, .inr (8, [.ref k040, .ref k041, .ref k042, .ref k043, .ref k044, .ref k045, .ref k046, .ref k047, .ref k048, .int c049])), (k040, .inl (cI, 60, .inl c040)), (k042, .inl (cI, 60, .inl c042))] t) (va_A [(k, .inr (10, [.ref k0, .ref k1, .ref k2, .ref k3, .ref k4, .ref k5, .ref k6, .ref k7, .ref k8, .ref k9, .ref ka, .ref kb, .int cc])), (k0, .inr (9, [.ref k00, .ref k01, .ref k02, .ref k03, .ref k04, .ref k05, .int c06, .int c07, .int c08])), (kb, .inl (cI, 6, .inl cb)), (k04, .inr (8, [.ref k040, .ref k041, .ref k042, .ref k043, .ref k044, .ref k045, .ref k046, .ref k047, .ref k048, .int c049])), (k040, .inl (cI, 60, .inl c040)), (k042, .inl (cI, 60, .inl c042))] sz)) 0 0 (va_A [(k, .inr (10, [.ref k0, .ref k1, .ref k2, .ref k3, .ref k4, .ref k5, .ref k6, .ref k7, .ref k8, .ref k9, .ref ka, .ref kb, .int cc])), (k0, .inr (9, [.ref k00, .ref k01, .ref k02, .ref k03, .ref k04, .ref k05, .int c06, .int c07, .int c08])), (kb, .inl (cI, 6, .inl cb)), (k04, .inr (8, [.ref k040, .ref k041, .ref k042, .ref k043, .ref k044, .ref k045, .ref k046, .ref k047, .ref k048, .int c049])), (k040, .inl (cI, 60, .inl c040)), (k042, .inl (cI, 60, .inl c042))] sz) := by
  refine kMetIX (own := RX10) (by decide +kernel) rfl (Nat.le_of_ble_eq_true rfl) ?_
  intro p e s m args below meth c hx hb hT hown hname hml A Q hK hP hD hS hA hN hXS hRet ls hl
  have hl : lv_has ls 3 [(0, .ref k), (1, .int a0), (2, .int a1)] := hl
  have lo_a0 := k_lo a0
  have hi_a0 := k_hi a0
  have lo_a1 := k_lo a1
  have hi_a1 := k_hi a1
  have lo_c06 := k_lo c06
  have hi_c06 := k_hi c06
  have lo_c07 := k_lo c07
  have hi_c07 := k_hi c07
  have lo_c08 := k_lo c08
  have hi_c08 := k_hi c08
  have lo_c049 := k_lo c049
  have hi_c049 := k_hi c049
  have lo_c051 := k_lo c051
  have hi_c051 := k_hi c051
  have pre0 : WR c00 c01 c02 c03 c040 c041 c042 c043 c044 c045 c046 c047 c048 c049 c050 c051 c06 c07 c08 gx := pre0
  have b_1 : 0 ≤ c049.toInt ∧ c049.toInt ≤ 60 := WKR.n0 (WR.kw pre0)
  have t_2 : c049.toInt = (gx 1).toInt := WKR.nt (WR.kw pre0)
  have b_3 : 0 ≤ c051.toInt ∧ c051.toInt ≤ 4 := ((WR.kp pre0)).2.1
  have t_4 : c051.toInt = (gx 2).toInt := PTR.nt (WR.kp pre0)
  have t_5 : c08.toInt = (gx 0).toInt := by rw [WR.dd pre0]
  have pre1 : SB gx := pre1
  refine lv_aload_n hx hb dX10_as_0 rfl (lv_at hl 0 rfl) ?_
  refine va_get (D := D) (ci := 10) (v := .ref k0) (C := RX10) (T := TX10) (N := 13) hx hb hT giX10 hown hK hP 0 rfl rfl 0 (by decide +kernel) (hT (Cond.fieldLink RX10 12 "DesertWire" "now" "LDesertWire$World;") mw_291) (fun _ h9 => h9) rfl dX10_as_1 ?_
  refine va_get (D := D) (ci := 9) (v := .ref k04) (C := RX9) (T := TX9) (N := 9) hx hb hT giX9 hown hK hP 1 rfl rfl 4 (by decide +kernel) (hT (Cond.fieldLink RX10 99 "DesertWire$World" "works" "LDesertWire$Works;") mw_99) (fun _ h9 => h9) rfl dX10_as_4 ?_
  refine lv_iload_n hx hb dX10_as_7 rfl (lv_at hl 1 rfl) ?_
  refine kJi (wr := [(k, .inr (10, [.ref k0, .ref k1, .ref k2, .ref k3, .ref k4, .ref k5, .ref k6, .ref k7, .ref k8, .ref k9, .ref ka, .ref kb, .int cc])), (k0, .inr (9, [.ref k00, .ref k01, .ref k02, .ref k03, .ref k04, .ref k05, .int c06, .int c07, .int c08])), (kb, .inl (cI, 6, .inl cb)), (k040, .inl (cI, 60, .inl c040)), (k042, .inl (cI, 60, .inl c042))]) (va_runV (As := [.int a0]) (rest := []) ⟨hx, hb, hml, hown, hT⟩ (c_X8_hasG l D cI aK aV k04 k040 k041 k042 k043 k044 k045 k046 k047 k048 s.heap.size c049 a0) (cwV 1 hT (gV_in mw_371 mw_380 mw_369 mw_370 mw_3) rfl rfl rfl (by decide +kernel) ⟨Nat.le_of_ble_eq_true rfl, Nat.le_of_ble_eq_true rfl⟩) (kRecvX (q0 := 3) (ci := 8) hK hP hD hN hXS hS hA rfl rfl [3] rfl (by decide +kernel)) rfl rfl hl.1 rfl (lv_room (Nat.le_of_ble_eq_true rfl)) dX10_as_8 ⟨Nat.le_of_ble_eq_true rfl, Nat.le_of_ble_eq_true rfl⟩) hP hD hS hA [3] [0, 1, 2, 4, 5] rfl rfl (by decide +kernel) (by decide +kernel) ?_
  clear hP hD hS
  intro r_6 u_8 H locs w_7 hP hD hS
  replace hP : va_P D vwCl [(k, .inr (10, [.ref k0, .ref k1, .ref k2, .ref k3, .ref k4, .ref k5, .ref k6, .ref k7, .ref k8, .ref k9, .ref ka, .ref kb, .int cc])), (k0, .inr (9, [.ref k00, .ref k01, .ref k02, .ref k03, .ref k04, .ref k05, .int c06, .int c07, .int c08])), (kb, .inl (cI, 6, .inl cb)), (k040, .inl (cI, 60, .inl c040)), (k042, .inl (cI, 60, .inl c042)), (k04, .inr (8, [.ref k040, .ref k041, .ref k042, .ref k043, .ref k044, .ref k045, .ref k046, .ref k047, .ref k048, .int c049]))] H := hP
  replace hD : va_D A [(k, .inr (10, [.ref k0, .ref k1, .ref k2, .ref k3, .ref k4, .ref k5, .ref k6, .ref k7, .ref k8, .ref k9, .ref ka, .ref kb, .int cc])), (k0, .inr (9, [.ref k00, .ref k01, .ref k02, .ref k03, .ref k04, .ref k05, .int c06, .int c07, .int c08])), (kb, .inl (cI, 6, .inl cb)), (k040, .inl (cI, 60, .inl c040)), (k042, .inl (cI, 60, .inl c042)), (k04, .inr (8, [.ref k040, .ref k041, .ref k042, .ref k043, .ref k044, .ref k045, .ref k046, .ref k047, .ref k048, .int c049]))] := hD
  rcases w_7 with ⟨hr_6, h_9, h_10, h_11⟩ | ⟨hr_6, h_12⟩
  · have h_9 : 0 ≤ a0.toInt := h_9
    have h_10 : a0.toInt < c049.toInt := h_10
    have h_11 : a0.toInt < 60 := h_11
    obtain rfl : r_6 = 1 := hr_6.trans (by decide +kernel)
    refine b_if_eq hx hb zl_1 (tgt := 24) dX10_as_11 (by decide +kernel) (fun c_13 => by exfalso; omega) (fun c_13 => ?_)
    refine lv_iload_n hx hb dX10_as_14 rfl (lv_at hl 2 rfl) ?_
    refine b_if_lt hx hb rfl (tgt := 24) dX10_as_15 (by decide +kernel) (fun c_14 => ?_) (fun c_14 => ?_)
    · refine lv_aload_n hx hb dX10_as_24 rfl (lv_at hl 0 rfl) ?_
      refine lv_iconst (v := 1) hx hb dX10_as_25 (by decide +kernel) ?_
      refine kJi (wr := [(k0, .inr (9, [.ref k00, .ref k01, .ref k02, .ref k03, .ref k04, .ref k05, .int c06, .int c07, .int c08])), (k040, .inl (cI, 60, .inl c040)), (k042, .inl (cI, 60, .inl c042)), (k04, .inr (8, [.ref k040, .ref k041, .ref k042, .ref k043, .ref k044, .ref k045, .ref k046, .ref k047, .ref k048, .int c049]))]) (va_runV (As := [.int 1]) (rest := []) ⟨hx, hb, hml, hown, hT⟩ (c_X10_findingG l D cI aK aV k k0 k1 k2 k3 k4 k5 k6 k7 k8 k9 ka kb H.size cc cb 1) (cwV 1 hT (gV_in mw_338 mw_335 mw_337 mw_p1_0 mw_1) rfl rfl rfl (by decide +kernel) ⟨Nat.le_of_ble_eq_true rfl, Nat.le_of_ble_eq_true rfl⟩) (kRecvX (q0 := 0) (ci := 10) hK hP hD hN hXS hS hA rfl rfl [0, 2] rfl (by decide +kernel)) rfl rfl hl.1 rfl (lv_room (Nat.le_of_ble_eq_true rfl)) dX10_as_26 ⟨Nat.le_of_ble_eq_true rfl, Nat.le_of_ble_eq_true rfl⟩) hP hD hS hA [0, 2] [1, 3, 4, 5] rfl rfl (by decide +kernel) (by decide +kernel) ?_
      clear hP hD hS
      intro r_15 scb_17 H locs w_16 hP hD hS
      replace hP : va_P D vwCl [(k0, .inr (9, [.ref k00, .ref k01, .ref k02, .ref k03, .ref k04, .ref k05, .int c06, .int c07, .int c08])), (k040, .inl (cI, 60, .inl c040)), (k042, .inl (cI, 60, .inl c042)), (k04, .inr (8, [.ref k040, .ref k041, .ref k042, .ref k043, .ref k044, .ref k045, .ref k046, .ref k047, .ref k048, .int c049])), (k, .inr (10, [.ref k0, .ref k1, .ref k2, .ref k3, .ref k4, .ref k5, .ref k6, .ref k7, .ref k8, .ref k9, .ref ka, .ref kb, .int cc])), (kb, .inl (cI, 6, .inl scb_17))] H := hP
      replace hD : va_D A [(k0, .inr (9, [.ref k00, .ref k01, .ref k02, .ref k03, .ref k04, .ref k05, .int c06, .int c07, .int c08])), (k040, .inl (cI, 60, .inl c040)), (k042, .inl (cI, 60, .inl c042)), (k04, .inr (8, [.ref k040, .ref k041, .ref k042, .ref k043, .ref k044, .ref k045, .ref k046, .ref k047, .ref k048, .int c049])), (k, .inr (10, [.ref k0, .ref k1, .ref k2, .ref k3, .ref k4, .ref k5, .ref k6, .ref k7, .ref k8, .ref k9, .ref ka, .ref kb, .int cc])), (kb, .inl (cI, 6, .inl scb_17))] := hD
      have hr_15 := w_16
      obtain rfl : r_15 = (-1000001) := hr_15.trans (by decide +kernel)
      exact hRet scb_17 [4, 0, 5, 3, 1, 2] (by (try dsimp only); unfold asR; (repeat (first | rw [if_pos (by omega)] | rw [if_neg (by omega)]))) hP hD (by decide +kernel) rfl hS rfl dX10_as_29
    · refine lv_iload_n hx hb dX10_as_18 rfl (lv_at hl 2 rfl) ?_
      refine lv_bipush (v := 6) hx hb dX10_as_19 (by decide +kernel) ?_
      refine b_icmp_lt hx hb rfl zl_6 (tgt := 30) dX10_as_21 (by decide +kernel) (fun c_18 => ?_) (fun c_18 => ?_)
      · refine lv_aload_n hx hb dX10_as_30 rfl (lv_at hl 0 rfl) ?_
        refine va_get (D := D) (ci := 10) (v := .ref k0) (C := RX10) (T := TX10) (N := 13) hx hb hT giX10 hown hK hP 0 rfl rfl 0 (by decide +kernel) (hT (Cond.fieldLink RX10 12 "DesertWire" "now" "LDesertWire$World;") mw_291) (fun _ h9 => h9) rfl dX10_as_31 ?_
        refine va_get (D := D) (ci := 9) (v := .ref k04) (C := RX9) (T := TX9) (N := 9) hx hb hT giX9 hown hK hP 1 rfl rfl 4 (by decide +kernel) (hT (Cond.fieldLink RX10 99 "DesertWire$World" "works" "LDesertWire$Works;") mw_99) (fun _ h9 => h9) rfl dX10_as_34 ?_
        refine lv_iload_n hx hb dX10_as_37 rfl (lv_at hl 1 rfl) ?_
        refine kJi (wr := [(k, .inr (10, [.ref k0, .ref k1, .ref k2, .ref k3, .ref k4, .ref k5, .ref k6, .ref k7, .ref k8, .ref k9, .ref ka, .ref kb, .int cc])), (k0, .inr (9, [.ref k00, .ref k01, .ref k02, .ref k03, .ref k04, .ref k05, .int c06, .int c07, .int c08])), (kb, .inl (cI, 6, .inl cb)), (k042, .inl (cI, 60, .inl c042))]) (va_runV (As := [.int a0]) (rest := []) ⟨hx, hb, hml, hown, hT⟩ (c_X8_kindOfD l D cI aK aV k04 k040 k041 k042 k043 k044 k045 k046 k047 k048 H.size c049 c040 a0) (cwV 1 hT (gV_in mw_384 mw_381 mw_382 mw_383 mw_3) rfl rfl rfl (by decide +kernel) ⟨Nat.le_of_ble_eq_true rfl, Nat.le_of_ble_eq_true rfl⟩) (kRecvX (q0 := 5) (ci := 8) hK hP hD hN hXS hS hA rfl rfl [5, 3] rfl (by decide +kernel)) rfl rfl hl.1 rfl (lv_room (Nat.le_of_ble_eq_true rfl)) dX10_as_38 ⟨Nat.le_of_ble_eq_true rfl, Nat.le_of_ble_eq_true rfl⟩) hP hD hS hA [5, 3] [0, 1, 2, 4] rfl rfl (by decide +kernel) (by decide +kernel) ?_
        clear hP hD hS
        intro r_19 u_21 H locs w_20 hP hD hS
        replace hP : va_P D vwCl [(k, .inr (10, [.ref k0, .ref k1, .ref k2, .ref k3, .ref k4, .ref k5, .ref k6, .ref k7, .ref k8, .ref k9, .ref ka, .ref kb, .int cc])), (k0, .inr (9, [.ref k00, .ref k01, .ref k02, .ref k03, .ref k04, .ref k05, .int c06, .int c07, .int c08])), (kb, .inl (cI, 6, .inl cb)), (k042, .inl (cI, 60, .inl c042)), (k04, .inr (8, [.ref k040, .ref k041, .ref k042, .ref k043, .ref k044, .ref k045, .ref k046, .ref k047, .ref k048, .int c049])), (k040, .inl (cI, 60, .inl c040))] H := hP
        replace hD : va_D A [(k, .inr (10, [.ref k0, .ref k1, .ref k2, .ref k3, .ref k4, .ref k5, .ref k6, .ref k7, .ref k8, .ref k9, .ref ka, .ref kb, .int cc])), (k0, .inr (9, [.ref k00, .ref k01, .ref k02, .ref k03, .ref k04, .ref k05, .int c06, .int c07, .int c08])), (kb, .inl (cI, 6, .inl cb)), (k042, .inl (cI, 60, .inl c042)), (k04, .inr (8, [.ref k040, .ref k041, .ref k042, .ref k043, .ref k044, .ref k045, .ref k046, .ref k047, .ref k048, .int c049])), (k040, .inl (cI, 60, .inl c040))] := hD
        rcases w_20 with ⟨h_22, h_23, h_24, h_25⟩ | ⟨hr_19, h_26⟩
        · have h_22 : 0 ≤ a0.toInt := h_22
          have h_23 : a0.toInt < c049.toInt := h_23
          have h_24 : a0.toInt ≤ 59 := h_24
          have h_25 : r_19 = c040 a0.toNatClampNeg := h_25
          have h_27 : r_19 = wW gx a0 0 := Eq.trans h_25 (WKR.r0 (WR.kw pre0) (by omega) (by omega))
          have t_28 : r_19.toInt = (wW gx a0 0).toInt := by rw [h_27]
          have b_29 : 0 ≤ r_19.toInt ∧ r_19.toInt ≤ 5 := by rw [h_27]; exact SB.w0 pre1 (by omega) (by omega)
          have lo_r_19 := k_lo r_19
          have hi_r_19 := k_hi r_19
          refine lv_iload_n hx hb dX10_as_41 rfl (lv_at hl 2 rfl) ?_
          refine kJi (wr := [(k, .inr (10, [.ref k0, .ref k1, .ref k2, .ref k3, .ref k4, .ref k5, .ref k6, .ref k7, .ref k8, .ref k9, .ref ka, .ref kb, .int cc])), (k0, .inr (9, [.ref k00, .ref k01, .ref k02, .ref k03, .ref k04, .ref k05, .int c06, .int c07, .int c08])), (kb, .inl (cI, 6, .inl cb)), (k042, .inl (cI, 60, .inl c042)), (k04, .inr (8, [.ref k040, .ref k041, .ref k042, .ref k043, .ref k044, .ref k045, .ref k046, .ref k047, .ref k048, .int c049])), (k040, .inl (cI, 60, .inl c040))]) (va_runS (As := [.int r_19, .int a1]) (rest := []) ⟨hx, hb, hml, hown, hT⟩ (c_X10_isOfD l D cI aK aV H.size r_19 a1 (by first | omega | decide | assumption | rfl) (by first | omega | decide | assumption | rfl) (by first | omega | decide | assumption | rfl) (by first | omega | decide | assumption | rfl)) (cwS 2 hT (gS_in mw_387 mw_385 mw_386 mw_1) rfl rfl rfl (by decide +kernel) ⟨Nat.le_of_ble_eq_true rfl, Nat.le_of_ble_eq_true rfl⟩) (kStatX hK hP hD hN hXS hS hA [] rfl (by decide +kernel)) rfl rfl hl.1 rfl (lv_room (Nat.le_of_ble_eq_true rfl)) dX10_as_42 ⟨Nat.le_of_ble_eq_true rfl, Nat.le_of_ble_eq_true rfl⟩) hP hD hS hA [] [0, 1, 2, 3, 4, 5] rfl rfl (by decide +kernel) (by decide +kernel) ?_
          clear hP hD hS
          intro r_30 u_32 H locs w_31 hP hD hS
          replace hP : va_P D vwCl [(k, .inr (10, [.ref k0, .ref k1, .ref k2, .ref k3, .ref k4, .ref k5, .ref k6, .ref k7, .ref k8, .ref k9, .ref ka, .ref kb, .int cc])), (k0, .inr (9, [.ref k00, .ref k01, .ref k02, .ref k03, .ref k04, .ref k05, .int c06, .int c07, .int c08])), (kb, .inl (cI, 6, .inl cb)), (k042, .inl (cI, 60, .inl c042)), (k04, .inr (8, [.ref k040, .ref k041, .ref k042, .ref k043, .ref k044, .ref k045, .ref k046, .ref k047, .ref k048, .int c049])), (k040, .inl (cI, 60, .inl c040))] H := hP
          replace hD : va_D A [(k, .inr (10, [.ref k0, .ref k1, .ref k2, .ref k3, .ref k4, .ref k5, .ref k6, .ref k7, .ref k8, .ref k9, .ref ka, .ref kb, .int cc])), (k0, .inr (9, [.ref k00, .ref k01, .ref k02, .ref k03, .ref k04, .ref k05, .int c06, .int c07, .int c08])), (kb, .inl (cI, 6, .inl cb)), (k042, .inl (cI, 60, .inl c042)), (k04, .inr (8, [.ref k040, .ref k041, .ref k042, .ref k043, .ref k044, .ref k045, .ref k046, .ref k047, .ref k048, .int c049])), (k040, .inl (cI, 60, .inl c040))] := hD
          rcases w_31 with ⟨hr_30, h_33⟩ | ⟨hr_30, h_34⟩
          · have h_33 : mU r_19.toInt a1.toInt = 1 := h_33
            have h_33 : mU r_19.toInt a1.toInt = 1 := h_33
            obtain rfl : r_30 = 1 := hr_30.trans (by decide +kernel)
            refine b_if_ne hx hb zl_1 (tgt := 54) dX10_as_45 (by decide +kernel) (fun c_35 => ?_) (fun c_35 => by exfalso; omega)
            refine lv_aload_n hx hb dX10_as_54 rfl (lv_at hl 0 rfl) ?_
            refine va_get (D := D) (ci := 10) (v := .ref k0) (C := RX10) (T := TX10) (N := 13) hx hb hT giX10 hown hK hP 0 rfl rfl 0 (by decide +kernel) (hT (Cond.fieldLink RX10 12 "DesertWire" "now" "LDesertWire$World;") mw_291) (fun _ h9 => h9) rfl dX10_as_55 ?_
            refine va_get (D := D) (ci := 9) (v := .ref k04) (C := RX9) (T := TX9) (N := 9) hx hb hT giX9 hown hK hP 1 rfl rfl 4 (by decide +kernel) (hT (Cond.fieldLink RX10 99 "DesertWire$World" "works" "LDesertWire$Works;") mw_99) (fun _ h9 => h9) rfl dX10_as_58 ?_
            refine lv_iload_n hx hb dX10_as_61 rfl (lv_at hl 1 rfl) ?_
            refine kJi (wr := [(k, .inr (10, [.ref k0, .ref k1, .ref k2, .ref k3, .ref k4, .ref k5, .ref k6, .ref k7, .ref k8, .ref k9, .ref ka, .ref kb, .int cc])), (k0, .inr (9, [.ref k00, .ref k01, .ref k02, .ref k03, .ref k04, .ref k05, .int c06, .int c07, .int c08])), (kb, .inl (cI, 6, .inl cb)), (k040, .inl (cI, 60, .inl c040))]) (va_runV (As := [.int a0]) (rest := []) ⟨hx, hb, hml, hown, hT⟩ (c_X8_sizeOfD l D cI aK aV k04 k040 k041 k042 k043 k044 k045 k046 k047 k048 H.size c049 c042 a0) (cwV 1 hT (gV_in mw_394 mw_391 mw_392 mw_393 mw_3) rfl rfl rfl (by decide +kernel) ⟨Nat.le_of_ble_eq_true rfl, Nat.le_of_ble_eq_true rfl⟩) (kRecvX (q0 := 4) (ci := 8) hK hP hD hN hXS hS hA rfl rfl [4, 3] rfl (by decide +kernel)) rfl rfl hl.1 rfl (lv_room (Nat.le_of_ble_eq_true rfl)) dX10_as_62 ⟨Nat.le_of_ble_eq_true rfl, Nat.le_of_ble_eq_true rfl⟩) hP hD hS hA [4, 3] [0, 1, 2, 5] rfl rfl (by decide +kernel) (by decide +kernel) ?_
            clear hP hD hS
            intro r_36 u_38 H locs w_37 hP hD hS
            replace hP : va_P D vwCl [(k, .inr (10, [.ref k0, .ref k1, .ref k2, .ref k3, .ref k4, .ref k5, .ref k6, .ref k7, .ref k8, .ref k9, .ref ka, .ref kb, .int cc])), (k0, .inr (9, [.ref k00, .ref k01, .ref k02, .ref k03, .ref k04, .ref k05, .int c06, .int c07, .int c08])), (kb, .inl (cI, 6, .inl cb)), (k040, .inl (cI, 60, .inl c040)), (k04, .inr (8, [.ref k040, .ref k041, .ref k042, .ref k043, .ref k044, .ref k045, .ref k046, .ref k047, .ref k048, .int c049])), (k042, .inl (cI, 60, .inl c042))] H := hP
            replace hD : va_D A [(k, .inr (10, [.ref k0, .ref k1, .ref k2, .ref k3, .ref k4, .ref k5, .ref k6, .ref k7, .ref k8, .ref k9, .ref ka, .ref kb, .int cc])), (k0, .inr (9, [.ref k00, .ref k01, .ref k02, .ref k03, .ref k04, .ref k05, .int c06, .int c07, .int c08])), (kb, .inl (cI, 6, .inl cb)), (k040, .inl (cI, 60, .inl c040)), (k04, .inr (8, [.ref k040, .ref k041, .ref k042, .ref k043, .ref k044, .ref k045, .ref k046, .ref k047, .ref k048, .int c049])), (k042, .inl (cI, 60, .inl c042))] := hD
            rcases w_37 with ⟨h_39, h_40, h_41, h_42⟩ | ⟨hr_36, h_43⟩
            · have h_39 : 0 ≤ a0.toInt := h_39
              have h_40 : a0.toInt < c049.toInt := h_40
              have h_41 : a0.toInt ≤ 59 := h_41
              have h_42 : r_36 = c042 a0.toNatClampNeg := h_42
              have h_44 : r_36 = wW gx a0 2 := Eq.trans h_42 (WKR.r2 (WR.kw pre0) (by omega) (by omega))
              have t_45 : r_36.toInt = (wW gx a0 2).toInt := by rw [h_44]
              have lo_r_36 := k_lo r_36
              have hi_r_36 := k_hi r_36
              exact hRet cb [0, 1, 2, 4, 3, 5] (by unfold asR; rw [if_pos (by omega), show (wW gx a0 0) = r_19 from h_27.symm, if_pos h_33]; exact h_44) hP hD (by decide +kernel) rfl hS rfl dX10_as_65
            · exfalso; omega
          · have h_34 : mU r_19.toInt a1.toInt = 0 := h_34
            have h_34 : mU r_19.toInt a1.toInt = 0 := h_34
            obtain rfl : r_30 = 0 := hr_30.trans (by decide +kernel)
            refine b_if_ne hx hb zl_0 (tgt := 54) dX10_as_45 (by decide +kernel) (fun c_46 => by exfalso; omega) (fun c_46 => ?_)
            refine lv_aload_n hx hb dX10_as_48 rfl (lv_at hl 0 rfl) ?_
            refine lv_iconst (v := 5) hx hb dX10_as_49 (by decide +kernel) ?_
            refine kJi (wr := [(k0, .inr (9, [.ref k00, .ref k01, .ref k02, .ref k03, .ref k04, .ref k05, .int c06, .int c07, .int c08])), (k042, .inl (cI, 60, .inl c042)), (k04, .inr (8, [.ref k040, .ref k041, .ref k042, .ref k043, .ref k044, .ref k045, .ref k046, .ref k047, .ref k048, .int c049])), (k040, .inl (cI, 60, .inl c040))]) (va_runV (As := [.int 5]) (rest := []) ⟨hx, hb, hml, hown, hT⟩ (c_X10_findingG l D cI aK aV k k0 k1 k2 k3 k4 k5 k6 k7 k8 k9 ka kb H.size cc cb 5) (cwV 1 hT (gV_in mw_338 mw_335 mw_337 mw_p1_0 mw_1) rfl rfl rfl (by decide +kernel) ⟨Nat.le_of_ble_eq_true rfl, Nat.le_of_ble_eq_true rfl⟩) (kRecvX (q0 := 0) (ci := 10) hK hP hD hN hXS hS hA rfl rfl [0, 2] rfl (by decide +kernel)) rfl rfl hl.1 rfl (lv_room (Nat.le_of_ble_eq_true rfl)) dX10_as_50 ⟨Nat.le_of_ble_eq_true rfl, Nat.le_of_ble_eq_true rfl⟩) hP hD hS hA [0, 2] [1, 3, 4, 5] rfl rfl (by decide +kernel) (by decide +kernel) ?_
            clear hP hD hS
            intro r_47 scb_49 H locs w_48 hP hD hS
            replace hP : va_P D vwCl [(k0, .inr (9, [.ref k00, .ref k01, .ref k02, .ref k03, .ref k04, .ref k05, .int c06, .int c07, .int c08])), (k042, .inl (cI, 60, .inl c042)), (k04, .inr (8, [.ref k040, .ref k041, .ref k042, .ref k043, .ref k044, .ref k045, .ref k046, .ref k047, .ref k048, .int c049])), (k040, .inl (cI, 60, .inl c040)), (k, .inr (10, [.ref k0, .ref k1, .ref k2, .ref k3, .ref k4, .ref k5, .ref k6, .ref k7, .ref k8, .ref k9, .ref ka, .ref kb, .int cc])), (kb, .inl (cI, 6, .inl scb_49))] H := hP
            replace hD : va_D A [(k0, .inr (9, [.ref k00, .ref k01, .ref k02, .ref k03, .ref k04, .ref k05, .int c06, .int c07, .int c08])), (k042, .inl (cI, 60, .inl c042)), (k04, .inr (8, [.ref k040, .ref k041, .ref k042, .ref k043, .ref k044, .ref k045, .ref k046, .ref k047, .ref k048, .int c049])), (k040, .inl (cI, 60, .inl c040)), (k, .inr (10, [.ref k0, .ref k1, .ref k2, .ref k3, .ref k4, .ref k5, .ref k6, .ref k7, .ref k8, .ref k9, .ref ka, .ref kb, .int cc])), (kb, .inl (cI, 6, .inl scb_49))] := hD
            have hr_47 := w_48
            obtain rfl : r_47 = (-1000005) := hr_47.trans (by decide +kernel)
            exact hRet scb_49 [4, 0, 5, 2, 3, 1] (by unfold asR; rw [if_pos (by omega), show (wW gx a0 0) = r_19 from h_27.symm, if_neg (by rw [h_34]; decide)]) hP hD (by decide +kernel) rfl hS rfl dX10_as_53
        · exfalso; omega
      · refine lv_aload_n hx hb dX10_as_24 rfl (lv_at hl 0 rfl) ?_
        refine lv_iconst (v := 1) hx hb dX10_as_25 (by decide +kernel) ?_
        refine kJi (wr := [(k0, .inr (9, [.ref k00, .ref k01, .ref k02, .ref k03, .ref k04, .ref k05, .int c06, .int c07, .int c08])), (k040, .inl (cI, 60, .inl c040)), (k042, .inl (cI, 60, .inl c042)), (k04, .inr (8, [.ref k040, .ref k041, .ref k042, .ref k043, .ref k044, .ref k045, .ref k046, .ref k047, .ref k048, .int c049]))]) (va_runV (As := [.int 1]) (rest := []) ⟨hx, hb, hml, hown, hT⟩ (c_X10_findingG l D cI aK aV k k0 k1 k2 k3 k4 k5 k6 k7 k8 k9 ka kb H.size cc cb 1) (cwV 1 hT (gV_in mw_338 mw_335 mw_337 mw_p1_0 mw_1) rfl rfl rfl (by decide +kernel) ⟨Nat.le_of_ble_eq_true rfl, Nat.le_of_ble_eq_true rfl⟩) (kRecvX (q0 := 0) (ci := 10) hK hP hD hN hXS hS hA rfl rfl [0, 2] rfl (by decide +kernel)) rfl rfl hl.1 rfl (lv_room (Nat.le_of_ble_eq_true rfl)) dX10_as_26 ⟨Nat.le_of_ble_eq_true rfl, Nat.le_of_ble_eq_true rfl⟩) hP hD hS hA [0, 2] [1, 3, 4, 5] rfl rfl (by decide +kernel) (by decide +kernel) ?_
        clear hP hD hS
        intro r_50 scb_52 H locs w_51 hP hD hS
        replace hP : va_P D vwCl [(k0, .inr (9, [.ref k00, .ref k01, .ref k02, .ref k03, .ref k04, .ref k05, .int c06, .int c07, .int c08])), (k040, .inl (cI, 60, .inl c040)), (k042, .inl (cI, 60, .inl c042)), (k04, .inr (8, [.ref k040, .ref k041, .ref k042, .ref k043, .ref k044, .ref k045, .ref k046, .ref k047, .ref k048, .int c049])), (k, .inr (10, [.ref k0, .ref k1, .ref k2, .ref k3, .ref k4, .ref k5, .ref k6, .ref k7, .ref k8, .ref k9, .ref ka, .ref kb, .int cc])), (kb, .inl (cI, 6, .inl scb_52))] H := hP
        replace hD : va_D A [(k0, .inr (9, [.ref k00, .ref k01, .ref k02, .ref k03, .ref k04, .ref k05, .int c06, .int c07, .int c08])), (k040, .inl (cI, 60, .inl c040)), (k042, .inl (cI, 60, .inl c042)), (k04, .inr (8, [.ref k040, .ref k041, .ref k042, .ref k043, .ref k044, .ref k045, .ref k046, .ref k047, .ref k048, .int c049])), (k, .inr (10, [.ref k0, .ref k1, .ref k2, .ref k3, .ref k4, .ref k5, .ref k6, .ref k7, .ref k8, .ref k9, .ref ka, .ref kb, .int cc])), (kb, .inl (cI, 6, .inl scb_52))] := hD
        have hr_50 := w_51
        obtain rfl : r_50 = (-1000001) := hr_50.trans (by decide +kernel)
        exact hRet scb_52 [4, 0, 5, 3, 1, 2] (by (try dsimp only); unfold asR; (repeat (first | rw [if_pos (by omega)] | rw [if_neg (by omega)]))) hP hD (by decide +kernel) rfl hS rfl dX10_as_29
  · have h_12 : a0.toInt < 0 ∨ c049.toInt ≤ a0.toInt ∨ 60 ≤ a0.toInt := h_12
    obtain rfl : r_6 = 0 := hr_6.trans (by decide +kernel)
    refine b_if_eq hx hb zl_0 (tgt := 24) dX10_as_11 (by decide +kernel) (fun c_53 => ?_) (fun c_53 => by exfalso; omega)
    refine lv_aload_n hx hb dX10_as_24 rfl (lv_at hl 0 rfl) ?_
    refine lv_iconst (v := 1) hx hb dX10_as_25 (by decide +kernel) ?_
    refine kJi (wr := [(k0, .inr (9, [.ref k00, .ref k01, .ref k02, .ref k03, .ref k04, .ref k05, .int c06, .int c07, .int c08])), (k040, .inl (cI, 60, .inl c040)), (k042, .inl (cI, 60, .inl c042)), (k04, .inr (8, [.ref k040, .ref k041, .ref k042, .ref k043, .ref k044, .ref k045, .ref k046, .ref k047, .ref k048, .int c049]))]) (va_runV (As := [.int 1]) (rest := []) ⟨hx, hb, hml, hown, hT⟩ (c_X10_findingG l D cI aK aV k k0 k1 k2 k3 k4 k5 k6 k7 k8 k9 ka kb H.size cc cb 1) (cwV 1 hT (gV_in mw_338 mw_335 mw_337 mw_p1_0 mw_1) rfl rfl rfl (by decide +kernel) ⟨Nat.le_of_ble_eq_true rfl, Nat.le_of_ble_eq_true rfl⟩) (kRecvX (q0 := 0) (ci := 10) hK hP hD hN hXS hS hA rfl rfl [0, 2] rfl (by decide +kernel)) rfl rfl hl.1 rfl (lv_room (Nat.le_of_ble_eq_true rfl)) dX10_as_26 ⟨Nat.le_of_ble_eq_true rfl, Nat.le_of_ble_eq_true rfl⟩) hP hD hS hA [0, 2] [1, 3, 4, 5] rfl rfl (by decide +kernel) (by decide +kernel) ?_
    clear hP hD hS
    intro r_54 scb_56 H locs w_55 hP hD hS
    replace hP : va_P D vwCl [(k0, .inr (9, [.ref k00, .ref k01, .ref k02, .ref k03, .ref k04, .ref k05, .int c06, .int c07, .int c08])), (k040, .inl (cI, 60, .inl c040)), (k042, .inl (cI, 60, .inl c042)), (k04, .inr (8, [.ref k040, .ref k041, .ref k042, .ref k043, .ref k044, .ref k045, .ref k046, .ref k047, .ref k048, .int c049])), (k, .inr (10, [.ref k0, .ref k1, .ref k2, .ref k3, .ref k4, .ref k5, .ref k6, .ref k7, .ref k8, .ref k9, .ref ka, .ref kb, .int cc])), (kb, .inl (cI, 6, .inl scb_56))] H := hP
    replace hD : va_D A [(k0, .inr (9, [.ref k00, .ref k01, .ref k02, .ref k03, .ref k04, .ref k05, .int c06, .int c07, .int c08])), (k040, .inl (cI, 60, .inl c040)), (k042, .inl (cI, 60, .inl c042)), (k04, .inr (8, [.ref k040, .ref k041, .ref k042, .ref k043, .ref k044, .ref k045, .ref k046, .ref k047, .ref k048, .int c049])), (k, .inr (10, [.ref k0, .ref k1, .ref k2, .ref k3, .ref k4, .ref k5, .ref k6, .ref k7, .ref k8, .ref k9, .ref ka, .ref kb, .int cc])), (kb, .inl (cI, 6, .inl scb_56))] := hD
    have hr_54 := w_55
    obtain rfl : r_54 = (-1000001) := hr_54.trans (by decide +kernel)
    exact hRet scb_56 [4, 0, 5, 3, 1, 2] (by (try dsimp only); unfold asR; (repeat (first | rw [if_pos (by omega)] | rw [if_neg (by omega)]))) hP hD (by decide +kernel) rfl hS rfl dX10_as_29

set_option maxHeartbeats 4000000 in
set_option maxRecDepth 100000 in
theorem c_X10_fellD (l : Launch) (D : va_G) (cI : ClassId) (aK aV : Nat → Nat) (k k0 k1 k2 k3 k4 k5 k6 k7 k8 k9 ka kb k00 k01 k02 k03 k04 k05 k040 k041 k042 k043 k044 k045 k046 k047 k048 : Nat) (sz : Nat) (cc : Int32) (c06 : Int32) (c07 : Int32) (c08 : Int32) (cb : Nat → Int32) (c049 : Int32) (c040 : Nat → Int32) (c041 : Nat → Int32) (c042 : Nat → Int32) (c045 : Nat → Int32) (c046 : Nat → Int32) (c047 : Nat → Int32) (c048 : Nat → Int32) (c00 : Nat → Int32) (c01 : Nat → Int32) (c02 : Nat → Int32) (c03 : Nat → Int32) (c043 : Nat → Int32) (c044 : Nat → Int32) (c050 : Nat → Int32) (c051 : Int32) (gx : Nat → Int32) (a0 : Int32) (pre0 : WR c00 c01 c02 c03 c040 c041 c042 c043 c044 c045 c046 c047 c048 c049 c050 c051 c06 c07 c08 gx) (pre1 : SB gx) : Met l yX10_fell (gW yX10_fell cX10_fell 2 (some .int)) ({ frames := 4, cells := 0, slots := 0, locals := 87 } : Room) (kPreX D cI aK aV [.ref k, .int a0] [(k, .inr (10, [.ref k0, .ref k1, .ref k2, .ref k3, .ref k4, .ref k5, .ref k6, .ref k7, .ref k8, .ref k9, .ref ka, .ref kb, .int cc])), (k0, .inr (9, [.ref k00, .ref k01, .ref k02, .ref k03, .ref k04, .ref k05, .int c06, .int c07, .int c08])), (kb, .inl (cI, 6, .inl cb)), (k04, .inr (8, [.ref k040, .ref k041, .ref k042, .ref k043, .ref k044, .ref k045, .ref k046, .ref k047, .ref k048, .int c049])), (k040, .inl (cI, 60, .inl c040)), (k041, .inl (cI, 60, .inl c041)), (k042, .inl (cI, 60, .inl c042)), (k045, .inl (cI, 60, .inl c045)), (k046, .inl (cI, 40, .inl c046)), (k047, .inl (cI, 40, .inl c047)), (k048, .inl (cI, 40, .inl c048))] sz) (va_Qi (fun (r : Int32) (u : (Nat → Int32) × (Nat → Int32) × (Nat → Int32) × (Nat → Int32) × (Nat → Int32)) => r = fellR gx a0 ∧ WR c00 c01 c02 c03 c040 c041 c042 c043 c044 u.2.1 u.2.2.1 u.2.2.2.1 u.2.2.2.2 c049 c050 c051 c06 c07 c08 (fellS gx a0)) (fun u t => kWd D cI (va_A [(k, .inr (10, [.ref k0, .ref k1, .ref k2, .ref k3, .ref k4, .ref k5, .ref k6, .ref k7, .ref k8, .ref k9, .ref ka, .ref kb, .int cc])), (k0, .inr (9, [.ref k00, .ref k01, .ref k02, .ref k03, .ref k04, .ref k05, .int c06, .int c07, .int c08])), (kb, .inl (cI, 6, .inl cb)), (k04, .inr (8, [.ref k040, .ref k041, .ref k042, .ref k043, .ref k044, .ref k045, .ref k046, .ref k047, .ref k048, .int c049])), (k040, .inl (cI, 60, .inl c040)), (k041, .inl (cI, 60, .inl c041)), (k042, .inl (cI, 60, .inl c042)), (k045, .inl (cI, 60, .inl c045)), (k046, .inl (cI, 40, .inl c046)), (k047, .inl (cI, 40, .inl c047)), (k048, .inl (cI, 40, .inl c048))] sz) [(k, .inr (10, [.ref k0, .ref k1, .ref k2, .ref k3, .ref k4, .ref k5, .ref k6, .ref k7, .ref k8, .ref k9, .ref ka, .ref kb, .int cc])), (k0, .inr (9, [.ref k00, .ref k01, .ref k02, .ref k03, .ref k04, .ref k05, .int c06, .int c07, .int c08])), (kb, .inl (cI, 6, .inl u.1)), (k04, .inr (8, [.ref k040, .ref k041, .ref k042, .ref k043, .ref k044, .ref k045, .ref k046, .ref k047, .ref k048, .int c049])), (k040, .inl (cI, 60, .inl c040)), (k041, .inl (cI, 60, .inl c041)), (k042, .inl (cI, 60, .inl c042)), (k045, .inl (cI, 60, .inl u.2.1)), (k046, .inl (cI, 40, .inl u.2.2.1)), (k047, .inl (cI, 40, .inl u.2.2.2.1)), (k048, .inl (cI, 40, .inl u.2.2.2.2))] t) (va_A [(k, .inr (10, [.ref k0, .ref k1, .ref k2, .ref k3, .ref k4, .ref k5, .ref k6, .ref k7, .ref k8, .ref k9, .ref ka, .ref kb, .int cc])), (k0, .inr (9, [.ref k00, .ref k01, .ref k02, .ref k03, .ref k04, .ref k05, .int c06, .int c07, .int c08])), (kb, .inl (cI, 6, .inl cb)), (k04, .inr (8, [.ref k040, .ref k041, .ref k042, .ref k043, .ref k044, .ref k045, .ref k046, .ref k047, .ref k048, .int c049])), (k040, .inl (cI, 60, .inl c040)), (k041, .inl (cI, 60, .inl c041)), (k042, .inl (cI, 60, .inl c042)), (k045, .inl (cI, 60, .inl c045)), (k046, .inl (cI, 40, .inl c046)), (k047, .inl (cI, 40, .inl c047)), (k048, .inl (cI, 40, .inl c048))] sz)) 0 0 (va_A [(k, .inr (10, [.ref k0, .ref k1, .ref k2, .ref k3, .ref k4, .ref k5, .ref k6, .ref k7, .ref k8, .ref k9, .ref ka, .ref kb, .int cc])), (k0, .inr (9, [.ref k00, .ref k01, .ref k02, .ref k03, .ref k04, .ref k05, .int c06, .int c07, .int c08])), (kb, .inl (cI, 6, .inl cb)), (k04, .inr (8, [.ref k040, .ref k041, .ref k042, .ref k043, .ref k044, .ref k045, .ref k046, .ref k047, .ref k048, .int c049])), (k040, .inl (cI, 60, .inl c040)), (k041, .inl (cI, 60, .inl c041)), (k042, .inl (cI, 60, .inl c042)), (k045, .inl (cI, 60, .inl c045)), (k046, .inl (cI, 40, .inl c046)), (k047, .inl (cI, 40, .inl c047)), (k048, .inl (cI, 40, .inl c048))] sz) := by
  refine kMetIX (own := RX10) (by decide +kernel) rfl (Nat.le_of_ble_eq_true rfl) ?_
  intro p e s m args below meth c hx hb hT hown hname hml A Q hK hP hD hS hA hN hXS hRet ls hl
  have hl : lv_has ls 2 [(0, .ref k), (1, .int a0)] := hl
  have lo_a0 := k_lo a0
  have hi_a0 := k_hi a0
  have lo_c06 := k_lo c06
  have hi_c06 := k_hi c06
  have lo_c07 := k_lo c07
  have hi_c07 := k_hi c07
  have lo_c08 := k_lo c08
  have hi_c08 := k_hi c08
  have lo_c049 := k_lo c049
  have hi_c049 := k_hi c049
  have lo_c051 := k_lo c051
  have hi_c051 := k_hi c051
  have pre0 : WR c00 c01 c02 c03 c040 c041 c042 c043 c044 c045 c046 c047 c048 c049 c050 c051 c06 c07 c08 gx := pre0
  have b_1 : 0 ≤ c049.toInt ∧ c049.toInt ≤ 60 := WKR.n0 (WR.kw pre0)
  have t_2 : c049.toInt = (gx 1).toInt := WKR.nt (WR.kw pre0)
  have b_3 : 0 ≤ c051.toInt ∧ c051.toInt ≤ 4 := ((WR.kp pre0)).2.1
  have t_4 : c051.toInt = (gx 2).toInt := PTR.nt (WR.kp pre0)
  have t_5 : c08.toInt = (gx 0).toInt := by rw [WR.dd pre0]
  have pre1 : SB gx := pre1
  refine lv_aload_n hx hb dX10_fell_0 rfl (lv_at hl 0 rfl) ?_
  refine va_get (D := D) (ci := 10) (v := .ref k0) (C := RX10) (T := TX10) (N := 13) hx hb hT giX10 hown hK hP 0 rfl rfl 0 (by decide +kernel) (hT (Cond.fieldLink RX10 12 "DesertWire" "now" "LDesertWire$World;") mw_291) (fun _ h9 => h9) rfl dX10_fell_1 ?_
  refine va_get (D := D) (ci := 9) (v := .ref k04) (C := RX9) (T := TX9) (N := 9) hx hb hT giX9 hown hK hP 1 rfl rfl 4 (by decide +kernel) (hT (Cond.fieldLink RX10 99 "DesertWire$World" "works" "LDesertWire$Works;") mw_99) (fun _ h9 => h9) rfl dX10_fell_4 ?_
  refine lv_iload_n hx hb dX10_fell_7 rfl (lv_at hl 1 rfl) ?_
  refine kJi (wr := [(k, .inr (10, [.ref k0, .ref k1, .ref k2, .ref k3, .ref k4, .ref k5, .ref k6, .ref k7, .ref k8, .ref k9, .ref ka, .ref kb, .int cc])), (k0, .inr (9, [.ref k00, .ref k01, .ref k02, .ref k03, .ref k04, .ref k05, .int c06, .int c07, .int c08])), (kb, .inl (cI, 6, .inl cb)), (k040, .inl (cI, 60, .inl c040)), (k041, .inl (cI, 60, .inl c041)), (k042, .inl (cI, 60, .inl c042)), (k045, .inl (cI, 60, .inl c045)), (k046, .inl (cI, 40, .inl c046)), (k047, .inl (cI, 40, .inl c047)), (k048, .inl (cI, 40, .inl c048))]) (va_runV (As := [.int a0]) (rest := []) ⟨hx, hb, hml, hown, hT⟩ (c_X8_hasG l D cI aK aV k04 k040 k041 k042 k043 k044 k045 k046 k047 k048 s.heap.size c049 a0) (cwV 1 hT (gV_in mw_371 mw_380 mw_369 mw_370 mw_3) rfl rfl rfl (by decide +kernel) ⟨Nat.le_of_ble_eq_true rfl, Nat.le_of_ble_eq_true rfl⟩) (kRecvX (q0 := 3) (ci := 8) hK hP hD hN hXS hS hA rfl rfl [3] rfl (by decide +kernel)) rfl rfl hl.1 rfl (lv_room (Nat.le_of_ble_eq_true rfl)) dX10_fell_8 ⟨Nat.le_of_ble_eq_true rfl, Nat.le_of_ble_eq_true rfl⟩) hP hD hS hA [3] [0, 1, 2, 4, 5, 6, 7, 8, 9, 10] rfl rfl (by decide +kernel) (by decide +kernel) ?_
  clear hP hD hS
  intro r_6 u_8 H locs w_7 hP hD hS
  replace hP : va_P D vwCl [(k, .inr (10, [.ref k0, .ref k1, .ref k2, .ref k3, .ref k4, .ref k5, .ref k6, .ref k7, .ref k8, .ref k9, .ref ka, .ref kb, .int cc])), (k0, .inr (9, [.ref k00, .ref k01, .ref k02, .ref k03, .ref k04, .ref k05, .int c06, .int c07, .int c08])), (kb, .inl (cI, 6, .inl cb)), (k040, .inl (cI, 60, .inl c040)), (k041, .inl (cI, 60, .inl c041)), (k042, .inl (cI, 60, .inl c042)), (k045, .inl (cI, 60, .inl c045)), (k046, .inl (cI, 40, .inl c046)), (k047, .inl (cI, 40, .inl c047)), (k048, .inl (cI, 40, .inl c048)), (k04, .inr (8, [.ref k040, .ref k041, .ref k042, .ref k043, .ref k044, .ref k045, .ref k046, .ref k047, .ref k048, .int c049]))] H := hP
  replace hD : va_D A [(k, .inr (10, [.ref k0, .ref k1, .ref k2, .ref k3, .ref k4, .ref k5, .ref k6, .ref k7, .ref k8, .ref k9, .ref ka, .ref kb, .int cc])), (k0, .inr (9, [.ref k00, .ref k01, .ref k02, .ref k03, .ref k04, .ref k05, .int c06, .int c07, .int c08])), (kb, .inl (cI, 6, .inl cb)), (k040, .inl (cI, 60, .inl c040)), (k041, .inl (cI, 60, .inl c041)), (k042, .inl (cI, 60, .inl c042)), (k045, .inl (cI, 60, .inl c045)), (k046, .inl (cI, 40, .inl c046)), (k047, .inl (cI, 40, .inl c047)), (k048, .inl (cI, 40, .inl c048)), (k04, .inr (8, [.ref k040, .ref k041, .ref k042, .ref k043, .ref k044, .ref k045, .ref k046, .ref k047, .ref k048, .int c049]))] := hD
  rcases w_7 with ⟨hr_6, h_9, h_10, h_11⟩ | ⟨hr_6, h_12⟩
  · have h_9 : 0 ≤ a0.toInt := h_9
    have h_10 : a0.toInt < c049.toInt := h_10
    have h_11 : a0.toInt < 60 := h_11
    obtain rfl : r_6 = 1 := hr_6.trans (by decide +kernel)
    refine b_if_ne hx hb zl_1 (tgt := 20) dX10_fell_11 (by decide +kernel) (fun c_13 => ?_) (fun c_13 => by exfalso; omega)
    refine lv_aload_n hx hb dX10_fell_20 rfl (lv_at hl 0 rfl) ?_
    refine va_get (D := D) (ci := 10) (v := .ref k0) (C := RX10) (T := TX10) (N := 13) hx hb hT giX10 hown hK hP 0 rfl rfl 0 (by decide +kernel) (hT (Cond.fieldLink RX10 12 "DesertWire" "now" "LDesertWire$World;") mw_291) (fun _ h9 => h9) rfl dX10_fell_21 ?_
    refine va_get (D := D) (ci := 9) (v := .ref k04) (C := RX9) (T := TX9) (N := 9) hx hb hT giX9 hown hK hP 1 rfl rfl 4 (by decide +kernel) (hT (Cond.fieldLink RX10 99 "DesertWire$World" "works" "LDesertWire$Works;") mw_99) (fun _ h9 => h9) rfl dX10_fell_24 ?_
    refine lv_iload_n hx hb dX10_fell_27 rfl (lv_at hl 1 rfl) ?_
    refine kJi (wr := [(k, .inr (10, [.ref k0, .ref k1, .ref k2, .ref k3, .ref k4, .ref k5, .ref k6, .ref k7, .ref k8, .ref k9, .ref ka, .ref kb, .int cc])), (k0, .inr (9, [.ref k00, .ref k01, .ref k02, .ref k03, .ref k04, .ref k05, .int c06, .int c07, .int c08])), (kb, .inl (cI, 6, .inl cb)), (k040, .inl (cI, 60, .inl c040)), (k041, .inl (cI, 60, .inl c041)), (k042, .inl (cI, 60, .inl c042)), (k046, .inl (cI, 40, .inl c046)), (k047, .inl (cI, 40, .inl c047)), (k048, .inl (cI, 40, .inl c048))]) (va_runV (As := [.int a0]) (rest := []) ⟨hx, hb, hml, hown, hT⟩ (c_X8_isDownD l D cI aK aV k04 k040 k041 k042 k043 k044 k045 k046 k047 k048 H.size c049 c045 a0) (cwV 1 hT (gV_in mw_407 mw_404 mw_405 mw_406 mw_3) rfl rfl rfl (by decide +kernel) ⟨Nat.le_of_ble_eq_true rfl, Nat.le_of_ble_eq_true rfl⟩) (kRecvX (q0 := 10) (ci := 8) hK hP hD hN hXS hS hA rfl rfl [10, 6] rfl (by decide +kernel)) rfl rfl hl.1 rfl (lv_room (Nat.le_of_ble_eq_true rfl)) dX10_fell_28 ⟨Nat.le_of_ble_eq_true rfl, Nat.le_of_ble_eq_true rfl⟩) hP hD hS hA [10, 6] [0, 1, 2, 3, 4, 5, 7, 8, 9] rfl rfl (by decide +kernel) (by decide +kernel) ?_
    clear hP hD hS
    intro r_14 u_16 H locs w_15 hP hD hS
    replace hP : va_P D vwCl [(k, .inr (10, [.ref k0, .ref k1, .ref k2, .ref k3, .ref k4, .ref k5, .ref k6, .ref k7, .ref k8, .ref k9, .ref ka, .ref kb, .int cc])), (k0, .inr (9, [.ref k00, .ref k01, .ref k02, .ref k03, .ref k04, .ref k05, .int c06, .int c07, .int c08])), (kb, .inl (cI, 6, .inl cb)), (k040, .inl (cI, 60, .inl c040)), (k041, .inl (cI, 60, .inl c041)), (k042, .inl (cI, 60, .inl c042)), (k046, .inl (cI, 40, .inl c046)), (k047, .inl (cI, 40, .inl c047)), (k048, .inl (cI, 40, .inl c048)), (k04, .inr (8, [.ref k040, .ref k041, .ref k042, .ref k043, .ref k044, .ref k045, .ref k046, .ref k047, .ref k048, .int c049])), (k045, .inl (cI, 60, .inl c045))] H := hP
    replace hD : va_D A [(k, .inr (10, [.ref k0, .ref k1, .ref k2, .ref k3, .ref k4, .ref k5, .ref k6, .ref k7, .ref k8, .ref k9, .ref ka, .ref kb, .int cc])), (k0, .inr (9, [.ref k00, .ref k01, .ref k02, .ref k03, .ref k04, .ref k05, .int c06, .int c07, .int c08])), (kb, .inl (cI, 6, .inl cb)), (k040, .inl (cI, 60, .inl c040)), (k041, .inl (cI, 60, .inl c041)), (k042, .inl (cI, 60, .inl c042)), (k046, .inl (cI, 40, .inl c046)), (k047, .inl (cI, 40, .inl c047)), (k048, .inl (cI, 40, .inl c048)), (k04, .inr (8, [.ref k040, .ref k041, .ref k042, .ref k043, .ref k044, .ref k045, .ref k046, .ref k047, .ref k048, .int c049])), (k045, .inl (cI, 60, .inl c045))] := hD
    rcases w_15 with ⟨hr_14, h_17, h_18, h_19, h_20⟩ | ⟨hr_14, h_21, h_22, h_23, h_24⟩ | ⟨hr_14, h_25⟩
    · have h_17 : 0 ≤ a0.toInt := h_17
      have h_18 : a0.toInt < c049.toInt := h_18
      have h_19 : a0.toInt ≤ 59 := h_19
      have h_20 : (c045 a0.toNatClampNeg).toInt ≠ 0 := h_20
      have t_26 : (c045 a0.toNatClampNeg).toInt = (wW gx a0 4).toInt := by rw [WKR.r4 (WR.kw pre0) (by omega) (by omega)]
      obtain rfl : r_14 = 1 := hr_14.trans (by decide +kernel)
      have t_27 : (c045 a0.toNatClampNeg).toInt = (wW gx a0 4).toInt := by rw [WKR.r4 (WR.kw pre0) (by omega) (by omega)]
      refine b_if_eq hx hb zl_1 (tgt := 40) dX10_fell_31 (by decide +kernel) (fun c_28 => by exfalso; omega) (fun c_28 => ?_)
      refine lv_aload_n hx hb dX10_fell_34 rfl (lv_at hl 0 rfl) ?_
      refine lv_iconst (v := 3) hx hb dX10_fell_35 (by decide +kernel) ?_
      refine kJi (wr := [(k0, .inr (9, [.ref k00, .ref k01, .ref k02, .ref k03, .ref k04, .ref k05, .int c06, .int c07, .int c08])), (k040, .inl (cI, 60, .inl c040)), (k041, .inl (cI, 60, .inl c041)), (k042, .inl (cI, 60, .inl c042)), (k046, .inl (cI, 40, .inl c046)), (k047, .inl (cI, 40, .inl c047)), (k048, .inl (cI, 40, .inl c048)), (k04, .inr (8, [.ref k040, .ref k041, .ref k042, .ref k043, .ref k044, .ref k045, .ref k046, .ref k047, .ref k048, .int c049])), (k045, .inl (cI, 60, .inl c045))]) (va_runV (As := [.int 3]) (rest := []) ⟨hx, hb, hml, hown, hT⟩ (c_X10_findingG l D cI aK aV k k0 k1 k2 k3 k4 k5 k6 k7 k8 k9 ka kb H.size cc cb 3) (cwV 1 hT (gV_in mw_338 mw_335 mw_337 mw_p1_0 mw_1) rfl rfl rfl (by decide +kernel) ⟨Nat.le_of_ble_eq_true rfl, Nat.le_of_ble_eq_true rfl⟩) (kRecvX (q0 := 0) (ci := 10) hK hP hD hN hXS hS hA rfl rfl [0, 2] rfl (by decide +kernel)) rfl rfl hl.1 rfl (lv_room (Nat.le_of_ble_eq_true rfl)) dX10_fell_36 ⟨Nat.le_of_ble_eq_true rfl, Nat.le_of_ble_eq_true rfl⟩) hP hD hS hA [0, 2] [1, 3, 4, 5, 6, 7, 8, 9, 10] rfl rfl (by decide +kernel) (by decide +kernel) ?_
      clear hP hD hS
      intro r_29 scb_31 H locs w_30 hP hD hS
      replace hP : va_P D vwCl [(k0, .inr (9, [.ref k00, .ref k01, .ref k02, .ref k03, .ref k04, .ref k05, .int c06, .int c07, .int c08])), (k040, .inl (cI, 60, .inl c040)), (k041, .inl (cI, 60, .inl c041)), (k042, .inl (cI, 60, .inl c042)), (k046, .inl (cI, 40, .inl c046)), (k047, .inl (cI, 40, .inl c047)), (k048, .inl (cI, 40, .inl c048)), (k04, .inr (8, [.ref k040, .ref k041, .ref k042, .ref k043, .ref k044, .ref k045, .ref k046, .ref k047, .ref k048, .int c049])), (k045, .inl (cI, 60, .inl c045)), (k, .inr (10, [.ref k0, .ref k1, .ref k2, .ref k3, .ref k4, .ref k5, .ref k6, .ref k7, .ref k8, .ref k9, .ref ka, .ref kb, .int cc])), (kb, .inl (cI, 6, .inl scb_31))] H := hP
      replace hD : va_D A [(k0, .inr (9, [.ref k00, .ref k01, .ref k02, .ref k03, .ref k04, .ref k05, .int c06, .int c07, .int c08])), (k040, .inl (cI, 60, .inl c040)), (k041, .inl (cI, 60, .inl c041)), (k042, .inl (cI, 60, .inl c042)), (k046, .inl (cI, 40, .inl c046)), (k047, .inl (cI, 40, .inl c047)), (k048, .inl (cI, 40, .inl c048)), (k04, .inr (8, [.ref k040, .ref k041, .ref k042, .ref k043, .ref k044, .ref k045, .ref k046, .ref k047, .ref k048, .int c049])), (k045, .inl (cI, 60, .inl c045)), (k, .inr (10, [.ref k0, .ref k1, .ref k2, .ref k3, .ref k4, .ref k5, .ref k6, .ref k7, .ref k8, .ref k9, .ref ka, .ref kb, .int cc])), (kb, .inl (cI, 6, .inl scb_31))] := hD
      have hr_29 := w_30
      obtain rfl : r_29 = (-1000003) := hr_29.trans (by decide +kernel)
      exact hRet (scb_31, c045, c046, c047, c048) [9, 0, 10, 7, 1, 2, 3, 8, 4, 5, 6] ⟨(by (try dsimp only); unfold fellR; (repeat (first | rw [if_pos (by omega)] | rw [if_neg (by omega)]))), (WR.gt pre0 (by (try dsimp only); unfold fellS; (repeat (first | rw [if_pos (by omega)] | rw [if_neg (by omega)]))))⟩ hP hD (by decide +kernel) rfl hS rfl dX10_fell_39
    · have h_21 : 0 ≤ a0.toInt := h_21
      have h_22 : a0.toInt < c049.toInt := h_22
      have h_23 : a0.toInt ≤ 59 := h_23
      have h_24 : (c045 a0.toNatClampNeg).toInt = 0 := h_24
      have t_32 : (c045 a0.toNatClampNeg).toInt = (wW gx a0 4).toInt := by rw [WKR.r4 (WR.kw pre0) (by omega) (by omega)]
      obtain rfl : r_14 = 0 := hr_14.trans (by decide +kernel)
      have t_33 : (c045 a0.toNatClampNeg).toInt = (wW gx a0 4).toInt := by rw [WKR.r4 (WR.kw pre0) (by omega) (by omega)]
      refine b_if_eq hx hb zl_0 (tgt := 40) dX10_fell_31 (by decide +kernel) (fun c_34 => ?_) (fun c_34 => by exfalso; omega)
      refine lv_aload_n hx hb dX10_fell_40 rfl (lv_at hl 0 rfl) ?_
      refine va_get (D := D) (ci := 10) (v := .ref k0) (C := RX10) (T := TX10) (N := 13) hx hb hT giX10 hown hK hP 0 rfl rfl 0 (by decide +kernel) (hT (Cond.fieldLink RX10 12 "DesertWire" "now" "LDesertWire$World;") mw_291) (fun _ h9 => h9) rfl dX10_fell_41 ?_
      refine va_get (D := D) (ci := 9) (v := .ref k04) (C := RX9) (T := TX9) (N := 9) hx hb hT giX9 hown hK hP 1 rfl rfl 4 (by decide +kernel) (hT (Cond.fieldLink RX10 99 "DesertWire$World" "works" "LDesertWire$Works;") mw_99) (fun _ h9 => h9) rfl dX10_fell_44 ?_
      refine lv_iload_n hx hb dX10_fell_47 rfl (lv_at hl 1 rfl) ?_
      refine kJv (wr := [(k, .inr (10, [.ref k0, .ref k1, .ref k2, .ref k3, .ref k4, .ref k5, .ref k6, .ref k7, .ref k8, .ref k9, .ref ka, .ref kb, .int cc])), (k0, .inr (9, [.ref k00, .ref k01, .ref k02, .ref k03, .ref k04, .ref k05, .int c06, .int c07, .int c08])), (kb, .inl (cI, 6, .inl cb))]) (va_runV (As := [.int a0]) (rest := []) ⟨hx, hb, hml, hown, hT⟩ (c_X8_bringDownD l D cI aK aV k04 k040 k041 k042 k043 k044 k045 k046 k047 k048 H.size c049 c040 c041 c042 c045 c046 c047 c048 c043 c044 gx a0 (WR.kw pre0) pre1 (by first | omega | decide | assumption | rfl) (by first | omega | decide | assumption | rfl)) (cwV 1 hT (gV_in mw_603 mw_600 mw_601 mw_602 mw_3) rfl rfl rfl (by decide +kernel) ⟨Nat.le_of_ble_eq_true rfl, Nat.le_of_ble_eq_true rfl⟩) (kRecvX (q0 := 9) (ci := 8) hK hP hD hN hXS hS hA rfl rfl [9, 3, 4, 5, 10, 6, 7, 8] rfl (by decide +kernel)) rfl rfl hl.1 rfl (lv_room (Nat.le_of_ble_eq_true rfl)) dX10_fell_48 ⟨Nat.le_of_ble_eq_true rfl, Nat.le_of_ble_eq_true rfl⟩) hP hD hS hA [9, 3, 4, 5, 10, 6, 7, 8] [0, 1, 2] rfl rfl (by decide +kernel) (by decide +kernel) ?_
      clear hP hD hS
      intro u_41 H locs w_36 hP hD hS
      obtain ⟨sc5_37, sc6_38, sc7_39, sc8_40⟩ := u_41
      replace hP : va_P D vwCl [(k, .inr (10, [.ref k0, .ref k1, .ref k2, .ref k3, .ref k4, .ref k5, .ref k6, .ref k7, .ref k8, .ref k9, .ref ka, .ref kb, .int cc])), (k0, .inr (9, [.ref k00, .ref k01, .ref k02, .ref k03, .ref k04, .ref k05, .int c06, .int c07, .int c08])), (kb, .inl (cI, 6, .inl cb)), (k04, .inr (8, [.ref k040, .ref k041, .ref k042, .ref k043, .ref k044, .ref k045, .ref k046, .ref k047, .ref k048, .int c049])), (k040, .inl (cI, 60, .inl c040)), (k041, .inl (cI, 60, .inl c041)), (k042, .inl (cI, 60, .inl c042)), (k045, .inl (cI, 60, .inl sc5_37)), (k046, .inl (cI, 40, .inl sc6_38)), (k047, .inl (cI, 40, .inl sc7_39)), (k048, .inl (cI, 40, .inl sc8_40))] H := hP
      replace hD : va_D A [(k, .inr (10, [.ref k0, .ref k1, .ref k2, .ref k3, .ref k4, .ref k5, .ref k6, .ref k7, .ref k8, .ref k9, .ref ka, .ref kb, .int cc])), (k0, .inr (9, [.ref k00, .ref k01, .ref k02, .ref k03, .ref k04, .ref k05, .int c06, .int c07, .int c08])), (kb, .inl (cI, 6, .inl cb)), (k04, .inr (8, [.ref k040, .ref k041, .ref k042, .ref k043, .ref k044, .ref k045, .ref k046, .ref k047, .ref k048, .int c049])), (k040, .inl (cI, 60, .inl c040)), (k041, .inl (cI, 60, .inl c041)), (k042, .inl (cI, 60, .inl c042)), (k045, .inl (cI, 60, .inl sc5_37)), (k046, .inl (cI, 40, .inl sc6_38)), (k047, .inl (cI, 40, .inl sc7_39)), (k048, .inl (cI, 40, .inl sc8_40))] := hD
      have h_42 := w_36
      have h_42 : WKR c040 c041 c042 c043 c044 sc5_37 sc6_38 sc7_39 sc8_40 c049 (dnS gx a0) := h_42
      obtain ⟨gg_43, egg_43⟩ : ∃ g_ : Nat → Int32, g_ = (dnS gx a0) := ⟨_, rfl⟩
      rw [← egg_43] at h_42
      have hW_44 : WR c00 c01 c02 c03 c040 c041 c042 c043 c044 sc5_37 sc6_38 sc7_39 sc8_40 c049 c050 c051 c06 c07 c08 gg_43 := WR.ofW pre0 h_42 (by rw [egg_43]; exact OFW.dn (by omega) (by omega))
      have t_45 : c049.toInt = (gg_43 1).toInt := WKR.nt (WR.kw hW_44)
      refine lv_iconst (v := 1) hx hb dX10_fell_51 (by decide +kernel) ?_
      exact hRet (cb, sc5_37, sc6_38, sc7_39, sc8_40) [0, 1, 2, 3, 4, 5, 6, 7, 8, 9, 10] ⟨(by (try dsimp only); unfold fellR; (repeat (first | rw [if_pos (by omega)] | rw [if_neg (by omega)]))), (WR.gt hW_44 (by (try dsimp only); unfold fellS; (repeat (first | rw [if_pos (by omega)] | rw [if_neg (by omega)])); first | done | exact (by rw [egg_43]; exact (dnS_y (by omega)).symm)))⟩ hP hD (by decide +kernel) rfl hS rfl dX10_fell_52
    · exfalso; omega
  · have h_12 : a0.toInt < 0 ∨ c049.toInt ≤ a0.toInt ∨ 60 ≤ a0.toInt := h_12
    obtain rfl : r_6 = 0 := hr_6.trans (by decide +kernel)
    refine b_if_ne hx hb zl_0 (tgt := 20) dX10_fell_11 (by decide +kernel) (fun c_46 => by exfalso; omega) (fun c_46 => ?_)
    refine lv_aload_n hx hb dX10_fell_14 rfl (lv_at hl 0 rfl) ?_
    refine lv_iconst (v := 1) hx hb dX10_fell_15 (by decide +kernel) ?_
    refine kJi (wr := [(k0, .inr (9, [.ref k00, .ref k01, .ref k02, .ref k03, .ref k04, .ref k05, .int c06, .int c07, .int c08])), (k040, .inl (cI, 60, .inl c040)), (k041, .inl (cI, 60, .inl c041)), (k042, .inl (cI, 60, .inl c042)), (k045, .inl (cI, 60, .inl c045)), (k046, .inl (cI, 40, .inl c046)), (k047, .inl (cI, 40, .inl c047)), (k048, .inl (cI, 40, .inl c048)), (k04, .inr (8, [.ref k040, .ref k041, .ref k042, .ref k043, .ref k044, .ref k045, .ref k046, .ref k047, .ref k048, .int c049]))]) (va_runV (As := [.int 1]) (rest := []) ⟨hx, hb, hml, hown, hT⟩ (c_X10_findingG l D cI aK aV k k0 k1 k2 k3 k4 k5 k6 k7 k8 k9 ka kb H.size cc cb 1) (cwV 1 hT (gV_in mw_338 mw_335 mw_337 mw_p1_0 mw_1) rfl rfl rfl (by decide +kernel) ⟨Nat.le_of_ble_eq_true rfl, Nat.le_of_ble_eq_true rfl⟩) (kRecvX (q0 := 0) (ci := 10) hK hP hD hN hXS hS hA rfl rfl [0, 2] rfl (by decide +kernel)) rfl rfl hl.1 rfl (lv_room (Nat.le_of_ble_eq_true rfl)) dX10_fell_16 ⟨Nat.le_of_ble_eq_true rfl, Nat.le_of_ble_eq_true rfl⟩) hP hD hS hA [0, 2] [1, 3, 4, 5, 6, 7, 8, 9, 10] rfl rfl (by decide +kernel) (by decide +kernel) ?_
    clear hP hD hS
    intro r_47 scb_49 H locs w_48 hP hD hS
    replace hP : va_P D vwCl [(k0, .inr (9, [.ref k00, .ref k01, .ref k02, .ref k03, .ref k04, .ref k05, .int c06, .int c07, .int c08])), (k040, .inl (cI, 60, .inl c040)), (k041, .inl (cI, 60, .inl c041)), (k042, .inl (cI, 60, .inl c042)), (k045, .inl (cI, 60, .inl c045)), (k046, .inl (cI, 40, .inl c046)), (k047, .inl (cI, 40, .inl c047)), (k048, .inl (cI, 40, .inl c048)), (k04, .inr (8, [.ref k040, .ref k041, .ref k042, .ref k043, .ref k044, .ref k045, .ref k046, .ref k047, .ref k048, .int c049])), (k, .inr (10, [.ref k0, .ref k1, .ref k2, .ref k3, .ref k4, .ref k5, .ref k6, .ref k7, .ref k8, .ref k9, .ref ka, .ref kb, .int cc])), (kb, .inl (cI, 6, .inl scb_49))] H := hP
    replace hD : va_D A [(k0, .inr (9, [.ref k00, .ref k01, .ref k02, .ref k03, .ref k04, .ref k05, .int c06, .int c07, .int c08])), (k040, .inl (cI, 60, .inl c040)), (k041, .inl (cI, 60, .inl c041)), (k042, .inl (cI, 60, .inl c042)), (k045, .inl (cI, 60, .inl c045)), (k046, .inl (cI, 40, .inl c046)), (k047, .inl (cI, 40, .inl c047)), (k048, .inl (cI, 40, .inl c048)), (k04, .inr (8, [.ref k040, .ref k041, .ref k042, .ref k043, .ref k044, .ref k045, .ref k046, .ref k047, .ref k048, .int c049])), (k, .inr (10, [.ref k0, .ref k1, .ref k2, .ref k3, .ref k4, .ref k5, .ref k6, .ref k7, .ref k8, .ref k9, .ref ka, .ref kb, .int cc])), (kb, .inl (cI, 6, .inl scb_49))] := hD
    have hr_47 := w_48
    obtain rfl : r_47 = (-1000001) := hr_47.trans (by decide +kernel)
    exact hRet (scb_49, c045, c046, c047, c048) [9, 0, 10, 8, 1, 2, 3, 4, 5, 6, 7] ⟨(by (try dsimp only); unfold fellR; (repeat (first | rw [if_pos (by omega)] | rw [if_neg (by omega)]))), (WR.gt pre0 (by (try dsimp only); unfold fellS; (repeat (first | rw [if_pos (by omega)] | rw [if_neg (by omega)]))))⟩ hP hD (by decide +kernel) rfl hS rfl dX10_fell_19

set_option maxHeartbeats 4000000 in
set_option maxRecDepth 100000 in
theorem c_X10_layD (l : Launch) (D : va_G) (cI : ClassId) (aK aV : Nat → Nat) (k k0 k1 k2 k3 k4 k5 k6 k7 k8 k9 ka kb k00 k01 k02 k03 k04 k05 k040 k041 k042 k043 k044 k045 k046 k047 k048 : Nat) (sz : Nat) (cc : Int32) (c06 : Int32) (c07 : Int32) (c08 : Int32) (cb : Nat → Int32) (c049 : Int32) (c040 : Nat → Int32) (c044 : Nat → Int32) (c045 : Nat → Int32) (c00 : Nat → Int32) (c01 : Nat → Int32) (c02 : Nat → Int32) (c03 : Nat → Int32) (c041 : Nat → Int32) (c042 : Nat → Int32) (c043 : Nat → Int32) (c046 : Nat → Int32) (c047 : Nat → Int32) (c048 : Nat → Int32) (c050 : Nat → Int32) (c051 : Int32) (gx : Nat → Int32) (a0 : Int32) (a1 : Int32) (pre0 : WR c00 c01 c02 c03 c040 c041 c042 c043 c044 c045 c046 c047 c048 c049 c050 c051 c06 c07 c08 gx) (pre1 : SB gx) : Met l yX10_lay (gW yX10_lay cX10_lay 4 (some .int)) ({ frames := 2, cells := 0, slots := 0, locals := 43 } : Room) (kPreX D cI aK aV [.ref k, .int a0, .int a1] [(k, .inr (10, [.ref k0, .ref k1, .ref k2, .ref k3, .ref k4, .ref k5, .ref k6, .ref k7, .ref k8, .ref k9, .ref ka, .ref kb, .int cc])), (k0, .inr (9, [.ref k00, .ref k01, .ref k02, .ref k03, .ref k04, .ref k05, .int c06, .int c07, .int c08])), (kb, .inl (cI, 6, .inl cb)), (k04, .inr (8, [.ref k040, .ref k041, .ref k042, .ref k043, .ref k044, .ref k045, .ref k046, .ref k047, .ref k048, .int c049])), (k040, .inl (cI, 60, .inl c040)), (k044, .inl (cI, 60, .inl c044)), (k045, .inl (cI, 60, .inl c045))] sz) (va_Qi (fun (r : Int32) (u : (Nat → Int32) × (Nat → Int32)) => r = layR gx a0 a1 ∧ WR c00 c01 c02 c03 c040 c041 c042 c043 u.2 c045 c046 c047 c048 c049 c050 c051 c06 c07 c08 (layS gx a0 a1)) (fun u t => kWd D cI (va_A [(k, .inr (10, [.ref k0, .ref k1, .ref k2, .ref k3, .ref k4, .ref k5, .ref k6, .ref k7, .ref k8, .ref k9, .ref ka, .ref kb, .int cc])), (k0, .inr (9, [.ref k00, .ref k01, .ref k02, .ref k03, .ref k04, .ref k05, .int c06, .int c07, .int c08])), (kb, .inl (cI, 6, .inl cb)), (k04, .inr (8, [.ref k040, .ref k041, .ref k042, .ref k043, .ref k044, .ref k045, .ref k046, .ref k047, .ref k048, .int c049])), (k040, .inl (cI, 60, .inl c040)), (k044, .inl (cI, 60, .inl c044)), (k045, .inl (cI, 60, .inl c045))] sz) [(k, .inr (10, [.ref k0, .ref k1, .ref k2, .ref k3, .ref k4, .ref k5, .ref k6, .ref k7, .ref k8, .ref k9, .ref ka, .ref kb, .int cc])), (k0, .inr (9, [.ref k00, .ref k01, .ref k02, .ref k03, .ref k04, .ref k05, .int c06, .int c07, .int c08])), (kb, .inl (cI, 6, .inl u.1)), (k04, .inr (8, [.ref k040, .ref k041, .ref k042, .ref k043, .ref k044, .ref k045, .ref k046, .ref k047, .ref k048, .int c049])), (k040, .inl (cI, 60, .inl c040)), (k044, .inl (cI, 60, .inl u.2)), (k045, .inl (cI, 60, .inl c045))] t) (va_A [(k, .inr (10, [.ref k0, .ref k1, .ref k2, .ref k3, .ref k4, .ref k5, .ref k6, .ref k7, .ref k8, .ref k9, .ref ka, .ref kb, .int cc])), (k0, .inr (9, [.ref k00, .ref k01, .ref k02, .ref k03, .ref k04, .ref k05, .int c06, .int c07, .int c08])), (kb, .inl (cI, 6, .inl cb)), (k04, .inr (8, [.ref k040, .ref k041, .ref k042, .ref k043, .ref k044, .ref k045, .ref k046, .ref k047, .ref k048, .int c049])), (k040, .inl (cI, 60, .inl c040)), (k044, .inl (cI, 60, .inl c044)), (k045, .inl (cI, 60, .inl c045))] sz)) 0 0 (va_A [(k, .inr (10, [.ref k0, .ref k1, .ref k2, .ref k3, .ref k4, .ref k5, .ref k6, .ref k7, .ref k8, .ref k9, .ref ka, .ref kb, .int cc])), (k0, .inr (9, [.ref k00, .ref k01, .ref k02, .ref k03, .ref k04, .ref k05, .int c06, .int c07, .int c08])), (kb, .inl (cI, 6, .inl cb)), (k04, .inr (8, [.ref k040, .ref k041, .ref k042, .ref k043, .ref k044, .ref k045, .ref k046, .ref k047, .ref k048, .int c049])), (k040, .inl (cI, 60, .inl c040)), (k044, .inl (cI, 60, .inl c044)), (k045, .inl (cI, 60, .inl c045))] sz) := by
  refine kMetIX (own := RX10) (by decide +kernel) rfl (Nat.le_of_ble_eq_true rfl) ?_
  intro p e s m args below meth c hx hb hT hown hname hml A Q hK hP hD hS hA hN hXS hRet ls hl
  have hl : lv_has ls 4 [(0, .ref k), (1, .int a0), (2, .int a1)] := hl
  have lo_a0 := k_lo a0
  have hi_a0 := k_hi a0
  have lo_a1 := k_lo a1
  have hi_a1 := k_hi a1
  have lo_c06 := k_lo c06
  have hi_c06 := k_hi c06
  have lo_c07 := k_lo c07
  have hi_c07 := k_hi c07
  have lo_c08 := k_lo c08
  have hi_c08 := k_hi c08
  have lo_c049 := k_lo c049
  have hi_c049 := k_hi c049
  have lo_c051 := k_lo c051
  have hi_c051 := k_hi c051
  have pre0 : WR c00 c01 c02 c03 c040 c041 c042 c043 c044 c045 c046 c047 c048 c049 c050 c051 c06 c07 c08 gx := pre0
  have b_1 : 0 ≤ c049.toInt ∧ c049.toInt ≤ 60 := WKR.n0 (WR.kw pre0)
  have t_2 : c049.toInt = (gx 1).toInt := WKR.nt (WR.kw pre0)
  have b_3 : 0 ≤ c051.toInt ∧ c051.toInt ≤ 4 := ((WR.kp pre0)).2.1
  have t_4 : c051.toInt = (gx 2).toInt := PTR.nt (WR.kp pre0)
  have t_5 : c08.toInt = (gx 0).toInt := by rw [WR.dd pre0]
  have pre1 : SB gx := pre1
  refine lv_aload_n hx hb dX10_lay_0 rfl (lv_at hl 0 rfl) ?_
  refine va_get (D := D) (ci := 10) (v := .ref k0) (C := RX10) (T := TX10) (N := 13) hx hb hT giX10 hown hK hP 0 rfl rfl 0 (by decide +kernel) (hT (Cond.fieldLink RX10 12 "DesertWire" "now" "LDesertWire$World;") mw_291) (fun _ h9 => h9) rfl dX10_lay_1 ?_
  refine va_get (D := D) (ci := 9) (v := .ref k04) (C := RX9) (T := TX9) (N := 9) hx hb hT giX9 hown hK hP 1 rfl rfl 4 (by decide +kernel) (hT (Cond.fieldLink RX10 99 "DesertWire$World" "works" "LDesertWire$Works;") mw_99) (fun _ h9 => h9) rfl dX10_lay_4 ?_
  refine lv_iload_n hx hb dX10_lay_7 rfl (lv_at hl 1 rfl) ?_
  refine kJi (wr := [(k, .inr (10, [.ref k0, .ref k1, .ref k2, .ref k3, .ref k4, .ref k5, .ref k6, .ref k7, .ref k8, .ref k9, .ref ka, .ref kb, .int cc])), (k0, .inr (9, [.ref k00, .ref k01, .ref k02, .ref k03, .ref k04, .ref k05, .int c06, .int c07, .int c08])), (kb, .inl (cI, 6, .inl cb)), (k040, .inl (cI, 60, .inl c040)), (k044, .inl (cI, 60, .inl c044)), (k045, .inl (cI, 60, .inl c045))]) (va_runV (As := [.int a0]) (rest := []) ⟨hx, hb, hml, hown, hT⟩ (c_X8_hasG l D cI aK aV k04 k040 k041 k042 k043 k044 k045 k046 k047 k048 s.heap.size c049 a0) (cwV 1 hT (gV_in mw_371 mw_380 mw_369 mw_370 mw_3) rfl rfl rfl (by decide +kernel) ⟨Nat.le_of_ble_eq_true rfl, Nat.le_of_ble_eq_true rfl⟩) (kRecvX (q0 := 3) (ci := 8) hK hP hD hN hXS hS hA rfl rfl [3] rfl (by decide +kernel)) rfl rfl hl.1 rfl (lv_room (Nat.le_of_ble_eq_true rfl)) dX10_lay_8 ⟨Nat.le_of_ble_eq_true rfl, Nat.le_of_ble_eq_true rfl⟩) hP hD hS hA [3] [0, 1, 2, 4, 5, 6] rfl rfl (by decide +kernel) (by decide +kernel) ?_
  clear hP hD hS
  intro r_6 u_8 H locs w_7 hP hD hS
  replace hP : va_P D vwCl [(k, .inr (10, [.ref k0, .ref k1, .ref k2, .ref k3, .ref k4, .ref k5, .ref k6, .ref k7, .ref k8, .ref k9, .ref ka, .ref kb, .int cc])), (k0, .inr (9, [.ref k00, .ref k01, .ref k02, .ref k03, .ref k04, .ref k05, .int c06, .int c07, .int c08])), (kb, .inl (cI, 6, .inl cb)), (k040, .inl (cI, 60, .inl c040)), (k044, .inl (cI, 60, .inl c044)), (k045, .inl (cI, 60, .inl c045)), (k04, .inr (8, [.ref k040, .ref k041, .ref k042, .ref k043, .ref k044, .ref k045, .ref k046, .ref k047, .ref k048, .int c049]))] H := hP
  replace hD : va_D A [(k, .inr (10, [.ref k0, .ref k1, .ref k2, .ref k3, .ref k4, .ref k5, .ref k6, .ref k7, .ref k8, .ref k9, .ref ka, .ref kb, .int cc])), (k0, .inr (9, [.ref k00, .ref k01, .ref k02, .ref k03, .ref k04, .ref k05, .int c06, .int c07, .int c08])), (kb, .inl (cI, 6, .inl cb)), (k040, .inl (cI, 60, .inl c040)), (k044, .inl (cI, 60, .inl c044)), (k045, .inl (cI, 60, .inl c045)), (k04, .inr (8, [.ref k040, .ref k041, .ref k042, .ref k043, .ref k044, .ref k045, .ref k046, .ref k047, .ref k048, .int c049]))] := hD
  rcases w_7 with ⟨hr_6, h_9, h_10, h_11⟩ | ⟨hr_6, h_12⟩
  · have h_9 : 0 ≤ a0.toInt := h_9
    have h_10 : a0.toInt < c049.toInt := h_10
    have h_11 : a0.toInt < 60 := h_11
    obtain rfl : r_6 = 1 := hr_6.trans (by decide +kernel)
    refine b_if_eq hx hb zl_1 (tgt := 26) dX10_lay_11 (by decide +kernel) (fun c_13 => by exfalso; omega) (fun c_13 => ?_)
    refine lv_iload_n hx hb dX10_lay_14 rfl (lv_at hl 2 rfl) ?_
    refine lv_iconst (v := 1) hx hb dX10_lay_15 (by decide +kernel) ?_
    refine b_icmp_lt hx hb rfl zl_1 (tgt := 26) dX10_lay_16 (by decide +kernel) (fun c_14 => ?_) (fun c_14 => ?_)
    · refine lv_aload_n hx hb dX10_lay_26 rfl (lv_at hl 0 rfl) ?_
      refine lv_iconst (v := 1) hx hb dX10_lay_27 (by decide +kernel) ?_
      refine kJi (wr := [(k0, .inr (9, [.ref k00, .ref k01, .ref k02, .ref k03, .ref k04, .ref k05, .int c06, .int c07, .int c08])), (k040, .inl (cI, 60, .inl c040)), (k044, .inl (cI, 60, .inl c044)), (k045, .inl (cI, 60, .inl c045)), (k04, .inr (8, [.ref k040, .ref k041, .ref k042, .ref k043, .ref k044, .ref k045, .ref k046, .ref k047, .ref k048, .int c049]))]) (va_runV (As := [.int 1]) (rest := []) ⟨hx, hb, hml, hown, hT⟩ (c_X10_findingG l D cI aK aV k k0 k1 k2 k3 k4 k5 k6 k7 k8 k9 ka kb H.size cc cb 1) (cwV 1 hT (gV_in mw_338 mw_335 mw_337 mw_p1_0 mw_1) rfl rfl rfl (by decide +kernel) ⟨Nat.le_of_ble_eq_true rfl, Nat.le_of_ble_eq_true rfl⟩) (kRecvX (q0 := 0) (ci := 10) hK hP hD hN hXS hS hA rfl rfl [0, 2] rfl (by decide +kernel)) rfl rfl hl.1 rfl (lv_room (Nat.le_of_ble_eq_true rfl)) dX10_lay_28 ⟨Nat.le_of_ble_eq_true rfl, Nat.le_of_ble_eq_true rfl⟩) hP hD hS hA [0, 2] [1, 3, 4, 5, 6] rfl rfl (by decide +kernel) (by decide +kernel) ?_
      clear hP hD hS
      intro r_15 scb_17 H locs w_16 hP hD hS
      replace hP : va_P D vwCl [(k0, .inr (9, [.ref k00, .ref k01, .ref k02, .ref k03, .ref k04, .ref k05, .int c06, .int c07, .int c08])), (k040, .inl (cI, 60, .inl c040)), (k044, .inl (cI, 60, .inl c044)), (k045, .inl (cI, 60, .inl c045)), (k04, .inr (8, [.ref k040, .ref k041, .ref k042, .ref k043, .ref k044, .ref k045, .ref k046, .ref k047, .ref k048, .int c049])), (k, .inr (10, [.ref k0, .ref k1, .ref k2, .ref k3, .ref k4, .ref k5, .ref k6, .ref k7, .ref k8, .ref k9, .ref ka, .ref kb, .int cc])), (kb, .inl (cI, 6, .inl scb_17))] H := hP
      replace hD : va_D A [(k0, .inr (9, [.ref k00, .ref k01, .ref k02, .ref k03, .ref k04, .ref k05, .int c06, .int c07, .int c08])), (k040, .inl (cI, 60, .inl c040)), (k044, .inl (cI, 60, .inl c044)), (k045, .inl (cI, 60, .inl c045)), (k04, .inr (8, [.ref k040, .ref k041, .ref k042, .ref k043, .ref k044, .ref k045, .ref k046, .ref k047, .ref k048, .int c049])), (k, .inr (10, [.ref k0, .ref k1, .ref k2, .ref k3, .ref k4, .ref k5, .ref k6, .ref k7, .ref k8, .ref k9, .ref ka, .ref kb, .int cc])), (kb, .inl (cI, 6, .inl scb_17))] := hD
      have hr_15 := w_16
      obtain rfl : r_15 = (-1000001) := hr_15.trans (by decide +kernel)
      exact hRet (scb_17, c044) [5, 0, 6, 4, 1, 2, 3] ⟨(by (try dsimp only); unfold layR; (repeat (first | rw [if_pos (by omega)] | rw [if_neg (by omega)]))), (WR.gt pre0 (by (try dsimp only); unfold layS; (repeat (first | rw [if_pos (by omega)] | rw [if_neg (by omega)]))))⟩ hP hD (by decide +kernel) rfl hS rfl dX10_lay_31
    · refine lv_iload_n hx hb dX10_lay_19 rfl (lv_at hl 2 rfl) ?_
      refine lv_sipush (v := 9999) hx hb dX10_lay_20 (by decide +kernel) ?_
      refine b_icmp_le hx hb rfl zl_9999 (tgt := 32) dX10_lay_23 (by decide +kernel) (fun c_18 => ?_) (fun c_18 => ?_)
      · refine lv_aload_n hx hb dX10_lay_32 rfl (lv_at hl 0 rfl) ?_
        refine va_get (D := D) (ci := 10) (v := .ref k0) (C := RX10) (T := TX10) (N := 13) hx hb hT giX10 hown hK hP 0 rfl rfl 0 (by decide +kernel) (hT (Cond.fieldLink RX10 12 "DesertWire" "now" "LDesertWire$World;") mw_291) (fun _ h9 => h9) rfl dX10_lay_33 ?_
        refine va_get (D := D) (ci := 9) (v := .ref k04) (C := RX9) (T := TX9) (N := 9) hx hb hT giX9 hown hK hP 1 rfl rfl 4 (by decide +kernel) (hT (Cond.fieldLink RX10 99 "DesertWire$World" "works" "LDesertWire$Works;") mw_99) (fun _ h9 => h9) rfl dX10_lay_36 ?_
        refine lv_iload_n hx hb dX10_lay_39 rfl (lv_at hl 1 rfl) ?_
        refine kJi (wr := [(k, .inr (10, [.ref k0, .ref k1, .ref k2, .ref k3, .ref k4, .ref k5, .ref k6, .ref k7, .ref k8, .ref k9, .ref ka, .ref kb, .int cc])), (k0, .inr (9, [.ref k00, .ref k01, .ref k02, .ref k03, .ref k04, .ref k05, .int c06, .int c07, .int c08])), (kb, .inl (cI, 6, .inl cb)), (k044, .inl (cI, 60, .inl c044)), (k045, .inl (cI, 60, .inl c045))]) (va_runV (As := [.int a0]) (rest := []) ⟨hx, hb, hml, hown, hT⟩ (c_X8_kindOfD l D cI aK aV k04 k040 k041 k042 k043 k044 k045 k046 k047 k048 H.size c049 c040 a0) (cwV 1 hT (gV_in mw_384 mw_381 mw_382 mw_383 mw_3) rfl rfl rfl (by decide +kernel) ⟨Nat.le_of_ble_eq_true rfl, Nat.le_of_ble_eq_true rfl⟩) (kRecvX (q0 := 6) (ci := 8) hK hP hD hN hXS hS hA rfl rfl [6, 3] rfl (by decide +kernel)) rfl rfl hl.1 rfl (lv_room (Nat.le_of_ble_eq_true rfl)) dX10_lay_40 ⟨Nat.le_of_ble_eq_true rfl, Nat.le_of_ble_eq_true rfl⟩) hP hD hS hA [6, 3] [0, 1, 2, 4, 5] rfl rfl (by decide +kernel) (by decide +kernel) ?_
        clear hP hD hS
        intro r_19 u_21 H locs w_20 hP hD hS
        replace hP : va_P D vwCl [(k, .inr (10, [.ref k0, .ref k1, .ref k2, .ref k3, .ref k4, .ref k5, .ref k6, .ref k7, .ref k8, .ref k9, .ref ka, .ref kb, .int cc])), (k0, .inr (9, [.ref k00, .ref k01, .ref k02, .ref k03, .ref k04, .ref k05, .int c06, .int c07, .int c08])), (kb, .inl (cI, 6, .inl cb)), (k044, .inl (cI, 60, .inl c044)), (k045, .inl (cI, 60, .inl c045)), (k04, .inr (8, [.ref k040, .ref k041, .ref k042, .ref k043, .ref k044, .ref k045, .ref k046, .ref k047, .ref k048, .int c049])), (k040, .inl (cI, 60, .inl c040))] H := hP
        replace hD : va_D A [(k, .inr (10, [.ref k0, .ref k1, .ref k2, .ref k3, .ref k4, .ref k5, .ref k6, .ref k7, .ref k8, .ref k9, .ref ka, .ref kb, .int cc])), (k0, .inr (9, [.ref k00, .ref k01, .ref k02, .ref k03, .ref k04, .ref k05, .int c06, .int c07, .int c08])), (kb, .inl (cI, 6, .inl cb)), (k044, .inl (cI, 60, .inl c044)), (k045, .inl (cI, 60, .inl c045)), (k04, .inr (8, [.ref k040, .ref k041, .ref k042, .ref k043, .ref k044, .ref k045, .ref k046, .ref k047, .ref k048, .int c049])), (k040, .inl (cI, 60, .inl c040))] := hD
        rcases w_20 with ⟨h_22, h_23, h_24, h_25⟩ | ⟨hr_19, h_26⟩
        · have h_22 : 0 ≤ a0.toInt := h_22
          have h_23 : a0.toInt < c049.toInt := h_23
          have h_24 : a0.toInt ≤ 59 := h_24
          have h_25 : r_19 = c040 a0.toNatClampNeg := h_25
          have h_27 : r_19 = wW gx a0 0 := Eq.trans h_25 (WKR.r0 (WR.kw pre0) (by omega) (by omega))
          have t_28 : r_19.toInt = (wW gx a0 0).toInt := by rw [h_27]
          have b_29 : 0 ≤ r_19.toInt ∧ r_19.toInt ≤ 5 := by rw [h_27]; exact SB.w0 pre1 (by omega) (by omega)
          have lo_r_19 := k_lo r_19
          have hi_r_19 := k_hi r_19
          refine lv_iconst (v := 5) hx hb dX10_lay_43 (by decide +kernel) ?_
          refine b_icmp_eq hx hb rfl zl_5 (tgt := 53) dX10_lay_44 (by decide +kernel) (fun c_30 => ?_) (fun c_30 => ?_)
          · refine lv_aload_n hx hb dX10_lay_53 rfl (lv_at hl 0 rfl) ?_
            refine va_get (D := D) (ci := 10) (v := .ref k0) (C := RX10) (T := TX10) (N := 13) hx hb hT giX10 hown hK hP 0 rfl rfl 0 (by decide +kernel) (hT (Cond.fieldLink RX10 12 "DesertWire" "now" "LDesertWire$World;") mw_291) (fun _ h9 => h9) rfl dX10_lay_54 ?_
            refine va_get (D := D) (ci := 9) (v := .ref k04) (C := RX9) (T := TX9) (N := 9) hx hb hT giX9 hown hK hP 1 rfl rfl 4 (by decide +kernel) (hT (Cond.fieldLink RX10 99 "DesertWire$World" "works" "LDesertWire$Works;") mw_99) (fun _ h9 => h9) rfl dX10_lay_57 ?_
            refine lv_iload_n hx hb dX10_lay_60 rfl (lv_at hl 1 rfl) ?_
            refine kJi (wr := [(k, .inr (10, [.ref k0, .ref k1, .ref k2, .ref k3, .ref k4, .ref k5, .ref k6, .ref k7, .ref k8, .ref k9, .ref ka, .ref kb, .int cc])), (k0, .inr (9, [.ref k00, .ref k01, .ref k02, .ref k03, .ref k04, .ref k05, .int c06, .int c07, .int c08])), (kb, .inl (cI, 6, .inl cb)), (k044, .inl (cI, 60, .inl c044)), (k040, .inl (cI, 60, .inl c040))]) (va_runV (As := [.int a0]) (rest := []) ⟨hx, hb, hml, hown, hT⟩ (c_X8_isDownD l D cI aK aV k04 k040 k041 k042 k043 k044 k045 k046 k047 k048 H.size c049 c045 a0) (cwV 1 hT (gV_in mw_407 mw_404 mw_405 mw_406 mw_3) rfl rfl rfl (by decide +kernel) ⟨Nat.le_of_ble_eq_true rfl, Nat.le_of_ble_eq_true rfl⟩) (kRecvX (q0 := 5) (ci := 8) hK hP hD hN hXS hS hA rfl rfl [5, 4] rfl (by decide +kernel)) rfl rfl hl.1 rfl (lv_room (Nat.le_of_ble_eq_true rfl)) dX10_lay_61 ⟨Nat.le_of_ble_eq_true rfl, Nat.le_of_ble_eq_true rfl⟩) hP hD hS hA [5, 4] [0, 1, 2, 3, 6] rfl rfl (by decide +kernel) (by decide +kernel) ?_
            clear hP hD hS
            intro r_31 u_33 H locs w_32 hP hD hS
            replace hP : va_P D vwCl [(k, .inr (10, [.ref k0, .ref k1, .ref k2, .ref k3, .ref k4, .ref k5, .ref k6, .ref k7, .ref k8, .ref k9, .ref ka, .ref kb, .int cc])), (k0, .inr (9, [.ref k00, .ref k01, .ref k02, .ref k03, .ref k04, .ref k05, .int c06, .int c07, .int c08])), (kb, .inl (cI, 6, .inl cb)), (k044, .inl (cI, 60, .inl c044)), (k040, .inl (cI, 60, .inl c040)), (k04, .inr (8, [.ref k040, .ref k041, .ref k042, .ref k043, .ref k044, .ref k045, .ref k046, .ref k047, .ref k048, .int c049])), (k045, .inl (cI, 60, .inl c045))] H := hP
            replace hD : va_D A [(k, .inr (10, [.ref k0, .ref k1, .ref k2, .ref k3, .ref k4, .ref k5, .ref k6, .ref k7, .ref k8, .ref k9, .ref ka, .ref kb, .int cc])), (k0, .inr (9, [.ref k00, .ref k01, .ref k02, .ref k03, .ref k04, .ref k05, .int c06, .int c07, .int c08])), (kb, .inl (cI, 6, .inl cb)), (k044, .inl (cI, 60, .inl c044)), (k040, .inl (cI, 60, .inl c040)), (k04, .inr (8, [.ref k040, .ref k041, .ref k042, .ref k043, .ref k044, .ref k045, .ref k046, .ref k047, .ref k048, .int c049])), (k045, .inl (cI, 60, .inl c045))] := hD
            rcases w_32 with ⟨hr_31, h_34, h_35, h_36, h_37⟩ | ⟨hr_31, h_38, h_39, h_40, h_41⟩ | ⟨hr_31, h_42⟩
            · have h_34 : 0 ≤ a0.toInt := h_34
              have h_35 : a0.toInt < c049.toInt := h_35
              have h_36 : a0.toInt ≤ 59 := h_36
              have h_37 : (c045 a0.toNatClampNeg).toInt ≠ 0 := h_37
              have t_43 : (c045 a0.toNatClampNeg).toInt = (wW gx a0 4).toInt := by rw [WKR.r4 (WR.kw pre0) (by omega) (by omega)]
              obtain rfl : r_31 = 1 := hr_31.trans (by decide +kernel)
              have t_44 : (c045 a0.toNatClampNeg).toInt = (wW gx a0 4).toInt := by rw [WKR.r4 (WR.kw pre0) (by omega) (by omega)]
              refine b_if_eq hx hb zl_1 (tgt := 73) dX10_lay_64 (by decide +kernel) (fun c_45 => by exfalso; omega) (fun c_45 => ?_)
              refine lv_aload_n hx hb dX10_lay_67 rfl (lv_at hl 0 rfl) ?_
              refine lv_iconst (v := 3) hx hb dX10_lay_68 (by decide +kernel) ?_
              refine kJi (wr := [(k0, .inr (9, [.ref k00, .ref k01, .ref k02, .ref k03, .ref k04, .ref k05, .int c06, .int c07, .int c08])), (k044, .inl (cI, 60, .inl c044)), (k040, .inl (cI, 60, .inl c040)), (k04, .inr (8, [.ref k040, .ref k041, .ref k042, .ref k043, .ref k044, .ref k045, .ref k046, .ref k047, .ref k048, .int c049])), (k045, .inl (cI, 60, .inl c045))]) (va_runV (As := [.int 3]) (rest := []) ⟨hx, hb, hml, hown, hT⟩ (c_X10_findingG l D cI aK aV k k0 k1 k2 k3 k4 k5 k6 k7 k8 k9 ka kb H.size cc cb 3) (cwV 1 hT (gV_in mw_338 mw_335 mw_337 mw_p1_0 mw_1) rfl rfl rfl (by decide +kernel) ⟨Nat.le_of_ble_eq_true rfl, Nat.le_of_ble_eq_true rfl⟩) (kRecvX (q0 := 0) (ci := 10) hK hP hD hN hXS hS hA rfl rfl [0, 2] rfl (by decide +kernel)) rfl rfl hl.1 rfl (lv_room (Nat.le_of_ble_eq_true rfl)) dX10_lay_69 ⟨Nat.le_of_ble_eq_true rfl, Nat.le_of_ble_eq_true rfl⟩) hP hD hS hA [0, 2] [1, 3, 4, 5, 6] rfl rfl (by decide +kernel) (by decide +kernel) ?_
              clear hP hD hS
              intro r_46 scb_48 H locs w_47 hP hD hS
              replace hP : va_P D vwCl [(k0, .inr (9, [.ref k00, .ref k01, .ref k02, .ref k03, .ref k04, .ref k05, .int c06, .int c07, .int c08])), (k044, .inl (cI, 60, .inl c044)), (k040, .inl (cI, 60, .inl c040)), (k04, .inr (8, [.ref k040, .ref k041, .ref k042, .ref k043, .ref k044, .ref k045, .ref k046, .ref k047, .ref k048, .int c049])), (k045, .inl (cI, 60, .inl c045)), (k, .inr (10, [.ref k0, .ref k1, .ref k2, .ref k3, .ref k4, .ref k5, .ref k6, .ref k7, .ref k8, .ref k9, .ref ka, .ref kb, .int cc])), (kb, .inl (cI, 6, .inl scb_48))] H := hP
              replace hD : va_D A [(k0, .inr (9, [.ref k00, .ref k01, .ref k02, .ref k03, .ref k04, .ref k05, .int c06, .int c07, .int c08])), (k044, .inl (cI, 60, .inl c044)), (k040, .inl (cI, 60, .inl c040)), (k04, .inr (8, [.ref k040, .ref k041, .ref k042, .ref k043, .ref k044, .ref k045, .ref k046, .ref k047, .ref k048, .int c049])), (k045, .inl (cI, 60, .inl c045)), (k, .inr (10, [.ref k0, .ref k1, .ref k2, .ref k3, .ref k4, .ref k5, .ref k6, .ref k7, .ref k8, .ref k9, .ref ka, .ref kb, .int cc])), (kb, .inl (cI, 6, .inl scb_48))] := hD
              have hr_46 := w_47
              obtain rfl : r_46 = (-1000003) := hr_46.trans (by decide +kernel)
              exact hRet (scb_48, c044) [5, 0, 6, 3, 2, 1, 4] ⟨(by (try dsimp only); unfold layR; (repeat (first | rw [if_pos (by omega)] | rw [if_neg (by omega)]))), (WR.gt pre0 (by (try dsimp only); unfold layS; (repeat (first | rw [if_pos (by omega)] | rw [if_neg (by omega)]))))⟩ hP hD (by decide +kernel) rfl hS rfl dX10_lay_72
            · have h_38 : 0 ≤ a0.toInt := h_38
              have h_39 : a0.toInt < c049.toInt := h_39
              have h_40 : a0.toInt ≤ 59 := h_40
              have h_41 : (c045 a0.toNatClampNeg).toInt = 0 := h_41
              have t_49 : (c045 a0.toNatClampNeg).toInt = (wW gx a0 4).toInt := by rw [WKR.r4 (WR.kw pre0) (by omega) (by omega)]
              obtain rfl : r_31 = 0 := hr_31.trans (by decide +kernel)
              have t_50 : (c045 a0.toNatClampNeg).toInt = (wW gx a0 4).toInt := by rw [WKR.r4 (WR.kw pre0) (by omega) (by omega)]
              refine b_if_eq hx hb zl_0 (tgt := 73) dX10_lay_64 (by decide +kernel) (fun c_51 => ?_) (fun c_51 => by exfalso; omega)
              refine lv_aload_n hx hb dX10_lay_73 rfl (lv_at hl 0 rfl) ?_
              refine va_get (D := D) (ci := 10) (v := .ref k0) (C := RX10) (T := TX10) (N := 13) hx hb hT giX10 hown hK hP 0 rfl rfl 0 (by decide +kernel) (hT (Cond.fieldLink RX10 12 "DesertWire" "now" "LDesertWire$World;") mw_291) (fun _ h9 => h9) rfl dX10_lay_74 ?_
              refine va_get (D := D) (ci := 9) (v := .ref k04) (C := RX9) (T := TX9) (N := 9) hx hb hT giX9 hown hK hP 1 rfl rfl 4 (by decide +kernel) (hT (Cond.fieldLink RX10 99 "DesertWire$World" "works" "LDesertWire$Works;") mw_99) (fun _ h9 => h9) rfl dX10_lay_77 ?_
              refine lv_iload_n hx hb dX10_lay_80 rfl (lv_at hl 1 rfl) ?_
              refine kJi (wr := [(k, .inr (10, [.ref k0, .ref k1, .ref k2, .ref k3, .ref k4, .ref k5, .ref k6, .ref k7, .ref k8, .ref k9, .ref ka, .ref kb, .int cc])), (k0, .inr (9, [.ref k00, .ref k01, .ref k02, .ref k03, .ref k04, .ref k05, .int c06, .int c07, .int c08])), (kb, .inl (cI, 6, .inl cb)), (k040, .inl (cI, 60, .inl c040)), (k045, .inl (cI, 60, .inl c045))]) (va_runV (As := [.int a0]) (rest := []) ⟨hx, hb, hml, hown, hT⟩ (c_X8_foodOfD l D cI aK aV k04 k040 k041 k042 k043 k044 k045 k046 k047 k048 H.size c049 c044 a0) (cwV 1 hT (gV_in mw_431 mw_428 mw_429 mw_430 mw_3) rfl rfl rfl (by decide +kernel) ⟨Nat.le_of_ble_eq_true rfl, Nat.le_of_ble_eq_true rfl⟩) (kRecvX (q0 := 5) (ci := 8) hK hP hD hN hXS hS hA rfl rfl [5, 3] rfl (by decide +kernel)) rfl rfl hl.1 rfl (lv_room (Nat.le_of_ble_eq_true rfl)) dX10_lay_81 ⟨Nat.le_of_ble_eq_true rfl, Nat.le_of_ble_eq_true rfl⟩) hP hD hS hA [5, 3] [0, 1, 2, 4, 6] rfl rfl (by decide +kernel) (by decide +kernel) ?_
              clear hP hD hS
              intro r_52 u_54 H locs w_53 hP hD hS
              replace hP : va_P D vwCl [(k, .inr (10, [.ref k0, .ref k1, .ref k2, .ref k3, .ref k4, .ref k5, .ref k6, .ref k7, .ref k8, .ref k9, .ref ka, .ref kb, .int cc])), (k0, .inr (9, [.ref k00, .ref k01, .ref k02, .ref k03, .ref k04, .ref k05, .int c06, .int c07, .int c08])), (kb, .inl (cI, 6, .inl cb)), (k040, .inl (cI, 60, .inl c040)), (k045, .inl (cI, 60, .inl c045)), (k04, .inr (8, [.ref k040, .ref k041, .ref k042, .ref k043, .ref k044, .ref k045, .ref k046, .ref k047, .ref k048, .int c049])), (k044, .inl (cI, 60, .inl c044))] H := hP
              replace hD : va_D A [(k, .inr (10, [.ref k0, .ref k1, .ref k2, .ref k3, .ref k4, .ref k5, .ref k6, .ref k7, .ref k8, .ref k9, .ref ka, .ref kb, .int cc])), (k0, .inr (9, [.ref k00, .ref k01, .ref k02, .ref k03, .ref k04, .ref k05, .int c06, .int c07, .int c08])), (kb, .inl (cI, 6, .inl cb)), (k040, .inl (cI, 60, .inl c040)), (k045, .inl (cI, 60, .inl c045)), (k04, .inr (8, [.ref k040, .ref k041, .ref k042, .ref k043, .ref k044, .ref k045, .ref k046, .ref k047, .ref k048, .int c049])), (k044, .inl (cI, 60, .inl c044))] := hD
              rcases w_53 with ⟨h_55, h_56, h_57, h_58⟩ | ⟨hr_52, h_59⟩
              · have h_55 : 0 ≤ a0.toInt := h_55
                have h_56 : a0.toInt < c049.toInt := h_56
                have h_57 : a0.toInt ≤ 59 := h_57
                have h_58 : r_52 = c044 a0.toNatClampNeg := h_58
                have h_60 : r_52 = wW gx a0 5 := Eq.trans h_58 (WKR.r5 (WR.kw pre0) (by omega) (by omega))
                have t_61 : r_52.toInt = (wW gx a0 5).toInt := by rw [h_60]
                have b_62 : 0 ≤ r_52.toInt ∧ r_52.toInt ≤ 9999 := by rw [h_60]; exact SB.w5 pre1 (by omega) (by omega)
                have lo_r_52 := k_lo r_52
                have hi_r_52 := k_hi r_52
                refine lv_iload_n hx hb dX10_lay_84 rfl (lv_at hl 2 rfl) ?_
                refine lv_iadd hx hb dX10_lay_85 ?_
                refine lv_topi (fun v_63 ev_63 => ?_)
                have tv_63 : v_63.toInt = r_52.toInt + a1.toInt := by rw [ev_63]; exact k_addv rfl rfl (by omega) (by omega)
                refine lv_istore_n (lv' := [(3, .int v_63), (0, .ref k), (1, .int a0), (2, .int a1)]) hx hb dX10_lay_86 rfl hl (by decide +kernel) rfl ?_
                clear hl
                intro ls hl
                refine lv_iload_n hx hb dX10_lay_87 rfl (lv_at hl 0 rfl) ?_
                refine lv_sipush (v := 9999) hx hb dX10_lay_88 (by decide +kernel) ?_
                refine b_icmp_le hx hb rfl zl_9999 (tgt := 100) dX10_lay_91 (by decide +kernel) (fun c_64 => ?_) (fun c_64 => ?_)
                · refine lv_aload_n hx hb dX10_lay_100 rfl (lv_at hl 1 rfl) ?_
                  refine va_get (D := D) (ci := 10) (v := .ref k0) (C := RX10) (T := TX10) (N := 13) hx hb hT giX10 hown hK hP 0 rfl rfl 0 (by decide +kernel) (hT (Cond.fieldLink RX10 12 "DesertWire" "now" "LDesertWire$World;") mw_291) (fun _ h9 => h9) rfl dX10_lay_101 ?_
                  refine va_get (D := D) (ci := 9) (v := .ref k04) (C := RX9) (T := TX9) (N := 9) hx hb hT giX9 hown hK hP 1 rfl rfl 4 (by decide +kernel) (hT (Cond.fieldLink RX10 99 "DesertWire$World" "works" "LDesertWire$Works;") mw_99) (fun _ h9 => h9) rfl dX10_lay_104 ?_
                  refine lv_iload_n hx hb dX10_lay_107 rfl (lv_at hl 2 rfl) ?_
                  refine lv_iload_n hx hb dX10_lay_108 rfl (lv_at hl 0 rfl) ?_
                  refine kJv (wr := [(k, .inr (10, [.ref k0, .ref k1, .ref k2, .ref k3, .ref k4, .ref k5, .ref k6, .ref k7, .ref k8, .ref k9, .ref ka, .ref kb, .int cc])), (k0, .inr (9, [.ref k00, .ref k01, .ref k02, .ref k03, .ref k04, .ref k05, .int c06, .int c07, .int c08])), (kb, .inl (cI, 6, .inl cb)), (k040, .inl (cI, 60, .inl c040)), (k045, .inl (cI, 60, .inl c045))]) (va_runV (As := [.int a0, .int v_63]) (rest := []) ⟨hx, hb, hml, hown, hT⟩ (c_X8_holdFoodD l D cI aK aV k04 k040 k041 k042 k043 k044 k045 k046 k047 k048 H.size c049 c044 c040 c041 c042 c043 c045 c046 c047 c048 gx a0 v_63 (WR.kw pre0) (by first | omega | decide | assumption | rfl) (by first | omega | decide | assumption | rfl)) (cwV 2 hT (gV_in mw_611 mw_608 mw_609 mw_610 mw_3) rfl rfl rfl (by decide +kernel) ⟨Nat.le_of_ble_eq_true rfl, Nat.le_of_ble_eq_true rfl⟩) (kRecvX (q0 := 5) (ci := 8) hK hP hD hN hXS hS hA rfl rfl [5, 6] rfl (by decide +kernel)) rfl rfl hl.1 rfl (lv_room (Nat.le_of_ble_eq_true rfl)) dX10_lay_109 ⟨Nat.le_of_ble_eq_true rfl, Nat.le_of_ble_eq_true rfl⟩) hP hD hS hA [5, 6] [0, 1, 2, 3, 4] rfl rfl (by decide +kernel) (by decide +kernel) ?_
                  clear hP hD hS
                  intro sc4_67 H locs w_66 hP hD hS
                  replace hP : va_P D vwCl [(k, .inr (10, [.ref k0, .ref k1, .ref k2, .ref k3, .ref k4, .ref k5, .ref k6, .ref k7, .ref k8, .ref k9, .ref ka, .ref kb, .int cc])), (k0, .inr (9, [.ref k00, .ref k01, .ref k02, .ref k03, .ref k04, .ref k05, .int c06, .int c07, .int c08])), (kb, .inl (cI, 6, .inl cb)), (k040, .inl (cI, 60, .inl c040)), (k045, .inl (cI, 60, .inl c045)), (k04, .inr (8, [.ref k040, .ref k041, .ref k042, .ref k043, .ref k044, .ref k045, .ref k046, .ref k047, .ref k048, .int c049])), (k044, .inl (cI, 60, .inl sc4_67))] H := hP
                  replace hD : va_D A [(k, .inr (10, [.ref k0, .ref k1, .ref k2, .ref k3, .ref k4, .ref k5, .ref k6, .ref k7, .ref k8, .ref k9, .ref ka, .ref kb, .int cc])), (k0, .inr (9, [.ref k00, .ref k01, .ref k02, .ref k03, .ref k04, .ref k05, .int c06, .int c07, .int c08])), (kb, .inl (cI, 6, .inl cb)), (k040, .inl (cI, 60, .inl c040)), (k045, .inl (cI, 60, .inl c045)), (k04, .inr (8, [.ref k040, .ref k041, .ref k042, .ref k043, .ref k044, .ref k045, .ref k046, .ref k047, .ref k048, .int c049])), (k044, .inl (cI, 60, .inl sc4_67))] := hD
                  have h_68 := w_66
                  have h_68 : WKR c040 c041 c042 c043 sc4_67 c045 c046 c047 c048 c049 (upd gx (99 + 6 * a0.toInt.toNat + 5) v_63) := h_68
                  have h_68 : WKR c040 c041 c042 c043 sc4_67 c045 c046 c047 c048 c049 (upd gx (99 + 6 * a0.toInt.toNat + 5) v_63) := h_68
                  obtain ⟨gg_69, egg_69⟩ : ∃ g_ : Nat → Int32, g_ = (upd gx (99 + 6 * a0.toInt.toNat + 5) v_63) := ⟨_, rfl⟩
                  rw [← egg_69] at h_68
                  have hW_70 : WR c00 c01 c02 c03 c040 c041 c042 c043 sc4_67 c045 c046 c047 c048 c049 c050 c051 c06 c07 c08 gg_69 := WR.ofW pre0 h_68 (by rw [egg_69]; exact OFW.up (by omega))
                  have t_71 : c049.toInt = (gg_69 1).toInt := WKR.nt (WR.kw hW_70)
                  refine lv_iload_n hx hb dX10_lay_112 rfl (lv_at hl 0 rfl) ?_
                  exact hRet (cb, sc4_67) [0, 1, 2, 5, 3, 6, 4] ⟨(by (try dsimp only); unfold layR; (repeat (first | rw [if_pos (by omega)] | rw [if_neg (by omega)])); first | done | exact (by rw [ev_63, h_60])), (WR.gt hW_70 (by (try dsimp only); unfold layS; (repeat (first | rw [if_pos (by omega)] | rw [if_neg (by omega)])); first | done | exact (by rw [egg_69, ev_63, h_60])))⟩ hP hD (by decide +kernel) rfl hS rfl dX10_lay_113
                · refine lv_aload_n hx hb dX10_lay_94 rfl (lv_at hl 1 rfl) ?_
                  refine lv_iconst (v := 4) hx hb dX10_lay_95 (by decide +kernel) ?_
                  refine kJi (wr := [(k0, .inr (9, [.ref k00, .ref k01, .ref k02, .ref k03, .ref k04, .ref k05, .int c06, .int c07, .int c08])), (k040, .inl (cI, 60, .inl c040)), (k045, .inl (cI, 60, .inl c045)), (k04, .inr (8, [.ref k040, .ref k041, .ref k042, .ref k043, .ref k044, .ref k045, .ref k046, .ref k047, .ref k048, .int c049])), (k044, .inl (cI, 60, .inl c044))]) (va_runV (As := [.int 4]) (rest := []) ⟨hx, hb, hml, hown, hT⟩ (c_X10_findingG l D cI aK aV k k0 k1 k2 k3 k4 k5 k6 k7 k8 k9 ka kb H.size cc cb 4) (cwV 1 hT (gV_in mw_338 mw_335 mw_337 mw_p1_0 mw_1) rfl rfl rfl (by decide +kernel) ⟨Nat.le_of_ble_eq_true rfl, Nat.le_of_ble_eq_true rfl⟩) (kRecvX (q0 := 0) (ci := 10) hK hP hD hN hXS hS hA rfl rfl [0, 2] rfl (by decide +kernel)) rfl rfl hl.1 rfl (lv_room (Nat.le_of_ble_eq_true rfl)) dX10_lay_96 ⟨Nat.le_of_ble_eq_true rfl, Nat.le_of_ble_eq_true rfl⟩) hP hD hS hA [0, 2] [1, 3, 4, 5, 6] rfl rfl (by decide +kernel) (by decide +kernel) ?_
                  clear hP hD hS
                  intro r_72 scb_74 H locs w_73 hP hD hS
                  replace hP : va_P D vwCl [(k0, .inr (9, [.ref k00, .ref k01, .ref k02, .ref k03, .ref k04, .ref k05, .int c06, .int c07, .int c08])), (k040, .inl (cI, 60, .inl c040)), (k045, .inl (cI, 60, .inl c045)), (k04, .inr (8, [.ref k040, .ref k041, .ref k042, .ref k043, .ref k044, .ref k045, .ref k046, .ref k047, .ref k048, .int c049])), (k044, .inl (cI, 60, .inl c044)), (k, .inr (10, [.ref k0, .ref k1, .ref k2, .ref k3, .ref k4, .ref k5, .ref k6, .ref k7, .ref k8, .ref k9, .ref ka, .ref kb, .int cc])), (kb, .inl (cI, 6, .inl scb_74))] H := hP
                  replace hD : va_D A [(k0, .inr (9, [.ref k00, .ref k01, .ref k02, .ref k03, .ref k04, .ref k05, .int c06, .int c07, .int c08])), (k040, .inl (cI, 60, .inl c040)), (k045, .inl (cI, 60, .inl c045)), (k04, .inr (8, [.ref k040, .ref k041, .ref k042, .ref k043, .ref k044, .ref k045, .ref k046, .ref k047, .ref k048, .int c049])), (k044, .inl (cI, 60, .inl c044)), (k, .inr (10, [.ref k0, .ref k1, .ref k2, .ref k3, .ref k4, .ref k5, .ref k6, .ref k7, .ref k8, .ref k9, .ref ka, .ref kb, .int cc])), (kb, .inl (cI, 6, .inl scb_74))] := hD
                  have hr_72 := w_73
                  obtain rfl : r_72 = (-1000004) := hr_72.trans (by decide +kernel)
                  exact hRet (scb_74, c044) [5, 0, 6, 3, 1, 4, 2] ⟨(by (try dsimp only); unfold layR; (repeat (first | rw [if_pos (by omega)] | rw [if_neg (by omega)]))), (WR.gt pre0 (by (try dsimp only); unfold layS; (repeat (first | rw [if_pos (by omega)] | rw [if_neg (by omega)]))))⟩ hP hD (by decide +kernel) rfl hS rfl dX10_lay_99
              · exfalso; omega
            · exfalso; omega
          · refine lv_aload_n hx hb dX10_lay_47 rfl (lv_at hl 0 rfl) ?_
            refine lv_iconst (v := 5) hx hb dX10_lay_48 (by decide +kernel) ?_
            refine kJi (wr := [(k0, .inr (9, [.ref k00, .ref k01, .ref k02, .ref k03, .ref k04, .ref k05, .int c06, .int c07, .int c08])), (k044, .inl (cI, 60, .inl c044)), (k045, .inl (cI, 60, .inl c045)), (k04, .inr (8, [.ref k040, .ref k041, .ref k042, .ref k043, .ref k044, .ref k045, .ref k046, .ref k047, .ref k048, .int c049])), (k040, .inl (cI, 60, .inl c040))]) (va_runV (As := [.int 5]) (rest := []) ⟨hx, hb, hml, hown, hT⟩ (c_X10_findingG l D cI aK aV k k0 k1 k2 k3 k4 k5 k6 k7 k8 k9 ka kb H.size cc cb 5) (cwV 1 hT (gV_in mw_338 mw_335 mw_337 mw_p1_0 mw_1) rfl rfl rfl (by decide +kernel) ⟨Nat.le_of_ble_eq_true rfl, Nat.le_of_ble_eq_true rfl⟩) (kRecvX (q0 := 0) (ci := 10) hK hP hD hN hXS hS hA rfl rfl [0, 2] rfl (by decide +kernel)) rfl rfl hl.1 rfl (lv_room (Nat.le_of_ble_eq_true rfl)) dX10_lay_49 ⟨Nat.le_of_ble_eq_true rfl, Nat.le_of_ble_eq_true rfl⟩) hP hD hS hA [0, 2] [1, 3, 4, 5, 6] rfl rfl (by decide +kernel) (by decide +kernel) ?_
            clear hP hD hS
            intro r_75 scb_77 H locs w_76 hP hD hS
            replace hP : va_P D vwCl [(k0, .inr (9, [.ref k00, .ref k01, .ref k02, .ref k03, .ref k04, .ref k05, .int c06, .int c07, .int c08])), (k044, .inl (cI, 60, .inl c044)), (k045, .inl (cI, 60, .inl c045)), (k04, .inr (8, [.ref k040, .ref k041, .ref k042, .ref k043, .ref k044, .ref k045, .ref k046, .ref k047, .ref k048, .int c049])), (k040, .inl (cI, 60, .inl c040)), (k, .inr (10, [.ref k0, .ref k1, .ref k2, .ref k3, .ref k4, .ref k5, .ref k6, .ref k7, .ref k8, .ref k9, .ref ka, .ref kb, .int cc])), (kb, .inl (cI, 6, .inl scb_77))] H := hP
            replace hD : va_D A [(k0, .inr (9, [.ref k00, .ref k01, .ref k02, .ref k03, .ref k04, .ref k05, .int c06, .int c07, .int c08])), (k044, .inl (cI, 60, .inl c044)), (k045, .inl (cI, 60, .inl c045)), (k04, .inr (8, [.ref k040, .ref k041, .ref k042, .ref k043, .ref k044, .ref k045, .ref k046, .ref k047, .ref k048, .int c049])), (k040, .inl (cI, 60, .inl c040)), (k, .inr (10, [.ref k0, .ref k1, .ref k2, .ref k3, .ref k4, .ref k5, .ref k6, .ref k7, .ref k8, .ref k9, .ref ka, .ref kb, .int cc])), (kb, .inl (cI, 6, .inl scb_77))] := hD
            have hr_75 := w_76
            obtain rfl : r_75 = (-1000005) := hr_75.trans (by decide +kernel)
            exact hRet (scb_77, c044) [5, 0, 6, 3, 4, 1, 2] ⟨(by (try dsimp only); unfold layR; (repeat (first | rw [if_pos (by omega)] | rw [if_neg (by omega)]))), (WR.gt pre0 (by (try dsimp only); unfold layS; (repeat (first | rw [if_pos (by omega)] | rw [if_neg (by omega)]))))⟩ hP hD (by decide +kernel) rfl hS rfl dX10_lay_52
        · exfalso; omega
      · refine lv_aload_n hx hb dX10_lay_26 rfl (lv_at hl 0 rfl) ?_
        refine lv_iconst (v := 1) hx hb dX10_lay_27 (by decide +kernel) ?_
        refine kJi (wr := [(k0, .inr (9, [.ref k00, .ref k01, .ref k02, .ref k03, .ref k04, .ref k05, .int c06, .int c07, .int c08])), (k040, .inl (cI, 60, .inl c040)), (k044, .inl (cI, 60, .inl c044)), (k045, .inl (cI, 60, .inl c045)), (k04, .inr (8, [.ref k040, .ref k041, .ref k042, .ref k043, .ref k044, .ref k045, .ref k046, .ref k047, .ref k048, .int c049]))]) (va_runV (As := [.int 1]) (rest := []) ⟨hx, hb, hml, hown, hT⟩ (c_X10_findingG l D cI aK aV k k0 k1 k2 k3 k4 k5 k6 k7 k8 k9 ka kb H.size cc cb 1) (cwV 1 hT (gV_in mw_338 mw_335 mw_337 mw_p1_0 mw_1) rfl rfl rfl (by decide +kernel) ⟨Nat.le_of_ble_eq_true rfl, Nat.le_of_ble_eq_true rfl⟩) (kRecvX (q0 := 0) (ci := 10) hK hP hD hN hXS hS hA rfl rfl [0, 2] rfl (by decide +kernel)) rfl rfl hl.1 rfl (lv_room (Nat.le_of_ble_eq_true rfl)) dX10_lay_28 ⟨Nat.le_of_ble_eq_true rfl, Nat.le_of_ble_eq_true rfl⟩) hP hD hS hA [0, 2] [1, 3, 4, 5, 6] rfl rfl (by decide +kernel) (by decide +kernel) ?_
        clear hP hD hS
        intro r_78 scb_80 H locs w_79 hP hD hS
        replace hP : va_P D vwCl [(k0, .inr (9, [.ref k00, .ref k01, .ref k02, .ref k03, .ref k04, .ref k05, .int c06, .int c07, .int c08])), (k040, .inl (cI, 60, .inl c040)), (k044, .inl (cI, 60, .inl c044)), (k045, .inl (cI, 60, .inl c045)), (k04, .inr (8, [.ref k040, .ref k041, .ref k042, .ref k043, .ref k044, .ref k045, .ref k046, .ref k047, .ref k048, .int c049])), (k, .inr (10, [.ref k0, .ref k1, .ref k2, .ref k3, .ref k4, .ref k5, .ref k6, .ref k7, .ref k8, .ref k9, .ref ka, .ref kb, .int cc])), (kb, .inl (cI, 6, .inl scb_80))] H := hP
        replace hD : va_D A [(k0, .inr (9, [.ref k00, .ref k01, .ref k02, .ref k03, .ref k04, .ref k05, .int c06, .int c07, .int c08])), (k040, .inl (cI, 60, .inl c040)), (k044, .inl (cI, 60, .inl c044)), (k045, .inl (cI, 60, .inl c045)), (k04, .inr (8, [.ref k040, .ref k041, .ref k042, .ref k043, .ref k044, .ref k045, .ref k046, .ref k047, .ref k048, .int c049])), (k, .inr (10, [.ref k0, .ref k1, .ref k2, .ref k3, .ref k4, .ref k5, .ref k6, .ref k7, .ref k8, .ref k9, .ref ka, .ref kb, .int cc])), (kb, .inl (cI, 6, .inl scb_80))] := hD
        have hr_78 := w_79
        obtain rfl : r_78 = (-1000001) := hr_78.trans (by decide +kernel)
        exact hRet (scb_80, c044) [5, 0, 6, 4, 1, 2, 3] ⟨(by (try dsimp only); unfold layR; (repeat (first | rw [if_pos (by omega)] | rw [if_neg (by omega)]))), (WR.gt pre0 (by (try dsimp only); unfold layS; (repeat (first | rw [if_pos (by omega)] | rw [if_neg (by omega)]))))⟩ hP hD (by decide +kernel) rfl hS rfl dX10_lay_31
  · have h_12 : a0.toInt < 0 ∨ c049.toInt ≤ a0.toInt ∨ 60 ≤ a0.toInt := h_12
    obtain rfl : r_6 = 0 := hr_6.trans (by decide +kernel)
    refine b_if_eq hx hb zl_0 (tgt := 26) dX10_lay_11 (by decide +kernel) (fun c_81 => ?_) (fun c_81 => by exfalso; omega)
    refine lv_aload_n hx hb dX10_lay_26 rfl (lv_at hl 0 rfl) ?_
    refine lv_iconst (v := 1) hx hb dX10_lay_27 (by decide +kernel) ?_
    refine kJi (wr := [(k0, .inr (9, [.ref k00, .ref k01, .ref k02, .ref k03, .ref k04, .ref k05, .int c06, .int c07, .int c08])), (k040, .inl (cI, 60, .inl c040)), (k044, .inl (cI, 60, .inl c044)), (k045, .inl (cI, 60, .inl c045)), (k04, .inr (8, [.ref k040, .ref k041, .ref k042, .ref k043, .ref k044, .ref k045, .ref k046, .ref k047, .ref k048, .int c049]))]) (va_runV (As := [.int 1]) (rest := []) ⟨hx, hb, hml, hown, hT⟩ (c_X10_findingG l D cI aK aV k k0 k1 k2 k3 k4 k5 k6 k7 k8 k9 ka kb H.size cc cb 1) (cwV 1 hT (gV_in mw_338 mw_335 mw_337 mw_p1_0 mw_1) rfl rfl rfl (by decide +kernel) ⟨Nat.le_of_ble_eq_true rfl, Nat.le_of_ble_eq_true rfl⟩) (kRecvX (q0 := 0) (ci := 10) hK hP hD hN hXS hS hA rfl rfl [0, 2] rfl (by decide +kernel)) rfl rfl hl.1 rfl (lv_room (Nat.le_of_ble_eq_true rfl)) dX10_lay_28 ⟨Nat.le_of_ble_eq_true rfl, Nat.le_of_ble_eq_true rfl⟩) hP hD hS hA [0, 2] [1, 3, 4, 5, 6] rfl rfl (by decide +kernel) (by decide +kernel) ?_
    clear hP hD hS
    intro r_82 scb_84 H locs w_83 hP hD hS
    replace hP : va_P D vwCl [(k0, .inr (9, [.ref k00, .ref k01, .ref k02, .ref k03, .ref k04, .ref k05, .int c06, .int c07, .int c08])), (k040, .inl (cI, 60, .inl c040)), (k044, .inl (cI, 60, .inl c044)), (k045, .inl (cI, 60, .inl c045)), (k04, .inr (8, [.ref k040, .ref k041, .ref k042, .ref k043, .ref k044, .ref k045, .ref k046, .ref k047, .ref k048, .int c049])), (k, .inr (10, [.ref k0, .ref k1, .ref k2, .ref k3, .ref k4, .ref k5, .ref k6, .ref k7, .ref k8, .ref k9, .ref ka, .ref kb, .int cc])), (kb, .inl (cI, 6, .inl scb_84))] H := hP
    replace hD : va_D A [(k0, .inr (9, [.ref k00, .ref k01, .ref k02, .ref k03, .ref k04, .ref k05, .int c06, .int c07, .int c08])), (k040, .inl (cI, 60, .inl c040)), (k044, .inl (cI, 60, .inl c044)), (k045, .inl (cI, 60, .inl c045)), (k04, .inr (8, [.ref k040, .ref k041, .ref k042, .ref k043, .ref k044, .ref k045, .ref k046, .ref k047, .ref k048, .int c049])), (k, .inr (10, [.ref k0, .ref k1, .ref k2, .ref k3, .ref k4, .ref k5, .ref k6, .ref k7, .ref k8, .ref k9, .ref ka, .ref kb, .int cc])), (kb, .inl (cI, 6, .inl scb_84))] := hD
    have hr_82 := w_83
    obtain rfl : r_82 = (-1000001) := hr_82.trans (by decide +kernel)
    exact hRet (scb_84, c044) [5, 0, 6, 4, 1, 2, 3] ⟨(by (try dsimp only); unfold layR; (repeat (first | rw [if_pos (by omega)] | rw [if_neg (by omega)]))), (WR.gt pre0 (by (try dsimp only); unfold layS; (repeat (first | rw [if_pos (by omega)] | rw [if_neg (by omega)]))))⟩ hP hD (by decide +kernel) rfl hS rfl dX10_lay_31

set_option maxHeartbeats 4000000 in
set_option maxRecDepth 100000 in
theorem c_X10_mileIsD (l : Launch) (D : va_G) (cI : ClassId) (aK aV : Nat → Nat) (k k0 k1 k2 k3 k4 k5 k6 k7 k8 k9 ka kb k00 k01 k02 k03 k04 k05 k040 k041 k042 k043 k044 k045 k046 k047 k048 : Nat) (sz : Nat) (cc : Int32) (c06 : Int32) (c07 : Int32) (c08 : Int32) (cb : Nat → Int32) (c00 : Nat → Int32) (c01 : Nat → Int32) (c02 : Nat → Int32) (c049 : Int32) (c040 : Nat → Int32) (c041 : Nat → Int32) (c043 : Nat → Int32) (c045 : Nat → Int32) (c046 : Nat → Int32) (c047 : Nat → Int32) (c03 : Nat → Int32) (c042 : Nat → Int32) (c044 : Nat → Int32) (c048 : Nat → Int32) (c050 : Nat → Int32) (c051 : Int32) (gx : Nat → Int32) (a0 : Int32) (a1 : Int32) (pre0 : WR c00 c01 c02 c03 c040 c041 c042 c043 c044 c045 c046 c047 c048 c049 c050 c051 c06 c07 c08 gx) (pre1 : SB gx) : Met l yX10_mileIs (gW yX10_mileIs cX10_mileIs 3 (some .int)) ({ frames := 3, cells := 0, slots := 0, locals := 68 } : Room) (kPreX D cI aK aV [.ref k, .int a0, .int a1] [(k, .inr (10, [.ref k0, .ref k1, .ref k2, .ref k3, .ref k4, .ref k5, .ref k6, .ref k7, .ref k8, .ref k9, .ref ka, .ref kb, .int cc])), (k0, .inr (9, [.ref k00, .ref k01, .ref k02, .ref k03, .ref k04, .ref k05, .int c06, .int c07, .int c08])), (kb, .inl (cI, 6, .inl cb)), (k00, .inl (cI, 12, .inl c00)), (k01, .inl (cI, 40, .inl c01)), (k02, .inl (cI, 40, .inl c02)), (k04, .inr (8, [.ref k040, .ref k041, .ref k042, .ref k043, .ref k044, .ref k045, .ref k046, .ref k047, .ref k048, .int c049])), (k040, .inl (cI, 60, .inl c040)), (k041, .inl (cI, 60, .inl c041)), (k043, .inl (cI, 60, .inl c043)), (k045, .inl (cI, 60, .inl c045)), (k046, .inl (cI, 40, .inl c046)), (k047, .inl (cI, 40, .inl c047))] sz) (va_Qi (fun (r : Int32) (u : (Nat → Int32)) => r = mileR gx a0 a1) (fun u t => kWd D cI (va_A [(k, .inr (10, [.ref k0, .ref k1, .ref k2, .ref k3, .ref k4, .ref k5, .ref k6, .ref k7, .ref k8, .ref k9, .ref ka, .ref kb, .int cc])), (k0, .inr (9, [.ref k00, .ref k01, .ref k02, .ref k03, .ref k04, .ref k05, .int c06, .int c07, .int c08])), (kb, .inl (cI, 6, .inl cb)), (k00, .inl (cI, 12, .inl c00)), (k01, .inl (cI, 40, .inl c01)), (k02, .inl (cI, 40, .inl c02)), (k04, .inr (8, [.ref k040, .ref k041, .ref k042, .ref k043, .ref k044, .ref k045, .ref k046, .ref k047, .ref k048, .int c049])), (k040, .inl (cI, 60, .inl c040)), (k041, .inl (cI, 60, .inl c041)), (k043, .inl (cI, 60, .inl c043)), (k045, .inl (cI, 60, .inl c045)), (k046, .inl (cI, 40, .inl c046)), (k047, .inl (cI, 40, .inl c047))] sz) [(k, .inr (10, [.ref k0, .ref k1, .ref k2, .ref k3, .ref k4, .ref k5, .ref k6, .ref k7, .ref k8, .ref k9, .ref ka, .ref kb, .int cc])), (k0, .inr (9, [.ref k00, .ref k01, .ref k02, .ref k03, .ref k04, .ref k05, .int c06, .int c07, .int c08])), (kb, .inl (cI, 6, .inl u)), (k00, .inl (cI, 12, .inl c00)), (k01, .inl (cI, 40, .inl c01)), (k02, .inl (cI, 40, .inl c02)), (k04, .inr (8, [.ref k040, .ref k041, .ref k042, .ref k043, .ref k044, .ref k045, .ref k046, .ref k047, .ref k048, .int c049])), (k040, .inl (cI, 60, .inl c040)), (k041, .inl (cI, 60, .inl c041)), (k043, .inl (cI, 60, .inl c043)), (k045, .inl (cI, 60, .inl c045)), (k046, .inl (cI, 40, .inl c046)), (k047, .inl (cI, 40, .inl c047))] t) (va_A [(k, .inr (10, [.ref k0, .ref k1, .ref k2, .ref k3, .ref k4, .ref k5, .ref k6, .ref k7, .ref k8, .ref k9, .ref ka, .ref kb, .int cc])), (k0, .inr (9, [.ref k00, .ref k01, .ref k02, .ref k03, .ref k04, .ref k05, .int c06, .int c07, .int c08])), (kb, .inl (cI, 6, .inl cb)), (k00, .inl (cI, 12, .inl c00)), (k01, .inl (cI, 40, .inl c01)), (k02, .inl (cI, 40, .inl c02)), (k04, .inr (8, [.ref k040, .ref k041, .ref k042, .ref k043, .ref k044, .ref k045, .ref k046, .ref k047, .ref k048, .int c049])), (k040, .inl (cI, 60, .inl c040)), (k041, .inl (cI, 60, .inl c041)), (k043, .inl (cI, 60, .inl c043)), (k045, .inl (cI, 60, .inl c045)), (k046, .inl (cI, 40, .inl c046)), (k047, .inl (cI, 40, .inl c047))] sz)) 0 0 (va_A [(k, .inr (10, [.ref k0, .ref k1, .ref k2, .ref k3, .ref k4, .ref k5, .ref k6, .ref k7, .ref k8, .ref k9, .ref ka, .ref kb, .int cc])), (k0, .inr (9, [.ref k00, .ref k01, .ref k02, .ref k03, .ref k04, .ref k05, .int c06, .int c07, .int c08])), (kb, .inl (cI, 6, .inl cb)), (k00, .inl (cI, 12, .inl c00)), (k01, .inl (cI, 40, .inl c01)), (k02, .inl (cI, 40, .inl c02)), (k04, .inr (8, [.ref k040, .ref k041, .ref k042, .ref k043, .ref k044, .ref k045, .ref k046, .ref k047, .ref k048, .int c049])), (k040, .inl (cI, 60, .inl c040)), (k041, .inl (cI, 60, .inl c041)), (k043, .inl (cI, 60, .inl c043)), (k045, .inl (cI, 60, .inl c045)), (k046, .inl (cI, 40, .inl c046)), (k047, .inl (cI, 40, .inl c047))] sz) := by
  refine kMetIX (own := RX10) (by decide +kernel) rfl (Nat.le_of_ble_eq_true rfl) ?_
  intro p e s m args below meth c hx hb hT hown hname hml A Q hK hP hD hS hA hN hXS hRet ls hl
  have hl : lv_has ls 3 [(0, .ref k), (1, .int a0), (2, .int a1)] := hl
  have lo_a0 := k_lo a0
  have hi_a0 := k_hi a0
  have lo_a1 := k_lo a1
  have hi_a1 := k_hi a1
  have lo_c06 := k_lo c06
  have hi_c06 := k_hi c06
  have lo_c07 := k_lo c07
  have hi_c07 := k_hi c07
  have lo_c08 := k_lo c08
  have hi_c08 := k_hi c08
  have lo_c049 := k_lo c049
  have hi_c049 := k_hi c049
  have lo_c051 := k_lo c051
  have hi_c051 := k_hi c051
  have hd0 := SB.n0 pre1
  have pre0 : WR c00 c01 c02 c03 c040 c041 c042 c043 c044 c045 c046 c047 c048 c049 c050 c051 c06 c07 c08 gx := pre0
  have b_1 : 0 ≤ c049.toInt ∧ c049.toInt ≤ 60 := WKR.n0 (WR.kw pre0)
  have t_2 : c049.toInt = (gx 1).toInt := WKR.nt (WR.kw pre0)
  have b_3 : 0 ≤ c051.toInt ∧ c051.toInt ≤ 4 := ((WR.kp pre0)).2.1
  have t_4 : c051.toInt = (gx 2).toInt := PTR.nt (WR.kp pre0)
  have t_5 : c08.toInt = (gx 0).toInt := by rw [WR.dd pre0]
  have pre1 : SB gx := pre1
  refine lv_iload_n hx hb dX10_mileIs_0 rfl (lv_at hl 1 rfl) ?_
  refine kJi (wr := [(k, .inr (10, [.ref k0, .ref k1, .ref k2, .ref k3, .ref k4, .ref k5, .ref k6, .ref k7, .ref k8, .ref k9, .ref ka, .ref kb, .int cc])), (k0, .inr (9, [.ref k00, .ref k01, .ref k02, .ref k03, .ref k04, .ref k05, .int c06, .int c07, .int c08])), (kb, .inl (cI, 6, .inl cb)), (k00, .inl (cI, 12, .inl c00)), (k01, .inl (cI, 40, .inl c01)), (k02, .inl (cI, 40, .inl c02)), (k04, .inr (8, [.ref k040, .ref k041, .ref k042, .ref k043, .ref k044, .ref k045, .ref k046, .ref k047, .ref k048, .int c049])), (k040, .inl (cI, 60, .inl c040)), (k041, .inl (cI, 60, .inl c041)), (k043, .inl (cI, 60, .inl c043)), (k045, .inl (cI, 60, .inl c045)), (k046, .inl (cI, 40, .inl c046)), (k047, .inl (cI, 40, .inl c047))]) (va_runS (As := [.int a0]) (rest := []) ⟨hx, hb, hml, hown, hT⟩ (c_X10_isMileG l D cI aK aV s.heap.size a0) (cwS 1 hT (gS_in mw_346 mw_344 mw_345 mw_1) rfl rfl rfl (by decide +kernel) ⟨Nat.le_of_ble_eq_true rfl, Nat.le_of_ble_eq_true rfl⟩) (kStatX hK hP hD hN hXS hS hA [] rfl (by decide +kernel)) rfl rfl hl.1 rfl (lv_room (Nat.le_of_ble_eq_true rfl)) dX10_mileIs_1 ⟨Nat.le_of_ble_eq_true rfl, Nat.le_of_ble_eq_true rfl⟩) hP hD hS hA [] [0, 1, 2, 3, 4, 5, 6, 7, 8, 9, 10, 11, 12] rfl rfl (by decide +kernel) (by decide +kernel) ?_
  clear hP hD hS
  intro r_6 u_8 H locs w_7 hP hD hS
  replace hP : va_P D vwCl [(k, .inr (10, [.ref k0, .ref k1, .ref k2, .ref k3, .ref k4, .ref k5, .ref k6, .ref k7, .ref k8, .ref k9, .ref ka, .ref kb, .int cc])), (k0, .inr (9, [.ref k00, .ref k01, .ref k02, .ref k03, .ref k04, .ref k05, .int c06, .int c07, .int c08])), (kb, .inl (cI, 6, .inl cb)), (k00, .inl (cI, 12, .inl c00)), (k01, .inl (cI, 40, .inl c01)), (k02, .inl (cI, 40, .inl c02)), (k04, .inr (8, [.ref k040, .ref k041, .ref k042, .ref k043, .ref k044, .ref k045, .ref k046, .ref k047, .ref k048, .int c049])), (k040, .inl (cI, 60, .inl c040)), (k041, .inl (cI, 60, .inl c041)), (k043, .inl (cI, 60, .inl c043)), (k045, .inl (cI, 60, .inl c045)), (k046, .inl (cI, 40, .inl c046)), (k047, .inl (cI, 40, .inl c047))] H := hP
  replace hD : va_D A [(k, .inr (10, [.ref k0, .ref k1, .ref k2, .ref k3, .ref k4, .ref k5, .ref k6, .ref k7, .ref k8, .ref k9, .ref ka, .ref kb, .int cc])), (k0, .inr (9, [.ref k00, .ref k01, .ref k02, .ref k03, .ref k04, .ref k05, .int c06, .int c07, .int c08])), (kb, .inl (cI, 6, .inl cb)), (k00, .inl (cI, 12, .inl c00)), (k01, .inl (cI, 40, .inl c01)), (k02, .inl (cI, 40, .inl c02)), (k04, .inr (8, [.ref k040, .ref k041, .ref k042, .ref k043, .ref k044, .ref k045, .ref k046, .ref k047, .ref k048, .int c049])), (k040, .inl (cI, 60, .inl c040)), (k041, .inl (cI, 60, .inl c041)), (k043, .inl (cI, 60, .inl c043)), (k045, .inl (cI, 60, .inl c045)), (k046, .inl (cI, 40, .inl c046)), (k047, .inl (cI, 40, .inl c047))] := hD
  rcases w_7 with ⟨hr_6, h_9, h_10⟩ | ⟨hr_6, h_11⟩
  · have h_9 : 0 ≤ a0.toInt := h_9
    have h_10 : a0.toInt ≤ 39 := h_10
    obtain rfl : r_6 = 1 := hr_6.trans (by decide +kernel)
    refine b_if_ne hx hb zl_1 (tgt := 13) dX10_mileIs_4 (by decide +kernel) (fun c_12 => ?_) (fun c_12 => by exfalso; omega)
    refine lv_iload_n hx hb dX10_mileIs_13 rfl (lv_at hl 2 rfl) ?_
    by_cases c_13 : a1.toInt = 0
    · refine lv_tableIn (off := 38) (tgt := 52) hx hb dX10_mileIs_14 (by omega) (by omega) (by rw [c_13]; decide) (by decide +kernel) ?_
      refine lv_aload_n hx hb dX10_mileIs_52 rfl (lv_at hl 0 rfl) ?_
      refine va_get (D := D) (ci := 10) (v := .ref k0) (C := RX10) (T := TX10) (N := 13) hx hb hT giX10 hown hK hP 0 rfl rfl 0 (by decide +kernel) (hT (Cond.fieldLink RX10 12 "DesertWire" "now" "LDesertWire$World;") mw_291) (fun _ h9 => h9) rfl dX10_mileIs_53 ?_
      refine lv_iload_n hx hb dX10_mileIs_56 rfl (lv_at hl 1 rfl) ?_
      refine kJi (wr := [(k, .inr (10, [.ref k0, .ref k1, .ref k2, .ref k3, .ref k4, .ref k5, .ref k6, .ref k7, .ref k8, .ref k9, .ref ka, .ref kb, .int cc])), (kb, .inl (cI, 6, .inl cb)), (k00, .inl (cI, 12, .inl c00)), (k02, .inl (cI, 40, .inl c02)), (k04, .inr (8, [.ref k040, .ref k041, .ref k042, .ref k043, .ref k044, .ref k045, .ref k046, .ref k047, .ref k048, .int c049])), (k040, .inl (cI, 60, .inl c040)), (k041, .inl (cI, 60, .inl c041)), (k043, .inl (cI, 60, .inl c043)), (k045, .inl (cI, 60, .inl c045)), (k046, .inl (cI, 40, .inl c046)), (k047, .inl (cI, 40, .inl c047))]) (va_runV (As := [.int a0]) (rest := []) ⟨hx, hb, hml, hown, hT⟩ (c_X9_soilOfD l D cI aK aV k0 k00 k01 k02 k03 k04 k05 H.size c06 c07 c08 c01 a0) (cwV 1 hT (gV_in mw_423 mw_616 mw_421 mw_422 mw_2) rfl rfl rfl (by decide +kernel) ⟨Nat.le_of_ble_eq_true rfl, Nat.le_of_ble_eq_true rfl⟩) (kRecvX (q0 := 1) (ci := 9) hK hP hD hN hXS hS hA rfl rfl [1, 4] rfl (by decide +kernel)) rfl rfl hl.1 rfl (lv_room (Nat.le_of_ble_eq_true rfl)) dX10_mileIs_57 ⟨Nat.le_of_ble_eq_true rfl, Nat.le_of_ble_eq_true rfl⟩) hP hD hS hA [1, 4] [0, 2, 3, 5, 6, 7, 8, 9, 10, 11, 12] rfl rfl (by decide +kernel) (by decide +kernel) ?_
      clear hP hD hS
      intro r_14 u_16 H locs w_15 hP hD hS
      replace hP : va_P D vwCl [(k, .inr (10, [.ref k0, .ref k1, .ref k2, .ref k3, .ref k4, .ref k5, .ref k6, .ref k7, .ref k8, .ref k9, .ref ka, .ref kb, .int cc])), (kb, .inl (cI, 6, .inl cb)), (k00, .inl (cI, 12, .inl c00)), (k02, .inl (cI, 40, .inl c02)), (k04, .inr (8, [.ref k040, .ref k041, .ref k042, .ref k043, .ref k044, .ref k045, .ref k046, .ref k047, .ref k048, .int c049])), (k040, .inl (cI, 60, .inl c040)), (k041, .inl (cI, 60, .inl c041)), (k043, .inl (cI, 60, .inl c043)), (k045, .inl (cI, 60, .inl c045)), (k046, .inl (cI, 40, .inl c046)), (k047, .inl (cI, 40, .inl c047)), (k0, .inr (9, [.ref k00, .ref k01, .ref k02, .ref k03, .ref k04, .ref k05, .int c06, .int c07, .int c08])), (k01, .inl (cI, 40, .inl c01))] H := hP
      replace hD : va_D A [(k, .inr (10, [.ref k0, .ref k1, .ref k2, .ref k3, .ref k4, .ref k5, .ref k6, .ref k7, .ref k8, .ref k9, .ref ka, .ref kb, .int cc])), (kb, .inl (cI, 6, .inl cb)), (k00, .inl (cI, 12, .inl c00)), (k02, .inl (cI, 40, .inl c02)), (k04, .inr (8, [.ref k040, .ref k041, .ref k042, .ref k043, .ref k044, .ref k045, .ref k046, .ref k047, .ref k048, .int c049])), (k040, .inl (cI, 60, .inl c040)), (k041, .inl (cI, 60, .inl c041)), (k043, .inl (cI, 60, .inl c043)), (k045, .inl (cI, 60, .inl c045)), (k046, .inl (cI, 40, .inl c046)), (k047, .inl (cI, 40, .inl c047)), (k0, .inr (9, [.ref k00, .ref k01, .ref k02, .ref k03, .ref k04, .ref k05, .int c06, .int c07, .int c08])), (k01, .inl (cI, 40, .inl c01))] := hD
      rcases w_15 with ⟨h_17, h_18, h_19⟩ | ⟨hr_14, h_20⟩
      · have h_17 : 0 ≤ a0.toInt := h_17
        have h_18 : a0.toInt ≤ 39 := h_18
        have h_19 : r_14 = c01 a0.toNatClampNeg := h_19
        have h_21 : r_14 = gx (19 + a0.toInt.toNat) := Eq.trans h_19 (WR.qso pre0 (by omega) (by omega))
        have b_22 : 0 ≤ r_14.toInt ∧ r_14.toInt ≤ 2 := by rw [h_21]; exact SB.so pre1 (by omega)
        have lo_r_14 := k_lo r_14
        have hi_r_14 := k_hi r_14
        exact hRet cb [0, 11, 1, 2, 12, 3, 4, 5, 6, 7, 8, 9, 10] (by (try dsimp only); unfold mileR; (repeat (first | rw [if_pos (by omega)] | rw [if_neg (by omega)])); first | done | exact h_21) hP hD (by decide +kernel) rfl hS rfl dX10_mileIs_60
      · exfalso; omega
    by_cases c_23 : a1.toInt = 1
    · refine lv_tableIn (off := 47) (tgt := 61) hx hb dX10_mileIs_14 (by omega) (by omega) (by rw [c_23]; decide) (by decide +kernel) ?_
      refine lv_aload_n hx hb dX10_mileIs_61 rfl (lv_at hl 0 rfl) ?_
      refine va_get (D := D) (ci := 10) (v := .ref k0) (C := RX10) (T := TX10) (N := 13) hx hb hT giX10 hown hK hP 0 rfl rfl 0 (by decide +kernel) (hT (Cond.fieldLink RX10 12 "DesertWire" "now" "LDesertWire$World;") mw_291) (fun _ h9 => h9) rfl dX10_mileIs_62 ?_
      refine lv_iload_n hx hb dX10_mileIs_65 rfl (lv_at hl 1 rfl) ?_
      refine kJi (wr := [(k, .inr (10, [.ref k0, .ref k1, .ref k2, .ref k3, .ref k4, .ref k5, .ref k6, .ref k7, .ref k8, .ref k9, .ref ka, .ref kb, .int cc])), (kb, .inl (cI, 6, .inl cb)), (k00, .inl (cI, 12, .inl c00)), (k01, .inl (cI, 40, .inl c01)), (k04, .inr (8, [.ref k040, .ref k041, .ref k042, .ref k043, .ref k044, .ref k045, .ref k046, .ref k047, .ref k048, .int c049])), (k040, .inl (cI, 60, .inl c040)), (k041, .inl (cI, 60, .inl c041)), (k043, .inl (cI, 60, .inl c043)), (k045, .inl (cI, 60, .inl c045)), (k046, .inl (cI, 40, .inl c046)), (k047, .inl (cI, 40, .inl c047))]) (va_runV (As := [.int a0]) (rest := []) ⟨hx, hb, hml, hown, hT⟩ (c_X9_springOfD l D cI aK aV k0 k00 k01 k02 k03 k04 k05 H.size c06 c07 c08 c02 a0) (cwV 1 hT (gV_in mw_620 mw_617 mw_618 mw_619 mw_2) rfl rfl rfl (by decide +kernel) ⟨Nat.le_of_ble_eq_true rfl, Nat.le_of_ble_eq_true rfl⟩) (kRecvX (q0 := 1) (ci := 9) hK hP hD hN hXS hS hA rfl rfl [1, 5] rfl (by decide +kernel)) rfl rfl hl.1 rfl (lv_room (Nat.le_of_ble_eq_true rfl)) dX10_mileIs_66 ⟨Nat.le_of_ble_eq_true rfl, Nat.le_of_ble_eq_true rfl⟩) hP hD hS hA [1, 5] [0, 2, 3, 4, 6, 7, 8, 9, 10, 11, 12] rfl rfl (by decide +kernel) (by decide +kernel) ?_
      clear hP hD hS
      intro r_24 u_26 H locs w_25 hP hD hS
      replace hP : va_P D vwCl [(k, .inr (10, [.ref k0, .ref k1, .ref k2, .ref k3, .ref k4, .ref k5, .ref k6, .ref k7, .ref k8, .ref k9, .ref ka, .ref kb, .int cc])), (kb, .inl (cI, 6, .inl cb)), (k00, .inl (cI, 12, .inl c00)), (k01, .inl (cI, 40, .inl c01)), (k04, .inr (8, [.ref k040, .ref k041, .ref k042, .ref k043, .ref k044, .ref k045, .ref k046, .ref k047, .ref k048, .int c049])), (k040, .inl (cI, 60, .inl c040)), (k041, .inl (cI, 60, .inl c041)), (k043, .inl (cI, 60, .inl c043)), (k045, .inl (cI, 60, .inl c045)), (k046, .inl (cI, 40, .inl c046)), (k047, .inl (cI, 40, .inl c047)), (k0, .inr (9, [.ref k00, .ref k01, .ref k02, .ref k03, .ref k04, .ref k05, .int c06, .int c07, .int c08])), (k02, .inl (cI, 40, .inl c02))] H := hP
      replace hD : va_D A [(k, .inr (10, [.ref k0, .ref k1, .ref k2, .ref k3, .ref k4, .ref k5, .ref k6, .ref k7, .ref k8, .ref k9, .ref ka, .ref kb, .int cc])), (kb, .inl (cI, 6, .inl cb)), (k00, .inl (cI, 12, .inl c00)), (k01, .inl (cI, 40, .inl c01)), (k04, .inr (8, [.ref k040, .ref k041, .ref k042, .ref k043, .ref k044, .ref k045, .ref k046, .ref k047, .ref k048, .int c049])), (k040, .inl (cI, 60, .inl c040)), (k041, .inl (cI, 60, .inl c041)), (k043, .inl (cI, 60, .inl c043)), (k045, .inl (cI, 60, .inl c045)), (k046, .inl (cI, 40, .inl c046)), (k047, .inl (cI, 40, .inl c047)), (k0, .inr (9, [.ref k00, .ref k01, .ref k02, .ref k03, .ref k04, .ref k05, .int c06, .int c07, .int c08])), (k02, .inl (cI, 40, .inl c02))] := hD
      rcases w_25 with ⟨h_27, h_28, h_29⟩ | ⟨hr_24, h_30⟩
      · have h_27 : 0 ≤ a0.toInt := h_27
        have h_28 : a0.toInt ≤ 39 := h_28
        have h_29 : r_24 = c02 a0.toNatClampNeg := h_29
        have h_31 : r_24 = gx (59 + a0.toInt.toNat) := Eq.trans h_29 (WR.qsp pre0 (by omega) (by omega))
        have lo_r_24 := k_lo r_24
        have hi_r_24 := k_hi r_24
        exact hRet cb [0, 11, 1, 2, 3, 12, 4, 5, 6, 7, 8, 9, 10] (by (try dsimp only); unfold mileR; (repeat (first | rw [if_pos (by omega)] | rw [if_neg (by omega)])); first | done | exact h_31) hP hD (by decide +kernel) rfl hS rfl dX10_mileIs_69
      · exfalso; omega
    by_cases c_32 : a1.toInt = 2
    · refine lv_tableIn (off := 56) (tgt := 70) hx hb dX10_mileIs_14 (by omega) (by omega) (by rw [c_32]; decide) (by decide +kernel) ?_
      refine lv_aload_n hx hb dX10_mileIs_70 rfl (lv_at hl 0 rfl) ?_
      refine va_get (D := D) (ci := 10) (v := .ref k0) (C := RX10) (T := TX10) (N := 13) hx hb hT giX10 hown hK hP 0 rfl rfl 0 (by decide +kernel) (hT (Cond.fieldLink RX10 12 "DesertWire" "now" "LDesertWire$World;") mw_291) (fun _ h9 => h9) rfl dX10_mileIs_71 ?_
      refine va_get (D := D) (ci := 9) (v := .ref k04) (C := RX9) (T := TX9) (N := 9) hx hb hT giX9 hown hK hP 1 rfl rfl 4 (by decide +kernel) (hT (Cond.fieldLink RX10 99 "DesertWire$World" "works" "LDesertWire$Works;") mw_99) (fun _ h9 => h9) rfl dX10_mileIs_74 ?_
      refine lv_iload_n hx hb dX10_mileIs_77 rfl (lv_at hl 1 rfl) ?_
      refine kJi (wr := [(k, .inr (10, [.ref k0, .ref k1, .ref k2, .ref k3, .ref k4, .ref k5, .ref k6, .ref k7, .ref k8, .ref k9, .ref ka, .ref kb, .int cc])), (k0, .inr (9, [.ref k00, .ref k01, .ref k02, .ref k03, .ref k04, .ref k05, .int c06, .int c07, .int c08])), (kb, .inl (cI, 6, .inl cb)), (k00, .inl (cI, 12, .inl c00)), (k01, .inl (cI, 40, .inl c01)), (k02, .inl (cI, 40, .inl c02)), (k040, .inl (cI, 60, .inl c040)), (k041, .inl (cI, 60, .inl c041)), (k043, .inl (cI, 60, .inl c043)), (k045, .inl (cI, 60, .inl c045)), (k047, .inl (cI, 40, .inl c047))]) (va_runV (As := [.int a0]) (rest := []) ⟨hx, hb, hml, hown, hT⟩ (c_X8_isWiredD l D cI aK aV k04 k040 k041 k042 k043 k044 k045 k046 k047 k048 H.size c049 c046 c040 c041 c042 c043 c044 c045 c047 c048 gx a0 (WR.kw pre0)) (cwV 1 hT (gV_in mw_624 mw_621 mw_622 mw_623 mw_3) rfl rfl rfl (by decide +kernel) ⟨Nat.le_of_ble_eq_true rfl, Nat.le_of_ble_eq_true rfl⟩) (kRecvX (q0 := 6) (ci := 8) hK hP hD hN hXS hS hA rfl rfl [6, 11] rfl (by decide +kernel)) rfl rfl hl.1 rfl (lv_room (Nat.le_of_ble_eq_true rfl)) dX10_mileIs_78 ⟨Nat.le_of_ble_eq_true rfl, Nat.le_of_ble_eq_true rfl⟩) hP hD hS hA [6, 11] [0, 1, 2, 3, 4, 5, 7, 8, 9, 10, 12] rfl rfl (by decide +kernel) (by decide +kernel) ?_
      clear hP hD hS
      intro r_33 u_35 H locs w_34 hP hD hS
      replace hP : va_P D vwCl [(k, .inr (10, [.ref k0, .ref k1, .ref k2, .ref k3, .ref k4, .ref k5, .ref k6, .ref k7, .ref k8, .ref k9, .ref ka, .ref kb, .int cc])), (k0, .inr (9, [.ref k00, .ref k01, .ref k02, .ref k03, .ref k04, .ref k05, .int c06, .int c07, .int c08])), (kb, .inl (cI, 6, .inl cb)), (k00, .inl (cI, 12, .inl c00)), (k01, .inl (cI, 40, .inl c01)), (k02, .inl (cI, 40, .inl c02)), (k040, .inl (cI, 60, .inl c040)), (k041, .inl (cI, 60, .inl c041)), (k043, .inl (cI, 60, .inl c043)), (k045, .inl (cI, 60, .inl c045)), (k047, .inl (cI, 40, .inl c047)), (k04, .inr (8, [.ref k040, .ref k041, .ref k042, .ref k043, .ref k044, .ref k045, .ref k046, .ref k047, .ref k048, .int c049])), (k046, .inl (cI, 40, .inl c046))] H := hP
      replace hD : va_D A [(k, .inr (10, [.ref k0, .ref k1, .ref k2, .ref k3, .ref k4, .ref k5, .ref k6, .ref k7, .ref k8, .ref k9, .ref ka, .ref kb, .int cc])), (k0, .inr (9, [.ref k00, .ref k01, .ref k02, .ref k03, .ref k04, .ref k05, .int c06, .int c07, .int c08])), (kb, .inl (cI, 6, .inl cb)), (k00, .inl (cI, 12, .inl c00)), (k01, .inl (cI, 40, .inl c01)), (k02, .inl (cI, 40, .inl c02)), (k040, .inl (cI, 60, .inl c040)), (k041, .inl (cI, 60, .inl c041)), (k043, .inl (cI, 60, .inl c043)), (k045, .inl (cI, 60, .inl c045)), (k047, .inl (cI, 40, .inl c047)), (k04, .inr (8, [.ref k040, .ref k041, .ref k042, .ref k043, .ref k044, .ref k045, .ref k046, .ref k047, .ref k048, .int c049])), (k046, .inl (cI, 40, .inl c046))] := hD
      rcases w_34 with ⟨hr_33, h_36, h_37, h_38⟩ | ⟨hr_33, h_39, h_40, h_41⟩ | ⟨hr_33, h_42⟩
      · have h_36 : 0 ≤ a0.toInt := h_36
        have h_37 : a0.toInt ≤ 39 := h_37
        have h_38 : wdF gx a0.toInt = 1 := h_38
        have h_38 : wdF gx a0.toInt = 1 := h_38
        obtain rfl : r_33 = 1 := hr_33.trans (by decide +kernel)
        refine b_if_eq hx hb zl_1 (tgt := 88) dX10_mileIs_81 (by decide +kernel) (fun c_43 => by exfalso; omega) (fun c_43 => ?_)
        refine lv_iconst (v := 1) hx hb dX10_mileIs_84 (by decide +kernel) ?_
        refine lv_goto (tgt := 89) hx hb dX10_mileIs_85 (by decide +kernel) ?_
        exact hRet cb [0, 1, 2, 3, 4, 5, 11, 6, 7, 8, 9, 12, 10] (by unfold mileR; rw [if_pos (by omega), if_neg (by omega), if_neg (by omega), if_pos (by omega)]; exact h_38.symm) hP hD (by decide +kernel) rfl hS rfl dX10_mileIs_89
      · have h_39 : 0 ≤ a0.toInt := h_39
        have h_40 : a0.toInt ≤ 39 := h_40
        have h_41 : wdF gx a0.toInt = 0 := h_41
        have h_41 : wdF gx a0.toInt = 0 := h_41
        obtain rfl : r_33 = 0 := hr_33.trans (by decide +kernel)
        refine b_if_eq hx hb zl_0 (tgt := 88) dX10_mileIs_81 (by decide +kernel) (fun c_44 => ?_) (fun c_44 => by exfalso; omega)
        refine lv_iconst (v := 0) hx hb dX10_mileIs_88 (by decide +kernel) ?_
        exact hRet cb [0, 1, 2, 3, 4, 5, 11, 6, 7, 8, 9, 12, 10] (by unfold mileR; rw [if_pos (by omega), if_neg (by omega), if_neg (by omega), if_pos (by omega)]; exact h_41.symm) hP hD (by decide +kernel) rfl hS rfl dX10_mileIs_89
      · exfalso; omega
    by_cases c_45 : a1.toInt = 3
    · refine lv_tableIn (off := 76) (tgt := 90) hx hb dX10_mileIs_14 (by omega) (by omega) (by rw [c_45]; decide) (by decide +kernel) ?_
      refine lv_aload_n hx hb dX10_mileIs_90 rfl (lv_at hl 0 rfl) ?_
      refine va_get (D := D) (ci := 10) (v := .ref k0) (C := RX10) (T := TX10) (N := 13) hx hb hT giX10 hown hK hP 0 rfl rfl 0 (by decide +kernel) (hT (Cond.fieldLink RX10 12 "DesertWire" "now" "LDesertWire$World;") mw_291) (fun _ h9 => h9) rfl dX10_mileIs_91 ?_
      refine lv_iload_n hx hb dX10_mileIs_94 rfl (lv_at hl 1 rfl) ?_
      refine kJi (wr := [(k, .inr (10, [.ref k0, .ref k1, .ref k2, .ref k3, .ref k4, .ref k5, .ref k6, .ref k7, .ref k8, .ref k9, .ref ka, .ref kb, .int cc])), (kb, .inl (cI, 6, .inl cb)), (k01, .inl (cI, 40, .inl c01)), (k02, .inl (cI, 40, .inl c02)), (k047, .inl (cI, 40, .inl c047))]) (va_runV (As := [.int a0]) (rest := []) ⟨hx, hb, hml, hown, hT⟩ (c_X9_leakOfD l D cI aK aV k0 k00 k01 k02 k03 k04 k05 k040 k041 k042 k043 k044 k045 k046 k047 k048 H.size c06 c07 c08 c00 c049 c040 c041 c043 c045 c046 c01 c02 c03 c042 c044 c047 c048 c050 c051 gx a0 pre0 (by first | omega | decide | assumption | rfl) (by first | omega | decide | assumption | rfl) (by first | omega | decide | assumption | rfl)) (cwV 1 hT (gV_in mw_628 mw_625 mw_626 mw_627 mw_2) rfl rfl rfl (by decide +kernel) ⟨Nat.le_of_ble_eq_true rfl, Nat.le_of_ble_eq_true rfl⟩) (kRecvX (q0 := 1) (ci := 9) hK hP hD hN hXS hS hA rfl rfl [1, 3, 6, 7, 8, 9, 10, 11] rfl (by decide +kernel)) rfl rfl hl.1 rfl (lv_room (Nat.le_of_ble_eq_true rfl)) dX10_mileIs_95 ⟨Nat.le_of_ble_eq_true rfl, Nat.le_of_ble_eq_true rfl⟩) hP hD hS hA [1, 3, 6, 7, 8, 9, 10, 11] [0, 2, 4, 5, 12] rfl rfl (by decide +kernel) (by decide +kernel) ?_
      clear hP hD hS
      intro r_46 u_48 H locs w_47 hP hD hS
      replace hP : va_P D vwCl [(k, .inr (10, [.ref k0, .ref k1, .ref k2, .ref k3, .ref k4, .ref k5, .ref k6, .ref k7, .ref k8, .ref k9, .ref ka, .ref kb, .int cc])), (kb, .inl (cI, 6, .inl cb)), (k01, .inl (cI, 40, .inl c01)), (k02, .inl (cI, 40, .inl c02)), (k047, .inl (cI, 40, .inl c047)), (k0, .inr (9, [.ref k00, .ref k01, .ref k02, .ref k03, .ref k04, .ref k05, .int c06, .int c07, .int c08])), (k00, .inl (cI, 12, .inl c00)), (k04, .inr (8, [.ref k040, .ref k041, .ref k042, .ref k043, .ref k044, .ref k045, .ref k046, .ref k047, .ref k048, .int c049])), (k040, .inl (cI, 60, .inl c040)), (k041, .inl (cI, 60, .inl c041)), (k043, .inl (cI, 60, .inl c043)), (k045, .inl (cI, 60, .inl c045)), (k046, .inl (cI, 40, .inl c046))] H := hP
      replace hD : va_D A [(k, .inr (10, [.ref k0, .ref k1, .ref k2, .ref k3, .ref k4, .ref k5, .ref k6, .ref k7, .ref k8, .ref k9, .ref ka, .ref kb, .int cc])), (kb, .inl (cI, 6, .inl cb)), (k01, .inl (cI, 40, .inl c01)), (k02, .inl (cI, 40, .inl c02)), (k047, .inl (cI, 40, .inl c047)), (k0, .inr (9, [.ref k00, .ref k01, .ref k02, .ref k03, .ref k04, .ref k05, .int c06, .int c07, .int c08])), (k00, .inl (cI, 12, .inl c00)), (k04, .inr (8, [.ref k040, .ref k041, .ref k042, .ref k043, .ref k044, .ref k045, .ref k046, .ref k047, .ref k048, .int c049])), (k040, .inl (cI, 60, .inl c040)), (k041, .inl (cI, 60, .inl c041)), (k043, .inl (cI, 60, .inl c043)), (k045, .inl (cI, 60, .inl c045)), (k046, .inl (cI, 40, .inl c046))] := hD
      have h_49 := w_47
      have h_49 : r_46 = lkF gx a0.toInt := h_49
      have h_49 : r_46 = lkF gx a0.toInt := h_49
      have lo_r_46 := k_lo r_46
      have hi_r_46 := k_hi r_46
      exact hRet cb [0, 5, 1, 6, 2, 3, 7, 8, 9, 10, 11, 12, 4] (by (try dsimp only); unfold mileR; (repeat (first | rw [if_pos (by omega)] | rw [if_neg (by omega)])); first | done | exact h_49) hP hD (by decide +kernel) rfl hS rfl dX10_mileIs_98
    by_cases c_50 : a1.toInt = 4
    · refine lv_tableIn (off := 85) (tgt := 99) hx hb dX10_mileIs_14 (by omega) (by omega) (by rw [c_50]; decide) (by decide +kernel) ?_
      refine lv_aload_n hx hb dX10_mileIs_99 rfl (lv_at hl 0 rfl) ?_
      refine va_get (D := D) (ci := 10) (v := .ref k0) (C := RX10) (T := TX10) (N := 13) hx hb hT giX10 hown hK hP 0 rfl rfl 0 (by decide +kernel) (hT (Cond.fieldLink RX10 12 "DesertWire" "now" "LDesertWire$World;") mw_291) (fun _ h9 => h9) rfl dX10_mileIs_100 ?_
      refine lv_iload_n hx hb dX10_mileIs_103 rfl (lv_at hl 1 rfl) ?_
      refine kJi (wr := [(k, .inr (10, [.ref k0, .ref k1, .ref k2, .ref k3, .ref k4, .ref k5, .ref k6, .ref k7, .ref k8, .ref k9, .ref ka, .ref kb, .int cc])), (kb, .inl (cI, 6, .inl cb)), (k02, .inl (cI, 40, .inl c02)), (k04, .inr (8, [.ref k040, .ref k041, .ref k042, .ref k043, .ref k044, .ref k045, .ref k046, .ref k047, .ref k048, .int c049])), (k040, .inl (cI, 60, .inl c040)), (k041, .inl (cI, 60, .inl c041)), (k043, .inl (cI, 60, .inl c043)), (k045, .inl (cI, 60, .inl c045)), (k046, .inl (cI, 40, .inl c046)), (k047, .inl (cI, 40, .inl c047))]) (va_runV (As := [.int a0]) (rest := []) ⟨hx, hb, hml, hown, hT⟩ (c_X9_effortOfD l D cI aK aV k0 k00 k01 k02 k03 k04 k05 H.size c06 c07 c08 c00 c01 c02 c03 c040 c041 c042 c043 c044 c045 c046 c047 c048 c049 c050 c051 gx a0 pre0 pre1 (by first | omega | decide | assumption | rfl) (by first | omega | decide | assumption | rfl) (by first | omega | decide | assumption | rfl)) (cwV 1 hT (gV_in mw_648 mw_645 mw_646 mw_647 mw_2) rfl rfl rfl (by decide +kernel) ⟨Nat.le_of_ble_eq_true rfl, Nat.le_of_ble_eq_true rfl⟩) (kRecvX (q0 := 1) (ci := 9) hK hP hD hN hXS hS hA rfl rfl [1, 3, 4] rfl (by decide +kernel)) rfl rfl hl.1 rfl (lv_room (Nat.le_of_ble_eq_true rfl)) dX10_mileIs_104 ⟨Nat.le_of_ble_eq_true rfl, Nat.le_of_ble_eq_true rfl⟩) hP hD hS hA [1, 3, 4] [0, 2, 5, 6, 7, 8, 9, 10, 11, 12] rfl rfl (by decide +kernel) (by decide +kernel) ?_
      clear hP hD hS
      intro r_51 u_53 H locs w_52 hP hD hS
      replace hP : va_P D vwCl [(k, .inr (10, [.ref k0, .ref k1, .ref k2, .ref k3, .ref k4, .ref k5, .ref k6, .ref k7, .ref k8, .ref k9, .ref ka, .ref kb, .int cc])), (kb, .inl (cI, 6, .inl cb)), (k02, .inl (cI, 40, .inl c02)), (k04, .inr (8, [.ref k040, .ref k041, .ref k042, .ref k043, .ref k044, .ref k045, .ref k046, .ref k047, .ref k048, .int c049])), (k040, .inl (cI, 60, .inl c040)), (k041, .inl (cI, 60, .inl c041)), (k043, .inl (cI, 60, .inl c043)), (k045, .inl (cI, 60, .inl c045)), (k046, .inl (cI, 40, .inl c046)), (k047, .inl (cI, 40, .inl c047)), (k0, .inr (9, [.ref k00, .ref k01, .ref k02, .ref k03, .ref k04, .ref k05, .int c06, .int c07, .int c08])), (k00, .inl (cI, 12, .inl c00)), (k01, .inl (cI, 40, .inl c01))] H := hP
      replace hD : va_D A [(k, .inr (10, [.ref k0, .ref k1, .ref k2, .ref k3, .ref k4, .ref k5, .ref k6, .ref k7, .ref k8, .ref k9, .ref ka, .ref kb, .int cc])), (kb, .inl (cI, 6, .inl cb)), (k02, .inl (cI, 40, .inl c02)), (k04, .inr (8, [.ref k040, .ref k041, .ref k042, .ref k043, .ref k044, .ref k045, .ref k046, .ref k047, .ref k048, .int c049])), (k040, .inl (cI, 60, .inl c040)), (k041, .inl (cI, 60, .inl c041)), (k043, .inl (cI, 60, .inl c043)), (k045, .inl (cI, 60, .inl c045)), (k046, .inl (cI, 40, .inl c046)), (k047, .inl (cI, 40, .inl c047)), (k0, .inr (9, [.ref k00, .ref k01, .ref k02, .ref k03, .ref k04, .ref k05, .int c06, .int c07, .int c08])), (k00, .inl (cI, 12, .inl c00)), (k01, .inl (cI, 40, .inl c01))] := hD
      have h_54 := w_52
      have h_54 : r_51 = efN gx a0.toInt (rnF gx) := h_54
      have h_54 : r_51 = efN gx a0.toInt (rnF gx) := h_54
      have lo_r_51 := k_lo r_51
      have hi_r_51 := k_hi r_51
      exact hRet cb [0, 10, 1, 11, 12, 2, 3, 4, 5, 6, 7, 8, 9] (by (try dsimp only); unfold mileR; (repeat (first | rw [if_pos (by omega)] | rw [if_neg (by omega)])); first | done | exact h_54) hP hD (by decide +kernel) rfl hS rfl dX10_mileIs_107
    by_cases c_55 : a1.toInt = 5
    · refine lv_tableIn (off := 94) (tgt := 108) hx hb dX10_mileIs_14 (by omega) (by omega) (by rw [c_55]; decide) (by decide +kernel) ?_
      refine lv_aload_n hx hb dX10_mileIs_108 rfl (lv_at hl 0 rfl) ?_
      refine va_get (D := D) (ci := 10) (v := .ref k0) (C := RX10) (T := TX10) (N := 13) hx hb hT giX10 hown hK hP 0 rfl rfl 0 (by decide +kernel) (hT (Cond.fieldLink RX10 12 "DesertWire" "now" "LDesertWire$World;") mw_291) (fun _ h9 => h9) rfl dX10_mileIs_109 ?_
      refine va_get (D := D) (ci := 9) (v := .ref k04) (C := RX9) (T := TX9) (N := 9) hx hb hT giX9 hown hK hP 1 rfl rfl 4 (by decide +kernel) (hT (Cond.fieldLink RX10 99 "DesertWire$World" "works" "LDesertWire$Works;") mw_99) (fun _ h9 => h9) rfl dX10_mileIs_112 ?_
      refine lv_iload_n hx hb dX10_mileIs_115 rfl (lv_at hl 1 rfl) ?_
      refine kJi (wr := [(k, .inr (10, [.ref k0, .ref k1, .ref k2, .ref k3, .ref k4, .ref k5, .ref k6, .ref k7, .ref k8, .ref k9, .ref ka, .ref kb, .int cc])), (k0, .inr (9, [.ref k00, .ref k01, .ref k02, .ref k03, .ref k04, .ref k05, .int c06, .int c07, .int c08])), (kb, .inl (cI, 6, .inl cb)), (k00, .inl (cI, 12, .inl c00)), (k01, .inl (cI, 40, .inl c01)), (k02, .inl (cI, 40, .inl c02)), (k040, .inl (cI, 60, .inl c040)), (k041, .inl (cI, 60, .inl c041)), (k043, .inl (cI, 60, .inl c043)), (k045, .inl (cI, 60, .inl c045)), (k046, .inl (cI, 40, .inl c046))]) (va_runV (As := [.int a0]) (rest := []) ⟨hx, hb, hml, hown, hT⟩ (c_X8_drinkInD l D cI aK aV k04 k040 k041 k042 k043 k044 k045 k046 k047 k048 H.size c049 c047 c040 c041 c042 c043 c044 c045 c046 c048 gx a0 (WR.kw pre0)) (cwV 1 hT (gV_in mw_655 mw_652 mw_653 mw_654 mw_3) rfl rfl rfl (by decide +kernel) ⟨Nat.le_of_ble_eq_true rfl, Nat.le_of_ble_eq_true rfl⟩) (kRecvX (q0 := 6) (ci := 8) hK hP hD hN hXS hS hA rfl rfl [6, 12] rfl (by decide +kernel)) rfl rfl hl.1 rfl (lv_room (Nat.le_of_ble_eq_true rfl)) dX10_mileIs_116 ⟨Nat.le_of_ble_eq_true rfl, Nat.le_of_ble_eq_true rfl⟩) hP hD hS hA [6, 12] [0, 1, 2, 3, 4, 5, 7, 8, 9, 10, 11] rfl rfl (by decide +kernel) (by decide +kernel) ?_
      clear hP hD hS
      intro r_56 u_58 H locs w_57 hP hD hS
      replace hP : va_P D vwCl [(k, .inr (10, [.ref k0, .ref k1, .ref k2, .ref k3, .ref k4, .ref k5, .ref k6, .ref k7, .ref k8, .ref k9, .ref ka, .ref kb, .int cc])), (k0, .inr (9, [.ref k00, .ref k01, .ref k02, .ref k03, .ref k04, .ref k05, .int c06, .int c07, .int c08])), (kb, .inl (cI, 6, .inl cb)), (k00, .inl (cI, 12, .inl c00)), (k01, .inl (cI, 40, .inl c01)), (k02, .inl (cI, 40, .inl c02)), (k040, .inl (cI, 60, .inl c040)), (k041, .inl (cI, 60, .inl c041)), (k043, .inl (cI, 60, .inl c043)), (k045, .inl (cI, 60, .inl c045)), (k046, .inl (cI, 40, .inl c046)), (k04, .inr (8, [.ref k040, .ref k041, .ref k042, .ref k043, .ref k044, .ref k045, .ref k046, .ref k047, .ref k048, .int c049])), (k047, .inl (cI, 40, .inl c047))] H := hP
      replace hD : va_D A [(k, .inr (10, [.ref k0, .ref k1, .ref k2, .ref k3, .ref k4, .ref k5, .ref k6, .ref k7, .ref k8, .ref k9, .ref ka, .ref kb, .int cc])), (k0, .inr (9, [.ref k00, .ref k01, .ref k02, .ref k03, .ref k04, .ref k05, .int c06, .int c07, .int c08])), (kb, .inl (cI, 6, .inl cb)), (k00, .inl (cI, 12, .inl c00)), (k01, .inl (cI, 40, .inl c01)), (k02, .inl (cI, 40, .inl c02)), (k040, .inl (cI, 60, .inl c040)), (k041, .inl (cI, 60, .inl c041)), (k043, .inl (cI, 60, .inl c043)), (k045, .inl (cI, 60, .inl c045)), (k046, .inl (cI, 40, .inl c046)), (k04, .inr (8, [.ref k040, .ref k041, .ref k042, .ref k043, .ref k044, .ref k045, .ref k046, .ref k047, .ref k048, .int c049])), (k047, .inl (cI, 40, .inl c047))] := hD
      rcases w_57 with ⟨h_59, h_60, h_61⟩ | ⟨hr_56, h_62⟩
      · have h_59 : 0 ≤ a0.toInt := h_59
        have h_60 : a0.toInt ≤ 39 := h_60
        have h_61 : r_56 = wlF gx a0.toInt := h_61
        have h_61 : r_56 = wlF gx a0.toInt := h_61
        have lo_r_56 := k_lo r_56
        have hi_r_56 := k_hi r_56
        exact hRet cb [0, 1, 2, 3, 4, 5, 11, 6, 7, 8, 9, 10, 12] (by (try dsimp only); unfold mileR; (repeat (first | rw [if_pos (by omega)] | rw [if_neg (by omega)])); first | done | exact h_61) hP hD (by decide +kernel) rfl hS rfl dX10_mileIs_119
      · exfalso; omega
    refine lv_tableOut (tgt := 120) hx hb dX10_mileIs_14 (by omega) (by decide +kernel) ?_
    refine lv_aload_n hx hb dX10_mileIs_120 rfl (lv_at hl 0 rfl) ?_
    refine lv_iconst (v := 1) hx hb dX10_mileIs_121 (by decide +kernel) ?_
    refine kJi (wr := [(k0, .inr (9, [.ref k00, .ref k01, .ref k02, .ref k03, .ref k04, .ref k05, .int c06, .int c07, .int c08])), (k00, .inl (cI, 12, .inl c00)), (k01, .inl (cI, 40, .inl c01)), (k02, .inl (cI, 40, .inl c02)), (k04, .inr (8, [.ref k040, .ref k041, .ref k042, .ref k043, .ref k044, .ref k045, .ref k046, .ref k047, .ref k048, .int c049])), (k040, .inl (cI, 60, .inl c040)), (k041, .inl (cI, 60, .inl c041)), (k043, .inl (cI, 60, .inl c043)), (k045, .inl (cI, 60, .inl c045)), (k046, .inl (cI, 40, .inl c046)), (k047, .inl (cI, 40, .inl c047))]) (va_runV (As := [.int 1]) (rest := []) ⟨hx, hb, hml, hown, hT⟩ (c_X10_findingG l D cI aK aV k k0 k1 k2 k3 k4 k5 k6 k7 k8 k9 ka kb H.size cc cb 1) (cwV 1 hT (gV_in mw_338 mw_335 mw_337 mw_p1_0 mw_1) rfl rfl rfl (by decide +kernel) ⟨Nat.le_of_ble_eq_true rfl, Nat.le_of_ble_eq_true rfl⟩) (kRecvX (q0 := 0) (ci := 10) hK hP hD hN hXS hS hA rfl rfl [0, 2] rfl (by decide +kernel)) rfl rfl hl.1 rfl (lv_room (Nat.le_of_ble_eq_true rfl)) dX10_mileIs_122 ⟨Nat.le_of_ble_eq_true rfl, Nat.le_of_ble_eq_true rfl⟩) hP hD hS hA [0, 2] [1, 3, 4, 5, 6, 7, 8, 9, 10, 11, 12] rfl rfl (by decide +kernel) (by decide +kernel) ?_
    clear hP hD hS
    intro r_63 scb_65 H locs w_64 hP hD hS
    replace hP : va_P D vwCl [(k0, .inr (9, [.ref k00, .ref k01, .ref k02, .ref k03, .ref k04, .ref k05, .int c06, .int c07, .int c08])), (k00, .inl (cI, 12, .inl c00)), (k01, .inl (cI, 40, .inl c01)), (k02, .inl (cI, 40, .inl c02)), (k04, .inr (8, [.ref k040, .ref k041, .ref k042, .ref k043, .ref k044, .ref k045, .ref k046, .ref k047, .ref k048, .int c049])), (k040, .inl (cI, 60, .inl c040)), (k041, .inl (cI, 60, .inl c041)), (k043, .inl (cI, 60, .inl c043)), (k045, .inl (cI, 60, .inl c045)), (k046, .inl (cI, 40, .inl c046)), (k047, .inl (cI, 40, .inl c047)), (k, .inr (10, [.ref k0, .ref k1, .ref k2, .ref k3, .ref k4, .ref k5, .ref k6, .ref k7, .ref k8, .ref k9, .ref ka, .ref kb, .int cc])), (kb, .inl (cI, 6, .inl scb_65))] H := hP
    replace hD : va_D A [(k0, .inr (9, [.ref k00, .ref k01, .ref k02, .ref k03, .ref k04, .ref k05, .int c06, .int c07, .int c08])), (k00, .inl (cI, 12, .inl c00)), (k01, .inl (cI, 40, .inl c01)), (k02, .inl (cI, 40, .inl c02)), (k04, .inr (8, [.ref k040, .ref k041, .ref k042, .ref k043, .ref k044, .ref k045, .ref k046, .ref k047, .ref k048, .int c049])), (k040, .inl (cI, 60, .inl c040)), (k041, .inl (cI, 60, .inl c041)), (k043, .inl (cI, 60, .inl c043)), (k045, .inl (cI, 60, .inl c045)), (k046, .inl (cI, 40, .inl c046)), (k047, .inl (cI, 40, .inl c047)), (k, .inr (10, [.ref k0, .ref k1, .ref k2, .ref k3, .ref k4, .ref k5, .ref k6, .ref k7, .ref k8, .ref k9, .ref ka, .ref kb, .int cc])), (kb, .inl (cI, 6, .inl scb_65))] := hD
    have hr_63 := w_64
    obtain rfl : r_63 = (-1000001) := hr_63.trans (by decide +kernel)
    exact hRet scb_65 [11, 0, 12, 1, 2, 3, 4, 5, 6, 7, 8, 9, 10] (by (try dsimp only); unfold mileR; (repeat (first | rw [if_pos (by omega)] | rw [if_neg (by omega)]))) hP hD (by decide +kernel) rfl hS rfl dX10_mileIs_125
  · have h_11 : a0.toInt < 0 ∨ 39 < a0.toInt := h_11
    obtain rfl : r_6 = 0 := hr_6.trans (by decide +kernel)
    refine b_if_ne hx hb zl_0 (tgt := 13) dX10_mileIs_4 (by decide +kernel) (fun c_66 => by exfalso; omega) (fun c_66 => ?_)
    refine lv_aload_n hx hb dX10_mileIs_7 rfl (lv_at hl 0 rfl) ?_
    refine lv_iconst (v := 1) hx hb dX10_mileIs_8 (by decide +kernel) ?_
    refine kJi (wr := [(k0, .inr (9, [.ref k00, .ref k01, .ref k02, .ref k03, .ref k04, .ref k05, .int c06, .int c07, .int c08])), (k00, .inl (cI, 12, .inl c00)), (k01, .inl (cI, 40, .inl c01)), (k02, .inl (cI, 40, .inl c02)), (k04, .inr (8, [.ref k040, .ref k041, .ref k042, .ref k043, .ref k044, .ref k045, .ref k046, .ref k047, .ref k048, .int c049])), (k040, .inl (cI, 60, .inl c040)), (k041, .inl (cI, 60, .inl c041)), (k043, .inl (cI, 60, .inl c043)), (k045, .inl (cI, 60, .inl c045)), (k046, .inl (cI, 40, .inl c046)), (k047, .inl (cI, 40, .inl c047))]) (va_runV (As := [.int 1]) (rest := []) ⟨hx, hb, hml, hown, hT⟩ (c_X10_findingG l D cI aK aV k k0 k1 k2 k3 k4 k5 k6 k7 k8 k9 ka kb H.size cc cb 1) (cwV 1 hT (gV_in mw_338 mw_335 mw_337 mw_p1_0 mw_1) rfl rfl rfl (by decide +kernel) ⟨Nat.le_of_ble_eq_true rfl, Nat.le_of_ble_eq_true rfl⟩) (kRecvX (q0 := 0) (ci := 10) hK hP hD hN hXS hS hA rfl rfl [0, 2] rfl (by decide +kernel)) rfl rfl hl.1 rfl (lv_room (Nat.le_of_ble_eq_true rfl)) dX10_mileIs_9 ⟨Nat.le_of_ble_eq_true rfl, Nat.le_of_ble_eq_true rfl⟩) hP hD hS hA [0, 2] [1, 3, 4, 5, 6, 7, 8, 9, 10, 11, 12] rfl rfl (by decide +kernel) (by decide +kernel) ?_
    clear hP hD hS
    intro r_67 scb_69 H locs w_68 hP hD hS
    replace hP : va_P D vwCl [(k0, .inr (9, [.ref k00, .ref k01, .ref k02, .ref k03, .ref k04, .ref k05, .int c06, .int c07, .int c08])), (k00, .inl (cI, 12, .inl c00)), (k01, .inl (cI, 40, .inl c01)), (k02, .inl (cI, 40, .inl c02)), (k04, .inr (8, [.ref k040, .ref k041, .ref k042, .ref k043, .ref k044, .ref k045, .ref k046, .ref k047, .ref k048, .int c049])), (k040, .inl (cI, 60, .inl c040)), (k041, .inl (cI, 60, .inl c041)), (k043, .inl (cI, 60, .inl c043)), (k045, .inl (cI, 60, .inl c045)), (k046, .inl (cI, 40, .inl c046)), (k047, .inl (cI, 40, .inl c047)), (k, .inr (10, [.ref k0, .ref k1, .ref k2, .ref k3, .ref k4, .ref k5, .ref k6, .ref k7, .ref k8, .ref k9, .ref ka, .ref kb, .int cc])), (kb, .inl (cI, 6, .inl scb_69))] H := hP
    replace hD : va_D A [(k0, .inr (9, [.ref k00, .ref k01, .ref k02, .ref k03, .ref k04, .ref k05, .int c06, .int c07, .int c08])), (k00, .inl (cI, 12, .inl c00)), (k01, .inl (cI, 40, .inl c01)), (k02, .inl (cI, 40, .inl c02)), (k04, .inr (8, [.ref k040, .ref k041, .ref k042, .ref k043, .ref k044, .ref k045, .ref k046, .ref k047, .ref k048, .int c049])), (k040, .inl (cI, 60, .inl c040)), (k041, .inl (cI, 60, .inl c041)), (k043, .inl (cI, 60, .inl c043)), (k045, .inl (cI, 60, .inl c045)), (k046, .inl (cI, 40, .inl c046)), (k047, .inl (cI, 40, .inl c047)), (k, .inr (10, [.ref k0, .ref k1, .ref k2, .ref k3, .ref k4, .ref k5, .ref k6, .ref k7, .ref k8, .ref k9, .ref ka, .ref kb, .int cc])), (kb, .inl (cI, 6, .inl scb_69))] := hD
    have hr_67 := w_68
    obtain rfl : r_67 = (-1000001) := hr_67.trans (by decide +kernel)
    exact hRet scb_69 [11, 0, 12, 1, 2, 3, 4, 5, 6, 7, 8, 9, 10] (by (try dsimp only); unfold mileR; (repeat (first | rw [if_pos (by omega)] | rw [if_neg (by omega)]))) hP hD (by decide +kernel) rfl hS rfl dX10_mileIs_12

set_option maxHeartbeats 4000000 in
set_option maxRecDepth 100000 in
theorem c_X10_partyD (l : Launch) (D : va_G) (cI : ClassId) (aK aV : Nat → Nat) (k k0 k1 k2 k3 k4 k5 k6 k7 k8 k9 ka kb k00 k01 k02 k03 k04 k05 k050 : Nat) (sz : Nat) (cc : Int32) (c06 : Int32) (c07 : Int32) (c08 : Int32) (cb : Nat → Int32) (c051 : Int32) (c050 : Nat → Int32) (c00 : Nat → Int32) (c01 : Nat → Int32) (c02 : Nat → Int32) (c03 : Nat → Int32) (c040 : Nat → Int32) (c041 : Nat → Int32) (c042 : Nat → Int32) (c043 : Nat → Int32) (c044 : Nat → Int32) (c045 : Nat → Int32) (c046 : Nat → Int32) (c047 : Nat → Int32) (c048 : Nat → Int32) (c049 : Int32) (gx : Nat → Int32) (a0 : Int32) (a1 : Int32) (a2 : Int32) (a3 : Int32) (pre0 : WR c00 c01 c02 c03 c040 c041 c042 c043 c044 c045 c046 c047 c048 c049 c050 c051 c06 c07 c08 gx) (pre1 : SB gx) : Met l yX10_party (gW yX10_party cX10_party 7 (some .int)) ({ frames := 2, cells := 0, slots := 0, locals := 44 } : Room) (kPreX D cI aK aV [.ref k, .int a0, .int a1, .int a2, .int a3] [(k, .inr (10, [.ref k0, .ref k1, .ref k2, .ref k3, .ref k4, .ref k5, .ref k6, .ref k7, .ref k8, .ref k9, .ref ka, .ref kb, .int cc])), (k0, .inr (9, [.ref k00, .ref k01, .ref k02, .ref k03, .ref k04, .ref k05, .int c06, .int c07, .int c08])), (kb, .inl (cI, 6, .inl cb)), (k05, .inr (3, [.ref k050, .int c051])), (k050, .inl (cI, 36, .inl c050))] sz) (va_Qi (fun (r : Int32) (u : (Nat → Int32) × Int32 × (Nat → Int32)) => r = partyR (gx 2) a0 a1 a2 a3 ∧ WR c00 c01 c02 c03 c040 c041 c042 c043 c044 c045 c046 c047 c048 c049 u.2.2 u.2.1 c06 c07 c08 (partyS gx a0 a1 a2 a3)) (fun u t => kWd D cI (va_A [(k, .inr (10, [.ref k0, .ref k1, .ref k2, .ref k3, .ref k4, .ref k5, .ref k6, .ref k7, .ref k8, .ref k9, .ref ka, .ref kb, .int cc])), (k0, .inr (9, [.ref k00, .ref k01, .ref k02, .ref k03, .ref k04, .ref k05, .int c06, .int c07, .int c08])), (kb, .inl (cI, 6, .inl cb)), (k05, .inr (3, [.ref k050, .int c051])), (k050, .inl (cI, 36, .inl c050))] sz) [(k, .inr (10, [.ref k0, .ref k1, .ref k2, .ref k3, .ref k4, .ref k5, .ref k6, .ref k7, .ref k8, .ref k9, .ref ka, .ref kb, .int cc])), (k0, .inr (9, [.ref k00, .ref k01, .ref k02, .ref k03, .ref k04, .ref k05, .int c06, .int c07, .int c08])), (kb, .inl (cI, 6, .inl u.1)), (k05, .inr (3, [.ref k050, .int u.2.1])), (k050, .inl (cI, 36, .inl u.2.2))] t) (va_A [(k, .inr (10, [.ref k0, .ref k1, .ref k2, .ref k3, .ref k4, .ref k5, .ref k6, .ref k7, .ref k8, .ref k9, .ref ka, .ref kb, .int cc])), (k0, .inr (9, [.ref k00, .ref k01, .ref k02, .ref k03, .ref k04, .ref k05, .int c06, .int c07, .int c08])), (kb, .inl (cI, 6, .inl cb)), (k05, .inr (3, [.ref k050, .int c051])), (k050, .inl (cI, 36, .inl c050))] sz)) 0 0 (va_A [(k, .inr (10, [.ref k0, .ref k1, .ref k2, .ref k3, .ref k4, .ref k5, .ref k6, .ref k7, .ref k8, .ref k9, .ref ka, .ref kb, .int cc])), (k0, .inr (9, [.ref k00, .ref k01, .ref k02, .ref k03, .ref k04, .ref k05, .int c06, .int c07, .int c08])), (kb, .inl (cI, 6, .inl cb)), (k05, .inr (3, [.ref k050, .int c051])), (k050, .inl (cI, 36, .inl c050))] sz) := by
  refine kMetIX (own := RX10) (by decide +kernel) rfl (Nat.le_of_ble_eq_true rfl) ?_
  intro p e s m args below meth c hx hb hT hown hname hml A Q hK hP hD hS hA hN hXS hRet ls hl
  have hl : lv_has ls 7 [(0, .ref k), (1, .int a0), (2, .int a1), (3, .int a2), (4, .int a3)] := hl
  have lo_a0 := k_lo a0
  have hi_a0 := k_hi a0
  have lo_a1 := k_lo a1
  have hi_a1 := k_hi a1
  have lo_a2 := k_lo a2
  have hi_a2 := k_hi a2
  have lo_a3 := k_lo a3
  have hi_a3 := k_hi a3
  have lo_c06 := k_lo c06
  have hi_c06 := k_hi c06
  have lo_c07 := k_lo c07
  have hi_c07 := k_hi c07
  have lo_c08 := k_lo c08
  have hi_c08 := k_hi c08
  have lo_c051 := k_lo c051
  have hi_c051 := k_hi c051
  have lo_c049 := k_lo c049
  have hi_c049 := k_hi c049
  have pre0 : WR c00 c01 c02 c03 c040 c041 c042 c043 c044 c045 c046 c047 c048 c049 c050 c051 c06 c07 c08 gx := pre0
  have b_1 : 0 ≤ c049.toInt ∧ c049.toInt ≤ 60 := WKR.n0 (WR.kw pre0)
  have t_2 : c049.toInt = (gx 1).toInt := WKR.nt (WR.kw pre0)
  have b_3 : 0 ≤ c051.toInt ∧ c051.toInt ≤ 4 := ((WR.kp pre0)).2.1
  have t_4 : c051.toInt = (gx 2).toInt := PTR.nt (WR.kp pre0)
  have t_5 : c08.toInt = (gx 0).toInt := by rw [WR.dd pre0]
  have pre1 : SB gx := pre1
  refine lv_iload_n hx hb dX10_party_0 rfl (lv_at hl 1 rfl) ?_
  refine kJi (wr := [(k, .inr (10, [.ref k0, .ref k1, .ref k2, .ref k3, .ref k4, .ref k5, .ref k6, .ref k7, .ref k8, .ref k9, .ref ka, .ref kb, .int cc])), (k0, .inr (9, [.ref k00, .ref k01, .ref k02, .ref k03, .ref k04, .ref k05, .int c06, .int c07, .int c08])), (kb, .inl (cI, 6, .inl cb)), (k05, .inr (3, [.ref k050, .int c051])), (k050, .inl (cI, 36, .inl c050))]) (va_runS (As := [.int a0]) (rest := []) ⟨hx, hb, hml, hown, hT⟩ (c_X10_isMileG l D cI aK aV s.heap.size a0) (cwS 1 hT (gS_in mw_346 mw_344 mw_345 mw_1) rfl rfl rfl (by decide +kernel) ⟨Nat.le_of_ble_eq_true rfl, Nat.le_of_ble_eq_true rfl⟩) (kStatX hK hP hD hN hXS hS hA [] rfl (by decide +kernel)) rfl rfl hl.1 rfl (lv_room (Nat.le_of_ble_eq_true rfl)) dX10_party_1 ⟨Nat.le_of_ble_eq_true rfl, Nat.le_of_ble_eq_true rfl⟩) hP hD hS hA [] [0, 1, 2, 3, 4] rfl rfl (by decide +kernel) (by decide +kernel) ?_
  clear hP hD hS
  intro r_6 u_8 H locs w_7 hP hD hS
  replace hP : va_P D vwCl [(k, .inr (10, [.ref k0, .ref k1, .ref k2, .ref k3, .ref k4, .ref k5, .ref k6, .ref k7, .ref k8, .ref k9, .ref ka, .ref kb, .int cc])), (k0, .inr (9, [.ref k00, .ref k01, .ref k02, .ref k03, .ref k04, .ref k05, .int c06, .int c07, .int c08])), (kb, .inl (cI, 6, .inl cb)), (k05, .inr (3, [.ref k050, .int c051])), (k050, .inl (cI, 36, .inl c050))] H := hP
  replace hD : va_D A [(k, .inr (10, [.ref k0, .ref k1, .ref k2, .ref k3, .ref k4, .ref k5, .ref k6, .ref k7, .ref k8, .ref k9, .ref ka, .ref kb, .int cc])), (k0, .inr (9, [.ref k00, .ref k01, .ref k02, .ref k03, .ref k04, .ref k05, .int c06, .int c07, .int c08])), (kb, .inl (cI, 6, .inl cb)), (k05, .inr (3, [.ref k050, .int c051])), (k050, .inl (cI, 36, .inl c050))] := hD
  rcases w_7 with ⟨hr_6, h_9, h_10⟩ | ⟨hr_6, h_11⟩
  · have h_9 : 0 ≤ a0.toInt := h_9
    have h_10 : a0.toInt ≤ 39 := h_10
    obtain rfl : r_6 = 1 := hr_6.trans (by decide +kernel)
    refine b_if_eq hx hb zl_1 (tgt := 33) dX10_party_4 (by decide +kernel) (fun c_12 => by exfalso; omega) (fun c_12 => ?_)
    refine lv_iload_n hx hb dX10_party_7 rfl (lv_at hl 2 rfl) ?_
    refine lv_iconst (v := 1) hx hb dX10_party_8 (by decide +kernel) ?_
    refine b_icmp_eq hx hb rfl zl_1 (tgt := 17) dX10_party_9 (by decide +kernel) (fun c_13 => ?_) (fun c_13 => ?_)
    · refine lv_iload hx hb dX10_party_17 (lv_at hl 4 rfl) ?_
      refine b_if_lt hx hb rfl (tgt := 33) dX10_party_19 (by decide +kernel) (fun c_14 => ?_) (fun c_14 => ?_)
      · refine lv_iconst (v := 0) hx hb dX10_party_33 (by decide +kernel) ?_
        refine lv_istore (lv' := [(5, .int 0), (0, .ref k), (1, .int a0), (2, .int a1), (3, .int a2), (4, .int a3)]) hx hb dX10_party_34 hl (by decide +kernel) rfl ?_
        clear hl
        intro ls hl
        refine lv_iload hx hb dX10_party_36 (lv_at hl 0 rfl) ?_
        refine b_if_eq hx hb zl_0 (tgt := 65) dX10_party_38 (by decide +kernel) (fun c_15 => ?_) (fun c_15 => by exfalso; omega)
        refine lv_aload_n hx hb dX10_party_65 rfl (lv_at hl 1 rfl) ?_
        refine lv_iconst (v := 1) hx hb dX10_party_66 (by decide +kernel) ?_
        refine kJi (wr := [(k0, .inr (9, [.ref k00, .ref k01, .ref k02, .ref k03, .ref k04, .ref k05, .int c06, .int c07, .int c08])), (k05, .inr (3, [.ref k050, .int c051])), (k050, .inl (cI, 36, .inl c050))]) (va_runV (As := [.int 1]) (rest := []) ⟨hx, hb, hml, hown, hT⟩ (c_X10_findingG l D cI aK aV k k0 k1 k2 k3 k4 k5 k6 k7 k8 k9 ka kb H.size cc cb 1) (cwV 1 hT (gV_in mw_338 mw_335 mw_337 mw_p1_0 mw_1) rfl rfl rfl (by decide +kernel) ⟨Nat.le_of_ble_eq_true rfl, Nat.le_of_ble_eq_true rfl⟩) (kRecvX (q0 := 0) (ci := 10) hK hP hD hN hXS hS hA rfl rfl [0, 2] rfl (by decide +kernel)) rfl rfl hl.1 rfl (lv_room (Nat.le_of_ble_eq_true rfl)) dX10_party_67 ⟨Nat.le_of_ble_eq_true rfl, Nat.le_of_ble_eq_true rfl⟩) hP hD hS hA [0, 2] [1, 3, 4] rfl rfl (by decide +kernel) (by decide +kernel) ?_
        clear hP hD hS
        intro r_16 scb_18 H locs w_17 hP hD hS
        replace hP : va_P D vwCl [(k0, .inr (9, [.ref k00, .ref k01, .ref k02, .ref k03, .ref k04, .ref k05, .int c06, .int c07, .int c08])), (k05, .inr (3, [.ref k050, .int c051])), (k050, .inl (cI, 36, .inl c050)), (k, .inr (10, [.ref k0, .ref k1, .ref k2, .ref k3, .ref k4, .ref k5, .ref k6, .ref k7, .ref k8, .ref k9, .ref ka, .ref kb, .int cc])), (kb, .inl (cI, 6, .inl scb_18))] H := hP
        replace hD : va_D A [(k0, .inr (9, [.ref k00, .ref k01, .ref k02, .ref k03, .ref k04, .ref k05, .int c06, .int c07, .int c08])), (k05, .inr (3, [.ref k050, .int c051])), (k050, .inl (cI, 36, .inl c050)), (k, .inr (10, [.ref k0, .ref k1, .ref k2, .ref k3, .ref k4, .ref k5, .ref k6, .ref k7, .ref k8, .ref k9, .ref ka, .ref kb, .int cc])), (kb, .inl (cI, 6, .inl scb_18))] := hD
        have hr_16 := w_17
        obtain rfl : r_16 = (-1000001) := hr_16.trans (by decide +kernel)
        exact hRet (scb_18, c051, c050) [3, 0, 4, 1, 2] ⟨(by (try dsimp only); unfold partyR; (repeat (first | rw [if_pos (by omega)] | rw [if_neg (by omega)])); first | done | exact (by first | assumption | exact k_inj (by omega))), (WR.gt pre0 (by (try dsimp only); unfold partyS; (repeat (first | rw [if_pos (by omega)] | rw [if_neg (by omega)]))))⟩ hP hD (by decide +kernel) rfl hS rfl dX10_party_70
      · refine lv_iload hx hb dX10_party_22 (lv_at hl 4 rfl) ?_
        refine lv_bipush (v := 99) hx hb dX10_party_24 (by decide +kernel) ?_
        refine b_icmp_gt hx hb rfl zl_99 (tgt := 33) dX10_party_26 (by decide +kernel) (fun c_19 => ?_) (fun c_19 => ?_)
        · refine lv_iconst (v := 0) hx hb dX10_party_33 (by decide +kernel) ?_
          refine lv_istore (lv' := [(5, .int 0), (0, .ref k), (1, .int a0), (2, .int a1), (3, .int a2), (4, .int a3)]) hx hb dX10_party_34 hl (by decide +kernel) rfl ?_
          clear hl
          intro ls hl
          refine lv_iload hx hb dX10_party_36 (lv_at hl 0 rfl) ?_
          refine b_if_eq hx hb zl_0 (tgt := 65) dX10_party_38 (by decide +kernel) (fun c_20 => ?_) (fun c_20 => by exfalso; omega)
          refine lv_aload_n hx hb dX10_party_65 rfl (lv_at hl 1 rfl) ?_
          refine lv_iconst (v := 1) hx hb dX10_party_66 (by decide +kernel) ?_
          refine kJi (wr := [(k0, .inr (9, [.ref k00, .ref k01, .ref k02, .ref k03, .ref k04, .ref k05, .int c06, .int c07, .int c08])), (k05, .inr (3, [.ref k050, .int c051])), (k050, .inl (cI, 36, .inl c050))]) (va_runV (As := [.int 1]) (rest := []) ⟨hx, hb, hml, hown, hT⟩ (c_X10_findingG l D cI aK aV k k0 k1 k2 k3 k4 k5 k6 k7 k8 k9 ka kb H.size cc cb 1) (cwV 1 hT (gV_in mw_338 mw_335 mw_337 mw_p1_0 mw_1) rfl rfl rfl (by decide +kernel) ⟨Nat.le_of_ble_eq_true rfl, Nat.le_of_ble_eq_true rfl⟩) (kRecvX (q0 := 0) (ci := 10) hK hP hD hN hXS hS hA rfl rfl [0, 2] rfl (by decide +kernel)) rfl rfl hl.1 rfl (lv_room (Nat.le_of_ble_eq_true rfl)) dX10_party_67 ⟨Nat.le_of_ble_eq_true rfl, Nat.le_of_ble_eq_true rfl⟩) hP hD hS hA [0, 2] [1, 3, 4] rfl rfl (by decide +kernel) (by decide +kernel) ?_
          clear hP hD hS
          intro r_21 scb_23 H locs w_22 hP hD hS
          replace hP : va_P D vwCl [(k0, .inr (9, [.ref k00, .ref k01, .ref k02, .ref k03, .ref k04, .ref k05, .int c06, .int c07, .int c08])), (k05, .inr (3, [.ref k050, .int c051])), (k050, .inl (cI, 36, .inl c050)), (k, .inr (10, [.ref k0, .ref k1, .ref k2, .ref k3, .ref k4, .ref k5, .ref k6, .ref k7, .ref k8, .ref k9, .ref ka, .ref kb, .int cc])), (kb, .inl (cI, 6, .inl scb_23))] H := hP
          replace hD : va_D A [(k0, .inr (9, [.ref k00, .ref k01, .ref k02, .ref k03, .ref k04, .ref k05, .int c06, .int c07, .int c08])), (k05, .inr (3, [.ref k050, .int c051])), (k050, .inl (cI, 36, .inl c050)), (k, .inr (10, [.ref k0, .ref k1, .ref k2, .ref k3, .ref k4, .ref k5, .ref k6, .ref k7, .ref k8, .ref k9, .ref ka, .ref kb, .int cc])), (kb, .inl (cI, 6, .inl scb_23))] := hD
          have hr_21 := w_22
          obtain rfl : r_21 = (-1000001) := hr_21.trans (by decide +kernel)
          exact hRet (scb_23, c051, c050) [3, 0, 4, 1, 2] ⟨(by (try dsimp only); unfold partyR; (repeat (first | rw [if_pos (by omega)] | rw [if_neg (by omega)])); first | done | exact (by first | assumption | exact k_inj (by omega))), (WR.gt pre0 (by (try dsimp only); unfold partyS; (repeat (first | rw [if_pos (by omega)] | rw [if_neg (by omega)]))))⟩ hP hD (by decide +kernel) rfl hS rfl dX10_party_70
        · refine lv_iconst (v := 1) hx hb dX10_party_29 (by decide +kernel) ?_
          refine lv_goto (tgt := 34) hx hb dX10_party_30 (by decide +kernel) ?_
          refine lv_istore (lv' := [(5, .int 1), (0, .ref k), (1, .int a0), (2, .int a1), (3, .int a2), (4, .int a3)]) hx hb dX10_party_34 hl (by decide +kernel) rfl ?_
          clear hl
          intro ls hl
          refine lv_iload hx hb dX10_party_36 (lv_at hl 0 rfl) ?_
          refine b_if_eq hx hb zl_1 (tgt := 65) dX10_party_38 (by decide +kernel) (fun c_24 => by exfalso; omega) (fun c_24 => ?_)
          refine lv_iload_n hx hb dX10_party_41 rfl (lv_at hl 4 rfl) ?_
          refine lv_bipush (v := 100) hx hb dX10_party_42 (by decide +kernel) ?_
          refine b_icmp_lt hx hb rfl zl_100 (tgt := 65) dX10_party_44 (by decide +kernel) (fun c_25 => ?_) (fun c_25 => ?_)
          · refine lv_aload_n hx hb dX10_party_65 rfl (lv_at hl 1 rfl) ?_
            refine lv_iconst (v := 1) hx hb dX10_party_66 (by decide +kernel) ?_
            refine kJi (wr := [(k0, .inr (9, [.ref k00, .ref k01, .ref k02, .ref k03, .ref k04, .ref k05, .int c06, .int c07, .int c08])), (k05, .inr (3, [.ref k050, .int c051])), (k050, .inl (cI, 36, .inl c050))]) (va_runV (As := [.int 1]) (rest := []) ⟨hx, hb, hml, hown, hT⟩ (c_X10_findingG l D cI aK aV k k0 k1 k2 k3 k4 k5 k6 k7 k8 k9 ka kb H.size cc cb 1) (cwV 1 hT (gV_in mw_338 mw_335 mw_337 mw_p1_0 mw_1) rfl rfl rfl (by decide +kernel) ⟨Nat.le_of_ble_eq_true rfl, Nat.le_of_ble_eq_true rfl⟩) (kRecvX (q0 := 0) (ci := 10) hK hP hD hN hXS hS hA rfl rfl [0, 2] rfl (by decide +kernel)) rfl rfl hl.1 rfl (lv_room (Nat.le_of_ble_eq_true rfl)) dX10_party_67 ⟨Nat.le_of_ble_eq_true rfl, Nat.le_of_ble_eq_true rfl⟩) hP hD hS hA [0, 2] [1, 3, 4] rfl rfl (by decide +kernel) (by decide +kernel) ?_
            clear hP hD hS
            intro r_26 scb_28 H locs w_27 hP hD hS
            replace hP : va_P D vwCl [(k0, .inr (9, [.ref k00, .ref k01, .ref k02, .ref k03, .ref k04, .ref k05, .int c06, .int c07, .int c08])), (k05, .inr (3, [.ref k050, .int c051])), (k050, .inl (cI, 36, .inl c050)), (k, .inr (10, [.ref k0, .ref k1, .ref k2, .ref k3, .ref k4, .ref k5, .ref k6, .ref k7, .ref k8, .ref k9, .ref ka, .ref kb, .int cc])), (kb, .inl (cI, 6, .inl scb_28))] H := hP
            replace hD : va_D A [(k0, .inr (9, [.ref k00, .ref k01, .ref k02, .ref k03, .ref k04, .ref k05, .int c06, .int c07, .int c08])), (k05, .inr (3, [.ref k050, .int c051])), (k050, .inl (cI, 36, .inl c050)), (k, .inr (10, [.ref k0, .ref k1, .ref k2, .ref k3, .ref k4, .ref k5, .ref k6, .ref k7, .ref k8, .ref k9, .ref ka, .ref kb, .int cc])), (kb, .inl (cI, 6, .inl scb_28))] := hD
            have hr_26 := w_27
            obtain rfl : r_26 = (-1000001) := hr_26.trans (by decide +kernel)
            exact hRet (scb_28, c051, c050) [3, 0, 4, 1, 2] ⟨(by (try dsimp only); unfold partyR; (repeat (first | rw [if_pos (by omega)] | rw [if_neg (by omega)])); first | done | exact (by first | assumption | exact k_inj (by omega))), (WR.gt pre0 (by (try dsimp only); unfold partyS; (repeat (first | rw [if_pos (by omega)] | rw [if_neg (by omega)]))))⟩ hP hD (by decide +kernel) rfl hS rfl dX10_party_70
          · refine lv_iload_n hx hb dX10_party_47 rfl (lv_at hl 4 rfl) ?_
            refine lv_bipush (v := 100) hx hb dX10_party_48 (by decide +kernel) ?_
            refine lv_idiv hx hb dX10_party_50 (by decide +kernel) ?_
            refine lv_topi (fun v_29 ev_29 => ?_)
            have tv_29 : v_29.toInt = a2.toInt / 100 := k_divv (w := 0) ev_29 zl_100 (by omega) (by decide +kernel)
            have lo_v_29 := k_lo v_29
            have hi_v_29 := k_hi v_29
            refine lv_bipush (v := 50) hx hb dX10_party_51 (by decide +kernel) ?_
            refine b_icmp_gt hx hb rfl zl_50 (tgt := 65) dX10_party_53 (by decide +kernel) (fun c_30 => ?_) (fun c_30 => ?_)
            · refine lv_aload_n hx hb dX10_party_65 rfl (lv_at hl 1 rfl) ?_
              refine lv_iconst (v := 1) hx hb dX10_party_66 (by decide +kernel) ?_
              refine kJi (wr := [(k0, .inr (9, [.ref k00, .ref k01, .ref k02, .ref k03, .ref k04, .ref k05, .int c06, .int c07, .int c08])), (k05, .inr (3, [.ref k050, .int c051])), (k050, .inl (cI, 36, .inl c050))]) (va_runV (As := [.int 1]) (rest := []) ⟨hx, hb, hml, hown, hT⟩ (c_X10_findingG l D cI aK aV k k0 k1 k2 k3 k4 k5 k6 k7 k8 k9 ka kb H.size cc cb 1) (cwV 1 hT (gV_in mw_338 mw_335 mw_337 mw_p1_0 mw_1) rfl rfl rfl (by decide +kernel) ⟨Nat.le_of_ble_eq_true rfl, Nat.le_of_ble_eq_true rfl⟩) (kRecvX (q0 := 0) (ci := 10) hK hP hD hN hXS hS hA rfl rfl [0, 2] rfl (by decide +kernel)) rfl rfl hl.1 rfl (lv_room (Nat.le_of_ble_eq_true rfl)) dX10_party_67 ⟨Nat.le_of_ble_eq_true rfl, Nat.le_of_ble_eq_true rfl⟩) hP hD hS hA [0, 2] [1, 3, 4] rfl rfl (by decide +kernel) (by decide +kernel) ?_
              clear hP hD hS
              intro r_31 scb_33 H locs w_32 hP hD hS
              replace hP : va_P D vwCl [(k0, .inr (9, [.ref k00, .ref k01, .ref k02, .ref k03, .ref k04, .ref k05, .int c06, .int c07, .int c08])), (k05, .inr (3, [.ref k050, .int c051])), (k050, .inl (cI, 36, .inl c050)), (k, .inr (10, [.ref k0, .ref k1, .ref k2, .ref k3, .ref k4, .ref k5, .ref k6, .ref k7, .ref k8, .ref k9, .ref ka, .ref kb, .int cc])), (kb, .inl (cI, 6, .inl scb_33))] H := hP
              replace hD : va_D A [(k0, .inr (9, [.ref k00, .ref k01, .ref k02, .ref k03, .ref k04, .ref k05, .int c06, .int c07, .int c08])), (k05, .inr (3, [.ref k050, .int c051])), (k050, .inl (cI, 36, .inl c050)), (k, .inr (10, [.ref k0, .ref k1, .ref k2, .ref k3, .ref k4, .ref k5, .ref k6, .ref k7, .ref k8, .ref k9, .ref ka, .ref kb, .int cc])), (kb, .inl (cI, 6, .inl scb_33))] := hD
              have hr_31 := w_32
              obtain rfl : r_31 = (-1000001) := hr_31.trans (by decide +kernel)
              exact hRet (scb_33, c051, c050) [3, 0, 4, 1, 2] ⟨(by (try dsimp only); unfold partyR; (repeat (first | rw [if_pos (by omega)] | rw [if_neg (by omega)])); first | done | exact (by first | assumption | exact k_inj (by omega))), (WR.gt pre0 (by (try dsimp only); unfold partyS; (repeat (first | rw [if_pos (by omega)] | rw [if_neg (by omega)]))))⟩ hP hD (by decide +kernel) rfl hS rfl dX10_party_70
            · refine lv_iload_n hx hb dX10_party_56 rfl (lv_at hl 4 rfl) ?_
              refine lv_bipush (v := 100) hx hb dX10_party_57 (by decide +kernel) ?_
              refine lv_irem hx hb dX10_party_59 (by decide +kernel) ?_
              refine lv_topi (fun v_34 ev_34 => ?_)
              have tv_34 : v_34.toInt = a2.toInt % 100 := k_remv (w := 0) ev_34 zl_100 (by omega) (by decide +kernel)
              have lo_v_34 := k_lo v_34
              have hi_v_34 := k_hi v_34
              refine lv_bipush (v := 50) hx hb dX10_party_60 (by decide +kernel) ?_
              refine b_icmp_le hx hb rfl zl_50 (tgt := 71) dX10_party_62 (by decide +kernel) (fun c_35 => ?_) (fun c_35 => ?_)
              · refine lv_aload_n hx hb dX10_party_71 rfl (lv_at hl 1 rfl) ?_
                refine va_get (D := D) (ci := 10) (v := .ref k0) (C := RX10) (T := TX10) (N := 13) hx hb hT giX10 hown hK hP 0 rfl rfl 0 (by decide +kernel) (hT (Cond.fieldLink RX10 12 "DesertWire" "now" "LDesertWire$World;") mw_291) (fun _ h9 => h9) rfl dX10_party_72 ?_
                refine va_get (D := D) (ci := 9) (v := .ref k05) (C := RX9) (T := TX9) (N := 9) hx hb hT giX9 hown hK hP 1 rfl rfl 5 (by decide +kernel) (hT (Cond.fieldLink RX10 193 "DesertWire$World" "parties" "LDesertWire$Parties;") mw_102) (fun _ h9 => h9) rfl dX10_party_75 ?_
                refine kJi (wr := [(k, .inr (10, [.ref k0, .ref k1, .ref k2, .ref k3, .ref k4, .ref k5, .ref k6, .ref k7, .ref k8, .ref k9, .ref ka, .ref kb, .int cc])), (k0, .inr (9, [.ref k00, .ref k01, .ref k02, .ref k03, .ref k04, .ref k05, .int c06, .int c07, .int c08])), (kb, .inl (cI, 6, .inl cb)), (k050, .inl (cI, 36, .inl c050))]) (va_runV (As := []) (rest := []) ⟨hx, hb, hml, hown, hT⟩ (c_X3_hasRoomG l D cI aK aV k05 k050 H.size c051) (cwV 0 hT (gV_in mw_704 mw_701 mw_702 mw_703 mw_4) rfl rfl rfl (by decide +kernel) ⟨Nat.le_of_ble_eq_true rfl, Nat.le_of_ble_eq_true rfl⟩) (kRecvX (q0 := 3) (ci := 3) hK hP hD hN hXS hS hA rfl rfl [3] rfl (by decide +kernel)) rfl rfl hl.1 rfl (lv_room (Nat.le_of_ble_eq_true rfl)) dX10_party_78 ⟨Nat.le_of_ble_eq_true rfl, Nat.le_of_ble_eq_true rfl⟩) hP hD hS hA [3] [0, 1, 2, 4] rfl rfl (by decide +kernel) (by decide +kernel) ?_
                clear hP hD hS
                intro r_36 u_38 H locs w_37 hP hD hS
                replace hP : va_P D vwCl [(k, .inr (10, [.ref k0, .ref k1, .ref k2, .ref k3, .ref k4, .ref k5, .ref k6, .ref k7, .ref k8, .ref k9, .ref ka, .ref kb, .int cc])), (k0, .inr (9, [.ref k00, .ref k01, .ref k02, .ref k03, .ref k04, .ref k05, .int c06, .int c07, .int c08])), (kb, .inl (cI, 6, .inl cb)), (k050, .inl (cI, 36, .inl c050)), (k05, .inr (3, [.ref k050, .int c051]))] H := hP
                replace hD : va_D A [(k, .inr (10, [.ref k0, .ref k1, .ref k2, .ref k3, .ref k4, .ref k5, .ref k6, .ref k7, .ref k8, .ref k9, .ref ka, .ref kb, .int cc])), (k0, .inr (9, [.ref k00, .ref k01, .ref k02, .ref k03, .ref k04, .ref k05, .int c06, .int c07, .int c08])), (kb, .inl (cI, 6, .inl cb)), (k050, .inl (cI, 36, .inl c050)), (k05, .inr (3, [.ref k050, .int c051]))] := hD
                rcases w_37 with ⟨hr_36, h_39, h_40⟩ | ⟨hr_36, h_41⟩
                · have h_39 : 0 ≤ c051.toInt := h_39
                  have h_40 : c051.toInt < 4 := h_40
                  obtain rfl : r_36 = 1 := hr_36.trans (by decide +kernel)
                  refine b_if_ne hx hb zl_1 (tgt := 90) dX10_party_81 (by decide +kernel) (fun c_42 => ?_) (fun c_42 => by exfalso; omega)
                  refine lv_aload_n hx hb dX10_party_90 rfl (lv_at hl 1 rfl) ?_
                  refine va_get (D := D) (ci := 10) (v := .ref k0) (C := RX10) (T := TX10) (N := 13) hx hb hT giX10 hown hK hP 0 rfl rfl 0 (by decide +kernel) (hT (Cond.fieldLink RX10 12 "DesertWire" "now" "LDesertWire$World;") mw_291) (fun _ h9 => h9) rfl dX10_party_91 ?_
                  refine va_get (D := D) (ci := 9) (v := .ref k05) (C := RX9) (T := TX9) (N := 9) hx hb hT giX9 hown hK hP 1 rfl rfl 5 (by decide +kernel) (hT (Cond.fieldLink RX10 193 "DesertWire$World" "parties" "LDesertWire$Parties;") mw_102) (fun _ h9 => h9) rfl dX10_party_94 ?_
                  refine kJi (wr := [(k, .inr (10, [.ref k0, .ref k1, .ref k2, .ref k3, .ref k4, .ref k5, .ref k6, .ref k7, .ref k8, .ref k9, .ref ka, .ref kb, .int cc])), (k0, .inr (9, [.ref k00, .ref k01, .ref k02, .ref k03, .ref k04, .ref k05, .int c06, .int c07, .int c08])), (kb, .inl (cI, 6, .inl cb))]) (va_runV (As := []) (rest := []) ⟨hx, hb, hml, hown, hT⟩ (c_X3_addD l D cI aK aV k05 k050 H.size c051 c050 gx (WR.kp pre0) (by first | omega | decide | assumption | rfl)) (cwV 0 hT (gV_in mw_708 mw_705 mw_706 mw_707 mw_4) rfl rfl rfl (by decide +kernel) ⟨Nat.le_of_ble_eq_true rfl, Nat.le_of_ble_eq_true rfl⟩) (kRecvX (q0 := 4) (ci := 3) hK hP hD hN hXS hS hA rfl rfl [4, 3] rfl (by decide +kernel)) rfl rfl hl.1 rfl (lv_room (Nat.le_of_ble_eq_true rfl)) dX10_party_97 ⟨Nat.le_of_ble_eq_true rfl, Nat.le_of_ble_eq_true rfl⟩) hP hD hS hA [4, 3] [0, 1, 2] rfl rfl (by decide +kernel) (by decide +kernel) ?_
                  clear hP hD hS
                  intro r_43 u_47 H locs w_44 hP hD hS
                  obtain ⟨sc1_45, sc0_46⟩ := u_47
                  replace hP : va_P D vwCl [(k, .inr (10, [.ref k0, .ref k1, .ref k2, .ref k3, .ref k4, .ref k5, .ref k6, .ref k7, .ref k8, .ref k9, .ref ka, .ref kb, .int cc])), (k0, .inr (9, [.ref k00, .ref k01, .ref k02, .ref k03, .ref k04, .ref k05, .int c06, .int c07, .int c08])), (kb, .inl (cI, 6, .inl cb)), (k05, .inr (3, [.ref k050, .int sc1_45])), (k050, .inl (cI, 36, .inl sc0_46))] H := hP
                  replace hD : va_D A [(k, .inr (10, [.ref k0, .ref k1, .ref k2, .ref k3, .ref k4, .ref k5, .ref k6, .ref k7, .ref k8, .ref k9, .ref ka, .ref kb, .int cc])), (k0, .inr (9, [.ref k00, .ref k01, .ref k02, .ref k03, .ref k04, .ref k05, .int c06, .int c07, .int c08])), (kb, .inl (cI, 6, .inl cb)), (k05, .inr (3, [.ref k050, .int sc1_45])), (k050, .inl (cI, 36, .inl sc0_46))] := hD
                  have lo_sc1_45 := k_lo sc1_45
                  have hi_sc1_45 := k_hi sc1_45
                  obtain ⟨h_48, h_49, h_50, h_51⟩ := w_44
                  have h_48 : r_43 = c051 := h_48
                  have h_49 : r_43.toInt = c051.toInt := h_49
                  have h_50 : sc1_45.toInt = c051.toInt + 1 := h_50
                  have h_51 : PTR sc0_46 sc1_45 (padS gx) := h_51
                  obtain ⟨gg_52, egg_52⟩ : ∃ g_ : Nat → Int32, g_ = (padS gx) := ⟨_, rfl⟩
                  rw [← egg_52] at h_51
                  have hW_53 : WR c00 c01 c02 c03 c040 c041 c042 c043 c044 c045 c046 c047 c048 c049 sc0_46 sc1_45 c06 c07 c08 gg_52 := WR.ofP pre0 h_51 (by rw [egg_52]; exact OFP.pad (by omega))
                  have b_54 : 0 ≤ sc1_45.toInt ∧ sc1_45.toInt ≤ 4 := ((WR.kp hW_53)).2.1
                  have t_55 : sc1_45.toInt = (gg_52 2).toInt := PTR.nt (WR.kp hW_53)
                  have lo_r_43 := k_lo r_43
                  have hi_r_43 := k_hi r_43
                  refine lv_istore (lv' := [(6, .int r_43), (5, .int 1), (0, .ref k), (1, .int a0), (2, .int a1), (3, .int a2), (4, .int a3)]) hx hb dX10_party_100 hl (by decide +kernel) rfl ?_
                  clear hl
                  intro ls hl
                  refine lv_aload_n hx hb dX10_party_102 rfl (lv_at hl 2 rfl) ?_
                  refine va_get (D := D) (ci := 10) (v := .ref k0) (C := RX10) (T := TX10) (N := 13) hx hb hT giX10 hown hK hP 0 rfl rfl 0 (by decide +kernel) (hT (Cond.fieldLink RX10 12 "DesertWire" "now" "LDesertWire$World;") mw_291) (fun _ h9 => h9) rfl dX10_party_103 ?_
                  refine va_get (D := D) (ci := 9) (v := .ref k05) (C := RX9) (T := TX9) (N := 9) hx hb hT giX9 hown hK hP 1 rfl rfl 5 (by decide +kernel) (hT (Cond.fieldLink RX10 193 "DesertWire$World" "parties" "LDesertWire$Parties;") mw_102) (fun _ h9 => h9) rfl dX10_party_106 ?_
                  refine lv_iload hx hb dX10_party_109 (lv_at hl 0 rfl) ?_
                  refine lv_iconst (v := 0) hx hb dX10_party_111 (by decide +kernel) ?_
                  refine lv_iload_n hx hb dX10_party_112 rfl (lv_at hl 3 rfl) ?_
                  refine kJv (wr := [(k, .inr (10, [.ref k0, .ref k1, .ref k2, .ref k3, .ref k4, .ref k5, .ref k6, .ref k7, .ref k8, .ref k9, .ref ka, .ref kb, .int cc])), (k0, .inr (9, [.ref k00, .ref k01, .ref k02, .ref k03, .ref k04, .ref k05, .int c06, .int c07, .int c08])), (kb, .inl (cI, 6, .inl cb))]) (va_runV (As := [.int r_43, .int 0, .int a0]) (rest := []) ⟨hx, hb, hml, hown, hT⟩ (c_X3_setD0 l D cI aK aV k05 k050 H.size sc1_45 sc0_46 gg_52 r_43 0 a0 (WR.kp hW_53) (by first | omega | (simp only [zl_0]; first | done | omega) | decide | assumption | rfl) (by first | omega | (simp only [zl_0]; first | done | omega) | decide | assumption | rfl) (by first | omega | (simp only [zl_0]; first | done | omega) | decide | assumption | rfl)) (cwV 3 hT (gV_in mw_713 mw_710 mw_711 mw_712 mw_4) rfl rfl rfl (by decide +kernel) ⟨Nat.le_of_ble_eq_true rfl, Nat.le_of_ble_eq_true rfl⟩) (kRecvX (q0 := 3) (ci := 3) hK hP hD hN hXS hS hA rfl rfl [3, 4] rfl (by decide +kernel)) rfl rfl hl.1 rfl (lv_room (Nat.le_of_ble_eq_true rfl)) dX10_party_113 ⟨Nat.le_of_ble_eq_true rfl, Nat.le_of_ble_eq_true rfl⟩) hP hD hS hA [3, 4] [0, 1, 2] rfl rfl (by decide +kernel) (by decide +kernel) ?_
                  clear hP hD hS
                  intro sc0_58 H locs w_57 hP hD hS
                  replace hP : va_P D vwCl [(k, .inr (10, [.ref k0, .ref k1, .ref k2, .ref k3, .ref k4, .ref k5, .ref k6, .ref k7, .ref k8, .ref k9, .ref ka, .ref kb, .int cc])), (k0, .inr (9, [.ref k00, .ref k01, .ref k02, .ref k03, .ref k04, .ref k05, .int c06, .int c07, .int c08])), (kb, .inl (cI, 6, .inl cb)), (k05, .inr (3, [.ref k050, .int sc1_45])), (k050, .inl (cI, 36, .inl sc0_58))] H := hP
                  replace hD : va_D A [(k, .inr (10, [.ref k0, .ref k1, .ref k2, .ref k3, .ref k4, .ref k5, .ref k6, .ref k7, .ref k8, .ref k9, .ref ka, .ref kb, .int cc])), (k0, .inr (9, [.ref k00, .ref k01, .ref k02, .ref k03, .ref k04, .ref k05, .int c06, .int c07, .int c08])), (kb, .inl (cI, 6, .inl cb)), (k05, .inr (3, [.ref k050, .int sc1_45])), (k050, .inl (cI, 36, .inl sc0_58))] := hD
                  have h_59 := w_57
                  try simp only [zl_0] at h_59
                  have h_59 : PTR sc0_58 sc1_45 (upd gg_52 (459 + 9 * r_43.toInt.toNat + 0) a0) := h_59
                  have h_59 : PTR sc0_58 sc1_45 (upd gg_52 (459 + 9 * r_43.toInt.toNat + 0) a0) := h_59
                  obtain ⟨gg_60, egg_60⟩ : ∃ g_ : Nat → Int32, g_ = (upd gg_52 (459 + 9 * r_43.toInt.toNat + 0) a0) := ⟨_, rfl⟩
                  rw [← egg_60] at h_59
                  have hW_61 : WR c00 c01 c02 c03 c040 c041 c042 c043 c044 c045 c046 c047 c048 c049 sc0_58 sc1_45 c06 c07 c08 gg_60 := WR.ofP hW_53 h_59 (by rw [egg_60]; exact OFP.up (by omega))
                  refine lv_aload_n hx hb dX10_party_116 rfl (lv_at hl 2 rfl) ?_
                  refine va_get (D := D) (ci := 10) (v := .ref k0) (C := RX10) (T := TX10) (N := 13) hx hb hT giX10 hown hK hP 0 rfl rfl 0 (by decide +kernel) (hT (Cond.fieldLink RX10 12 "DesertWire" "now" "LDesertWire$World;") mw_291) (fun _ h9 => h9) rfl dX10_party_117 ?_
                  refine va_get (D := D) (ci := 9) (v := .ref k05) (C := RX9) (T := TX9) (N := 9) hx hb hT giX9 hown hK hP 1 rfl rfl 5 (by decide +kernel) (hT (Cond.fieldLink RX10 193 "DesertWire$World" "parties" "LDesertWire$Parties;") mw_102) (fun _ h9 => h9) rfl dX10_party_120 ?_
                  refine lv_iload hx hb dX10_party_123 (lv_at hl 0 rfl) ?_
                  refine lv_iconst (v := 1) hx hb dX10_party_125 (by decide +kernel) ?_
                  refine lv_iload_n hx hb dX10_party_126 rfl (lv_at hl 4 rfl) ?_
                  refine kJv (wr := [(k, .inr (10, [.ref k0, .ref k1, .ref k2, .ref k3, .ref k4, .ref k5, .ref k6, .ref k7, .ref k8, .ref k9, .ref ka, .ref kb, .int cc])), (k0, .inr (9, [.ref k00, .ref k01, .ref k02, .ref k03, .ref k04, .ref k05, .int c06, .int c07, .int c08])), (kb, .inl (cI, 6, .inl cb))]) (va_runV (As := [.int r_43, .int 1, .int a1]) (rest := []) ⟨hx, hb, hml, hown, hT⟩ (c_X3_setD1 l D cI aK aV k05 k050 H.size sc1_45 sc0_58 gg_60 r_43 1 a1 (WR.kp hW_61) (by first | omega | (simp only [zl_1]; first | done | omega) | decide | assumption | rfl) (by first | omega | (simp only [zl_1]; first | done | omega) | decide | assumption | rfl) (by first | omega | (simp only [zl_1]; first | done | omega) | decide | assumption | rfl)) (cwV 3 hT (gV_in mw_713 mw_710 mw_711 mw_712 mw_4) rfl rfl rfl (by decide +kernel) ⟨Nat.le_of_ble_eq_true rfl, Nat.le_of_ble_eq_true rfl⟩) (kRecvX (q0 := 3) (ci := 3) hK hP hD hN hXS hS hA rfl rfl [3, 4] rfl (by decide +kernel)) rfl rfl hl.1 rfl (lv_room (Nat.le_of_ble_eq_true rfl)) dX10_party_127 ⟨Nat.le_of_ble_eq_true rfl, Nat.le_of_ble_eq_true rfl⟩) hP hD hS hA [3, 4] [0, 1, 2] rfl rfl (by decide +kernel) (by decide +kernel) ?_
                  clear hP hD hS
                  intro sc0_64 H locs w_63 hP hD hS
                  replace hP : va_P D vwCl [(k, .inr (10, [.ref k0, .ref k1, .ref k2, .ref k3, .ref k4, .ref k5, .ref k6, .ref k7, .ref k8, .ref k9, .ref ka, .ref kb, .int cc])), (k0, .inr (9, [.ref k00, .ref k01, .ref k02, .ref k03, .ref k04, .ref k05, .int c06, .int c07, .int c08])), (kb, .inl (cI, 6, .inl cb)), (k05, .inr (3, [.ref k050, .int sc1_45])), (k050, .inl (cI, 36, .inl sc0_64))] H := hP
                  replace hD : va_D A [(k, .inr (10, [.ref k0, .ref k1, .ref k2, .ref k3, .ref k4, .ref k5, .ref k6, .ref k7, .ref k8, .ref k9, .ref ka, .ref kb, .int cc])), (k0, .inr (9, [.ref k00, .ref k01, .ref k02, .ref k03, .ref k04, .ref k05, .int c06, .int c07, .int c08])), (kb, .inl (cI, 6, .inl cb)), (k05, .inr (3, [.ref k050, .int sc1_45])), (k050, .inl (cI, 36, .inl sc0_64))] := hD
                  have h_65 := w_63
                  try simp only [zl_1] at h_65
                  have h_65 : PTR sc0_64 sc1_45 (upd gg_60 (459 + 9 * r_43.toInt.toNat + 1) a1) := h_65
                  have h_65 : PTR sc0_64 sc1_45 (upd gg_60 (459 + 9 * r_43.toInt.toNat + 1) a1) := h_65
                  obtain ⟨gg_66, egg_66⟩ : ∃ g_ : Nat → Int32, g_ = (upd gg_60 (459 + 9 * r_43.toInt.toNat + 1) a1) := ⟨_, rfl⟩
                  rw [← egg_66] at h_65
                  have hW_67 : WR c00 c01 c02 c03 c040 c041 c042 c043 c044 c045 c046 c047 c048 c049 sc0_64 sc1_45 c06 c07 c08 gg_66 := WR.ofP hW_61 h_65 (by rw [egg_66]; exact OFP.up (by omega))
                  refine lv_aload_n hx hb dX10_party_130 rfl (lv_at hl 2 rfl) ?_
                  refine va_get (D := D) (ci := 10) (v := .ref k0) (C := RX10) (T := TX10) (N := 13) hx hb hT giX10 hown hK hP 0 rfl rfl 0 (by decide +kernel) (hT (Cond.fieldLink RX10 12 "DesertWire" "now" "LDesertWire$World;") mw_291) (fun _ h9 => h9) rfl dX10_party_131 ?_
                  refine va_get (D := D) (ci := 9) (v := .ref k05) (C := RX9) (T := TX9) (N := 9) hx hb hT giX9 hown hK hP 1 rfl rfl 5 (by decide +kernel) (hT (Cond.fieldLink RX10 193 "DesertWire$World" "parties" "LDesertWire$Parties;") mw_102) (fun _ h9 => h9) rfl dX10_party_134 ?_
                  refine lv_iload hx hb dX10_party_137 (lv_at hl 0 rfl) ?_
                  refine lv_iconst (v := 2) hx hb dX10_party_139 (by decide +kernel) ?_
                  refine lv_iload_n hx hb dX10_party_140 rfl (lv_at hl 5 rfl) ?_
                  refine lv_bipush (v := 100) hx hb dX10_party_141 (by decide +kernel) ?_
                  refine lv_idiv hx hb dX10_party_143 (by decide +kernel) ?_
                  refine lv_topi (fun v_68 ev_68 => ?_)
                  have tv_68 : v_68.toInt = a2.toInt / 100 := k_divv (w := 0) ev_68 zl_100 (by omega) (by decide +kernel)
                  have lo_v_68 := k_lo v_68
                  have hi_v_68 := k_hi v_68
                  refine kJv (wr := [(k, .inr (10, [.ref k0, .ref k1, .ref k2, .ref k3, .ref k4, .ref k5, .ref k6, .ref k7, .ref k8, .ref k9, .ref ka, .ref kb, .int cc])), (k0, .inr (9, [.ref k00, .ref k01, .ref k02, .ref k03, .ref k04, .ref k05, .int c06, .int c07, .int c08])), (kb, .inl (cI, 6, .inl cb))]) (va_runV (As := [.int r_43, .int 2, .int v_68]) (rest := []) ⟨hx, hb, hml, hown, hT⟩ (c_X3_setD2 l D cI aK aV k05 k050 H.size sc1_45 sc0_64 gg_66 r_43 2 v_68 (WR.kp hW_67) (by first | omega | (simp only [zl_2]; first | done | omega) | decide | assumption | rfl) (by first | omega | (simp only [zl_2]; first | done | omega) | decide | assumption | rfl) (by first | omega | (simp only [zl_2]; first | done | omega) | decide | assumption | rfl)) (cwV 3 hT (gV_in mw_713 mw_710 mw_711 mw_712 mw_4) rfl rfl rfl (by decide +kernel) ⟨Nat.le_of_ble_eq_true rfl, Nat.le_of_ble_eq_true rfl⟩) (kRecvX (q0 := 3) (ci := 3) hK hP hD hN hXS hS hA rfl rfl [3, 4] rfl (by decide +kernel)) rfl rfl hl.1 rfl (lv_room (Nat.le_of_ble_eq_true rfl)) dX10_party_144 ⟨Nat.le_of_ble_eq_true rfl, Nat.le_of_ble_eq_true rfl⟩) hP hD hS hA [3, 4] [0, 1, 2] rfl rfl (by decide +kernel) (by decide +kernel) ?_
                  clear hP hD hS
                  intro sc0_71 H locs w_70 hP hD hS
                  replace hP : va_P D vwCl [(k, .inr (10, [.ref k0, .ref k1, .ref k2, .ref k3, .ref k4, .ref k5, .ref k6, .ref k7, .ref k8, .ref k9, .ref ka, .ref kb, .int cc])), (k0, .inr (9, [.ref k00, .ref k01, .ref k02, .ref k03, .ref k04, .ref k05, .int c06, .int c07, .int c08])), (kb, .inl (cI, 6, .inl cb)), (k05, .inr (3, [.ref k050, .int sc1_45])), (k050, .inl (cI, 36, .inl sc0_71))] H := hP
                  replace hD : va_D A [(k, .inr (10, [.ref k0, .ref k1, .ref k2, .ref k3, .ref k4, .ref k5, .ref k6, .ref k7, .ref k8, .ref k9, .ref ka, .ref kb, .int cc])), (k0, .inr (9, [.ref k00, .ref k01, .ref k02, .ref k03, .ref k04, .ref k05, .int c06, .int c07, .int c08])), (kb, .inl (cI, 6, .inl cb)), (k05, .inr (3, [.ref k050, .int sc1_45])), (k050, .inl (cI, 36, .inl sc0_71))] := hD
                  have h_72 := w_70
                  try simp only [zl_2] at h_72
                  have h_72 : PTR sc0_71 sc1_45 (upd gg_66 (459 + 9 * r_43.toInt.toNat + 2) v_68) := h_72
                  have h_72 : PTR sc0_71 sc1_45 (upd gg_66 (459 + 9 * r_43.toInt.toNat + 2) v_68) := h_72
                  obtain ⟨gg_73, egg_73⟩ : ∃ g_ : Nat → Int32, g_ = (upd gg_66 (459 + 9 * r_43.toInt.toNat + 2) v_68) := ⟨_, rfl⟩
                  rw [← egg_73] at h_72
                  have hW_74 : WR c00 c01 c02 c03 c040 c041 c042 c043 c044 c045 c046 c047 c048 c049 sc0_71 sc1_45 c06 c07 c08 gg_73 := WR.ofP hW_67 h_72 (by rw [egg_73]; exact OFP.up (by omega))
                  refine lv_aload_n hx hb dX10_party_147 rfl (lv_at hl 2 rfl) ?_
                  refine va_get (D := D) (ci := 10) (v := .ref k0) (C := RX10) (T := TX10) (N := 13) hx hb hT giX10 hown hK hP 0 rfl rfl 0 (by decide +kernel) (hT (Cond.fieldLink RX10 12 "DesertWire" "now" "LDesertWire$World;") mw_291) (fun _ h9 => h9) rfl dX10_party_148 ?_
                  refine va_get (D := D) (ci := 9) (v := .ref k05) (C := RX9) (T := TX9) (N := 9) hx hb hT giX9 hown hK hP 1 rfl rfl 5 (by decide +kernel) (hT (Cond.fieldLink RX10 193 "DesertWire$World" "parties" "LDesertWire$Parties;") mw_102) (fun _ h9 => h9) rfl dX10_party_151 ?_
                  refine lv_iload hx hb dX10_party_154 (lv_at hl 0 rfl) ?_
                  refine lv_iconst (v := 3) hx hb dX10_party_156 (by decide +kernel) ?_
                  refine lv_iload_n hx hb dX10_party_157 rfl (lv_at hl 5 rfl) ?_
                  refine lv_bipush (v := 100) hx hb dX10_party_158 (by decide +kernel) ?_
                  refine lv_irem hx hb dX10_party_160 (by decide +kernel) ?_
                  refine lv_topi (fun v_75 ev_75 => ?_)
                  have tv_75 : v_75.toInt = a2.toInt % 100 := k_remv (w := 0) ev_75 zl_100 (by omega) (by decide +kernel)
                  have lo_v_75 := k_lo v_75
                  have hi_v_75 := k_hi v_75
                  refine kJv (wr := [(k, .inr (10, [.ref k0, .ref k1, .ref k2, .ref k3, .ref k4, .ref k5, .ref k6, .ref k7, .ref k8, .ref k9, .ref ka, .ref kb, .int cc])), (k0, .inr (9, [.ref k00, .ref k01, .ref k02, .ref k03, .ref k04, .ref k05, .int c06, .int c07, .int c08])), (kb, .inl (cI, 6, .inl cb))]) (va_runV (As := [.int r_43, .int 3, .int v_75]) (rest := []) ⟨hx, hb, hml, hown, hT⟩ (c_X3_setD3 l D cI aK aV k05 k050 H.size sc1_45 sc0_71 gg_73 r_43 3 v_75 (WR.kp hW_74) (by first | omega | (simp only [zl_3]; first | done | omega) | decide | assumption | rfl) (by first | omega | (simp only [zl_3]; first | done | omega) | decide | assumption | rfl) (by first | omega | (simp only [zl_3]; first | done | omega) | decide | assumption | rfl)) (cwV 3 hT (gV_in mw_713 mw_710 mw_711 mw_712 mw_4) rfl rfl rfl (by decide +kernel) ⟨Nat.le_of_ble_eq_true rfl, Nat.le_of_ble_eq_true rfl⟩) (kRecvX (q0 := 3) (ci := 3) hK hP hD hN hXS hS hA rfl rfl [3, 4] rfl (by decide +kernel)) rfl rfl hl.1 rfl (lv_room (Nat.le_of_ble_eq_true rfl)) dX10_party_161 ⟨Nat.le_of_ble_eq_true rfl, Nat.le_of_ble_eq_true rfl⟩) hP hD hS hA [3, 4] [0, 1, 2] rfl rfl (by decide +kernel) (by decide +kernel) ?_
                  clear hP hD hS
                  intro sc0_78 H locs w_77 hP hD hS
                  replace hP : va_P D vwCl [(k, .inr (10, [.ref k0, .ref k1, .ref k2, .ref k3, .ref k4, .ref k5, .ref k6, .ref k7, .ref k8, .ref k9, .ref ka, .ref kb, .int cc])), (k0, .inr (9, [.ref k00, .ref k01, .ref k02, .ref k03, .ref k04, .ref k05, .int c06, .int c07, .int c08])), (kb, .inl (cI, 6, .inl cb)), (k05, .inr (3, [.ref k050, .int sc1_45])), (k050, .inl (cI, 36, .inl sc0_78))] H := hP
                  replace hD : va_D A [(k, .inr (10, [.ref k0, .ref k1, .ref k2, .ref k3, .ref k4, .ref k5, .ref k6, .ref k7, .ref k8, .ref k9, .ref ka, .ref kb, .int cc])), (k0, .inr (9, [.ref k00, .ref k01, .ref k02, .ref k03, .ref k04, .ref k05, .int c06, .int c07, .int c08])), (kb, .inl (cI, 6, .inl cb)), (k05, .inr (3, [.ref k050, .int sc1_45])), (k050, .inl (cI, 36, .inl sc0_78))] := hD
                  have h_79 := w_77
                  try simp only [zl_3] at h_79
                  have h_79 : PTR sc0_78 sc1_45 (upd gg_73 (459 + 9 * r_43.toInt.toNat + 3) v_75) := h_79
                  have h_79 : PTR sc0_78 sc1_45 (upd gg_73 (459 + 9 * r_43.toInt.toNat + 3) v_75) := h_79
                  obtain ⟨gg_80, egg_80⟩ : ∃ g_ : Nat → Int32, g_ = (upd gg_73 (459 + 9 * r_43.toInt.toNat + 3) v_75) := ⟨_, rfl⟩
                  rw [← egg_80] at h_79
                  have hW_81 : WR c00 c01 c02 c03 c040 c041 c042 c043 c044 c045 c046 c047 c048 c049 sc0_78 sc1_45 c06 c07 c08 gg_80 := WR.ofP hW_74 h_79 (by rw [egg_80]; exact OFP.up (by omega))
                  refine lv_aload_n hx hb dX10_party_164 rfl (lv_at hl 2 rfl) ?_
                  refine va_get (D := D) (ci := 10) (v := .ref k0) (C := RX10) (T := TX10) (N := 13) hx hb hT giX10 hown hK hP 0 rfl rfl 0 (by decide +kernel) (hT (Cond.fieldLink RX10 12 "DesertWire" "now" "LDesertWire$World;") mw_291) (fun _ h9 => h9) rfl dX10_party_165 ?_
                  refine va_get (D := D) (ci := 9) (v := .ref k05) (C := RX9) (T := TX9) (N := 9) hx hb hT giX9 hown hK hP 1 rfl rfl 5 (by decide +kernel) (hT (Cond.fieldLink RX10 193 "DesertWire$World" "parties" "LDesertWire$Parties;") mw_102) (fun _ h9 => h9) rfl dX10_party_168 ?_
                  refine lv_iload hx hb dX10_party_171 (lv_at hl 0 rfl) ?_
                  refine lv_iconst (v := 4) hx hb dX10_party_173 (by decide +kernel) ?_
                  refine lv_iload hx hb dX10_party_174 (lv_at hl 6 rfl) ?_
                  refine kJv (wr := [(k, .inr (10, [.ref k0, .ref k1, .ref k2, .ref k3, .ref k4, .ref k5, .ref k6, .ref k7, .ref k8, .ref k9, .ref ka, .ref kb, .int cc])), (k0, .inr (9, [.ref k00, .ref k01, .ref k02, .ref k03, .ref k04, .ref k05, .int c06, .int c07, .int c08])), (kb, .inl (cI, 6, .inl cb))]) (va_runV (As := [.int r_43, .int 4, .int a3]) (rest := []) ⟨hx, hb, hml, hown, hT⟩ (c_X3_setD4 l D cI aK aV k05 k050 H.size sc1_45 sc0_78 gg_80 r_43 4 a3 (WR.kp hW_81) (by first | omega | (simp only [zl_4]; first | done | omega) | decide | assumption | rfl) (by first | omega | (simp only [zl_4]; first | done | omega) | decide | assumption | rfl) (by first | omega | (simp only [zl_4]; first | done | omega) | decide | assumption | rfl)) (cwV 3 hT (gV_in mw_713 mw_710 mw_711 mw_712 mw_4) rfl rfl rfl (by decide +kernel) ⟨Nat.le_of_ble_eq_true rfl, Nat.le_of_ble_eq_true rfl⟩) (kRecvX (q0 := 3) (ci := 3) hK hP hD hN hXS hS hA rfl rfl [3, 4] rfl (by decide +kernel)) rfl rfl hl.1 rfl (lv_room (Nat.le_of_ble_eq_true rfl)) dX10_party_176 ⟨Nat.le_of_ble_eq_true rfl, Nat.le_of_ble_eq_true rfl⟩) hP hD hS hA [3, 4] [0, 1, 2] rfl rfl (by decide +kernel) (by decide +kernel) ?_
                  clear hP hD hS
                  intro sc0_84 H locs w_83 hP hD hS
                  replace hP : va_P D vwCl [(k, .inr (10, [.ref k0, .ref k1, .ref k2, .ref k3, .ref k4, .ref k5, .ref k6, .ref k7, .ref k8, .ref k9, .ref ka, .ref kb, .int cc])), (k0, .inr (9, [.ref k00, .ref k01, .ref k02, .ref k03, .ref k04, .ref k05, .int c06, .int c07, .int c08])), (kb, .inl (cI, 6, .inl cb)), (k05, .inr (3, [.ref k050, .int sc1_45])), (k050, .inl (cI, 36, .inl sc0_84))] H := hP
                  replace hD : va_D A [(k, .inr (10, [.ref k0, .ref k1, .ref k2, .ref k3, .ref k4, .ref k5, .ref k6, .ref k7, .ref k8, .ref k9, .ref ka, .ref kb, .int cc])), (k0, .inr (9, [.ref k00, .ref k01, .ref k02, .ref k03, .ref k04, .ref k05, .int c06, .int c07, .int c08])), (kb, .inl (cI, 6, .inl cb)), (k05, .inr (3, [.ref k050, .int sc1_45])), (k050, .inl (cI, 36, .inl sc0_84))] := hD
                  have h_85 := w_83
                  try simp only [zl_4] at h_85
                  have h_85 : PTR sc0_84 sc1_45 (upd gg_80 (459 + 9 * r_43.toInt.toNat + 4) a3) := h_85
                  have h_85 : PTR sc0_84 sc1_45 (upd gg_80 (459 + 9 * r_43.toInt.toNat + 4) a3) := h_85
                  obtain ⟨gg_86, egg_86⟩ : ∃ g_ : Nat → Int32, g_ = (upd gg_80 (459 + 9 * r_43.toInt.toNat + 4) a3) := ⟨_, rfl⟩
                  rw [← egg_86] at h_85
                  have hW_87 : WR c00 c01 c02 c03 c040 c041 c042 c043 c044 c045 c046 c047 c048 c049 sc0_84 sc1_45 c06 c07 c08 gg_86 := WR.ofP hW_81 h_85 (by rw [egg_86]; exact OFP.up (by omega))
                  refine lv_iload hx hb dX10_party_179 (lv_at hl 0 rfl) ?_
                  exact hRet (cb, sc1_45, sc0_84) [0, 1, 2, 3, 4] ⟨(by (try dsimp only); unfold partyR; (repeat (first | rw [if_pos (by omega)] | rw [if_neg (by omega)])); first | done | exact (by first | assumption | exact k_inj (by omega))), (WR.gt hW_87 (pty_in (p := r_43) (m := v_68) (b := v_75) ⟨by omega, by omega, by omega, by omega, by omega, by omega, by omega, by omega, by omega⟩ (by omega) ev_68 ev_75 egg_52 egg_60 egg_66 egg_73 egg_80 egg_86))⟩ hP hD (by decide +kernel) rfl hS rfl dX10_party_181
                · have h_41 : c051.toInt < 0 ∨ 4 ≤ c051.toInt := h_41
                  obtain rfl : r_36 = 0 := hr_36.trans (by decide +kernel)
                  refine b_if_ne hx hb zl_0 (tgt := 90) dX10_party_81 (by decide +kernel) (fun c_88 => by exfalso; omega) (fun c_88 => ?_)
                  refine lv_aload_n hx hb dX10_party_84 rfl (lv_at hl 1 rfl) ?_
                  refine lv_iconst (v := 4) hx hb dX10_party_85 (by decide +kernel) ?_
                  refine kJi (wr := [(k0, .inr (9, [.ref k00, .ref k01, .ref k02, .ref k03, .ref k04, .ref k05, .int c06, .int c07, .int c08])), (k050, .inl (cI, 36, .inl c050)), (k05, .inr (3, [.ref k050, .int c051]))]) (va_runV (As := [.int 4]) (rest := []) ⟨hx, hb, hml, hown, hT⟩ (c_X10_findingG l D cI aK aV k k0 k1 k2 k3 k4 k5 k6 k7 k8 k9 ka kb H.size cc cb 4) (cwV 1 hT (gV_in mw_338 mw_335 mw_337 mw_p1_0 mw_1) rfl rfl rfl (by decide +kernel) ⟨Nat.le_of_ble_eq_true rfl, Nat.le_of_ble_eq_true rfl⟩) (kRecvX (q0 := 0) (ci := 10) hK hP hD hN hXS hS hA rfl rfl [0, 2] rfl (by decide +kernel)) rfl rfl hl.1 rfl (lv_room (Nat.le_of_ble_eq_true rfl)) dX10_party_86 ⟨Nat.le_of_ble_eq_true rfl, Nat.le_of_ble_eq_true rfl⟩) hP hD hS hA [0, 2] [1, 3, 4] rfl rfl (by decide +kernel) (by decide +kernel) ?_
                  clear hP hD hS
                  intro r_89 scb_91 H locs w_90 hP hD hS
                  replace hP : va_P D vwCl [(k0, .inr (9, [.ref k00, .ref k01, .ref k02, .ref k03, .ref k04, .ref k05, .int c06, .int c07, .int c08])), (k050, .inl (cI, 36, .inl c050)), (k05, .inr (3, [.ref k050, .int c051])), (k, .inr (10, [.ref k0, .ref k1, .ref k2, .ref k3, .ref k4, .ref k5, .ref k6, .ref k7, .ref k8, .ref k9, .ref ka, .ref kb, .int cc])), (kb, .inl (cI, 6, .inl scb_91))] H := hP
                  replace hD : va_D A [(k0, .inr (9, [.ref k00, .ref k01, .ref k02, .ref k03, .ref k04, .ref k05, .int c06, .int c07, .int c08])), (k050, .inl (cI, 36, .inl c050)), (k05, .inr (3, [.ref k050, .int c051])), (k, .inr (10, [.ref k0, .ref k1, .ref k2, .ref k3, .ref k4, .ref k5, .ref k6, .ref k7, .ref k8, .ref k9, .ref ka, .ref kb, .int cc])), (kb, .inl (cI, 6, .inl scb_91))] := hD
                  have hr_89 := w_90
                  obtain rfl : r_89 = (-1000004) := hr_89.trans (by decide +kernel)
                  exact hRet (scb_91, c051, c050) [3, 0, 4, 2, 1] ⟨(by (try dsimp only); unfold partyR; (repeat (first | rw [if_pos (by omega)] | rw [if_neg (by omega)])); first | done | exact (by first | assumption | exact k_inj (by omega))), (WR.gt pre0 (by (try dsimp only); unfold partyS; (repeat (first | rw [if_pos (by omega)] | rw [if_neg (by omega)]))))⟩ hP hD (by decide +kernel) rfl hS rfl dX10_party_89
              · refine lv_aload_n hx hb dX10_party_65 rfl (lv_at hl 1 rfl) ?_
                refine lv_iconst (v := 1) hx hb dX10_party_66 (by decide +kernel) ?_
                refine kJi (wr := [(k0, .inr (9, [.ref k00, .ref k01, .ref k02, .ref k03, .ref k04, .ref k05, .int c06, .int c07, .int c08])), (k05, .inr (3, [.ref k050, .int c051])), (k050, .inl (cI, 36, .inl c050))]) (va_runV (As := [.int 1]) (rest := []) ⟨hx, hb, hml, hown, hT⟩ (c_X10_findingG l D cI aK aV k k0 k1 k2 k3 k4 k5 k6 k7 k8 k9 ka kb H.size cc cb 1) (cwV 1 hT (gV_in mw_338 mw_335 mw_337 mw_p1_0 mw_1) rfl rfl rfl (by decide +kernel) ⟨Nat.le_of_ble_eq_true rfl, Nat.le_of_ble_eq_true rfl⟩) (kRecvX (q0 := 0) (ci := 10) hK hP hD hN hXS hS hA rfl rfl [0, 2] rfl (by decide +kernel)) rfl rfl hl.1 rfl (lv_room (Nat.le_of_ble_eq_true rfl)) dX10_party_67 ⟨Nat.le_of_ble_eq_true rfl, Nat.le_of_ble_eq_true rfl⟩) hP hD hS hA [0, 2] [1, 3, 4] rfl rfl (by decide +kernel) (by decide +kernel) ?_
                clear hP hD hS
                intro r_92 scb_94 H locs w_93 hP hD hS
                replace hP : va_P D vwCl [(k0, .inr (9, [.ref k00, .ref k01, .ref k02, .ref k03, .ref k04, .ref k05, .int c06, .int c07, .int c08])), (k05, .inr (3, [.ref k050, .int c051])), (k050, .inl (cI, 36, .inl c050)), (k, .inr (10, [.ref k0, .ref k1, .ref k2, .ref k3, .ref k4, .ref k5, .ref k6, .ref k7, .ref k8, .ref k9, .ref ka, .ref kb, .int cc])), (kb, .inl (cI, 6, .inl scb_94))] H := hP
                replace hD : va_D A [(k0, .inr (9, [.ref k00, .ref k01, .ref k02, .ref k03, .ref k04, .ref k05, .int c06, .int c07, .int c08])), (k05, .inr (3, [.ref k050, .int c051])), (k050, .inl (cI, 36, .inl c050)), (k, .inr (10, [.ref k0, .ref k1, .ref k2, .ref k3, .ref k4, .ref k5, .ref k6, .ref k7, .ref k8, .ref k9, .ref ka, .ref kb, .int cc])), (kb, .inl (cI, 6, .inl scb_94))] := hD
                have hr_92 := w_93
                obtain rfl : r_92 = (-1000001) := hr_92.trans (by decide +kernel)
                exact hRet (scb_94, c051, c050) [3, 0, 4, 1, 2] ⟨(by (try dsimp only); unfold partyR; (repeat (first | rw [if_pos (by omega)] | rw [if_neg (by omega)])); first | done | exact (by first | assumption | exact k_inj (by omega))), (WR.gt pre0 (by (try dsimp only); unfold partyS; (repeat (first | rw [if_pos (by omega)] | rw [if_neg (by omega)]))))⟩ hP hD (by decide +kernel) rfl hS rfl dX10_party_70
    · refine lv_iload_n hx hb dX10_party_12 rfl (lv_at hl 2 rfl) ?_
      refine lv_iconst (v := (-1)) hx hb dX10_party_13 (by decide +kernel) ?_
      refine b_icmp_ne hx hb rfl zl_m1 (tgt := 33) dX10_party_14 (by decide +kernel) (fun c_95 => ?_) (fun c_95 => ?_)
      · refine lv_iconst (v := 0) hx hb dX10_party_33 (by decide +kernel) ?_
        refine lv_istore (lv' := [(5, .int 0), (0, .ref k), (1, .int a0), (2, .int a1), (3, .int a2), (4, .int a3)]) hx hb dX10_party_34 hl (by decide +kernel) rfl ?_
        clear hl
        intro ls hl
        refine lv_iload hx hb dX10_party_36 (lv_at hl 0 rfl) ?_
        refine b_if_eq hx hb zl_0 (tgt := 65) dX10_party_38 (by decide +kernel) (fun c_96 => ?_) (fun c_96 => by exfalso; omega)
        refine lv_aload_n hx hb dX10_party_65 rfl (lv_at hl 1 rfl) ?_
        refine lv_iconst (v := 1) hx hb dX10_party_66 (by decide +kernel) ?_
        refine kJi (wr := [(k0, .inr (9, [.ref k00, .ref k01, .ref k02, .ref k03, .ref k04, .ref k05, .int c06, .int c07, .int c08])), (k05, .inr (3, [.ref k050, .int c051])), (k050, .inl (cI, 36, .inl c050))]) (va_runV (As := [.int 1]) (rest := []) ⟨hx, hb, hml, hown, hT⟩ (c_X10_findingG l D cI aK aV k k0 k1 k2 k3 k4 k5 k6 k7 k8 k9 ka kb H.size cc cb 1) (cwV 1 hT (gV_in mw_338 mw_335 mw_337 mw_p1_0 mw_1) rfl rfl rfl (by decide +kernel) ⟨Nat.le_of_ble_eq_true rfl, Nat.le_of_ble_eq_true rfl⟩) (kRecvX (q0 := 0) (ci := 10) hK hP hD hN hXS hS hA rfl rfl [0, 2] rfl (by decide +kernel)) rfl rfl hl.1 rfl (lv_room (Nat.le_of_ble_eq_true rfl)) dX10_party_67 ⟨Nat.le_of_ble_eq_true rfl, Nat.le_of_ble_eq_true rfl⟩) hP hD hS hA [0, 2] [1, 3, 4] rfl rfl (by decide +kernel) (by decide +kernel) ?_
        clear hP hD hS
        intro r_97 scb_99 H locs w_98 hP hD hS
        replace hP : va_P D vwCl [(k0, .inr (9, [.ref k00, .ref k01, .ref k02, .ref k03, .ref k04, .ref k05, .int c06, .int c07, .int c08])), (k05, .inr (3, [.ref k050, .int c051])), (k050, .inl (cI, 36, .inl c050)), (k, .inr (10, [.ref k0, .ref k1, .ref k2, .ref k3, .ref k4, .ref k5, .ref k6, .ref k7, .ref k8, .ref k9, .ref ka, .ref kb, .int cc])), (kb, .inl (cI, 6, .inl scb_99))] H := hP
        replace hD : va_D A [(k0, .inr (9, [.ref k00, .ref k01, .ref k02, .ref k03, .ref k04, .ref k05, .int c06, .int c07, .int c08])), (k05, .inr (3, [.ref k050, .int c051])), (k050, .inl (cI, 36, .inl c050)), (k, .inr (10, [.ref k0, .ref k1, .ref k2, .ref k3, .ref k4, .ref k5, .ref k6, .ref k7, .ref k8, .ref k9, .ref ka, .ref kb, .int cc])), (kb, .inl (cI, 6, .inl scb_99))] := hD
        have hr_97 := w_98
        obtain rfl : r_97 = (-1000001) := hr_97.trans (by decide +kernel)
        exact hRet (scb_99, c051, c050) [3, 0, 4, 1, 2] ⟨(by (try dsimp only); unfold partyR; (repeat (first | rw [if_pos (by omega)] | rw [if_neg (by omega)])); first | done | exact (by first | assumption | exact k_inj (by omega))), (WR.gt pre0 (by (try dsimp only); unfold partyS; (repeat (first | rw [if_pos (by omega)] | rw [if_neg (by omega)]))))⟩ hP hD (by decide +kernel) rfl hS rfl dX10_party_70
      · refine lv_iload hx hb dX10_party_17 (lv_at hl 4 rfl) ?_
        refine b_if_lt hx hb rfl (tgt := 33) dX10_party_19 (by decide +kernel) (fun c_100 => ?_) (fun c_100 => ?_)
        · refine lv_iconst (v := 0) hx hb dX10_party_33 (by decide +kernel) ?_
          refine lv_istore (lv' := [(5, .int 0), (0, .ref k), (1, .int a0), (2, .int a1), (3, .int a2), (4, .int a3)]) hx hb dX10_party_34 hl (by decide +kernel) rfl ?_
          clear hl
          intro ls hl
          refine lv_iload hx hb dX10_party_36 (lv_at hl 0 rfl) ?_
          refine b_if_eq hx hb zl_0 (tgt := 65) dX10_party_38 (by decide +kernel) (fun c_101 => ?_) (fun c_101 => by exfalso; omega)
          refine lv_aload_n hx hb dX10_party_65 rfl (lv_at hl 1 rfl) ?_
          refine lv_iconst (v := 1) hx hb dX10_party_66 (by decide +kernel) ?_
          refine kJi (wr := [(k0, .inr (9, [.ref k00, .ref k01, .ref k02, .ref k03, .ref k04, .ref k05, .int c06, .int c07, .int c08])), (k05, .inr (3, [.ref k050, .int c051])), (k050, .inl (cI, 36, .inl c050))]) (va_runV (As := [.int 1]) (rest := []) ⟨hx, hb, hml, hown, hT⟩ (c_X10_findingG l D cI aK aV k k0 k1 k2 k3 k4 k5 k6 k7 k8 k9 ka kb H.size cc cb 1) (cwV 1 hT (gV_in mw_338 mw_335 mw_337 mw_p1_0 mw_1) rfl rfl rfl (by decide +kernel) ⟨Nat.le_of_ble_eq_true rfl, Nat.le_of_ble_eq_true rfl⟩) (kRecvX (q0 := 0) (ci := 10) hK hP hD hN hXS hS hA rfl rfl [0, 2] rfl (by decide +kernel)) rfl rfl hl.1 rfl (lv_room (Nat.le_of_ble_eq_true rfl)) dX10_party_67 ⟨Nat.le_of_ble_eq_true rfl, Nat.le_of_ble_eq_true rfl⟩) hP hD hS hA [0, 2] [1, 3, 4] rfl rfl (by decide +kernel) (by decide +kernel) ?_
          clear hP hD hS
          intro r_102 scb_104 H locs w_103 hP hD hS
          replace hP : va_P D vwCl [(k0, .inr (9, [.ref k00, .ref k01, .ref k02, .ref k03, .ref k04, .ref k05, .int c06, .int c07, .int c08])), (k05, .inr (3, [.ref k050, .int c051])), (k050, .inl (cI, 36, .inl c050)), (k, .inr (10, [.ref k0, .ref k1, .ref k2, .ref k3, .ref k4, .ref k5, .ref k6, .ref k7, .ref k8, .ref k9, .ref ka, .ref kb, .int cc])), (kb, .inl (cI, 6, .inl scb_104))] H := hP
          replace hD : va_D A [(k0, .inr (9, [.ref k00, .ref k01, .ref k02, .ref k03, .ref k04, .ref k05, .int c06, .int c07, .int c08])), (k05, .inr (3, [.ref k050, .int c051])), (k050, .inl (cI, 36, .inl c050)), (k, .inr (10, [.ref k0, .ref k1, .ref k2, .ref k3, .ref k4, .ref k5, .ref k6, .ref k7, .ref k8, .ref k9, .ref ka, .ref kb, .int cc])), (kb, .inl (cI, 6, .inl scb_104))] := hD
          have hr_102 := w_103
          obtain rfl : r_102 = (-1000001) := hr_102.trans (by decide +kernel)
          exact hRet (scb_104, c051, c050) [3, 0, 4, 1, 2] ⟨(by (try dsimp only); unfold partyR; (repeat (first | rw [if_pos (by omega)] | rw [if_neg (by omega)])); first | done | exact (by first | assumption | exact k_inj (by omega))), (WR.gt pre0 (by (try dsimp only); unfold partyS; (repeat (first | rw [if_pos (by omega)] | rw [if_neg (by omega)]))))⟩ hP hD (by decide +kernel) rfl hS rfl dX10_party_70
        · refine lv_iload hx hb dX10_party_22 (lv_at hl 4 rfl) ?_
          refine lv_bipush (v := 99) hx hb dX10_party_24 (by decide +kernel) ?_
          refine b_icmp_gt hx hb rfl zl_99 (tgt := 33) dX10_party_26 (by decide +kernel) (fun c_105 => ?_) (fun c_105 => ?_)
          · refine lv_iconst (v := 0) hx hb dX10_party_33 (by decide +kernel) ?_
            refine lv_istore (lv' := [(5, .int 0), (0, .ref k), (1, .int a0), (2, .int a1), (3, .int a2), (4, .int a3)]) hx hb dX10_party_34 hl (by decide +kernel) rfl ?_
            clear hl
            intro ls hl
            refine lv_iload hx hb dX10_party_36 (lv_at hl 0 rfl) ?_
            refine b_if_eq hx hb zl_0 (tgt := 65) dX10_party_38 (by decide +kernel) (fun c_106 => ?_) (fun c_106 => by exfalso; omega)
            refine lv_aload_n hx hb dX10_party_65 rfl (lv_at hl 1 rfl) ?_
            refine lv_iconst (v := 1) hx hb dX10_party_66 (by decide +kernel) ?_
            refine kJi (wr := [(k0, .inr (9, [.ref k00, .ref k01, .ref k02, .ref k03, .ref k04, .ref k05, .int c06, .int c07, .int c08])), (k05, .inr (3, [.ref k050, .int c051])), (k050, .inl (cI, 36, .inl c050))]) (va_runV (As := [.int 1]) (rest := []) ⟨hx, hb, hml, hown, hT⟩ (c_X10_findingG l D cI aK aV k k0 k1 k2 k3 k4 k5 k6 k7 k8 k9 ka kb H.size cc cb 1) (cwV 1 hT (gV_in mw_338 mw_335 mw_337 mw_p1_0 mw_1) rfl rfl rfl (by decide +kernel) ⟨Nat.le_of_ble_eq_true rfl, Nat.le_of_ble_eq_true rfl⟩) (kRecvX (q0 := 0) (ci := 10) hK hP hD hN hXS hS hA rfl rfl [0, 2] rfl (by decide +kernel)) rfl rfl hl.1 rfl (lv_room (Nat.le_of_ble_eq_true rfl)) dX10_party_67 ⟨Nat.le_of_ble_eq_true rfl, Nat.le_of_ble_eq_true rfl⟩) hP hD hS hA [0, 2] [1, 3, 4] rfl rfl (by decide +kernel) (by decide +kernel) ?_
            clear hP hD hS
            intro r_107 scb_109 H locs w_108 hP hD hS
            replace hP : va_P D vwCl [(k0, .inr (9, [.ref k00, .ref k01, .ref k02, .ref k03, .ref k04, .ref k05, .int c06, .int c07, .int c08])), (k05, .inr (3, [.ref k050, .int c051])), (k050, .inl (cI, 36, .inl c050)), (k, .inr (10, [.ref k0, .ref k1, .ref k2, .ref k3, .ref k4, .ref k5, .ref k6, .ref k7, .ref k8, .ref k9, .ref ka, .ref kb, .int cc])), (kb, .inl (cI, 6, .inl scb_109))] H := hP
            replace hD : va_D A [(k0, .inr (9, [.ref k00, .ref k01, .ref k02, .ref k03, .ref k04, .ref k05, .int c06, .int c07, .int c08])), (k05, .inr (3, [.ref k050, .int c051])), (k050, .inl (cI, 36, .inl c050)), (k, .inr (10, [.ref k0, .ref k1, .ref k2, .ref k3, .ref k4, .ref k5, .ref k6, .ref k7, .ref k8, .ref k9, .ref ka, .ref kb, .int cc])), (kb, .inl (cI, 6, .inl scb_109))] := hD
            have hr_107 := w_108
            obtain rfl : r_107 = (-1000001) := hr_107.trans (by decide +kernel)
            exact hRet (scb_109, c051, c050) [3, 0, 4, 1, 2] ⟨(by (try dsimp only); unfold partyR; (repeat (first | rw [if_pos (by omega)] | rw [if_neg (by omega)])); first | done | exact (by first | assumption | exact k_inj (by omega))), (WR.gt pre0 (by (try dsimp only); unfold partyS; (repeat (first | rw [if_pos (by omega)] | rw [if_neg (by omega)]))))⟩ hP hD (by decide +kernel) rfl hS rfl dX10_party_70
          · refine lv_iconst (v := 1) hx hb dX10_party_29 (by decide +kernel) ?_
            refine lv_goto (tgt := 34) hx hb dX10_party_30 (by decide +kernel) ?_
            refine lv_istore (lv' := [(5, .int 1), (0, .ref k), (1, .int a0), (2, .int a1), (3, .int a2), (4, .int a3)]) hx hb dX10_party_34 hl (by decide +kernel) rfl ?_
            clear hl
            intro ls hl
            refine lv_iload hx hb dX10_party_36 (lv_at hl 0 rfl) ?_
            refine b_if_eq hx hb zl_1 (tgt := 65) dX10_party_38 (by decide +kernel) (fun c_110 => by exfalso; omega) (fun c_110 => ?_)
            refine lv_iload_n hx hb dX10_party_41 rfl (lv_at hl 4 rfl) ?_
            refine lv_bipush (v := 100) hx hb dX10_party_42 (by decide +kernel) ?_
            refine b_icmp_lt hx hb rfl zl_100 (tgt := 65) dX10_party_44 (by decide +kernel) (fun c_111 => ?_) (fun c_111 => ?_)
            · refine lv_aload_n hx hb dX10_party_65 rfl (lv_at hl 1 rfl) ?_
              refine lv_iconst (v := 1) hx hb dX10_party_66 (by decide +kernel) ?_
              refine kJi (wr := [(k0, .inr (9, [.ref k00, .ref k01, .ref k02, .ref k03, .ref k04, .ref k05, .int c06, .int c07, .int c08])), (k05, .inr (3, [.ref k050, .int c051])), (k050, .inl (cI, 36, .inl c050))]) (va_runV (As := [.int 1]) (rest := []) ⟨hx, hb, hml, hown, hT⟩ (c_X10_findingG l D cI aK aV k k0 k1 k2 k3 k4 k5 k6 k7 k8 k9 ka kb H.size cc cb 1) (cwV 1 hT (gV_in mw_338 mw_335 mw_337 mw_p1_0 mw_1) rfl rfl rfl (by decide +kernel) ⟨Nat.le_of_ble_eq_true rfl, Nat.le_of_ble_eq_true rfl⟩) (kRecvX (q0 := 0) (ci := 10) hK hP hD hN hXS hS hA rfl rfl [0, 2] rfl (by decide +kernel)) rfl rfl hl.1 rfl (lv_room (Nat.le_of_ble_eq_true rfl)) dX10_party_67 ⟨Nat.le_of_ble_eq_true rfl, Nat.le_of_ble_eq_true rfl⟩) hP hD hS hA [0, 2] [1, 3, 4] rfl rfl (by decide +kernel) (by decide +kernel) ?_
              clear hP hD hS
              intro r_112 scb_114 H locs w_113 hP hD hS
              replace hP : va_P D vwCl [(k0, .inr (9, [.ref k00, .ref k01, .ref k02, .ref k03, .ref k04, .ref k05, .int c06, .int c07, .int c08])), (k05, .inr (3, [.ref k050, .int c051])), (k050, .inl (cI, 36, .inl c050)), (k, .inr (10, [.ref k0, .ref k1, .ref k2, .ref k3, .ref k4, .ref k5, .ref k6, .ref k7, .ref k8, .ref k9, .ref ka, .ref kb, .int cc])), (kb, .inl (cI, 6, .inl scb_114))] H := hP
              replace hD : va_D A [(k0, .inr (9, [.ref k00, .ref k01, .ref k02, .ref k03, .ref k04, .ref k05, .int c06, .int c07, .int c08])), (k05, .inr (3, [.ref k050, .int c051])), (k050, .inl (cI, 36, .inl c050)), (k, .inr (10, [.ref k0, .ref k1, .ref k2, .ref k3, .ref k4, .ref k5, .ref k6, .ref k7, .ref k8, .ref k9, .ref ka, .ref kb, .int cc])), (kb, .inl (cI, 6, .inl scb_114))] := hD
              have hr_112 := w_113
              obtain rfl : r_112 = (-1000001) := hr_112.trans (by decide +kernel)
              exact hRet (scb_114, c051, c050) [3, 0, 4, 1, 2] ⟨(by (try dsimp only); unfold partyR; (repeat (first | rw [if_pos (by omega)] | rw [if_neg (by omega)])); first | done | exact (by first | assumption | exact k_inj (by omega))), (WR.gt pre0 (by (try dsimp only); unfold partyS; (repeat (first | rw [if_pos (by omega)] | rw [if_neg (by omega)]))))⟩ hP hD (by decide +kernel) rfl hS rfl dX10_party_70
            · refine lv_iload_n hx hb dX10_party_47 rfl (lv_at hl 4 rfl) ?_
              refine lv_bipush (v := 100) hx hb dX10_party_48 (by decide +kernel) ?_
              refine lv_idiv hx hb dX10_party_50 (by decide +kernel) ?_
              refine lv_topi (fun v_115 ev_115 => ?_)
              have tv_115 : v_115.toInt = a2.toInt / 100 := k_divv (w := 0) ev_115 zl_100 (by omega) (by decide +kernel)
              have lo_v_115 := k_lo v_115
              have hi_v_115 := k_hi v_115
              refine lv_bipush (v := 50) hx hb dX10_party_51 (by decide +kernel) ?_
              refine b_icmp_gt hx hb rfl zl_50 (tgt := 65) dX10_party_53 (by decide +kernel) (fun c_116 => ?_) (fun c_116 => ?_)
              · refine lv_aload_n hx hb dX10_party_65 rfl (lv_at hl 1 rfl) ?_
                refine lv_iconst (v := 1) hx hb dX10_party_66 (by decide +kernel) ?_
                refine kJi (wr := [(k0, .inr (9, [.ref k00, .ref k01, .ref k02, .ref k03, .ref k04, .ref k05, .int c06, .int c07, .int c08])), (k05, .inr (3, [.ref k050, .int c051])), (k050, .inl (cI, 36, .inl c050))]) (va_runV (As := [.int 1]) (rest := []) ⟨hx, hb, hml, hown, hT⟩ (c_X10_findingG l D cI aK aV k k0 k1 k2 k3 k4 k5 k6 k7 k8 k9 ka kb H.size cc cb 1) (cwV 1 hT (gV_in mw_338 mw_335 mw_337 mw_p1_0 mw_1) rfl rfl rfl (by decide +kernel) ⟨Nat.le_of_ble_eq_true rfl, Nat.le_of_ble_eq_true rfl⟩) (kRecvX (q0 := 0) (ci := 10) hK hP hD hN hXS hS hA rfl rfl [0, 2] rfl (by decide +kernel)) rfl rfl hl.1 rfl (lv_room (Nat.le_of_ble_eq_true rfl)) dX10_party_67 ⟨Nat.le_of_ble_eq_true rfl, Nat.le_of_ble_eq_true rfl⟩) hP hD hS hA [0, 2] [1, 3, 4] rfl rfl (by decide +kernel) (by decide +kernel) ?_
                clear hP hD hS
                intro r_117 scb_119 H locs w_118 hP hD hS
                replace hP : va_P D vwCl [(k0, .inr (9, [.ref k00, .ref k01, .ref k02, .ref k03, .ref k04, .ref k05, .int c06, .int c07, .int c08])), (k05, .inr (3, [.ref k050, .int c051])), (k050, .inl (cI, 36, .inl c050)), (k, .inr (10, [.ref k0, .ref k1, .ref k2, .ref k3, .ref k4, .ref k5, .ref k6, .ref k7, .ref k8, .ref k9, .ref ka, .ref kb, .int cc])), (kb, .inl (cI, 6, .inl scb_119))] H := hP
                replace hD : va_D A [(k0, .inr (9, [.ref k00, .ref k01, .ref k02, .ref k03, .ref k04, .ref k05, .int c06, .int c07, .int c08])), (k05, .inr (3, [.ref k050, .int c051])), (k050, .inl (cI, 36, .inl c050)), (k, .inr (10, [.ref k0, .ref k1, .ref k2, .ref k3, .ref k4, .ref k5, .ref k6, .ref k7, .ref k8, .ref k9, .ref ka, .ref kb, .int cc])), (kb, .inl (cI, 6, .inl scb_119))] := hD
                have hr_117 := w_118
                obtain rfl : r_117 = (-1000001) := hr_117.trans (by decide +kernel)
                exact hRet (scb_119, c051, c050) [3, 0, 4, 1, 2] ⟨(by (try dsimp only); unfold partyR; (repeat (first | rw [if_pos (by omega)] | rw [if_neg (by omega)])); first | done | exact (by first | assumption | exact k_inj (by omega))), (WR.gt pre0 (by (try dsimp only); unfold partyS; (repeat (first | rw [if_pos (by omega)] | rw [if_neg (by omega)]))))⟩ hP hD (by decide +kernel) rfl hS rfl dX10_party_70
              · refine lv_iload_n hx hb dX10_party_56 rfl (lv_at hl 4 rfl) ?_
                refine lv_bipush (v := 100) hx hb dX10_party_57 (by decide +kernel) ?_
                refine lv_irem hx hb dX10_party_59 (by decide +kernel) ?_
                refine lv_topi (fun v_120 ev_120 => ?_)
                have tv_120 : v_120.toInt = a2.toInt % 100 := k_remv (w := 0) ev_120 zl_100 (by omega) (by decide +kernel)
                have lo_v_120 := k_lo v_120
                have hi_v_120 := k_hi v_120
                refine lv_bipush (v := 50) hx hb dX10_party_60 (by decide +kernel) ?_
                refine b_icmp_le hx hb rfl zl_50 (tgt := 71) dX10_party_62 (by decide +kernel) (fun c_121 => ?_) (fun c_121 => ?_)
                · refine lv_aload_n hx hb dX10_party_71 rfl (lv_at hl 1 rfl) ?_
                  refine va_get (D := D) (ci := 10) (v := .ref k0) (C := RX10) (T := TX10) (N := 13) hx hb hT giX10 hown hK hP 0 rfl rfl 0 (by decide +kernel) (hT (Cond.fieldLink RX10 12 "DesertWire" "now" "LDesertWire$World;") mw_291) (fun _ h9 => h9) rfl dX10_party_72 ?_
                  refine va_get (D := D) (ci := 9) (v := .ref k05) (C := RX9) (T := TX9) (N := 9) hx hb hT giX9 hown hK hP 1 rfl rfl 5 (by decide +kernel) (hT (Cond.fieldLink RX10 193 "DesertWire$World" "parties" "LDesertWire$Parties;") mw_102) (fun _ h9 => h9) rfl dX10_party_75 ?_
                  refine kJi (wr := [(k, .inr (10, [.ref k0, .ref k1, .ref k2, .ref k3, .ref k4, .ref k5, .ref k6, .ref k7, .ref k8, .ref k9, .ref ka, .ref kb, .int cc])), (k0, .inr (9, [.ref k00, .ref k01, .ref k02, .ref k03, .ref k04, .ref k05, .int c06, .int c07, .int c08])), (kb, .inl (cI, 6, .inl cb)), (k050, .inl (cI, 36, .inl c050))]) (va_runV (As := []) (rest := []) ⟨hx, hb, hml, hown, hT⟩ (c_X3_hasRoomG l D cI aK aV k05 k050 H.size c051) (cwV 0 hT (gV_in mw_704 mw_701 mw_702 mw_703 mw_4) rfl rfl rfl (by decide +kernel) ⟨Nat.le_of_ble_eq_true rfl, Nat.le_of_ble_eq_true rfl⟩) (kRecvX (q0 := 3) (ci := 3) hK hP hD hN hXS hS hA rfl rfl [3] rfl (by decide +kernel)) rfl rfl hl.1 rfl (lv_room (Nat.le_of_ble_eq_true rfl)) dX10_party_78 ⟨Nat.le_of_ble_eq_true rfl, Nat.le_of_ble_eq_true rfl⟩) hP hD hS hA [3] [0, 1, 2, 4] rfl rfl (by decide +kernel) (by decide +kernel) ?_
                  clear hP hD hS
                  intro r_122 u_124 H locs w_123 hP hD hS
                  replace hP : va_P D vwCl [(k, .inr (10, [.ref k0, .ref k1, .ref k2, .ref k3, .ref k4, .ref k5, .ref k6, .ref k7, .ref k8, .ref k9, .ref ka, .ref kb, .int cc])), (k0, .inr (9, [.ref k00, .ref k01, .ref k02, .ref k03, .ref k04, .ref k05, .int c06, .int c07, .int c08])), (kb, .inl (cI, 6, .inl cb)), (k050, .inl (cI, 36, .inl c050)), (k05, .inr (3, [.ref k050, .int c051]))] H := hP
                  replace hD : va_D A [(k, .inr (10, [.ref k0, .ref k1, .ref k2, .ref k3, .ref k4, .ref k5, .ref k6, .ref k7, .ref k8, .ref k9, .ref ka, .ref kb, .int cc])), (k0, .inr (9, [.ref k00, .ref k01, .ref k02, .ref k03, .ref k04, .ref k05, .int c06, .int c07, .int c08])), (kb, .inl (cI, 6, .inl cb)), (k050, .inl (cI, 36, .inl c050)), (k05, .inr (3, [.ref k050, .int c051]))] := hD
                  rcases w_123 with ⟨hr_122, h_125, h_126⟩ | ⟨hr_122, h_127⟩
                  · have h_125 : 0 ≤ c051.toInt := h_125
                    have h_126 : c051.toInt < 4 := h_126
                    obtain rfl : r_122 = 1 := hr_122.trans (by decide +kernel)
                    refine b_if_ne hx hb zl_1 (tgt := 90) dX10_party_81 (by decide +kernel) (fun c_128 => ?_) (fun c_128 => by exfalso; omega)
                    refine lv_aload_n hx hb dX10_party_90 rfl (lv_at hl 1 rfl) ?_
                    refine va_get (D := D) (ci := 10) (v := .ref k0) (C := RX10) (T := TX10) (N := 13) hx hb hT giX10 hown hK hP 0 rfl rfl 0 (by decide +kernel) (hT (Cond.fieldLink RX10 12 "DesertWire" "now" "LDesertWire$World;") mw_291) (fun _ h9 => h9) rfl dX10_party_91 ?_
                    refine va_get (D := D) (ci := 9) (v := .ref k05) (C := RX9) (T := TX9) (N := 9) hx hb hT giX9 hown hK hP 1 rfl rfl 5 (by decide +kernel) (hT (Cond.fieldLink RX10 193 "DesertWire$World" "parties" "LDesertWire$Parties;") mw_102) (fun _ h9 => h9) rfl dX10_party_94 ?_
                    refine kJi (wr := [(k, .inr (10, [.ref k0, .ref k1, .ref k2, .ref k3, .ref k4, .ref k5, .ref k6, .ref k7, .ref k8, .ref k9, .ref ka, .ref kb, .int cc])), (k0, .inr (9, [.ref k00, .ref k01, .ref k02, .ref k03, .ref k04, .ref k05, .int c06, .int c07, .int c08])), (kb, .inl (cI, 6, .inl cb))]) (va_runV (As := []) (rest := []) ⟨hx, hb, hml, hown, hT⟩ (c_X3_addD l D cI aK aV k05 k050 H.size c051 c050 gx (WR.kp pre0) (by first | omega | decide | assumption | rfl)) (cwV 0 hT (gV_in mw_708 mw_705 mw_706 mw_707 mw_4) rfl rfl rfl (by decide +kernel) ⟨Nat.le_of_ble_eq_true rfl, Nat.le_of_ble_eq_true rfl⟩) (kRecvX (q0 := 4) (ci := 3) hK hP hD hN hXS hS hA rfl rfl [4, 3] rfl (by decide +kernel)) rfl rfl hl.1 rfl (lv_room (Nat.le_of_ble_eq_true rfl)) dX10_party_97 ⟨Nat.le_of_ble_eq_true rfl, Nat.le_of_ble_eq_true rfl⟩) hP hD hS hA [4, 3] [0, 1, 2] rfl rfl (by decide +kernel) (by decide +kernel) ?_
                    clear hP hD hS
                    intro r_129 u_133 H locs w_130 hP hD hS
                    obtain ⟨sc1_131, sc0_132⟩ := u_133
                    replace hP : va_P D vwCl [(k, .inr (10, [.ref k0, .ref k1, .ref k2, .ref k3, .ref k4, .ref k5, .ref k6, .ref k7, .ref k8, .ref k9, .ref ka, .ref kb, .int cc])), (k0, .inr (9, [.ref k00, .ref k01, .ref k02, .ref k03, .ref k04, .ref k05, .int c06, .int c07, .int c08])), (kb, .inl (cI, 6, .inl cb)), (k05, .inr (3, [.ref k050, .int sc1_131])), (k050, .inl (cI, 36, .inl sc0_132))] H := hP
                    replace hD : va_D A [(k, .inr (10, [.ref k0, .ref k1, .ref k2, .ref k3, .ref k4, .ref k5, .ref k6, .ref k7, .ref k8, .ref k9, .ref ka, .ref kb, .int cc])), (k0, .inr (9, [.ref k00, .ref k01, .ref k02, .ref k03, .ref k04, .ref k05, .int c06, .int c07, .int c08])), (kb, .inl (cI, 6, .inl cb)), (k05, .inr (3, [.ref k050, .int sc1_131])), (k050, .inl (cI, 36, .inl sc0_132))] := hD
                    have lo_sc1_131 := k_lo sc1_131
                    have hi_sc1_131 := k_hi sc1_131
                    obtain ⟨h_134, h_135, h_136, h_137⟩ := w_130
                    have h_134 : r_129 = c051 := h_134
                    have h_135 : r_129.toInt = c051.toInt := h_135
                    have h_136 : sc1_131.toInt = c051.toInt + 1 := h_136
                    have h_137 : PTR sc0_132 sc1_131 (padS gx) := h_137
                    obtain ⟨gg_138, egg_138⟩ : ∃ g_ : Nat → Int32, g_ = (padS gx) := ⟨_, rfl⟩
                    rw [← egg_138] at h_137
                    have hW_139 : WR c00 c01 c02 c03 c040 c041 c042 c043 c044 c045 c046 c047 c048 c049 sc0_132 sc1_131 c06 c07 c08 gg_138 := WR.ofP pre0 h_137 (by rw [egg_138]; exact OFP.pad (by omega))
                    have b_140 : 0 ≤ sc1_131.toInt ∧ sc1_131.toInt ≤ 4 := ((WR.kp hW_139)).2.1
                    have t_141 : sc1_131.toInt = (gg_138 2).toInt := PTR.nt (WR.kp hW_139)
                    have lo_r_129 := k_lo r_129
                    have hi_r_129 := k_hi r_129
                    refine lv_istore (lv' := [(6, .int r_129), (5, .int 1), (0, .ref k), (1, .int a0), (2, .int a1), (3, .int a2), (4, .int a3)]) hx hb dX10_party_100 hl (by decide +kernel) rfl ?_
                    clear hl
                    intro ls hl
                    refine lv_aload_n hx hb dX10_party_102 rfl (lv_at hl 2 rfl) ?_
                    refine va_get (D := D) (ci := 10) (v := .ref k0) (C := RX10) (T := TX10) (N := 13) hx hb hT giX10 hown hK hP 0 rfl rfl 0 (by decide +kernel) (hT (Cond.fieldLink RX10 12 "DesertWire" "now" "LDesertWire$World;") mw_291) (fun _ h9 => h9) rfl dX10_party_103 ?_
                    refine va_get (D := D) (ci := 9) (v := .ref k05) (C := RX9) (T := TX9) (N := 9) hx hb hT giX9 hown hK hP 1 rfl rfl 5 (by decide +kernel) (hT (Cond.fieldLink RX10 193 "DesertWire$World" "parties" "LDesertWire$Parties;") mw_102) (fun _ h9 => h9) rfl dX10_party_106 ?_
                    refine lv_iload hx hb dX10_party_109 (lv_at hl 0 rfl) ?_
                    refine lv_iconst (v := 0) hx hb dX10_party_111 (by decide +kernel) ?_
                    refine lv_iload_n hx hb dX10_party_112 rfl (lv_at hl 3 rfl) ?_
                    refine kJv (wr := [(k, .inr (10, [.ref k0, .ref k1, .ref k2, .ref k3, .ref k4, .ref k5, .ref k6, .ref k7, .ref k8, .ref k9, .ref ka, .ref kb, .int cc])), (k0, .inr (9, [.ref k00, .ref k01, .ref k02, .ref k03, .ref k04, .ref k05, .int c06, .int c07, .int c08])), (kb, .inl (cI, 6, .inl cb))]) (va_runV (As := [.int r_129, .int 0, .int a0]) (rest := []) ⟨hx, hb, hml, hown, hT⟩ (c_X3_setD0 l D cI aK aV k05 k050 H.size sc1_131 sc0_132 gg_138 r_129 0 a0 (WR.kp hW_139) (by first | omega | (simp only [zl_0]; first | done | omega) | decide | assumption | rfl) (by first | omega | (simp only [zl_0]; first | done | omega) | decide | assumption | rfl) (by first | omega | (simp only [zl_0]; first | done | omega) | decide | assumption | rfl)) (cwV 3 hT (gV_in mw_713 mw_710 mw_711 mw_712 mw_4) rfl rfl rfl (by decide +kernel) ⟨Nat.le_of_ble_eq_true rfl, Nat.le_of_ble_eq_true rfl⟩) (kRecvX (q0 := 3) (ci := 3) hK hP hD hN hXS hS hA rfl rfl [3, 4] rfl (by decide +kernel)) rfl rfl hl.1 rfl (lv_room (Nat.le_of_ble_eq_true rfl)) dX10_party_113 ⟨Nat.le_of_ble_eq_true rfl, Nat.le_of_ble_eq_true rfl⟩) hP hD hS hA [3, 4] [0, 1, 2] rfl rfl (by decide +kernel) (by decide +kernel) ?_
                    clear hP hD hS
                    intro sc0_144 H locs w_143 hP hD hS
                    replace hP : va_P D vwCl [(k, .inr (10, [.ref k0, .ref k1, .ref k2, .ref k3, .ref k4, .ref k5, .ref k6, .ref k7, .ref k8, .ref k9, .ref ka, .ref kb, .int cc])), (k0, .inr (9, [.ref k00, .ref k01, .ref k02, .ref k03, .ref k04, .ref k05, .int c06, .int c07, .int c08])), (kb, .inl (cI, 6, .inl cb)), (k05, .inr (3, [.ref k050, .int sc1_131])), (k050, .inl (cI, 36, .inl sc0_144))] H := hP
                    replace hD : va_D A [(k, .inr (10, [.ref k0, .ref k1, .ref k2, .ref k3, .ref k4, .ref k5, .ref k6, .ref k7, .ref k8, .ref k9, .ref ka, .ref kb, .int cc])), (k0, .inr (9, [.ref k00, .ref k01, .ref k02, .ref k03, .ref k04, .ref k05, .int c06, .int c07, .int c08])), (kb, .inl (cI, 6, .inl cb)), (k05, .inr (3, [.ref k050, .int sc1_131])), (k050, .inl (cI, 36, .inl sc0_144))] := hD
                    have h_145 := w_143
                    try simp only [zl_0] at h_145
                    have h_145 : PTR sc0_144 sc1_131 (upd gg_138 (459 + 9 * r_129.toInt.toNat + 0) a0) := h_145
                    have h_145 : PTR sc0_144 sc1_131 (upd gg_138 (459 + 9 * r_129.toInt.toNat + 0) a0) := h_145
                    obtain ⟨gg_146, egg_146⟩ : ∃ g_ : Nat → Int32, g_ = (upd gg_138 (459 + 9 * r_129.toInt.toNat + 0) a0) := ⟨_, rfl⟩
                    rw [← egg_146] at h_145
                    have hW_147 : WR c00 c01 c02 c03 c040 c041 c042 c043 c044 c045 c046 c047 c048 c049 sc0_144 sc1_131 c06 c07 c08 gg_146 := WR.ofP hW_139 h_145 (by rw [egg_146]; exact OFP.up (by omega))
                    refine lv_aload_n hx hb dX10_party_116 rfl (lv_at hl 2 rfl) ?_
                    refine va_get (D := D) (ci := 10) (v := .ref k0) (C := RX10) (T := TX10) (N := 13) hx hb hT giX10 hown hK hP 0 rfl rfl 0 (by decide +kernel) (hT (Cond.fieldLink RX10 12 "DesertWire" "now" "LDesertWire$World;") mw_291) (fun _ h9 => h9) rfl dX10_party_117 ?_
                    refine va_get (D := D) (ci := 9) (v := .ref k05) (C := RX9) (T := TX9) (N := 9) hx hb hT giX9 hown hK hP 1 rfl rfl 5 (by decide +kernel) (hT (Cond.fieldLink RX10 193 "DesertWire$World" "parties" "LDesertWire$Parties;") mw_102) (fun _ h9 => h9) rfl dX10_party_120 ?_
                    refine lv_iload hx hb dX10_party_123 (lv_at hl 0 rfl) ?_
                    refine lv_iconst (v := 1) hx hb dX10_party_125 (by decide +kernel) ?_
                    refine lv_iload_n hx hb dX10_party_126 rfl (lv_at hl 4 rfl) ?_
                    refine kJv (wr := [(k, .inr (10, [.ref k0, .ref k1, .ref k2, .ref k3, .ref k4, .ref k5, .ref k6, .ref k7, .ref k8, .ref k9, .ref ka, .ref kb, .int cc])), (k0, .inr (9, [.ref k00, .ref k01, .ref k02, .ref k03, .ref k04, .ref k05, .int c06, .int c07, .int c08])), (kb, .inl (cI, 6, .inl cb))]) (va_runV (As := [.int r_129, .int 1, .int a1]) (rest := []) ⟨hx, hb, hml, hown, hT⟩ (c_X3_setD1 l D cI aK aV k05 k050 H.size sc1_131 sc0_144 gg_146 r_129 1 a1 (WR.kp hW_147) (by first | omega | (simp only [zl_1]; first | done | omega) | decide | assumption | rfl) (by first | omega | (simp only [zl_1]; first | done | omega) | decide | assumption | rfl) (by first | omega | (simp only [zl_1]; first | done | omega) | decide | assumption | rfl)) (cwV 3 hT (gV_in mw_713 mw_710 mw_711 mw_712 mw_4) rfl rfl rfl (by decide +kernel) ⟨Nat.le_of_ble_eq_true rfl, Nat.le_of_ble_eq_true rfl⟩) (kRecvX (q0 := 3) (ci := 3) hK hP hD hN hXS hS hA rfl rfl [3, 4] rfl (by decide +kernel)) rfl rfl hl.1 rfl (lv_room (Nat.le_of_ble_eq_true rfl)) dX10_party_127 ⟨Nat.le_of_ble_eq_true rfl, Nat.le_of_ble_eq_true rfl⟩) hP hD hS hA [3, 4] [0, 1, 2] rfl rfl (by decide +kernel) (by decide +kernel) ?_
                    clear hP hD hS
                    intro sc0_150 H locs w_149 hP hD hS
                    replace hP : va_P D vwCl [(k, .inr (10, [.ref k0, .ref k1, .ref k2, .ref k3, .ref k4, .ref k5, .ref k6, .ref k7, .ref k8, .ref k9, .ref ka, .ref kb, .int cc])), (k0, .inr (9, [.ref k00, .ref k01, .ref k02, .ref k03, .ref k04, .ref k05, .int c06, .int c07, .int c08])), (kb, .inl (cI, 6, .inl cb)), (k05, .inr (3, [.ref k050, .int sc1_131])), (k050, .inl (cI, 36, .inl sc0_150))] H := hP
                    replace hD : va_D A [(k, .inr (10, [.ref k0, .ref k1, .ref k2, .ref k3, .ref k4, .ref k5, .ref k6, .ref k7, .ref k8, .ref k9, .ref ka, .ref kb, .int cc])), (k0, .inr (9, [.ref k00, .ref k01, .ref k02, .ref k03, .ref k04, .ref k05, .int c06, .int c07, .int c08])), (kb, .inl (cI, 6, .inl cb)), (k05, .inr (3, [.ref k050, .int sc1_131])), (k050, .inl (cI, 36, .inl sc0_150))] := hD
                    have h_151 := w_149
                    try simp only [zl_1] at h_151
                    have h_151 : PTR sc0_150 sc1_131 (upd gg_146 (459 + 9 * r_129.toInt.toNat + 1) a1) := h_151
                    have h_151 : PTR sc0_150 sc1_131 (upd gg_146 (459 + 9 * r_129.toInt.toNat + 1) a1) := h_151
                    obtain ⟨gg_152, egg_152⟩ : ∃ g_ : Nat → Int32, g_ = (upd gg_146 (459 + 9 * r_129.toInt.toNat + 1) a1) := ⟨_, rfl⟩
                    rw [← egg_152] at h_151
                    have hW_153 : WR c00 c01 c02 c03 c040 c041 c042 c043 c044 c045 c046 c047 c048 c049 sc0_150 sc1_131 c06 c07 c08 gg_152 := WR.ofP hW_147 h_151 (by rw [egg_152]; exact OFP.up (by omega))
                    refine lv_aload_n hx hb dX10_party_130 rfl (lv_at hl 2 rfl) ?_
                    refine va_get (D := D) (ci := 10) (v := .ref k0) (C := RX10) (T := TX10) (N := 13) hx hb hT giX10 hown hK hP 0 rfl rfl 0 (by decide +kernel) (hT (Cond.fieldLink RX10 12 "DesertWire" "now" "LDesertWire$World;") mw_291) (fun _ h9 => h9) rfl dX10_party_131 ?_
                    refine va_get (D := D) (ci := 9) (v := .ref k05) (C := RX9) (T := TX9) (N := 9) hx hb hT giX9 hown hK hP 1 rfl rfl 5 (by decide +kernel) (hT (Cond.fieldLink RX10 193 "DesertWire$World" "parties" "LDesertWire$Parties;") mw_102) (fun _ h9 => h9) rfl dX10_party_134 ?_
                    refine lv_iload hx hb dX10_party_137 (lv_at hl 0 rfl) ?_
                    refine lv_iconst (v := 2) hx hb dX10_party_139 (by decide +kernel) ?_
                    refine lv_iload_n hx hb dX10_party_140 rfl (lv_at hl 5 rfl) ?_
                    refine lv_bipush (v := 100) hx hb dX10_party_141 (by decide +kernel) ?_
                    refine lv_idiv hx hb dX10_party_143 (by decide +kernel) ?_
                    refine lv_topi (fun v_154 ev_154 => ?_)
                    have tv_154 : v_154.toInt = a2.toInt / 100 := k_divv (w := 0) ev_154 zl_100 (by omega) (by decide +kernel)
                    have lo_v_154 := k_lo v_154
                    have hi_v_154 := k_hi v_154
                    refine kJv (wr := [(k, .inr (10, [.ref k0, .ref k1, .ref k2, .ref k3, .ref k4, .ref k5, .ref k6, .ref k7, .ref k8, .ref k9, .ref ka, .ref kb, .int cc])), (k0, .inr (9, [.ref k00, .ref k01, .ref k02, .ref k03, .ref k04, .ref k05, .int c06, .int c07, .int c08])), (kb, .inl (cI, 6, .inl cb))]) (va_runV (As := [.int r_129, .int 2, .int v_154]) (rest := []) ⟨hx, hb, hml, hown, hT⟩ (c_X3_setD2 l D cI aK aV k05 k050 H.size sc1_131 sc0_150 gg_152 r_129 2 v_154 (WR.kp hW_153) (by first | omega | (simp only [zl_2]; first | done | omega) | decide | assumption | rfl) (by first | omega | (simp only [zl_2]; first | done | omega) | decide | assumption | rfl) (by first | omega | (simp only [zl_2]; first | done | omega) | decide | assumption | rfl)) (cwV 3 hT (gV_in mw_713 mw_710 mw_711 mw_712 mw_4) rfl rfl rfl (by decide +kernel) ⟨Nat.le_of_ble_eq_true rfl, Nat.le_of_ble_eq_true rfl⟩) (kRecvX (q0 := 3) (ci := 3) hK hP hD hN hXS hS hA rfl rfl [3, 4] rfl (by decide +kernel)) rfl rfl hl.1 rfl (lv_room (Nat.le_of_ble_eq_true rfl)) dX10_party_144 ⟨Nat.le_of_ble_eq_true rfl, Nat.le_of_ble_eq_true rfl⟩) hP hD hS hA [3, 4] [0, 1, 2] rfl rfl (by decide +kernel) (by decide +kernel) ?_
                    clear hP hD hS
                    intro sc0_157 H locs w_156 hP hD hS
                    replace hP : va_P D vwCl [(k, .inr (10, [.ref k0, .ref k1, .ref k2, .ref k3, .ref k4, .ref k5, .ref k6, .ref k7, .ref k8, .ref k9, .ref ka, .ref kb, .int cc])), (k0, .inr (9, [.ref k00, .ref k01, .ref k02, .ref k03, .ref k04, .ref k05, .int c06, .int c07, .int c08])), (kb, .inl (cI, 6, .inl cb)), (k05, .inr (3, [.ref k050, .int sc1_131])), (k050, .inl (cI, 36, .inl sc0_157))] H := hP
                    replace hD : va_D A [(k, .inr (10, [.ref k0, .ref k1, .ref k2, .ref k3, .ref k4, .ref k5, .ref k6, .ref k7, .ref k8, .ref k9, .ref ka, .ref kb, .int cc])), (k0, .inr (9, [.ref k00, .ref k01, .ref k02, .ref k03, .ref k04, .ref k05, .int c06, .int c07, .int c08])), (kb, .inl (cI, 6, .inl cb)), (k05, .inr (3, [.ref k050, .int sc1_131])), (k050, .inl (cI, 36, .inl sc0_157))] := hD
                    have h_158 := w_156
                    try simp only [zl_2] at h_158
                    have h_158 : PTR sc0_157 sc1_131 (upd gg_152 (459 + 9 * r_129.toInt.toNat + 2) v_154) := h_158
                    have h_158 : PTR sc0_157 sc1_131 (upd gg_152 (459 + 9 * r_129.toInt.toNat + 2) v_154) := h_158
                    obtain ⟨gg_159, egg_159⟩ : ∃ g_ : Nat → Int32, g_ = (upd gg_152 (459 + 9 * r_129.toInt.toNat + 2) v_154) := ⟨_, rfl⟩
                    rw [← egg_159] at h_158
                    have hW_160 : WR c00 c01 c02 c03 c040 c041 c042 c043 c044 c045 c046 c047 c048 c049 sc0_157 sc1_131 c06 c07 c08 gg_159 := WR.ofP hW_153 h_158 (by rw [egg_159]; exact OFP.up (by omega))
                    refine lv_aload_n hx hb dX10_party_147 rfl (lv_at hl 2 rfl) ?_
                    refine va_get (D := D) (ci := 10) (v := .ref k0) (C := RX10) (T := TX10) (N := 13) hx hb hT giX10 hown hK hP 0 rfl rfl 0 (by decide +kernel) (hT (Cond.fieldLink RX10 12 "DesertWire" "now" "LDesertWire$World;") mw_291) (fun _ h9 => h9) rfl dX10_party_148 ?_
                    refine va_get (D := D) (ci := 9) (v := .ref k05) (C := RX9) (T := TX9) (N := 9) hx hb hT giX9 hown hK hP 1 rfl rfl 5 (by decide +kernel) (hT (Cond.fieldLink RX10 193 "DesertWire$World" "parties" "LDesertWire$Parties;") mw_102) (fun _ h9 => h9) rfl dX10_party_151 ?_
                    refine lv_iload hx hb dX10_party_154 (lv_at hl 0 rfl) ?_
                    refine lv_iconst (v := 3) hx hb dX10_party_156 (by decide +kernel) ?_
                    refine lv_iload_n hx hb dX10_party_157 rfl (lv_at hl 5 rfl) ?_
                    refine lv_bipush (v := 100) hx hb dX10_party_158 (by decide +kernel) ?_
                    refine lv_irem hx hb dX10_party_160 (by decide +kernel) ?_
                    refine lv_topi (fun v_161 ev_161 => ?_)
                    have tv_161 : v_161.toInt = a2.toInt % 100 := k_remv (w := 0) ev_161 zl_100 (by omega) (by decide +kernel)
                    have lo_v_161 := k_lo v_161
                    have hi_v_161 := k_hi v_161
                    refine kJv (wr := [(k, .inr (10, [.ref k0, .ref k1, .ref k2, .ref k3, .ref k4, .ref k5, .ref k6, .ref k7, .ref k8, .ref k9, .ref ka, .ref kb, .int cc])), (k0, .inr (9, [.ref k00, .ref k01, .ref k02, .ref k03, .ref k04, .ref k05, .int c06, .int c07, .int c08])), (kb, .inl (cI, 6, .inl cb))]) (va_runV (As := [.int r_129, .int 3, .int v_161]) (rest := []) ⟨hx, hb, hml, hown, hT⟩ (c_X3_setD3 l D cI aK aV k05 k050 H.size sc1_131 sc0_157 gg_159 r_129 3 v_161 (WR.kp hW_160) (by first | omega | (simp only [zl_3]; first | done | omega) | decide | assumption | rfl) (by first | omega | (simp only [zl_3]; first | done | omega) | decide | assumption | rfl) (by first | omega | (simp only [zl_3]; first | done | omega) | decide | assumption | rfl)) (cwV 3 hT (gV_in mw_713 mw_710 mw_711 mw_712 mw_4) rfl rfl rfl (by decide +kernel) ⟨Nat.le_of_ble_eq_true rfl, Nat.le_of_ble_eq_true rfl⟩) (kRecvX (q0 := 3) (ci := 3) hK hP hD hN hXS hS hA rfl rfl [3, 4] rfl (by decide +kernel)) rfl rfl hl.1 rfl (lv_room (Nat.le_of_ble_eq_true rfl)) dX10_party_161 ⟨Nat.le_of_ble_eq_true rfl, Nat.le_of_ble_eq_true rfl⟩) hP hD hS hA [3, 4] [0, 1, 2] rfl rfl (by decide +kernel) (by decide +kernel) ?_
                    clear hP hD hS
                    intro sc0_164 H locs w_163 hP hD hS
                    replace hP : va_P D vwCl [(k, .inr (10, [.ref k0, .ref k1, .ref k2, .ref k3, .ref k4, .ref k5, .ref k6, .ref k7, .ref k8, .ref k9, .ref ka, .ref kb, .int cc])), (k0, .inr (9, [.ref k00, .ref k01, .ref k02, .ref k03, .ref k04, .ref k05, .int c06, .int c07, .int c08])), (kb, .inl (cI, 6, .inl cb)), (k05, .inr (3, [.ref k050, .int sc1_131])), (k050, .inl (cI, 36, .inl sc0_164))] H := hP
                    replace hD : va_D A [(k, .inr (10, [.ref k0, .ref k1, .ref k2, .ref k3, .ref k4, .ref k5, .ref k6, .ref k7, .ref k8, .ref k9, .ref ka, .ref kb, .int cc])), (k0, .inr (9, [.ref k00, .ref k01, .ref k02, .ref k03, .ref k04, .ref k05, .int c06, .int c07, .int c08])), (kb, .inl (cI, 6, .inl cb)), (k05, .inr (3, [.ref k050, .int sc1_131])), (k050, .inl (cI, 36, .inl sc0_164))] := hD
                    have h_165 := w_163
                    try simp only [zl_3] at h_165
                    have h_165 : PTR sc0_164 sc1_131 (upd gg_159 (459 + 9 * r_129.toInt.toNat + 3) v_161) := h_165
                    have h_165 : PTR sc0_164 sc1_131 (upd gg_159 (459 + 9 * r_129.toInt.toNat + 3) v_161) := h_165
                    obtain ⟨gg_166, egg_166⟩ : ∃ g_ : Nat → Int32, g_ = (upd gg_159 (459 + 9 * r_129.toInt.toNat + 3) v_161) := ⟨_, rfl⟩
                    rw [← egg_166] at h_165
                    have hW_167 : WR c00 c01 c02 c03 c040 c041 c042 c043 c044 c045 c046 c047 c048 c049 sc0_164 sc1_131 c06 c07 c08 gg_166 := WR.ofP hW_160 h_165 (by rw [egg_166]; exact OFP.up (by omega))
                    refine lv_aload_n hx hb dX10_party_164 rfl (lv_at hl 2 rfl) ?_
                    refine va_get (D := D) (ci := 10) (v := .ref k0) (C := RX10) (T := TX10) (N := 13) hx hb hT giX10 hown hK hP 0 rfl rfl 0 (by decide +kernel) (hT (Cond.fieldLink RX10 12 "DesertWire" "now" "LDesertWire$World;") mw_291) (fun _ h9 => h9) rfl dX10_party_165 ?_
                    refine va_get (D := D) (ci := 9) (v := .ref k05) (C := RX9) (T := TX9) (N := 9) hx hb hT giX9 hown hK hP 1 rfl rfl 5 (by decide +kernel) (hT (Cond.fieldLink RX10 193 "DesertWire$World" "parties" "LDesertWire$Parties;") mw_102) (fun _ h9 => h9) rfl dX10_party_168 ?_
                    refine lv_iload hx hb dX10_party_171 (lv_at hl 0 rfl) ?_
                    refine lv_iconst (v := 4) hx hb dX10_party_173 (by decide +kernel) ?_
                    refine lv_iload hx hb dX10_party_174 (lv_at hl 6 rfl) ?_
                    refine kJv (wr := [(k, .inr (10, [.ref k0, .ref k1, .ref k2, .ref k3, .ref k4, .ref k5, .ref k6, .ref k7, .ref k8, .ref k9, .ref ka, .ref kb, .int cc])), (k0, .inr (9, [.ref k00, .ref k01, .ref k02, .ref k03, .ref k04, .ref k05, .int c06, .int c07, .int c08])), (kb, .inl (cI, 6, .inl cb))]) (va_runV (As := [.int r_129, .int 4, .int a3]) (rest := []) ⟨hx, hb, hml, hown, hT⟩ (c_X3_setD4 l D cI aK aV k05 k050 H.size sc1_131 sc0_164 gg_166 r_129 4 a3 (WR.kp hW_167) (by first | omega | (simp only [zl_4]; first | done | omega) | decide | assumption | rfl) (by first | omega | (simp only [zl_4]; first | done | omega) | decide | assumption | rfl) (by first | omega | (simp only [zl_4]; first | done | omega) | decide | assumption | rfl)) (cwV 3 hT (gV_in mw_713 mw_710 mw_711 mw_712 mw_4) rfl rfl rfl (by decide +kernel) ⟨Nat.le_of_ble_eq_true rfl, Nat.le_of_ble_eq_true rfl⟩) (kRecvX (q0 := 3) (ci := 3) hK hP hD hN hXS hS hA rfl rfl [3, 4] rfl (by decide +kernel)) rfl rfl hl.1 rfl (lv_room (Nat.le_of_ble_eq_true rfl)) dX10_party_176 ⟨Nat.le_of_ble_eq_true rfl, Nat.le_of_ble_eq_true rfl⟩) hP hD hS hA [3, 4] [0, 1, 2] rfl rfl (by decide +kernel) (by decide +kernel) ?_
                    clear hP hD hS
                    intro sc0_170 H locs w_169 hP hD hS
                    replace hP : va_P D vwCl [(k, .inr (10, [.ref k0, .ref k1, .ref k2, .ref k3, .ref k4, .ref k5, .ref k6, .ref k7, .ref k8, .ref k9, .ref ka, .ref kb, .int cc])), (k0, .inr (9, [.ref k00, .ref k01, .ref k02, .ref k03, .ref k04, .ref k05, .int c06, .int c07, .int c08])), (kb, .inl (cI, 6, .inl cb)), (k05, .inr (3, [.ref k050, .int sc1_131])), (k050, .inl (cI, 36, .inl sc0_170))] H := hP
                    replace hD : va_D A [(k, .inr (10, [.ref k0, .ref k1, .ref k2, .ref k3, .ref k4, .ref k5, .ref k6, .ref k7, .ref k8, .ref k9, .ref ka, .ref kb, .int cc])), (k0, .inr (9, [.ref k00, .ref k01, .ref k02, .ref k03, .ref k04, .ref k05, .int c06, .int c07, .int c08])), (kb, .inl (cI, 6, .inl cb)), (k05, .inr (3, [.ref k050, .int sc1_131])), (k050, .inl (cI, 36, .inl sc0_170))] := hD
                    have h_171 := w_169
                    try simp only [zl_4] at h_171
                    have h_171 : PTR sc0_170 sc1_131 (upd gg_166 (459 + 9 * r_129.toInt.toNat + 4) a3) := h_171
                    have h_171 : PTR sc0_170 sc1_131 (upd gg_166 (459 + 9 * r_129.toInt.toNat + 4) a3) := h_171
                    obtain ⟨gg_172, egg_172⟩ : ∃ g_ : Nat → Int32, g_ = (upd gg_166 (459 + 9 * r_129.toInt.toNat + 4) a3) := ⟨_, rfl⟩
                    rw [← egg_172] at h_171
                    have hW_173 : WR c00 c01 c02 c03 c040 c041 c042 c043 c044 c045 c046 c047 c048 c049 sc0_170 sc1_131 c06 c07 c08 gg_172 := WR.ofP hW_167 h_171 (by rw [egg_172]; exact OFP.up (by omega))
                    refine lv_iload hx hb dX10_party_179 (lv_at hl 0 rfl) ?_
                    exact hRet (cb, sc1_131, sc0_170) [0, 1, 2, 3, 4] ⟨(by (try dsimp only); unfold partyR; (repeat (first | rw [if_pos (by omega)] | rw [if_neg (by omega)])); first | done | exact (by first | assumption | exact k_inj (by omega))), (WR.gt hW_173 (pty_in (p := r_129) (m := v_154) (b := v_161) ⟨by omega, by omega, by omega, by omega, by omega, by omega, by omega, by omega, by omega⟩ (by omega) ev_154 ev_161 egg_138 egg_146 egg_152 egg_159 egg_166 egg_172))⟩ hP hD (by decide +kernel) rfl hS rfl dX10_party_181
                  · have h_127 : c051.toInt < 0 ∨ 4 ≤ c051.toInt := h_127
                    obtain rfl : r_122 = 0 := hr_122.trans (by decide +kernel)
                    refine b_if_ne hx hb zl_0 (tgt := 90) dX10_party_81 (by decide +kernel) (fun c_174 => by exfalso; omega) (fun c_174 => ?_)
                    refine lv_aload_n hx hb dX10_party_84 rfl (lv_at hl 1 rfl) ?_
                    refine lv_iconst (v := 4) hx hb dX10_party_85 (by decide +kernel) ?_
                    refine kJi (wr := [(k0, .inr (9, [.ref k00, .ref k01, .ref k02, .ref k03, .ref k04, .ref k05, .int c06, .int c07, .int c08])), (k050, .inl (cI, 36, .inl c050)), (k05, .inr (3, [.ref k050, .int c051]))]) (va_runV (As := [.int 4]) (rest := []) ⟨hx, hb, hml, hown, hT⟩ (c_X10_findingG l D cI aK aV k k0 k1 k2 k3 k4 k5 k6 k7 k8 k9 ka kb H.size cc cb 4) (cwV 1 hT (gV_in mw_338 mw_335 mw_337 mw_p1_0 mw_1) rfl rfl rfl (by decide +kernel) ⟨Nat.le_of_ble_eq_true rfl, Nat.le_of_ble_eq_true rfl⟩) (kRecvX (q0 := 0) (ci := 10) hK hP hD hN hXS hS hA rfl rfl [0, 2] rfl (by decide +kernel)) rfl rfl hl.1 rfl (lv_room (Nat.le_of_ble_eq_true rfl)) dX10_party_86 ⟨Nat.le_of_ble_eq_true rfl, Nat.le_of_ble_eq_true rfl⟩) hP hD hS hA [0, 2] [1, 3, 4] rfl rfl (by decide +kernel) (by decide +kernel) ?_
                    clear hP hD hS
                    intro r_175 scb_177 H locs w_176 hP hD hS
                    replace hP : va_P D vwCl [(k0, .inr (9, [.ref k00, .ref k01, .ref k02, .ref k03, .ref k04, .ref k05, .int c06, .int c07, .int c08])), (k050, .inl (cI, 36, .inl c050)), (k05, .inr (3, [.ref k050, .int c051])), (k, .inr (10, [.ref k0, .ref k1, .ref k2, .ref k3, .ref k4, .ref k5, .ref k6, .ref k7, .ref k8, .ref k9, .ref ka, .ref kb, .int cc])), (kb, .inl (cI, 6, .inl scb_177))] H := hP
                    replace hD : va_D A [(k0, .inr (9, [.ref k00, .ref k01, .ref k02, .ref k03, .ref k04, .ref k05, .int c06, .int c07, .int c08])), (k050, .inl (cI, 36, .inl c050)), (k05, .inr (3, [.ref k050, .int c051])), (k, .inr (10, [.ref k0, .ref k1, .ref k2, .ref k3, .ref k4, .ref k5, .ref k6, .ref k7, .ref k8, .ref k9, .ref ka, .ref kb, .int cc])), (kb, .inl (cI, 6, .inl scb_177))] := hD
                    have hr_175 := w_176
                    obtain rfl : r_175 = (-1000004) := hr_175.trans (by decide +kernel)
                    exact hRet (scb_177, c051, c050) [3, 0, 4, 2, 1] ⟨(by (try dsimp only); unfold partyR; (repeat (first | rw [if_pos (by omega)] | rw [if_neg (by omega)])); first | done | exact (by first | assumption | exact k_inj (by omega))), (WR.gt pre0 (by (try dsimp only); unfold partyS; (repeat (first | rw [if_pos (by omega)] | rw [if_neg (by omega)]))))⟩ hP hD (by decide +kernel) rfl hS rfl dX10_party_89
                · refine lv_aload_n hx hb dX10_party_65 rfl (lv_at hl 1 rfl) ?_
                  refine lv_iconst (v := 1) hx hb dX10_party_66 (by decide +kernel) ?_
                  refine kJi (wr := [(k0, .inr (9, [.ref k00, .ref k01, .ref k02, .ref k03, .ref k04, .ref k05, .int c06, .int c07, .int c08])), (k05, .inr (3, [.ref k050, .int c051])), (k050, .inl (cI, 36, .inl c050))]) (va_runV (As := [.int 1]) (rest := []) ⟨hx, hb, hml, hown, hT⟩ (c_X10_findingG l D cI aK aV k k0 k1 k2 k3 k4 k5 k6 k7 k8 k9 ka kb H.size cc cb 1) (cwV 1 hT (gV_in mw_338 mw_335 mw_337 mw_p1_0 mw_1) rfl rfl rfl (by decide +kernel) ⟨Nat.le_of_ble_eq_true rfl, Nat.le_of_ble_eq_true rfl⟩) (kRecvX (q0 := 0) (ci := 10) hK hP hD hN hXS hS hA rfl rfl [0, 2] rfl (by decide +kernel)) rfl rfl hl.1 rfl (lv_room (Nat.le_of_ble_eq_true rfl)) dX10_party_67 ⟨Nat.le_of_ble_eq_true rfl, Nat.le_of_ble_eq_true rfl⟩) hP hD hS hA [0, 2] [1, 3, 4] rfl rfl (by decide +kernel) (by decide +kernel) ?_
                  clear hP hD hS
                  intro r_178 scb_180 H locs w_179 hP hD hS
                  replace hP : va_P D vwCl [(k0, .inr (9, [.ref k00, .ref k01, .ref k02, .ref k03, .ref k04, .ref k05, .int c06, .int c07, .int c08])), (k05, .inr (3, [.ref k050, .int c051])), (k050, .inl (cI, 36, .inl c050)), (k, .inr (10, [.ref k0, .ref k1, .ref k2, .ref k3, .ref k4, .ref k5, .ref k6, .ref k7, .ref k8, .ref k9, .ref ka, .ref kb, .int cc])), (kb, .inl (cI, 6, .inl scb_180))] H := hP
                  replace hD : va_D A [(k0, .inr (9, [.ref k00, .ref k01, .ref k02, .ref k03, .ref k04, .ref k05, .int c06, .int c07, .int c08])), (k05, .inr (3, [.ref k050, .int c051])), (k050, .inl (cI, 36, .inl c050)), (k, .inr (10, [.ref k0, .ref k1, .ref k2, .ref k3, .ref k4, .ref k5, .ref k6, .ref k7, .ref k8, .ref k9, .ref ka, .ref kb, .int cc])), (kb, .inl (cI, 6, .inl scb_180))] := hD
                  have hr_178 := w_179
                  obtain rfl : r_178 = (-1000001) := hr_178.trans (by decide +kernel)
                  exact hRet (scb_180, c051, c050) [3, 0, 4, 1, 2] ⟨(by (try dsimp only); unfold partyR; (repeat (first | rw [if_pos (by omega)] | rw [if_neg (by omega)])); first | done | exact (by first | assumption | exact k_inj (by omega))), (WR.gt pre0 (by (try dsimp only); unfold partyS; (repeat (first | rw [if_pos (by omega)] | rw [if_neg (by omega)]))))⟩ hP hD (by decide +kernel) rfl hS rfl dX10_party_70
  · have h_11 : a0.toInt < 0 ∨ 39 < a0.toInt := h_11
    obtain rfl : r_6 = 0 := hr_6.trans (by decide +kernel)
    refine b_if_eq hx hb zl_0 (tgt := 33) dX10_party_4 (by decide +kernel) (fun c_181 => ?_) (fun c_181 => by exfalso; omega)
    refine lv_iconst (v := 0) hx hb dX10_party_33 (by decide +kernel) ?_
    refine lv_istore (lv' := [(5, .int 0), (0, .ref k), (1, .int a0), (2, .int a1), (3, .int a2), (4, .int a3)]) hx hb dX10_party_34 hl (by decide +kernel) rfl ?_
    clear hl
    intro ls hl
    refine lv_iload hx hb dX10_party_36 (lv_at hl 0 rfl) ?_
    refine b_if_eq hx hb zl_0 (tgt := 65) dX10_party_38 (by decide +kernel) (fun c_182 => ?_) (fun c_182 => by exfalso; omega)
    refine lv_aload_n hx hb dX10_party_65 rfl (lv_at hl 1 rfl) ?_
    refine lv_iconst (v := 1) hx hb dX10_party_66 (by decide +kernel) ?_
    refine kJi (wr := [(k0, .inr (9, [.ref k00, .ref k01, .ref k02, .ref k03, .ref k04, .ref k05, .int c06, .int c07, .int c08])), (k05, .inr (3, [.ref k050, .int c051])), (k050, .inl (cI, 36, .inl c050))]) (va_runV (As := [.int 1]) (rest := []) ⟨hx, hb, hml, hown, hT⟩ (c_X10_findingG l D cI aK aV k k0 k1 k2 k3 k4 k5 k6 k7 k8 k9 ka kb H.size cc cb 1) (cwV 1 hT (gV_in mw_338 mw_335 mw_337 mw_p1_0 mw_1) rfl rfl rfl (by decide +kernel) ⟨Nat.le_of_ble_eq_true rfl, Nat.le_of_ble_eq_true rfl⟩) (kRecvX (q0 := 0) (ci := 10) hK hP hD hN hXS hS hA rfl rfl [0, 2] rfl (by decide +kernel)) rfl rfl hl.1 rfl (lv_room (Nat.le_of_ble_eq_true rfl)) dX10_party_67 ⟨Nat.le_of_ble_eq_true rfl, Nat.le_of_ble_eq_true rfl⟩) hP hD hS hA [0, 2] [1, 3, 4] rfl rfl (by decide +kernel) (by decide +kernel) ?_
    clear hP hD hS
    intro r_183 scb_185 H locs w_184 hP hD hS
    replace hP : va_P D vwCl [(k0, .inr (9, [.ref k00, .ref k01, .ref k02, .ref k03, .ref k04, .ref k05, .int c06, .int c07, .int c08])), (k05, .inr (3, [.ref k050, .int c051])), (k050, .inl (cI, 36, .inl c050)), (k, .inr (10, [.ref k0, .ref k1, .ref k2, .ref k3, .ref k4, .ref k5, .ref k6, .ref k7, .ref k8, .ref k9, .ref ka, .ref kb, .int cc])), (kb, .inl (cI, 6, .inl scb_185))] H := hP
    replace hD : va_D A [(k0, .inr (9, [.ref k00, .ref k01, .ref k02, .ref k03, .ref k04, .ref k05, .int c06, .int c07, .int c08])), (k05, .inr (3, [.ref k050, .int c051])), (k050, .inl (cI, 36, .inl c050)), (k, .inr (10, [.ref k0, .ref k1, .ref k2, .ref k3, .ref k4, .ref k5, .ref k6, .ref k7, .ref k8, .ref k9, .ref ka, .ref kb, .int cc])), (kb, .inl (cI, 6, .inl scb_185))] := hD
    have hr_183 := w_184
    obtain rfl : r_183 = (-1000001) := hr_183.trans (by decide +kernel)
    exact hRet (scb_185, c051, c050) [3, 0, 4, 1, 2] ⟨(by (try dsimp only); unfold partyR; (repeat (first | rw [if_pos (by omega)] | rw [if_neg (by omega)])); first | done | exact (by first | assumption | exact k_inj (by omega))), (WR.gt pre0 (by (try dsimp only); unfold partyS; (repeat (first | rw [if_pos (by omega)] | rw [if_neg (by omega)]))))⟩ hP hD (by decide +kernel) rfl hS rfl dX10_party_70
