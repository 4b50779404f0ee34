theorem dX9_copyFrom_0 : decode cX9_copyFrom 0 = .ok (.aload_n 1, 1) := by decide +kernel
theorem dX9_copyFrom_1 : decode cX9_copyFrom 1 = .ok (.getfield 9, 3) := by decide +kernel
theorem dX9_copyFrom_4 : decode cX9_copyFrom 4 = .ok (.iconst 0, 1) := by decide +kernel
theorem dX9_copyFrom_5 : decode cX9_copyFrom 5 = .ok (.aload_n 0, 1) := by decide +kernel
theorem dX9_copyFrom_6 : decode cX9_copyFrom 6 = .ok (.getfield 9, 3) := by decide +kernel
theorem dX9_copyFrom_9 : decode cX9_copyFrom 9 = .ok (.iconst 0, 1) := by decide +kernel
theorem dX9_copyFrom_10 : decode cX9_copyFrom 10 = .ok (.bipush 12, 2) := by decide +kernel
theorem dX9_copyFrom_12 : decode cX9_copyFrom 12 = .ok (.invokestatic 48, 3) := by decide +kernel
theorem dX9_copyFrom_15 : decode cX9_copyFrom 15 = .ok (.aload_n 1, 1) := by decide +kernel
theorem dX9_copyFrom_16 : decode cX9_copyFrom 16 = .ok (.getfield 15, 3) := by decide +kernel
theorem dX9_copyFrom_19 : decode cX9_copyFrom 19 = .ok (.iconst 0, 1) := by decide +kernel
theorem dX9_copyFrom_20 : decode cX9_copyFrom 20 = .ok (.aload_n 0, 1) := by decide +kernel
theorem dX9_copyFrom_21 : decode cX9_copyFrom 21 = .ok (.getfield 15, 3) := by decide +kernel
theorem dX9_copyFrom_24 : decode cX9_copyFrom 24 = .ok (.iconst 0, 1) := by decide +kernel
theorem dX9_copyFrom_25 : decode cX9_copyFrom 25 = .ok (.bipush 40, 2) := by decide +kernel
theorem dX9_copyFrom_27 : decode cX9_copyFrom 27 = .ok (.invokestatic 48, 3) := by decide +kernel
theorem dX9_copyFrom_30 : decode cX9_copyFrom 30 = .ok (.aload_n 1, 1) := by decide +kernel
theorem dX9_copyFrom_31 : decode cX9_copyFrom 31 = .ok (.getfield 18, 3) := by decide +kernel
theorem dX9_copyFrom_34 : decode cX9_copyFrom 34 = .ok (.iconst 0, 1) := by decide +kernel
theorem dX9_copyFrom_35 : decode cX9_copyFrom 35 = .ok (.aload_n 0, 1) := by decide +kernel
theorem dX9_copyFrom_36 : decode cX9_copyFrom 36 = .ok (.getfield 18, 3) := by decide +kernel
theorem dX9_copyFrom_39 : decode cX9_copyFrom 39 = .ok (.iconst 0, 1) := by decide +kernel
theorem dX9_copyFrom_40 : decode cX9_copyFrom 40 = .ok (.bipush 40, 2) := by decide +kernel
theorem dX9_copyFrom_42 : decode cX9_copyFrom 42 = .ok (.invokestatic 48, 3) := by decide +kernel
theorem dX9_copyFrom_45 : decode cX9_copyFrom 45 = .ok (.aload_n 1, 1) := by decide +kernel
theorem dX9_copyFrom_46 : decode cX9_copyFrom 46 = .ok (.getfield 21, 3) := by decide +kernel
theorem dX9_copyFrom_49 : decode cX9_copyFrom 49 = .ok (.iconst 0, 1) := by decide +kernel
theorem dX9_copyFrom_50 : decode cX9_copyFrom 50 = .ok (.aload_n 0, 1) := by decide +kernel
theorem dX9_copyFrom_51 : decode cX9_copyFrom 51 = .ok (.getfield 21, 3) := by decide +kernel
theorem dX9_copyFrom_54 : decode cX9_copyFrom 54 = .ok (.iconst 0, 1) := by decide +kernel
theorem dX9_copyFrom_55 : decode cX9_copyFrom 55 = .ok (.bipush 20, 2) := by decide +kernel
theorem dX9_copyFrom_57 : decode cX9_copyFrom 57 = .ok (.invokestatic 48, 3) := by decide +kernel
theorem dX9_copyFrom_60 : decode cX9_copyFrom 60 = .ok (.aload_n 0, 1) := by decide +kernel
theorem dX9_copyFrom_61 : decode cX9_copyFrom 61 = .ok (.getfield 27, 3) := by decide +kernel
theorem dX9_copyFrom_64 : decode cX9_copyFrom 64 = .ok (.aload_n 1, 1) := by decide +kernel
theorem dX9_copyFrom_65 : decode cX9_copyFrom 65 = .ok (.getfield 27, 3) := by decide +kernel
theorem dX9_copyFrom_68 : decode cX9_copyFrom 68 = .ok (.invokevirtual 54, 3) := by decide +kernel
theorem dX9_copyFrom_71 : decode cX9_copyFrom 71 = .ok (.aload_n 0, 1) := by decide +kernel
theorem dX9_copyFrom_72 : decode cX9_copyFrom 72 = .ok (.getfield 34, 3) := by decide +kernel
theorem dX9_copyFrom_75 : decode cX9_copyFrom 75 = .ok (.aload_n 1, 1) := by decide +kernel
theorem dX9_copyFrom_76 : decode cX9_copyFrom 76 = .ok (.getfield 34, 3) := by decide +kernel
theorem dX9_copyFrom_79 : decode cX9_copyFrom 79 = .ok (.invokevirtual 58, 3) := by decide +kernel
theorem dX9_copyFrom_82 : decode cX9_copyFrom 82 = .ok (.aload_n 0, 1) := by decide +kernel
theorem dX9_copyFrom_83 : decode cX9_copyFrom 83 = .ok (.aload_n 1, 1) := by decide +kernel
theorem dX9_copyFrom_84 : decode cX9_copyFrom 84 = .ok (.getfield 38, 3) := by decide +kernel
theorem dX9_copyFrom_87 : decode cX9_copyFrom 87 = .ok (.putfield 38, 3) := by decide +kernel
theorem dX9_copyFrom_90 : decode cX9_copyFrom 90 = .ok (.aload_n 0, 1) := by decide +kernel
theorem dX9_copyFrom_91 : decode cX9_copyFrom 91 = .ok (.aload_n 1, 1) := by decide +kernel
theorem dX9_copyFrom_92 : decode cX9_copyFrom 92 = .ok (.getfield 42, 3) := by decide +kernel
theorem dX9_copyFrom_95 : decode cX9_copyFrom 95 = .ok (.putfield 42, 3) := by decide +kernel
theorem dX9_copyFrom_98 : decode cX9_copyFrom 98 = .ok (.aload_n 0, 1) := by decide +kernel
theorem dX9_copyFrom_99 : decode cX9_copyFrom 99 = .ok (.aload_n 1, 1) := by decide +kernel
theorem dX9_copyFrom_100 : decode cX9_copyFrom 100 = .ok (.getfield 45, 3) := by decide +kernel
theorem dX9_copyFrom_103 : decode cX9_copyFrom 103 = .ok (.putfield 45, 3) := by decide +kernel
theorem dX9_copyFrom_106 : decode cX9_copyFrom 106 = .ok (.return_, 1) := by decide +kernel
theorem dX9_eatPoles_0 : decode cX9_eatPoles 0 = .ok (.iconst 0, 1) := by decide +kernel
theorem dX9_eatPoles_1 : decode cX9_eatPoles 1 = .ok (.istore_n 1, 1) := by decide +kernel
theorem dX9_eatPoles_2 : decode cX9_eatPoles 2 = .ok (.iload_n 1, 1) := by decide +kernel
theorem dX9_eatPoles_3 : decode cX9_eatPoles 3 = .ok (.aload_n 0, 1) := by decide +kernel
theorem dX9_eatPoles_4 : decode cX9_eatPoles 4 = .ok (.getfield 27, 3) := by decide +kernel
theorem dX9_eatPoles_7 : decode cX9_eatPoles 7 = .ok (.getfield 83, 3) := by decide +kernel
theorem dX9_eatPoles_10 : decode cX9_eatPoles 10 = .ok (.if_icmp .ge 63, 3) := by decide +kernel
theorem dX9_eatPoles_73 : decode cX9_eatPoles 73 = .ok (.return_, 1) := by decide +kernel
theorem dX9_effortOf_0 : decode cX9_effortOf 0 = .ok (.aload_n 0, 1) := by decide +kernel
theorem dX9_effortOf_1 : decode cX9_effortOf 1 = .ok (.iload_n 1, 1) := by decide +kernel
theorem dX9_effortOf_2 : decode cX9_effortOf 2 = .ok (.invokevirtual 69, 3) := by decide +kernel
theorem dX9_effortOf_5 : decode cX9_effortOf 5 = .ok (.aload_n 0, 1) := by decide +kernel
theorem dX9_effortOf_6 : decode cX9_effortOf 6 = .ok (.invokevirtual 72, 3) := by decide +kernel
theorem dX9_effortOf_9 : decode cX9_effortOf 9 = .ok (.invokestatic 76, 3) := by decide +kernel
theorem dX9_effortOf_12 : decode cX9_effortOf 12 = .ok (.ireturn, 1) := by decide +kernel
theorem dX9_endDay_0 : decode cX9_endDay 0 = .ok (.aload_n 0, 1) := by decide +kernel
theorem dX9_endDay_1 : decode cX9_endDay 1 = .ok (.invokevirtual 116, 3) := by decide +kernel
theorem dX9_endDay_4 : decode cX9_endDay 4 = .ok (.iconst 0, 1) := by decide +kernel
theorem dX9_endDay_5 : decode cX9_endDay 5 = .ok (.istore_n 1, 1) := by decide +kernel
theorem dX9_endDay_6 : decode cX9_endDay 6 = .ok (.iload_n 1, 1) := by decide +kernel
theorem dX9_endDay_7 : decode cX9_endDay 7 = .ok (.aload_n 0, 1) := by decide +kernel
theorem dX9_endDay_8 : decode cX9_endDay 8 = .ok (.getfield 34, 3) := by decide +kernel
theorem dX9_endDay_11 : decode cX9_endDay 11 = .ok (.getfield 119, 3) := by decide +kernel
theorem dX9_endDay_14 : decode cX9_endDay 14 = .ok (.if_icmp .ge 30, 3) := by decide +kernel
theorem dX9_endDay_44 : decode cX9_endDay 44 = .ok (.iconst 0, 1) := by decide +kernel
theorem dX9_endDay_45 : decode cX9_endDay 45 = .ok (.istore_n 1, 1) := by decide +kernel
theorem dX9_endDay_46 : decode cX9_endDay 46 = .ok (.iload_n 1, 1) := by decide +kernel
theorem dX9_endDay_47 : decode cX9_endDay 47 = .ok (.aload_n 0, 1) := by decide +kernel
theorem dX9_endDay_48 : decode cX9_endDay 48 = .ok (.getfield 34, 3) := by decide +kernel
theorem dX9_endDay_51 : decode cX9_endDay 51 = .ok (.getfield 119, 3) := by decide +kernel
theorem dX9_endDay_54 : decode cX9_endDay 54 = .ok (.if_icmp .ge 27, 3) := by decide +kernel
theorem dX9_endDay_81 : decode cX9_endDay 81 = .ok (.aload_n 0, 1) := by decide +kernel
theorem dX9_endDay_82 : decode cX9_endDay 82 = .ok (.dup, 1) := by decide +kernel
theorem dX9_endDay_83 : decode cX9_endDay 83 = .ok (.getfield 45, 3) := by decide +kernel
theorem dX9_endDay_86 : decode cX9_endDay 86 = .ok (.iconst 1, 1) := by decide +kernel
theorem dX9_endDay_87 : decode cX9_endDay 87 = .ok (.iadd, 1) := by decide +kernel
theorem dX9_endDay_88 : decode cX9_endDay 88 = .ok (.putfield 45, 3) := by decide +kernel
theorem dX9_endDay_91 : decode cX9_endDay 91 = .ok (.return_, 1) := by decide +kernel
theorem dX9_leakOf_0 : decode cX9_leakOf 0 = .ok (.iconst (-1), 1) := by decide +kernel
theorem dX9_leakOf_1 : decode cX9_leakOf 1 = .ok (.istore_n 2, 1) := by decide +kernel
theorem dX9_leakOf_2 : decode cX9_leakOf 2 = .ok (.aload_n 0, 1) := by decide +kernel
theorem dX9_leakOf_3 : decode cX9_leakOf 3 = .ok (.getfield 27, 3) := by decide +kernel
theorem dX9_leakOf_6 : decode cX9_leakOf 6 = .ok (.iload_n 1, 1) := by decide +kernel
theorem dX9_leakOf_7 : decode cX9_leakOf 7 = .ok (.invokevirtual 80, 3) := by decide +kernel
theorem dX9_leakOf_10 : decode cX9_leakOf 10 = .ok (.ifCond .ne 5, 3) := by decide +kernel
theorem dX9_leakOf_13 : decode cX9_leakOf 13 = .ok (.iload_n 2, 1) := by decide +kernel
theorem dX9_leakOf_14 : decode cX9_leakOf 14 = .ok (.ireturn, 1) := by decide +kernel
theorem dX9_rainNow_0 : decode cX9_rainNow 0 = .ok (.aload_n 0, 1) := by decide +kernel
theorem dX9_rainNow_1 : decode cX9_rainNow 1 = .ok (.getfield 45, 3) := by decide +kernel
theorem dX9_rainNow_4 : decode cX9_rainNow 4 = .ok (.invokestatic 65, 3) := by decide +kernel
theorem dX9_rainNow_7 : decode cX9_rainNow 7 = .ok (.istore_n 1, 1) := by decide +kernel
theorem dX9_rainNow_8 : decode cX9_rainNow 8 = .ok (.iload_n 1, 1) := by decide +kernel
theorem dX9_rainNow_9 : decode cX9_rainNow 9 = .ok (.ifCond .lt 18, 3) := by decide +kernel
theorem dX9_rainNow_12 : decode cX9_rainNow 12 = .ok (.iload_n 1, 1) := by decide +kernel
theorem dX9_rainNow_13 : decode cX9_rainNow 13 = .ok (.bipush 12, 2) := by decide +kernel
theorem dX9_rainNow_15 : decode cX9_rainNow 15 = .ok (.if_icmp .ge 12, 3) := by decide +kernel
theorem dX9_rainNow_18 : decode cX9_rainNow 18 = .ok (.aload_n 0, 1) := by decide +kernel
theorem dX9_rainNow_19 : decode cX9_rainNow 19 = .ok (.getfield 9, 3) := by decide +kernel
theorem dX9_rainNow_22 : decode cX9_rainNow 22 = .ok (.iload_n 1, 1) := by decide +kernel
theorem dX9_rainNow_23 : decode cX9_rainNow 23 = .ok (.iaload, 1) := by decide +kernel
theorem dX9_rainNow_24 : decode cX9_rainNow 24 = .ok (.goto 4, 3) := by decide +kernel
theorem dX9_rainNow_28 : decode cX9_rainNow 28 = .ok (.ireturn, 1) := by decide +kernel
theorem dX9_soilOf_0 : decode cX9_soilOf 0 = .ok (.iload_n 1, 1) := by decide +kernel
theorem dX9_soilOf_1 : decode cX9_soilOf 1 = .ok (.invokestatic 61, 3) := by decide +kernel
theorem dX9_soilOf_4 : decode cX9_soilOf 4 = .ok (.ifCond .eq 12, 3) := by decide +kernel
theorem dX9_soilOf_7 : decode cX9_soilOf 7 = .ok (.aload_n 0, 1) := by decide +kernel
theorem dX9_soilOf_8 : decode cX9_soilOf 8 = .ok (.getfield 15, 3) := by decide +kernel
theorem dX9_soilOf_11 : decode cX9_soilOf 11 = .ok (.iload_n 1, 1) := by decide +kernel
theorem dX9_soilOf_12 : decode cX9_soilOf 12 = .ok (.iaload, 1) := by decide +kernel
theorem dX9_soilOf_13 : decode cX9_soilOf 13 = .ok (.goto 4, 3) := by decide +kernel
theorem dX9_soilOf_16 : decode cX9_soilOf 16 = .ok (.iconst 0, 1) := by decide +kernel
theorem dX9_soilOf_17 : decode cX9_soilOf 17 = .ok (.ireturn, 1) := by decide +kernel
theorem dX9_springOf_0 : decode cX9_springOf 0 = .ok (.iload_n 1, 1) := by decide +kernel
theorem dX9_springOf_1 : decode cX9_springOf 1 = .ok (.invokestatic 61, 3) := by decide +kernel
theorem dX9_springOf_4 : decode cX9_springOf 4 = .ok (.ifCond .eq 12, 3) := by decide +kernel
theorem dX9_springOf_7 : decode cX9_springOf 7 = .ok (.aload_n 0, 1) := by decide +kernel
theorem dX9_springOf_8 : decode cX9_springOf 8 = .ok (.getfield 18, 3) := by decide +kernel
theorem dX9_springOf_11 : decode cX9_springOf 11 = .ok (.iload_n 1, 1) := by decide +kernel
theorem dX9_springOf_12 : decode cX9_springOf 12 = .ok (.iaload, 1) := by decide +kernel
theorem dX9_springOf_13 : decode cX9_springOf 13 = .ok (.goto 4, 3) := by decide +kernel
theorem dX9_springOf_16 : decode cX9_springOf 16 = .ok (.iconst 0, 1) := by decide +kernel
theorem dX9_springOf_17 : decode cX9_springOf 17 = .ok (.ireturn, 1) := by decide +kernel
set_option maxHeartbeats 4000000 in
set_option maxRecDepth 100000 in
theorem c_X9_soilOf (l : Launch) (D : va_G) (cI : ClassId) (h w0 w1 w2 w3 w4 w5 : Nat) (sz : Nat) (wt : Int32) (re : Int32) (dy : Int32) (a : Int32) : Met l yX9_soilOf (gW yX9_soilOf cX9_soilOf 2 (some .int)) ({ frames := 1, cells := 0, slots := 0, locals := 20 } : Room) (kPre D cI [.ref h, .int a] [(h, .inr (9, [.ref w0, .ref w1, .ref w2, .ref w3, .ref w4, .ref w5, .int wt, .int re, .int dy])), (w1, .inl (cI, 40, .inl (fun _ => (0 : Int32))))] sz) (va_Qi (fun (r : Int32) (u : Unit) => r = 0) (fun u t => kWd D cI (va_A [(h, .inr (9, [.ref w0, .ref w1, .ref w2, .ref w3, .ref w4, .ref w5, .int wt, .int re, .int dy])), (w1, .inl (cI, 40, .inl (fun _ => (0 : Int32))))] sz) [(h, .inr (9, [.ref w0, .ref w1, .ref w2, .ref w3, .ref w4, .ref w5, .int wt, .int re, .int dy])), (w1, .inl (cI, 40, .inl (fun _ => (0 : Int32))))] t) (va_A [(h, .inr (9, [.ref w0, .ref w1, .ref w2, .ref w3, .ref w4, .ref w5, .int wt, .int re, .int dy])), (w1, .inl (cI, 40, .inl (fun _ => (0 : Int32))))] sz)) 0 0 (va_A [(h, .inr (9, [.ref w0, .ref w1, .ref w2, .ref w3, .ref w4, .ref w5, .int wt, .int re, .int dy])), (w1, .inl (cI, 40, .inl (fun _ => (0 : Int32))))] sz) := by
  refine kMetI (own := RX9) (by decide) rfl (Nat.le_of_ble_eq_true rfl) ?_
  intro p e s m args below meth c hx hb hT hown hname hml A Q hK hP hD hS hA hN hRet ls hl
  have hl : lv_has ls 2 [(0, .ref h), (1, .int a)] := hl
  have lo_a := k_lo a
  have hi_a := k_hi a
  have lo_wt := k_lo wt
  have hi_wt := k_hi wt
  have lo_re := k_lo re
  have hi_re := k_hi re
  have lo_dy := k_lo dy
  have hi_dy := k_hi dy
  refine lv_iload_n hx hb dX9_soilOf_0 rfl (lv_at hl 1 rfl) ?_
  refine kJi (wr := [(h, .inr (9, [.ref w0, .ref w1, .ref w2, .ref w3, .ref w4, .ref w5, .int wt, .int re, .int dy])), (w1, .inl (cI, 40, .inl (fun _ => (0 : Int32))))]) (va_runSN (As := [.int a]) (rest := []) ⟨hx, hb, hml, hown, hT⟩ (c_X10_isMile l D cI s.heap.size a) ⟨va_cnB 1 hT (gW_in mw_346) rfl rfl rfl (hN _ mw_424) (hT _ mw_1) (by decide +kernel) ⟨Nat.le_of_ble_eq_true rfl, Nat.le_of_ble_eq_true rfl⟩, hT _ mw_345, trivial⟩ (kStat hK hP hD hN [] rfl (by decide)) rfl rfl hl.1 rfl (lv_room (Nat.le_of_ble_eq_true rfl)) dX9_soilOf_1 ⟨Nat.le_of_ble_eq_true rfl, Nat.le_of_ble_eq_true rfl⟩) hP hD hS hA [] [0, 1] rfl rfl (by decide) (by decide) (fun r_1 u_3 H locs w_2 hP hD hS => ?_)
  have hP : va_P D vwCl [(h, .inr (9, [.ref w0, .ref w1, .ref w2, .ref w3, .ref w4, .ref w5, .int wt, .int re, .int dy])), (w1, .inl (cI, 40, .inl (fun _ => (0 : Int32))))] H := hP
  have hD : va_D A [(h, .inr (9, [.ref w0, .ref w1, .ref w2, .ref w3, .ref w4, .ref w5, .int wt, .int re, .int dy])), (w1, .inl (cI, 40, .inl (fun _ => (0 : Int32))))] := hD
  rcases w_2 with ⟨hr_1, h_4, h_5⟩ | ⟨hr_1, h_6⟩
  · have h_4 : 0 ≤ a.toInt := h_4
    have h_5 : a.toInt ≤ 39 := h_5
    obtain rfl : r_1 = 1 := hr_1.trans (by decide)
    refine b_if_eq hx hb zl_1 (tgt := 16) dX9_soilOf_4 (by decide) (fun c_7 => by exfalso; omega) (fun c_7 => ?_)
    refine lv_aload_n hx hb dX9_soilOf_7 rfl (lv_at hl 0 rfl) ?_
    refine va_get (D := D) (ci := 9) (v := .ref w1) (C := RX9) (T := TX9) (N := 9) hx hb hT giX9 hown hK hP 0 rfl rfl 1 (by decide) (hT (Cond.fieldLink RX9 15 "DesertWire$World" "soils" "[I") mw_91) (fun _ h9 => h9) rfl dX9_soilOf_8 ?_
    refine lv_iload_n hx hb dX9_soilOf_11 rfl (lv_at hl 1 rfl) ?_
    refine k_iald (v := 0) hx hb hK hP 1 0 rfl rfl (k_in (by omega) (by omega)) rfl dX9_soilOf_12 ?_
    refine lv_goto (tgt := 17) hx hb dX9_soilOf_13 (by decide) ?_
    exact hRet () [0, 1] rfl hP hD (by decide) rfl hS rfl dX9_soilOf_17
  · have h_6 : a.toInt < 0 ∨ 39 < a.toInt := h_6
    obtain rfl : r_1 = 0 := hr_1.trans (by decide)
    refine b_if_eq hx hb zl_0 (tgt := 16) dX9_soilOf_4 (by decide) (fun c_8 => ?_) (fun c_8 => by exfalso; omega)
    refine lv_iconst (v := 0) hx hb dX9_soilOf_16 (by decide) ?_
    exact hRet () [0, 1] rfl hP hD (by decide) rfl hS rfl dX9_soilOf_17
set_option maxHeartbeats 4000000 in
set_option maxRecDepth 100000 in
theorem c_X9_springOf (l : Launch) (D : va_G) (cI : ClassId) (h w0 w1 w2 w3 w4 w5 : Nat) (sz : Nat) (wt : Int32) (re : Int32) (dy : Int32) (a : Int32) : Met l yX9_springOf (gW yX9_springOf cX9_springOf 2 (some .int)) ({ frames := 1, cells := 0, slots := 0, locals := 20 } : Room) (kPre D cI [.ref h, .int a] [(h, .inr (9, [.ref w0, .ref w1, .ref w2, .ref w3, .ref w4, .ref w5, .int wt, .int re, .int dy])), (w2, .inl (cI, 40, .inl (fun _ => (0 : Int32))))] sz) (va_Qi (fun (r : Int32) (u : Unit) => r = 0) (fun u t => kWd D cI (va_A [(h, .inr (9, [.ref w0, .ref w1, .ref w2, .ref w3, .ref w4, .ref w5, .int wt, .int re, .int dy])), (w2, .inl (cI, 40, .inl (fun _ => (0 : Int32))))] sz) [(h, .inr (9, [.ref w0, .ref w1, .ref w2, .ref w3, .ref w4, .ref w5, .int wt, .int re, .int dy])), (w2, .inl (cI, 40, .inl (fun _ => (0 : Int32))))] t) (va_A [(h, .inr (9, [.ref w0, .ref w1, .ref w2, .ref w3, .ref w4, .ref w5, .int wt, .int re, .int dy])), (w2, .inl (cI, 40, .inl (fun _ => (0 : Int32))))] sz)) 0 0 (va_A [(h, .inr (9, [.ref w0, .ref w1, .ref w2, .ref w3, .ref w4, .ref w5, .int wt, .int re, .int dy])), (w2, .inl (cI, 40, .inl (fun _ => (0 : Int32))))] sz) := by
  refine kMetI (own := RX9) (by decide) rfl (Nat.le_of_ble_eq_true rfl) ?_
  intro p e s m args below meth c hx hb hT hown hname hml A Q hK hP hD hS hA hN hRet ls hl
  have hl : lv_has ls 2 [(0, .ref h), (1, .int a)] := hl
  have lo_a := k_lo a
  have hi_a := k_hi a
  have lo_wt := k_lo wt
  have hi_wt := k_hi wt
  have lo_re := k_lo re
  have hi_re := k_hi re
  have lo_dy := k_lo dy
  have hi_dy := k_hi dy
  refine lv_iload_n hx hb dX9_springOf_0 rfl (lv_at hl 1 rfl) ?_
  refine kJi (wr := [(h, .inr (9, [.ref w0, .ref w1, .ref w2, .ref w3, .ref w4, .ref w5, .int wt, .int re, .int dy])), (w2, .inl (cI, 40, .inl (fun _ => (0 : Int32))))]) (va_runSN (As := [.int a]) (rest := []) ⟨hx, hb, hml, hown, hT⟩ (c_X10_isMile l D cI s.heap.size a) ⟨va_cnB 1 hT (gW_in mw_346) rfl rfl rfl (hN _ mw_424) (hT _ mw_1) (by decide +kernel) ⟨Nat.le_of_ble_eq_true rfl, Nat.le_of_ble_eq_true rfl⟩, hT _ mw_345, trivial⟩ (kStat hK hP hD hN [] rfl (by decide)) rfl rfl hl.1 rfl (lv_room (Nat.le_of_ble_eq_true rfl)) dX9_springOf_1 ⟨Nat.le_of_ble_eq_true rfl, Nat.le_of_ble_eq_true rfl⟩) hP hD hS hA [] [0, 1] rfl rfl (by decide) (by decide) (fun r_1 u_3 H locs w_2 hP hD hS => ?_)
  have hP : va_P D vwCl [(h, .inr (9, [.ref w0, .ref w1, .ref w2, .ref w3, .ref w4, .ref w5, .int wt, .int re, .int dy])), (w2, .inl (cI, 40, .inl (fun _ => (0 : Int32))))] H := hP
  have hD : va_D A [(h, .inr (9, [.ref w0, .ref w1, .ref w2, .ref w3, .ref w4, .ref w5, .int wt, .int re, .int dy])), (w2, .inl (cI, 40, .inl (fun _ => (0 : Int32))))] := hD
  rcases w_2 with ⟨hr_1, h_4, h_5⟩ | ⟨hr_1, h_6⟩
  · have h_4 : 0 ≤ a.toInt := h_4
    have h_5 : a.toInt ≤ 39 := h_5
    obtain rfl : r_1 = 1 := hr_1.trans (by decide)
    refine b_if_eq hx hb zl_1 (tgt := 16) dX9_springOf_4 (by decide) (fun c_7 => by exfalso; omega) (fun c_7 => ?_)
    refine lv_aload_n hx hb dX9_springOf_7 rfl (lv_at hl 0 rfl) ?_
    refine va_get (D := D) (ci := 9) (v := .ref w2) (C := RX9) (T := TX9) (N := 9) hx hb hT giX9 hown hK hP 0 rfl rfl 2 (by decide) (hT (Cond.fieldLink RX9 18 "DesertWire$World" "springs" "[I") mw_93) (fun _ h9 => h9) rfl dX9_springOf_8 ?_
    refine lv_iload_n hx hb dX9_springOf_11 rfl (lv_at hl 1 rfl) ?_
    refine k_iald (v := 0) hx hb hK hP 1 0 rfl rfl (k_in (by omega) (by omega)) rfl dX9_springOf_12 ?_
    refine lv_goto (tgt := 17) hx hb dX9_springOf_13 (by decide) ?_
    exact hRet () [0, 1] rfl hP hD (by decide) rfl hS rfl dX9_springOf_17
  · have h_6 : a.toInt < 0 ∨ 39 < a.toInt := h_6
    obtain rfl : r_1 = 0 := hr_1.trans (by decide)
    refine b_if_eq hx hb zl_0 (tgt := 16) dX9_springOf_4 (by decide) (fun c_8 => ?_) (fun c_8 => by exfalso; omega)
    refine lv_iconst (v := 0) hx hb dX9_springOf_16 (by decide) ?_
    exact hRet () [0, 1] rfl hP hD (by decide) rfl hS rfl dX9_springOf_17
set_option maxHeartbeats 4000000 in
set_option maxRecDepth 100000 in
theorem c_X9_rainNow (l : Launch) (D : va_G) (cI : ClassId) (h w0 w1 w2 w3 w4 w5 : Nat) (sz : Nat) (wt : Int32) (re : Int32) : Met l yX9_rainNow (gW yX9_rainNow cX9_rainNow 2 (some .int)) ({ frames := 1, cells := 0, slots := 0, locals := 20 } : Room) (kPre D cI [.ref h] [(h, .inr (9, [.ref w0, .ref w1, .ref w2, .ref w3, .ref w4, .ref w5, .int wt, .int re, .int 0])), (w0, .inl (cI, 12, .inl (fun _ => (2 : Int32))))] sz) (va_Qi (fun (r : Int32) (u : Unit) => r = 2) (fun u t => kWd D cI (va_A [(h, .inr (9, [.ref w0, .ref w1, .ref w2, .ref w3, .ref w4, .ref w5, .int wt, .int re, .int 0])), (w0, .inl (cI, 12, .inl (fun _ => (2 : Int32))))] sz) [(h, .inr (9, [.ref w0, .ref w1, .ref w2, .ref w3, .ref w4, .ref w5, .int wt, .int re, .int 0])), (w0, .inl (cI, 12, .inl (fun _ => (2 : Int32))))] t) (va_A [(h, .inr (9, [.ref w0, .ref w1, .ref w2, .ref w3, .ref w4, .ref w5, .int wt, .int re, .int 0])), (w0, .inl (cI, 12, .inl (fun _ => (2 : Int32))))] sz)) 0 0 (va_A [(h, .inr (9, [.ref w0, .ref w1, .ref w2, .ref w3, .ref w4, .ref w5, .int wt, .int re, .int 0])), (w0, .inl (cI, 12, .inl (fun _ => (2 : Int32))))] sz) := by
  refine kMetI (own := RX9) (by decide) rfl (Nat.le_of_ble_eq_true rfl) ?_
  intro p e s m args below meth c hx hb hT hown hname hml A Q hK hP hD hS hA hN hRet ls hl
  have hl : lv_has ls 2 [(0, .ref h)] := hl
  have lo_wt := k_lo wt
  have hi_wt := k_hi wt
  have lo_re := k_lo re
  have hi_re := k_hi re
  refine lv_aload_n hx hb dX9_rainNow_0 rfl (lv_at hl 0 rfl) ?_
  refine va_get (D := D) (ci := 9) (v := .int 0) (C := RX9) (T := TX9) (N := 9) hx hb hT giX9 hown hK hP 0 rfl rfl 8 (by decide) (hT (Cond.fieldLink RX9 45 "DesertWire$World" "day" "I") mw_108) (fun _ h9 => h9) rfl dX9_rainNow_1 ?_
  refine kJi (wr := [(h, .inr (9, [.ref w0, .ref w1, .ref w2, .ref w3, .ref w4, .ref w5, .int wt, .int re, .int 0])), (w0, .inl (cI, 12, .inl (fun _ => (2 : Int32))))]) (va_runSN (As := [.int 0]) (rest := []) ⟨hx, hb, hml, hown, hT⟩ (c_X10_monthOf l D cI s.heap.size 0 (by first | omega | (simp only [zl_0] <;> omega) | decide | assumption | rfl)) ⟨va_cnB 1 hT (gW_in mw_636) rfl rfl rfl (hN _ mw_634) (hT _ mw_1) (by decide +kernel) ⟨Nat.le_of_ble_eq_true rfl, Nat.le_of_ble_eq_true rfl⟩, hT _ mw_635, trivial⟩ (kStat hK hP hD hN [] rfl (by decide)) rfl rfl hl.1 rfl (lv_room (Nat.le_of_ble_eq_true rfl)) dX9_rainNow_4 ⟨Nat.le_of_ble_eq_true rfl, Nat.le_of_ble_eq_true rfl⟩) hP hD hS hA [] [0, 1] rfl rfl (by decide) (by decide) (fun r_1 u_3 H locs w_2 hP hD hS => ?_)
  have hP : va_P D vwCl [(h, .inr (9, [.ref w0, .ref w1, .ref w2, .ref w3, .ref w4, .ref w5, .int wt, .int re, .int 0])), (w0, .inl (cI, 12, .inl (fun _ => (2 : Int32))))] H := hP
  have hD : va_D A [(h, .inr (9, [.ref w0, .ref w1, .ref w2, .ref w3, .ref w4, .ref w5, .int wt, .int re, .int 0])), (w0, .inl (cI, 12, .inl (fun _ => (2 : Int32))))] := hD
  have h_4 := w_2
  try simp only [zl_0] at h_4
  have h_4 : r_1.toInt = 0 := h_4
  have lo_r_1 := k_lo r_1
  have hi_r_1 := k_hi r_1
  refine lv_istore_n (lv' := [(1, .int r_1), (0, .ref h)]) hx hb dX9_rainNow_7 rfl hl (by decide) rfl (fun ls hl => ?_)
  refine lv_iload_n hx hb dX9_rainNow_8 rfl (lv_at hl 0 rfl) ?_
  refine b_if_lt hx hb rfl (tgt := 27) dX9_rainNow_9 (by decide) (fun c_5 => by exfalso; omega) (fun c_5 => ?_)
  refine lv_iload_n hx hb dX9_rainNow_12 rfl (lv_at hl 0 rfl) ?_
  refine lv_bipush (v := 12) hx hb dX9_rainNow_13 (by decide) ?_
  refine b_icmp_ge hx hb rfl zl_12 (tgt := 27) dX9_rainNow_15 (by decide) (fun c_6 => by exfalso; omega) (fun c_6 => ?_)
  refine lv_aload_n hx hb dX9_rainNow_18 rfl (lv_at hl 1 rfl) ?_
  refine va_get (D := D) (ci := 9) (v := .ref w0) (C := RX9) (T := TX9) (N := 9) hx hb hT giX9 hown hK hP 0 rfl rfl 0 (by decide) (hT (Cond.fieldLink RX9 9 "DesertWire$World" "rains" "[I") mw_89) (fun _ h9 => h9) rfl dX9_rainNow_19 ?_
  refine lv_iload_n hx hb dX9_rainNow_22 rfl (lv_at hl 0 rfl) ?_
  refine k_iald (v := 2) hx hb hK hP 1 0 rfl rfl (k_in (by omega) (by omega)) rfl dX9_rainNow_23 ?_
  refine lv_goto (tgt := 28) hx hb dX9_rainNow_24 (by decide) ?_
  exact hRet () [0, 1] rfl hP hD (by decide) rfl hS rfl dX9_rainNow_28
set_option maxHeartbeats 4000000 in
set_option maxRecDepth 100000 in
theorem c_X9_effortOf (l : Launch) (D : va_G) (cI : ClassId) (h w0 w1 w2 w3 w4 w5 : Nat) (sz : Nat) (wt : Int32) (re : Int32) (a : Int32) : Met l yX9_effortOf (gW yX9_effortOf cX9_effortOf 2 (some .int)) ({ frames := 2, cells := 0, slots := 0, locals := 41 } : Room) (kPre D cI [.ref h, .int a] [(h, .inr (9, [.ref w0, .ref w1, .ref w2, .ref w3, .ref w4, .ref w5, .int wt, .int re, .int 0])), (w0, .inl (cI, 12, .inl (fun _ => (2 : Int32)))), (w1, .inl (cI, 40, .inl (fun _ => (0 : Int32))))] sz) (va_Qi (fun (r : Int32) (u : Unit) => r = 10) (fun u t => kWd D cI (va_A [(h, .inr (9, [.ref w0, .ref w1, .ref w2, .ref w3, .ref w4, .ref w5, .int wt, .int re, .int 0])), (w0, .inl (cI, 12, .inl (fun _ => (2 : Int32)))), (w1, .inl (cI, 40, .inl (fun _ => (0 : Int32))))] sz) [(h, .inr (9, [.ref w0, .ref w1, .ref w2, .ref w3, .ref w4, .ref w5, .int wt, .int re, .int 0])), (w0, .inl (cI, 12, .inl (fun _ => (2 : Int32)))), (w1, .inl (cI, 40, .inl (fun _ => (0 : Int32))))] t) (va_A [(h, .inr (9, [.ref w0, .ref w1, .ref w2, .ref w3, .ref w4, .ref w5, .int wt, .int re, .int 0])), (w0, .inl (cI, 12, .inl (fun _ => (2 : Int32)))), (w1, .inl (cI, 40, .inl (fun _ => (0 : Int32))))] sz)) 0 0 (va_A [(h, .inr (9, [.ref w0, .ref w1, .ref w2, .ref w3, .ref w4, .ref w5, .int wt, .int re, .int 0])), (w0, .inl (cI, 12, .inl (fun _ => (2 : Int32)))), (w1, .inl (cI, 40, .inl (fun _ => (0 : Int32))))] sz) := by
  refine kMetI (own := RX9) (by decide) rfl (Nat.le_of_ble_eq_true rfl) ?_
  intro p e s m args below meth c hx hb hT hown hname hml A Q hK hP hD hS hA hN hRet ls hl
  have hl : lv_has ls 2 [(0, .ref h), (1, .int a)] := hl
  have lo_a := k_lo a
  have hi_a := k_hi a
  have lo_wt := k_lo wt
  have hi_wt := k_hi wt
  have lo_re := k_lo re
  have hi_re := k_hi re
  refine lv_aload_n hx hb dX9_effortOf_0 rfl (lv_at hl 0 rfl) ?_
  refine lv_iload_n hx hb dX9_effortOf_1 rfl (lv_at hl 1 rfl) ?_
  refine kJi (wr := [(w0, .inl (cI, 12, .inl (fun _ => (2 : Int32))))]) (va_runV (As := [.int a]) (rest := []) ⟨hx, hb, hml, hown, hT⟩ (c_X9_soilOf l D cI h w0 w1 w2 w3 w4 w5 s.heap.size wt re 0 a) (cwV 1 hT (gV_in mw_423 mw_420 mw_421 mw_422 mw_2) rfl rfl rfl (by decide +kernel) ⟨Nat.le_of_ble_eq_true rfl, Nat.le_of_ble_eq_true rfl⟩) (kRecv (own := "") (q0 := 0) (ci := 9) hK hP hD hN rfl rfl [0, 2] rfl (by decide)) rfl rfl hl.1 rfl (lv_room (Nat.le_of_ble_eq_true rfl)) dX9_effortOf_2 ⟨Nat.le_of_ble_eq_true rfl, Nat.le_of_ble_eq_true rfl⟩) hP hD hS hA [0, 2] [1] rfl rfl (by decide) (by decide) (fun r_1 u_3 H locs w_2 hP hD hS => ?_)
  have hP : va_P D vwCl [(w0, .inl (cI, 12, .inl (fun _ => (2 : Int32)))), (h, .inr (9, [.ref w0, .ref w1, .ref w2, .ref w3, .ref w4, .ref w5, .int wt, .int re, .int 0])), (w1, .inl (cI, 40, .inl (fun _ => (0 : Int32))))] H := hP
  have hD : va_D A [(w0, .inl (cI, 12, .inl (fun _ => (2 : Int32)))), (h, .inr (9, [.ref w0, .ref w1, .ref w2, .ref w3, .ref w4, .ref w5, .int wt, .int re, .int 0])), (w1, .inl (cI, 40, .inl (fun _ => (0 : Int32))))] := hD
  have hr_1 := w_2
  obtain rfl : r_1 = 0 := hr_1.trans (by decide)
  refine lv_aload_n hx hb dX9_effortOf_5 rfl (lv_at hl 0 rfl) ?_
  refine kJi (wr := [(w1, .inl (cI, 40, .inl (fun _ => (0 : Int32))))]) (va_runV (As := []) (rest := [.int 0]) ⟨hx, hb, hml, hown, hT⟩ (c_X9_rainNow l D cI h w0 w1 w2 w3 w4 w5 H.size wt re) (cwV 0 hT (gV_in mw_633 mw_630 mw_631 mw_632 mw_2) rfl rfl rfl (by decide +kernel) ⟨Nat.le_of_ble_eq_true rfl, Nat.le_of_ble_eq_true rfl⟩) (kRecv (own := "") (q0 := 1) (ci := 9) hK hP hD hN rfl rfl [1, 0] rfl (by decide)) rfl rfl hl.1 rfl (lv_room (Nat.le_of_ble_eq_true rfl)) dX9_effortOf_6 ⟨Nat.le_of_ble_eq_true rfl, Nat.le_of_ble_eq_true rfl⟩) hP hD hS hA [1, 0] [2] rfl rfl (by decide) (by decide) (fun r_4 u_6 H locs w_5 hP hD hS => ?_)
  have hP : va_P D vwCl [(w1, .inl (cI, 40, .inl (fun _ => (0 : Int32)))), (h, .inr (9, [.ref w0, .ref w1, .ref w2, .ref w3, .ref w4, .ref w5, .int wt, .int re, .int 0])), (w0, .inl (cI, 12, .inl (fun _ => (2 : Int32))))] H := hP
  have hD : va_D A [(w1, .inl (cI, 40, .inl (fun _ => (0 : Int32)))), (h, .inr (9, [.ref w0, .ref w1, .ref w2, .ref w3, .ref w4, .ref w5, .int wt, .int re, .int 0])), (w0, .inl (cI, 12, .inl (fun _ => (2 : Int32))))] := hD
  have hr_4 := w_5
  obtain rfl : r_4 = 2 := hr_4.trans (by decide)
  refine kJi (wr := [(w1, .inl (cI, 40, .inl (fun _ => (0 : Int32)))), (h, .inr (9, [.ref w0, .ref w1, .ref w2, .ref w3, .ref w4, .ref w5, .int wt, .int re, .int 0])), (w0, .inl (cI, 12, .inl (fun _ => (2 : Int32))))]) (va_runSN (As := [.int 0, .int 2]) (rest := []) ⟨hx, hb, hml, hown, hT⟩ (c_X10_effortIn l D cI H.size 0 2 (by first | omega | (simp only [zl_0, zl_2] <;> omega) | decide | assumption | rfl)) ⟨va_cnB 2 hT (gW_in mw_651) rfl rfl rfl (hN _ mw_649) (hT _ mw_1) (by decide +kernel) ⟨Nat.le_of_ble_eq_true rfl, Nat.le_of_ble_eq_true rfl⟩, hT _ mw_650, trivial⟩ (kStat hK hP hD hN [] rfl (by decide)) rfl rfl hl.1 rfl (lv_room (Nat.le_of_ble_eq_true rfl)) dX9_effortOf_9 ⟨Nat.le_of_ble_eq_true rfl, Nat.le_of_ble_eq_true rfl⟩) hP hD hS hA [] [0, 1, 2] rfl rfl (by decide) (by decide) (fun r_7 u_9 H locs w_8 hP hD hS => ?_)
  have hP : va_P D vwCl [(w1, .inl (cI, 40, .inl (fun _ => (0 : Int32)))), (h, .inr (9, [.ref w0, .ref w1, .ref w2, .ref w3, .ref w4, .ref w5, .int wt, .int re, .int 0])), (w0, .inl (cI, 12, .inl (fun _ => (2 : Int32))))] H := hP
  have hD : va_D A [(w1, .inl (cI, 40, .inl (fun _ => (0 : Int32)))), (h, .inr (9, [.ref w0, .ref w1, .ref w2, .ref w3, .ref w4, .ref w5, .int wt, .int re, .int 0])), (w0, .inl (cI, 12, .inl (fun _ => (2 : Int32))))] := hD
  have hr_7 := w_8
  obtain rfl : r_7 = 10 := hr_7.trans (by decide)
  exact hRet () [1, 2, 0] rfl hP hD (by decide) rfl hS rfl dX9_effortOf_12
set_option maxHeartbeats 4000000 in
set_option maxRecDepth 100000 in
theorem c_X9_leakOf (l : Launch) (D : va_G) (cI : ClassId) (h w0 w1 w2 w3 w4 w5 k0 k1 k2 k3 k4 k5 k6 k7 k8 : Nat) (sz : Nat) (wt : Int32) (re : Int32) (dy : Int32) (n : Int32) (a : Int32) : Met l yX9_leakOf (gW yX9_leakOf cX9_leakOf 6 (some .int)) ({ frames := 2, cells := 0, slots := 0, locals := 41 } : Room) (kPre D cI [.ref h, .int a] [(h, .inr (9, [.ref w0, .ref w1, .ref w2, .ref w3, .ref w4, .ref w5, .int wt, .int re, .int dy])), (w4, .inr (8, [.ref k0, .ref k1, .ref k2, .ref k3, .ref k4, .ref k5, .ref k6, .ref k7, .ref k8, .int n])), (k6, .inl (cI, 40, .inl (fun _ => (0 : Int32))))] sz) (va_Qi (fun (r : Int32) (u : Unit) => r = (-1)) (fun u t => kWd D cI (va_A [(h, .inr (9, [.ref w0, .ref w1, .ref w2, .ref w3, .ref w4, .ref w5, .int wt, .int re, .int dy])), (w4, .inr (8, [.ref k0, .ref k1, .ref k2, .ref k3, .ref k4, .ref k5, .ref k6, .ref k7, .ref k8, .int n])), (k6, .inl (cI, 40, .inl (fun _ => (0 : Int32))))] sz) [(h, .inr (9, [.ref w0, .ref w1, .ref w2, .ref w3, .ref w4, .ref w5, .int wt, .int re, .int dy])), (w4, .inr (8, [.ref k0, .ref k1, .ref k2, .ref k3, .ref k4, .ref k5, .ref k6, .ref k7, .ref k8, .int n])), (k6, .inl (cI, 40, .inl (fun _ => (0 : Int32))))] t) (va_A [(h, .inr (9, [.ref w0, .ref w1, .ref w2, .ref w3, .ref w4, .ref w5, .int wt, .int re, .int dy])), (w4, .inr (8, [.ref k0, .ref k1, .ref k2, .ref k3, .ref k4, .ref k5, .ref k6, .ref k7, .ref k8, .int n])), (k6, .inl (cI, 40, .inl (fun _ => (0 : Int32))))] sz)) 0 0 (va_A [(h, .inr (9, [.ref w0, .ref w1, .ref w2, .ref w3, .ref w4, .ref w5, .int wt, .int re, .int dy])), (w4, .inr (8, [.ref k0, .ref k1, .ref k2, .ref k3, .ref k4, .ref k5, .ref k6, .ref k7, .ref k8, .int n])), (k6, .inl (cI, 40, .inl (fun _ => (0 : Int32))))] sz) := by
  refine kMetI (own := RX9) (by decide) rfl (Nat.le_of_ble_eq_true rfl) ?_
  intro p e s m args below meth c hx hb hT hown hname hml A Q hK hP hD hS hA hN hRet ls hl
  have hl : lv_has ls 6 [(0, .ref h), (1, .int a)] := hl
  have lo_a := k_lo a
  have hi_a := k_hi a
  have lo_wt := k_lo wt
  have hi_wt := k_hi wt
  have lo_re := k_lo re
  have hi_re := k_hi re
  have lo_dy := k_lo dy
  have hi_dy := k_hi dy
  have lo_n := k_lo n
  have hi_n := k_hi n
  refine lv_iconst (v := (-1)) hx hb dX9_leakOf_0 (by decide) ?_
  refine lv_istore_n (lv' := [(2, .int (-1)), (0, .ref h), (1, .int a)]) hx hb dX9_leakOf_1 rfl hl (by decide) rfl (fun ls hl => ?_)
  refine lv_aload_n hx hb dX9_leakOf_2 rfl (lv_at hl 1 rfl) ?_
  refine va_get (D := D) (ci := 9) (v := .ref w4) (C := RX9) (T := TX9) (N := 9) hx hb hT giX9 hown hK hP 0 rfl rfl 4 (by decide) (hT (Cond.fieldLink RX9 27 "DesertWire$World" "works" "LDesertWire$Works;") mw_97) (fun _ h9 => h9) rfl dX9_leakOf_3 ?_
  refine lv_iload_n hx hb dX9_leakOf_6 rfl (lv_at hl 2 rfl) ?_
  refine kJi (wr := [(h, .inr (9, [.ref w0, .ref w1, .ref w2, .ref w3, .ref w4, .ref w5, .int wt, .int re, .int dy]))]) (va_runV (As := [.int a]) (rest := []) ⟨hx, hb, hml, hown, hT⟩ (c_X8_isWired l D cI w4 k0 k1 k2 k3 k4 k5 k6 k7 k8 s.heap.size n a) (cwV 1 hT (gV_in mw_624 mw_629 mw_622 mw_623 mw_3) rfl rfl rfl (by decide +kernel) ⟨Nat.le_of_ble_eq_true rfl, Nat.le_of_ble_eq_true rfl⟩) (kRecv (own := "") (q0 := 1) (ci := 8) hK hP hD hN rfl rfl [1, 2] rfl (by decide)) rfl rfl hl.1 rfl (lv_room (Nat.le_of_ble_eq_true rfl)) dX9_leakOf_7 ⟨Nat.le_of_ble_eq_true rfl, Nat.le_of_ble_eq_true rfl⟩) hP hD hS hA [1, 2] [0] rfl rfl (by decide) (by decide) (fun r_1 u_3 H locs w_2 hP hD hS => ?_)
  have hP : va_P D vwCl [(h, .inr (9, [.ref w0, .ref w1, .ref w2, .ref w3, .ref w4, .ref w5, .int wt, .int re, .int dy])), (w4, .inr (8, [.ref k0, .ref k1, .ref k2, .ref k3, .ref k4, .ref k5, .ref k6, .ref k7, .ref k8, .int n])), (k6, .inl (cI, 40, .inl (fun _ => (0 : Int32))))] H := hP
  have hD : va_D A [(h, .inr (9, [.ref w0, .ref w1, .ref w2, .ref w3, .ref w4, .ref w5, .int wt, .int re, .int dy])), (w4, .inr (8, [.ref k0, .ref k1, .ref k2, .ref k3, .ref k4, .ref k5, .ref k6, .ref k7, .ref k8, .int n])), (k6, .inl (cI, 40, .inl (fun _ => (0 : Int32))))] := hD
  have hr_1 := w_2
  obtain rfl : r_1 = 0 := hr_1.trans (by decide)
  refine b_if_ne hx hb zl_0 (tgt := 15) dX9_leakOf_10 (by decide) (fun c_4 => by exfalso; omega) (fun c_4 => ?_)
  refine lv_iload_n hx hb dX9_leakOf_13 rfl (lv_at hl 0 rfl) ?_
  exact hRet () [0, 1, 2] rfl hP hD (by decide) rfl hS rfl dX9_leakOf_14
set_option maxHeartbeats 4000000 in
set_option maxRecDepth 100000 in
theorem c_X9_eatPoles (l : Launch) (D : va_G) (cI : ClassId) (h w0 w1 w2 w3 w4 w5 k0 k1 k2 k3 k4 k5 k6 k7 k8 : Nat) (sz : Nat) (wt : Int32) (re : Int32) (dy : Int32) : Met l yX9_eatPoles (gW yX9_eatPoles cX9_eatPoles 2 none) ({ frames := 0, cells := 0, slots := 0, locals := 0 } : Room) (kPre D cI [.ref h] [(h, .inr (9, [.ref w0, .ref w1, .ref w2, .ref w3, .ref w4, .ref w5, .int wt, .int re, .int dy])), (w4, .inr (8, [.ref k0, .ref k1, .ref k2, .ref k3, .ref k4, .ref k5, .ref k6, .ref k7, .ref k8, .int 0]))] sz) (va_Qv (fun (u : Unit) => True) (fun u t => kWd D cI (va_A [(h, .inr (9, [.ref w0, .ref w1, .ref w2, .ref w3, .ref w4, .ref w5, .int wt, .int re, .int dy])), (w4, .inr (8, [.ref k0, .ref k1, .ref k2, .ref k3, .ref k4, .ref k5, .ref k6, .ref k7, .ref k8, .int 0]))] sz) [(h, .inr (9, [.ref w0, .ref w1, .ref w2, .ref w3, .ref w4, .ref w5, .int wt, .int re, .int dy])), (w4, .inr (8, [.ref k0, .ref k1, .ref k2, .ref k3, .ref k4, .ref k5, .ref k6, .ref k7, .ref k8, .int 0]))] t) (va_A [(h, .inr (9, [.ref w0, .ref w1, .ref w2, .ref w3, .ref w4, .ref w5, .int wt, .int re, .int dy])), (w4, .inr (8, [.ref k0, .ref k1, .ref k2, .ref k3, .ref k4, .ref k5, .ref k6, .ref k7, .ref k8, .int 0]))] sz)) 0 0 (va_A [(h, .inr (9, [.ref w0, .ref w1, .ref w2, .ref w3, .ref w4, .ref w5, .int wt, .int re, .int dy])), (w4, .inr (8, [.ref k0, .ref k1, .ref k2, .ref k3, .ref k4, .ref k5, .ref k6, .ref k7, .ref k8, .int 0]))] sz) := by
  refine kMetV (own := RX9) (by decide) rfl (Nat.le_of_ble_eq_true rfl) ?_
  intro p e s m args below meth c hx hb hT hown hname hml A Q hK hP hD hS hA hN hRet ls hl
  have hl : lv_has ls 2 [(0, .ref h)] := hl
  have lo_wt := k_lo wt
  have hi_wt := k_hi wt
  have lo_re := k_lo re
  have hi_re := k_hi re
  have lo_dy := k_lo dy
  have hi_dy := k_hi dy
  refine lv_iconst (v := 0) hx hb dX9_eatPoles_0 (by decide) ?_
  refine lv_istore_n (lv' := [(1, .int 0), (0, .ref h)]) hx hb dX9_eatPoles_1 rfl hl (by decide) rfl (fun ls hl => ?_)
  refine lv_iload_n hx hb dX9_eatPoles_2 rfl (lv_at hl 0 rfl) ?_
  refine lv_aload_n hx hb dX9_eatPoles_3 rfl (lv_at hl 1 rfl) ?_
  refine va_get (D := D) (ci := 9) (v := .ref w4) (C := RX9) (T := TX9) (N := 9) hx hb hT giX9 hown hK hP 0 rfl rfl 4 (by decide) (hT (Cond.fieldLink RX9 27 "DesertWire$World" "works" "LDesertWire$Works;") mw_97) (fun _ h9 => h9) rfl dX9_eatPoles_4 ?_
  refine va_get (D := D) (ci := 8) (v := .int 0) (C := RX8) (T := TX8) (N := 10) hx hb hT giX8 hown hK hP 1 rfl rfl 9 (by decide) (hT (Cond.fieldLink RX9 83 "DesertWire$Works" "number" "I") mw_50) (fun _ h9 => h9) rfl dX9_eatPoles_7 ?_
  refine b_icmp_ge hx hb zl_0 zl_0 (tgt := 73) dX9_eatPoles_10 (by decide) (fun c_1 => ?_) (fun c_1 => by exfalso; omega)
  exact hRet () [0, 1] trivial hP hD (by decide) rfl hS dX9_eatPoles_73
set_option maxHeartbeats 4000000 in
set_option maxRecDepth 100000 in
theorem c_X9_endDay (l : Launch) (D : va_G) (cI : ClassId) (h w0 w1 w2 w3 w4 w5 k0 k1 k2 k3 k4 k5 k6 k7 k8 pf : Nat) (sz : Nat) (wt : Int32) (re : Int32) (dy : Int32) (pre0 : 0 ≤ dy.toInt) (pre1 : dy.toInt ≤ 10000) : Met l yX9_endDay (gW yX9_endDay cX9_endDay 2 none) ({ frames := 1, cells := 0, slots := 0, locals := 21 } : Room) (kPre D cI [.ref h] [(h, .inr (9, [.ref w0, .ref w1, .ref w2, .ref w3, .ref w4, .ref w5, .int wt, .int re, .int dy])), (w4, .inr (8, [.ref k0, .ref k1, .ref k2, .ref k3, .ref k4, .ref k5, .ref k6, .ref k7, .ref k8, .int 0])), (w5, .inr (3, [.ref pf, .int 0]))] sz) (va_Qv (fun (u : Int32) => u.toInt = dy.toInt + 1) (fun u t => kWd D cI (va_A [(h, .inr (9, [.ref w0, .ref w1, .ref w2, .ref w3, .ref w4, .ref w5, .int wt, .int re, .int dy])), (w4, .inr (8, [.ref k0, .ref k1, .ref k2, .ref k3, .ref k4, .ref k5, .ref k6, .ref k7, .ref k8, .int 0])), (w5, .inr (3, [.ref pf, .int 0]))] sz) [(h, .inr (9, [.ref w0, .ref w1, .ref w2, .ref w3, .ref w4, .ref w5, .int wt, .int re, .int u])), (w4, .inr (8, [.ref k0, .ref k1, .ref k2, .ref k3, .ref k4, .ref k5, .ref k6, .ref k7, .ref k8, .int 0])), (w5, .inr (3, [.ref pf, .int 0]))] t) (va_A [(h, .inr (9, [.ref w0, .ref w1, .ref w2, .ref w3, .ref w4, .ref w5, .int wt, .int re, .int dy])), (w4, .inr (8, [.ref k0, .ref k1, .ref k2, .ref k3, .ref k4, .ref k5, .ref k6, .ref k7, .ref k8, .int 0])), (w5, .inr (3, [.ref pf, .int 0]))] sz)) 0 0 (va_A [(h, .inr (9, [.ref w0, .ref w1, .ref w2, .ref w3, .ref w4, .ref w5, .int wt, .int re, .int dy])), (w4, .inr (8, [.ref k0, .ref k1, .ref k2, .ref k3, .ref k4, .ref k5, .ref k6, .ref k7, .ref k8, .int 0])), (w5, .inr (3, [.ref pf, .int 0]))] sz) := by
  refine kMetV (own := RX9) (by decide) rfl (Nat.le_of_ble_eq_true rfl) ?_
  intro p e s m args below meth c hx hb hT hown hname hml A Q hK hP hD hS hA hN hRet ls hl
  have hl : lv_has ls 2 [(0, .ref h)] := hl
  have lo_wt := k_lo wt
  have hi_wt := k_hi wt
  have lo_re := k_lo re
  have hi_re := k_hi re
  have lo_dy := k_lo dy
  have hi_dy := k_hi dy
  refine lv_aload_n hx hb dX9_endDay_0 rfl (lv_at hl 0 rfl) ?_
  refine kJv (wr := [(w5, .inr (3, [.ref pf, .int 0]))]) (va_runV (As := []) (rest := []) ⟨hx, hb, hml, hown, hT⟩ (c_X9_eatPoles l D cI h w0 w1 w2 w3 w4 w5 k0 k1 k2 k3 k4 k5 k6 k7 k8 s.heap.size wt re dy) (cwV 0 hT (gV_in mw_971 mw_968 mw_970 mw_p3_0 mw_2) rfl rfl rfl (by decide +kernel) ⟨Nat.le_of_ble_eq_true rfl, Nat.le_of_ble_eq_true rfl⟩) (kRecv (own := "") (q0 := 0) (ci := 9) hK hP hD hN rfl rfl [0, 1] rfl (by decide)) rfl rfl hl.1 rfl (lv_room (Nat.le_of_ble_eq_true rfl)) dX9_endDay_1 ⟨Nat.le_of_ble_eq_true rfl, Nat.le_of_ble_eq_true rfl⟩) hP hD hS hA [0, 1] [2] rfl rfl (by decide) (by decide) (fun u_3 H locs w_2 hP hD hS => ?_)
  have hP : va_P D vwCl [(w5, .inr (3, [.ref pf, .int 0])), (h, .inr (9, [.ref w0, .ref w1, .ref w2, .ref w3, .ref w4, .ref w5, .int wt, .int re, .int dy])), (w4, .inr (8, [.ref k0, .ref k1, .ref k2, .ref k3, .ref k4, .ref k5, .ref k6, .ref k7, .ref k8, .int 0]))] H := hP
  have hD : va_D A [(w5, .inr (3, [.ref pf, .int 0])), (h, .inr (9, [.ref w0, .ref w1, .ref w2, .ref w3, .ref w4, .ref w5, .int wt, .int re, .int dy])), (w4, .inr (8, [.ref k0, .ref k1, .ref k2, .ref k3, .ref k4, .ref k5, .ref k6, .ref k7, .ref k8, .int 0]))] := hD
  refine lv_iconst (v := 0) hx hb dX9_endDay_4 (by decide) ?_
  refine lv_istore_n (lv' := [(1, .int 0), (0, .ref h)]) hx hb dX9_endDay_5 rfl hl (by decide) rfl (fun ls hl => ?_)
  refine lv_iload_n hx hb dX9_endDay_6 rfl (lv_at hl 0 rfl) ?_
  refine lv_aload_n hx hb dX9_endDay_7 rfl (lv_at hl 1 rfl) ?_
  refine va_get (D := D) (ci := 9) (v := .ref w5) (C := RX9) (T := TX9) (N := 9) hx hb hT giX9 hown hK hP 1 rfl rfl 5 (by decide) (hT (Cond.fieldLink RX9 34 "DesertWire$World" "parties" "LDesertWire$Parties;") mw_100) (fun _ h9 => h9) rfl dX9_endDay_8 ?_
  refine va_get (D := D) (ci := 3) (v := .int 0) (C := RX3) (T := TX3) (N := 2) hx hb hT giX3 hown hK hP 0 rfl rfl 1 (by decide) (hT (Cond.fieldLink RX9 119 "DesertWire$Parties" "number" "I") mw_82) (fun _ h9 => h9) rfl dX9_endDay_11 ?_
  refine b_icmp_ge hx hb zl_0 zl_0 (tgt := 44) dX9_endDay_14 (by decide) (fun c_4 => ?_) (fun c_4 => by exfalso; omega)
  refine lv_iconst (v := 0) hx hb dX9_endDay_44 (by decide) ?_
  refine lv_istore_n (lv' := [(1, .int 0), (0, .ref h)]) hx hb dX9_endDay_45 rfl hl (by decide) rfl (fun ls hl => ?_)
  refine lv_iload_n hx hb dX9_endDay_46 rfl (lv_at hl 0 rfl) ?_
  refine lv_aload_n hx hb dX9_endDay_47 rfl (lv_at hl 1 rfl) ?_
  refine va_get (D := D) (ci := 9) (v := .ref w5) (C := RX9) (T := TX9) (N := 9) hx hb hT giX9 hown hK hP 1 rfl rfl 5 (by decide) (hT (Cond.fieldLink RX9 34 "DesertWire$World" "parties" "LDesertWire$Parties;") mw_100) (fun _ h9 => h9) rfl dX9_endDay_48 ?_
  refine va_get (D := D) (ci := 3) (v := .int 0) (C := RX3) (T := TX3) (N := 2) hx hb hT giX3 hown hK hP 0 rfl rfl 1 (by decide) (hT (Cond.fieldLink RX9 119 "DesertWire$Parties" "number" "I") mw_82) (fun _ h9 => h9) rfl dX9_endDay_51 ?_
  refine b_icmp_ge hx hb zl_0 zl_0 (tgt := 81) dX9_endDay_54 (by decide) (fun c_5 => ?_) (fun c_5 => by exfalso; omega)
  refine lv_aload_n hx hb dX9_endDay_81 rfl (lv_at hl 1 rfl) ?_
  refine lv_dup hx hb dX9_endDay_82 rfl ?_
  refine va_get (D := D) (ci := 9) (v := .int dy) (C := RX9) (T := TX9) (N := 9) hx hb hT giX9 hown hK hP 1 rfl rfl 8 (by decide) (hT (Cond.fieldLink RX9 45 "DesertWire$World" "day" "I") mw_108) (fun _ h9 => h9) rfl dX9_endDay_83 ?_
  refine lv_iconst (v := 1) hx hb dX9_endDay_86 (by decide) ?_
  refine lv_iadd hx hb dX9_endDay_87 ?_
  refine lv_topi (fun v_6 ev_6 => ?_)
  have tv_6 : v_6.toInt = dy.toInt + 1 := by rw [ev_6]; exact k_addv rfl zl_1 (by omega) (by omega)
  refine va_put (D := D) (ci := 9) (v := .int v_6) (ty := .int) (C := RX9) (T := TX9) (N := 9) hx hb hT giX9 tyX9 tyX9_ok nmX9 hown hK hP hD hS 1 rfl rfl 8 (by decide) (hT (Cond.fieldLink RX9 45 "DesertWire$World" "day" "I") mw_108) (fun _ h9 => h9) rfl (by decide +kernel) rfl rfl (Nat.le_of_ble_eq_true rfl) dX9_endDay_88 (fun H locs hP hD hS => ?_)
  have hP : va_P D vwCl [(w5, .inr (3, [.ref pf, .int 0])), (h, .inr (9, [.ref w0, .ref w1, .ref w2, .ref w3, .ref w4, .ref w5, .int wt, .int re, .int v_6])), (w4, .inr (8, [.ref k0, .ref k1, .ref k2, .ref k3, .ref k4, .ref k5, .ref k6, .ref k7, .ref k8, .int 0]))] H := hP
  have hD : va_D A [(w5, .inr (3, [.ref pf, .int 0])), (h, .inr (9, [.ref w0, .ref w1, .ref w2, .ref w3, .ref w4, .ref w5, .int wt, .int re, .int v_6])), (w4, .inr (8, [.ref k0, .ref k1, .ref k2, .ref k3, .ref k4, .ref k5, .ref k6, .ref k7, .ref k8, .int 0]))] := hD
  exact hRet v_6 [1, 2, 0] (by first | omega | decide | assumption | rfl) hP hD (by decide) rfl hS dX9_endDay_91
set_option maxHeartbeats 4000000 in
set_option maxRecDepth 100000 in
theorem c_X9_copyFrom (l : Launch) (D : va_G) (cI : ClassId) (h w0 w1 w2 w3 w4 w5 k0 k1 k2 k3 k4 k5 k6 k7 k8 pf o v0 v1 v2 v3 v4 v5 j0 j1 j2 j3 j4 j5 j6 j7 j8 po : Nat) (sz : Nat) (ywt : Int32) (yre : Int32) (ydy : Int32) (ya0 : Nat → Int32) (ya1 : Nat → Int32) (ya2 : Nat → Int32) (ya3 : Nat → Int32) (yn : Int32) (yb0 : Nat → Int32) (yb1 : Nat → Int32) (yb2 : Nat → Int32) (yb3 : Nat → Int32) (yb4 : Nat → Int32) (yb5 : Nat → Int32) (yb6 : Nat → Int32) (yb7 : Nat → Int32) (yb8 : Nat → Int32) (ym : Int32) (yq : Nat → Int32) (zwt : Int32) (zre : Int32) (zdy : Int32) (za0 : Nat → Int32) (za1 : Nat → Int32) (za2 : Nat → Int32) (za3 : Nat → Int32) (zn : Int32) (zb0 : Nat → Int32) (zb1 : Nat → Int32) (zb2 : Nat → Int32) (zb3 : Nat → Int32) (zb4 : Nat → Int32) (zb5 : Nat → Int32) (zb6 : Nat → Int32) (zb7 : Nat → Int32) (zb8 : Nat → Int32) (zm : Int32) (zq : Nat → Int32) : Met l yX9_copyFrom (gW yX9_copyFrom cX9_copyFrom 2 none) ({ frames := 2, cells := 0, slots := 0, locals := 85 } : Room) (kPre D cI [.ref h, .ref o] [(h, .inr (9, [.ref w0, .ref w1, .ref w2, .ref w3, .ref w4, .ref w5, .int ywt, .int yre, .int ydy])), (w0, .inl (cI, 12, .inl ya0)), (w1, .inl (cI, 40, .inl ya1)), (w2, .inl (cI, 40, .inl ya2)), (w3, .inl (cI, 20, .inl ya3)), (w4, .inr (8, [.ref k0, .ref k1, .ref k2, .ref k3, .ref k4, .ref k5, .ref k6, .ref k7, .ref k8, .int yn])), (k0, .inl (cI, 60, .inl yb0)), (k1, .inl (cI, 60, .inl yb1)), (k2, .inl (cI, 60, .inl yb2)), (k3, .inl (cI, 60, .inl yb3)), (k4, .inl (cI, 60, .inl yb4)), (k5, .inl (cI, 60, .inl yb5)), (k6, .inl (cI, 40, .inl yb6)), (k7, .inl (cI, 40, .inl yb7)), (k8, .inl (cI, 40, .inl yb8)), (w5, .inr (3, [.ref pf, .int ym])), (pf, .inl (cI, 36, .inl yq)), (o, .inr (9, [.ref v0, .ref v1, .ref v2, .ref v3, .ref v4, .ref v5, .int zwt, .int zre, .int zdy])), (v0, .inl (cI, 12, .inl za0)), (v1, .inl (cI, 40, .inl za1)), (v2, .inl (cI, 40, .inl za2)), (v3, .inl (cI, 20, .inl za3)), (v4, .inr (8, [.ref j0, .ref j1, .ref j2, .ref j3, .ref j4, .ref j5, .ref j6, .ref j7, .ref j8, .int zn])), (j0, .inl (cI, 60, .inl zb0)), (j1, .inl (cI, 60, .inl zb1)), (j2, .inl (cI, 60, .inl zb2)), (j3, .inl (cI, 60, .inl zb3)), (j4, .inl (cI, 60, .inl zb4)), (j5, .inl (cI, 60, .inl zb5)), (j6, .inl (cI, 40, .inl zb6)), (j7, .inl (cI, 40, .inl zb7)), (j8, .inl (cI, 40, .inl zb8)), (v5, .inr (3, [.ref po, .int zm])), (po, .inl (cI, 36, .inl zq))] sz) (va_Qv (fun (u : Unit) => True) (fun u t => kWd D cI (va_A [(h, .inr (9, [.ref w0, .ref w1, .ref w2, .ref w3, .ref w4, .ref w5, .int ywt, .int yre, .int ydy])), (w0, .inl (cI, 12, .inl ya0)), (w1, .inl (cI, 40, .inl ya1)), (w2, .inl (cI, 40, .inl ya2)), (w3, .inl (cI, 20, .inl ya3)), (w4, .inr (8, [.ref k0, .ref k1, .ref k2, .ref k3, .ref k4, .ref k5, .ref k6, .ref k7, .ref k8, .int yn])), (k0, .inl (cI, 60, .inl yb0)), (k1, .inl (cI, 60, .inl yb1)), (k2, .inl (cI, 60, .inl yb2)), (k3, .inl (cI, 60, .inl yb3)), (k4, .inl (cI, 60, .inl yb4)), (k5, .inl (cI, 60, .inl yb5)), (k6, .inl (cI, 40, .inl yb6)), (k7, .inl (cI, 40, .inl yb7)), (k8, .inl (cI, 40, .inl yb8)), (w5, .inr (3, [.ref pf, .int ym])), (pf, .inl (cI, 36, .inl yq)), (o, .inr (9, [.ref v0, .ref v1, .ref v2, .ref v3, .ref v4, .ref v5, .int zwt, .int zre, .int zdy])), (v0, .inl (cI, 12, .inl za0)), (v1, .inl (cI, 40, .inl za1)), (v2, .inl (cI, 40, .inl za2)), (v3, .inl (cI, 20, .inl za3)), (v4, .inr (8, [.ref j0, .ref j1, .ref j2, .ref j3, .ref j4, .ref j5, .ref j6, .ref j7, .ref j8, .int zn])), (j0, .inl (cI, 60, .inl zb0)), (j1, .inl (cI, 60, .inl zb1)), (j2, .inl (cI, 60, .inl zb2)), (j3, .inl (cI, 60, .inl zb3)), (j4, .inl (cI, 60, .inl zb4)), (j5, .inl (cI, 60, .inl zb5)), (j6, .inl (cI, 40, .inl zb6)), (j7, .inl (cI, 40, .inl zb7)), (j8, .inl (cI, 40, .inl zb8)), (v5, .inr (3, [.ref po, .int zm])), (po, .inl (cI, 36, .inl zq))] sz) [(h, .inr (9, [.ref w0, .ref w1, .ref w2, .ref w3, .ref w4, .ref w5, .int zwt, .int zre, .int zdy])), (w0, .inl (cI, 12, .inl za0)), (w1, .inl (cI, 40, .inl za1)), (w2, .inl (cI, 40, .inl za2)), (w3, .inl (cI, 20, .inl za3)), (w4, .inr (8, [.ref k0, .ref k1, .ref k2, .ref k3, .ref k4, .ref k5, .ref k6, .ref k7, .ref k8, .int zn])), (k0, .inl (cI, 60, .inl zb0)), (k1, .inl (cI, 60, .inl zb1)), (k2, .inl (cI, 60, .inl zb2)), (k3, .inl (cI, 60, .inl zb3)), (k4, .inl (cI, 60, .inl zb4)), (k5, .inl (cI, 60, .inl zb5)), (k6, .inl (cI, 40, .inl zb6)), (k7, .inl (cI, 40, .inl zb7)), (k8, .inl (cI, 40, .inl zb8)), (w5, .inr (3, [.ref pf, .int zm])), (pf, .inl (cI, 36, .inl zq)), (o, .inr (9, [.ref v0, .ref v1, .ref v2, .ref v3, .ref v4, .ref v5, .int zwt, .int zre, .int zdy])), (v0, .inl (cI, 12, .inl za0)), (v1, .inl (cI, 40, .inl za1)), (v2, .inl (cI, 40, .inl za2)), (v3, .inl (cI, 20, .inl za3)), (v4, .inr (8, [.ref j0, .ref j1, .ref j2, .ref j3, .ref j4, .ref j5, .ref j6, .ref j7, .ref j8, .int zn])), (j0, .inl (cI, 60, .inl zb0)), (j1, .inl (cI, 60, .inl zb1)), (j2, .inl (cI, 60, .inl zb2)), (j3, .inl (cI, 60, .inl zb3)), (j4, .inl (cI, 60, .inl zb4)), (j5, .inl (cI, 60, .inl zb5)), (j6, .inl (cI, 40, .inl zb6)), (j7, .inl (cI, 40, .inl zb7)), (j8, .inl (cI, 40, .inl zb8)), (v5, .inr (3, [.ref po, .int zm])), (po, .inl (cI, 36, .inl zq))] t) (va_A [(h, .inr (9, [.ref w0, .ref w1, .ref w2, .ref w3, .ref w4, .ref w5, .int ywt, .int yre, .int ydy])), (w0, .inl (cI, 12, .inl ya0)), (w1, .inl (cI, 40, .inl ya1)), (w2, .inl (cI, 40, .inl ya2)), (w3, .inl (cI, 20, .inl ya3)), (w4, .inr (8, [.ref k0, .ref k1, .ref k2, .ref k3, .ref k4, .ref k5, .ref k6, .ref k7, .ref k8, .int yn])), (k0, .inl (cI, 60, .inl yb0)), (k1, .inl (cI, 60, .inl yb1)), (k2, .inl (cI, 60, .inl yb2)), (k3, .inl (cI, 60, .inl yb3)), (k4, .inl (cI, 60, .inl yb4)), (k5, .inl (cI, 60, .inl yb5)), (k6, .inl (cI, 40, .inl yb6)), (k7, .inl (cI, 40, .inl yb7)), (k8, .inl (cI, 40, .inl yb8)), (w5, .inr (3, [.ref pf, .int ym])), (pf, .inl (cI, 36, .inl yq)), (o, .inr (9, [.ref v0, .ref v1, .ref v2, .ref v3, .ref v4, .ref v5, .int zwt, .int zre, .int zdy])), (v0, .inl (cI, 12, .inl za0)), (v1, .inl (cI, 40, .inl za1)), (v2, .inl (cI, 40, .inl za2)), (v3, .inl (cI, 20, .inl za3)), (v4, .inr (8, [.ref j0, .ref j1, .ref j2, .ref j3, .ref j4, .ref j5, .ref j6, .ref j7, .ref j8, .int zn])), (j0, .inl (cI, 60, .inl zb0)), (j1, .inl (cI, 60, .inl zb1)), (j2, .inl (cI, 60, .inl zb2)), (j3, .inl (cI, 60, .inl zb3)), (j4, .inl (cI, 60, .inl zb4)), (j5, .inl (cI, 60, .inl zb5)), (j6, .inl (cI, 40, .inl zb6)), (j7, .inl (cI, 40, .inl zb7)), (j8, .inl (cI, 40, .inl zb8)), (v5, .inr (3, [.ref po, .int zm])), (po, .inl (cI, 36, .inl zq))] sz)) 0 0 (va_A [(h, .inr (9, [.ref w0, .ref w1, .ref w2, .ref w3, .ref w4, .ref w5, .int ywt, .int yre, .int ydy])), (w0, .inl (cI, 12, .inl ya0)), (w1, .inl (cI, 40, .inl ya1)), (w2, .inl (cI, 40, .inl ya2)), (w3, .inl (cI, 20, .inl ya3)), (w4, .inr (8, [.ref k0, .ref k1, .ref k2, .ref k3, .ref k4, .ref k5, .ref k6, .ref k7, .ref k8, .int yn])), (k0, .inl (cI, 60, .inl yb0)), (k1, .inl (cI, 60, .inl yb1)), (k2, .inl (cI, 60, .inl yb2)), (k3, .inl (cI, 60, .inl yb3)), (k4, .inl (cI, 60, .inl yb4)), (k5, .inl (cI, 60, .inl yb5)), (k6, .inl (cI, 40, .inl yb6)), (k7, .inl (cI, 40, .inl yb7)), (k8, .inl (cI, 40, .inl yb8)), (w5, .inr (3, [.ref pf, .int ym])), (pf, .inl (cI, 36, .inl yq)), (o, .inr (9, [.ref v0, .ref v1, .ref v2, .ref v3, .ref v4, .ref v5, .int zwt, .int zre, .int zdy])), (v0, .inl (cI, 12, .inl za0)), (v1, .inl (cI, 40, .inl za1)), (v2, .inl (cI, 40, .inl za2)), (v3, .inl (cI, 20, .inl za3)), (v4, .inr (8, [.ref j0, .ref j1, .ref j2, .ref j3, .ref j4, .ref j5, .ref j6, .ref j7, .ref j8, .int zn])), (j0, .inl (cI, 60, .inl zb0)), (j1, .inl (cI, 60, .inl zb1)), (j2, .inl (cI, 60, .inl zb2)), (j3, .inl (cI, 60, .inl zb3)), (j4, .inl (cI, 60, .inl zb4)), (j5, .inl (cI, 60, .inl zb5)), (j6, .inl (cI, 40, .inl zb6)), (j7, .inl (cI, 40, .inl zb7)), (j8, .inl (cI, 40, .inl zb8)), (v5, .inr (3, [.ref po, .int zm])), (po, .inl (cI, 36, .inl zq))] sz) := by
  refine kMetV (own := RX9) (by decide) rfl (Nat.le_of_ble_eq_true rfl) ?_
  intro p e s m args below meth c hx hb hT hown hname hml A Q hK hP hD hS hA hN hRet ls hl
  have hl : lv_has ls 2 [(0, .ref h), (1, .ref o)] := hl
  have lo_ywt := k_lo ywt
  have hi_ywt := k_hi ywt
  have lo_yre := k_lo yre
  have hi_yre := k_hi yre
  have lo_ydy := k_lo ydy
  have hi_ydy := k_hi ydy
  have lo_yn := k_lo yn
  have hi_yn := k_hi yn
  have lo_ym := k_lo ym
  have hi_ym := k_hi ym
  have lo_zwt := k_lo zwt
  have hi_zwt := k_hi zwt
  have lo_zre := k_lo zre
  have hi_zre := k_hi zre
  have lo_zdy := k_lo zdy
  have hi_zdy := k_hi zdy
  have lo_zn := k_lo zn
  have hi_zn := k_hi zn
  have lo_zm := k_lo zm
  have hi_zm := k_hi zm
  refine lv_aload_n hx hb dX9_copyFrom_0 rfl (lv_at hl 1 rfl) ?_
  refine va_get (D := D) (ci := 9) (v := .ref v0) (C := RX9) (T := TX9) (N := 9) hx hb hT giX9 hown hK hP 17 rfl rfl 0 (by decide) (hT (Cond.fieldLink RX9 9 "DesertWire$World" "rains" "[I") mw_89) (fun _ h9 => h9) rfl dX9_copyFrom_1 ?_
  refine lv_iconst (v := 0) hx hb dX9_copyFrom_4 (by decide) ?_
  refine lv_aload_n hx hb dX9_copyFrom_5 rfl (lv_at hl 0 rfl) ?_
  refine va_get (D := D) (ci := 9) (v := .ref w0) (C := RX9) (T := TX9) (N := 9) hx hb hT giX9 hown hK hP 0 rfl rfl 0 (by decide) (hT (Cond.fieldLink RX9 9 "DesertWire$World" "rains" "[I") mw_89) (fun _ h9 => h9) rfl dX9_copyFrom_6 ?_
  refine lv_iconst (v := 0) hx hb dX9_copyFrom_9 (by decide) ?_
  refine lv_bipush (v := 12) hx hb dX9_copyFrom_10 (by decide) ?_
  refine k_copy (c0 := cI) (c1 := cI) hx hb (hml.trans hl.1.symm) hown (hT _ mw_1015) (hT _ mw_865) (hT _ mw_864) (hT _ mw_19) hK hP hD hS 18 1 rfl rfl (by decide) (by decide) (Nat.le_of_ble_eq_true rfl) (by decide +kernel) dX9_copyFrom_12 (fun H locs hP hD hS => ?_)
  have hP : va_P D vwCl [(h, .inr (9, [.ref w0, .ref w1, .ref w2, .ref w3, .ref w4, .ref w5, .int ywt, .int yre, .int ydy])), (w0, .inl (cI, 12, .inl za0)), (w1, .inl (cI, 40, .inl ya1)), (w2, .inl (cI, 40, .inl ya2)), (w3, .inl (cI, 20, .inl ya3)), (w4, .inr (8, [.ref k0, .ref k1, .ref k2, .ref k3, .ref k4, .ref k5, .ref k6, .ref k7, .ref k8, .int yn])), (k0, .inl (cI, 60, .inl yb0)), (k1, .inl (cI, 60, .inl yb1)), (k2, .inl (cI, 60, .inl yb2)), (k3, .inl (cI, 60, .inl yb3)), (k4, .inl (cI, 60, .inl yb4)), (k5, .inl (cI, 60, .inl yb5)), (k6, .inl (cI, 40, .inl yb6)), (k7, .inl (cI, 40, .inl yb7)), (k8, .inl (cI, 40, .inl yb8)), (w5, .inr (3, [.ref pf, .int ym])), (pf, .inl (cI, 36, .inl yq)), (o, .inr (9, [.ref v0, .ref v1, .ref v2, .ref v3, .ref v4, .ref v5, .int zwt, .int zre, .int zdy])), (v0, .inl (cI, 12, .inl za0)), (v1, .inl (cI, 40, .inl za1)), (v2, .inl (cI, 40, .inl za2)), (v3, .inl (cI, 20, .inl za3)), (v4, .inr (8, [.ref j0, .ref j1, .ref j2, .ref j3, .ref j4, .ref j5, .ref j6, .ref j7, .ref j8, .int zn])), (j0, .inl (cI, 60, .inl zb0)), (j1, .inl (cI, 60, .inl zb1)), (j2, .inl (cI, 60, .inl zb2)), (j3, .inl (cI, 60, .inl zb3)), (j4, .inl (cI, 60, .inl zb4)), (j5, .inl (cI, 60, .inl zb5)), (j6, .inl (cI, 40, .inl zb6)), (j7, .inl (cI, 40, .inl zb7)), (j8, .inl (cI, 40, .inl zb8)), (v5, .inr (3, [.ref po, .int zm])), (po, .inl (cI, 36, .inl zq))] H := hP
  have hD : va_D A [(h, .inr (9, [.ref w0, .ref w1, .ref w2, .ref w3, .ref w4, .ref w5, .int ywt, .int yre, .int ydy])), (w0, .inl (cI, 12, .inl za0)), (w1, .inl (cI, 40, .inl ya1)), (w2, .inl (cI, 40, .inl ya2)), (w3, .inl (cI, 20, .inl ya3)), (w4, .inr (8, [.ref k0, .ref k1, .ref k2, .ref k3, .ref k4, .ref k5, .ref k6, .ref k7, .ref k8, .int yn])), (k0, .inl (cI, 60, .inl yb0)), (k1, .inl (cI, 60, .inl yb1)), (k2, .inl (cI, 60, .inl yb2)), (k3, .inl (cI, 60, .inl yb3)), (k4, .inl (cI, 60, .inl yb4)), (k5, .inl (cI, 60, .inl yb5)), (k6, .inl (cI, 40, .inl yb6)), (k7, .inl (cI, 40, .inl yb7)), (k8, .inl (cI, 40, .inl yb8)), (w5, .inr (3, [.ref pf, .int ym])), (pf, .inl (cI, 36, .inl yq)), (o, .inr (9, [.ref v0, .ref v1, .ref v2, .ref v3, .ref v4, .ref v5, .int zwt, .int zre, .int zdy])), (v0, .inl (cI, 12, .inl za0)), (v1, .inl (cI, 40, .inl za1)), (v2, .inl (cI, 40, .inl za2)), (v3, .inl (cI, 20, .inl za3)), (v4, .inr (8, [.ref j0, .ref j1, .ref j2, .ref j3, .ref j4, .ref j5, .ref j6, .ref j7, .ref j8, .int zn])), (j0, .inl (cI, 60, .inl zb0)), (j1, .inl (cI, 60, .inl zb1)), (j2, .inl (cI, 60, .inl zb2)), (j3, .inl (cI, 60, .inl zb3)), (j4, .inl (cI, 60, .inl zb4)), (j5, .inl (cI, 60, .inl zb5)), (j6, .inl (cI, 40, .inl zb6)), (j7, .inl (cI, 40, .inl zb7)), (j8, .inl (cI, 40, .inl zb8)), (v5, .inr (3, [.ref po, .int zm])), (po, .inl (cI, 36, .inl zq))] := hD
  refine lv_aload_n hx hb dX9_copyFrom_15 rfl (lv_at hl 1 rfl) ?_
  refine va_get (D := D) (ci := 9) (v := .ref v1) (C := RX9) (T := TX9) (N := 9) hx hb hT giX9 hown hK hP 17 rfl rfl 1 (by decide) (hT (Cond.fieldLink RX9 15 "DesertWire$World" "soils" "[I") mw_91) (fun _ h9 => h9) rfl dX9_copyFrom_16 ?_
  refine lv_iconst (v := 0) hx hb dX9_copyFrom_19 (by decide) ?_
  refine lv_aload_n hx hb dX9_copyFrom_20 rfl (lv_at hl 0 rfl) ?_
  refine va_get (D := D) (ci := 9) (v := .ref w1) (C := RX9) (T := TX9) (N := 9) hx hb hT giX9 hown hK hP 0 rfl rfl 1 (by decide) (hT (Cond.fieldLink RX9 15 "DesertWire$World" "soils" "[I") mw_91) (fun _ h9 => h9) rfl dX9_copyFrom_21 ?_
  refine lv_iconst (v := 0) hx hb dX9_copyFrom_24 (by decide) ?_
  refine lv_bipush (v := 40) hx hb dX9_copyFrom_25 (by decide) ?_
  refine k_copy (c0 := cI) (c1 := cI) hx hb (hml.trans hl.1.symm) hown (hT _ mw_1015) (hT _ mw_865) (hT _ mw_864) (hT _ mw_19) hK hP hD hS 19 2 rfl rfl (by decide) (by decide) (Nat.le_of_ble_eq_true rfl) (by decide +kernel) dX9_copyFrom_27 (fun H locs hP hD hS => ?_)
  have hP : va_P D vwCl [(h, .inr (9, [.ref w0, .ref w1, .ref w2, .ref w3, .ref w4, .ref w5, .int ywt, .int yre, .int ydy])), (w0, .inl (cI, 12, .inl za0)), (w1, .inl (cI, 40, .inl za1)), (w2, .inl (cI, 40, .inl ya2)), (w3, .inl (cI, 20, .inl ya3)), (w4, .inr (8, [.ref k0, .ref k1, .ref k2, .ref k3, .ref k4, .ref k5, .ref k6, .ref k7, .ref k8, .int yn])), (k0, .inl (cI, 60, .inl yb0)), (k1, .inl (cI, 60, .inl yb1)), (k2, .inl (cI, 60, .inl yb2)), (k3, .inl (cI, 60, .inl yb3)), (k4, .inl (cI, 60, .inl yb4)), (k5, .inl (cI, 60, .inl yb5)), (k6, .inl (cI, 40, .inl yb6)), (k7, .inl (cI, 40, .inl yb7)), (k8, .inl (cI, 40, .inl yb8)), (w5, .inr (3, [.ref pf, .int ym])), (pf, .inl (cI, 36, .inl yq)), (o, .inr (9, [.ref v0, .ref v1, .ref v2, .ref v3, .ref v4, .ref v5, .int zwt, .int zre, .int zdy])), (v0, .inl (cI, 12, .inl za0)), (v1, .inl (cI, 40, .inl za1)), (v2, .inl (cI, 40, .inl za2)), (v3, .inl (cI, 20, .inl za3)), (v4, .inr (8, [.ref j0, .ref j1, .ref j2, .ref j3, .ref j4, .ref j5, .ref j6, .ref j7, .ref j8, .int zn])), (j0, .inl (cI, 60, .inl zb0)), (j1, .inl (cI, 60, .inl zb1)), (j2, .inl (cI, 60, .inl zb2)), (j3, .inl (cI, 60, .inl zb3)), (j4, .inl (cI, 60, .inl zb4)), (j5, .inl (cI, 60, .inl zb5)), (j6, .inl (cI, 40, .inl zb6)), (j7, .inl (cI, 40, .inl zb7)), (j8, .inl (cI, 40, .inl zb8)), (v5, .inr (3, [.ref po, .int zm])), (po, .inl (cI, 36, .inl zq))] H := hP
  have hD : va_D A [(h, .inr (9, [.ref w0, .ref w1, .ref w2, .ref w3, .ref w4, .ref w5, .int ywt, .int yre, .int ydy])), (w0, .inl (cI, 12, .inl za0)), (w1, .inl (cI, 40, .inl za1)), (w2, .inl (cI, 40, .inl ya2)), (w3, .inl (cI, 20, .inl ya3)), (w4, .inr (8, [.ref k0, .ref k1, .ref k2, .ref k3, .ref k4, .ref k5, .ref k6, .ref k7, .ref k8, .int yn])), (k0, .inl (cI, 60, .inl yb0)), (k1, .inl (cI, 60, .inl yb1)), (k2, .inl (cI, 60, .inl yb2)), (k3, .inl (cI, 60, .inl yb3)), (k4, .inl (cI, 60, .inl yb4)), (k5, .inl (cI, 60, .inl yb5)), (k6, .inl (cI, 40, .inl yb6)), (k7, .inl (cI, 40, .inl yb7)), (k8, .inl (cI, 40, .inl yb8)), (w5, .inr (3, [.ref pf, .int ym])), (pf, .inl (cI, 36, .inl yq)), (o, .inr (9, [.ref v0, .ref v1, .ref v2, .ref v3, .ref v4, .ref v5, .int zwt, .int zre, .int zdy])), (v0, .inl (cI, 12, .inl za0)), (v1, .inl (cI, 40, .inl za1)), (v2, .inl (cI, 40, .inl za2)), (v3, .inl (cI, 20, .inl za3)), (v4, .inr (8, [.ref j0, .ref j1, .ref j2, .ref j3, .ref j4, .ref j5, .ref j6, .ref j7, .ref j8, .int zn])), (j0, .inl (cI, 60, .inl zb0)), (j1, .inl (cI, 60, .inl zb1)), (j2, .inl (cI, 60, .inl zb2)), (j3, .inl (cI, 60, .inl zb3)), (j4, .inl (cI, 60, .inl zb4)), (j5, .inl (cI, 60, .inl zb5)), (j6, .inl (cI, 40, .inl zb6)), (j7, .inl (cI, 40, .inl zb7)), (j8, .inl (cI, 40, .inl zb8)), (v5, .inr (3, [.ref po, .int zm])), (po, .inl (cI, 36, .inl zq))] := hD
  refine lv_aload_n hx hb dX9_copyFrom_30 rfl (lv_at hl 1 rfl) ?_
  refine va_get (D := D) (ci := 9) (v := .ref v2) (C := RX9) (T := TX9) (N := 9) hx hb hT giX9 hown hK hP 17 rfl rfl 2 (by decide) (hT (Cond.fieldLink RX9 18 "DesertWire$World" "springs" "[I") mw_93) (fun _ h9 => h9) rfl dX9_copyFrom_31 ?_
  refine lv_iconst (v := 0) hx hb dX9_copyFrom_34 (by decide) ?_
  refine lv_aload_n hx hb dX9_copyFrom_35 rfl (lv_at hl 0 rfl) ?_
  refine va_get (D := D) (ci := 9) (v := .ref w2) (C := RX9) (T := TX9) (N := 9) hx hb hT giX9 hown hK hP 0 rfl rfl 2 (by decide) (hT (Cond.fieldLink RX9 18 "DesertWire$World" "springs" "[I") mw_93) (fun _ h9 => h9) rfl dX9_copyFrom_36 ?_
  refine lv_iconst (v := 0) hx hb dX9_copyFrom_39 (by decide) ?_
  refine lv_bipush (v := 40) hx hb dX9_copyFrom_40 (by decide) ?_
  refine k_copy (c0 := cI) (c1 := cI) hx hb (hml.trans hl.1.symm) hown (hT _ mw_1015) (hT _ mw_865) (hT _ mw_864) (hT _ mw_19) hK hP hD hS 20 3 rfl rfl (by decide) (by decide) (Nat.le_of_ble_eq_true rfl) (by decide +kernel) dX9_copyFrom_42 (fun H locs hP hD hS => ?_)
  have hP : va_P D vwCl [(h, .inr (9, [.ref w0, .ref w1, .ref w2, .ref w3, .ref w4, .ref w5, .int ywt, .int yre, .int ydy])), (w0, .inl (cI, 12, .inl za0)), (w1, .inl (cI, 40, .inl za1)), (w2, .inl (cI, 40, .inl za2)), (w3, .inl (cI, 20, .inl ya3)), (w4, .inr (8, [.ref k0, .ref k1, .ref k2, .ref k3, .ref k4, .ref k5, .ref k6, .ref k7, .ref k8, .int yn])), (k0, .inl (cI, 60, .inl yb0)), (k1, .inl (cI, 60, .inl yb1)), (k2, .inl (cI, 60, .inl yb2)), (k3, .inl (cI, 60, .inl yb3)), (k4, .inl (cI, 60, .inl yb4)), (k5, .inl (cI, 60, .inl yb5)), (k6, .inl (cI, 40, .inl yb6)), (k7, .inl (cI, 40, .inl yb7)), (k8, .inl (cI, 40, .inl yb8)), (w5, .inr (3, [.ref pf, .int ym])), (pf, .inl (cI, 36, .inl yq)), (o, .inr (9, [.ref v0, .ref v1, .ref v2, .ref v3, .ref v4, .ref v5, .int zwt, .int zre, .int zdy])), (v0, .inl (cI, 12, .inl za0)), (v1, .inl (cI, 40, .inl za1)), (v2, .inl (cI, 40, .inl za2)), (v3, .inl (cI, 20, .inl za3)), (v4, .inr (8, [.ref j0, .ref j1, .ref j2, .ref j3, .ref j4, .ref j5, .ref j6, .ref j7, .ref j8, .int zn])), (j0, .inl (cI, 60, .inl zb0)), (j1, .inl (cI, 60, .inl zb1)), (j2, .inl (cI, 60, .inl zb2)), (j3, .inl (cI, 60, .inl zb3)), (j4, .inl (cI, 60, .inl zb4)), (j5, .inl (cI, 60, .inl zb5)), (j6, .inl (cI, 40, .inl zb6)), (j7, .inl (cI, 40, .inl zb7)), (j8, .inl (cI, 40, .inl zb8)), (v5, .inr (3, [.ref po, .int zm])), (po, .inl (cI, 36, .inl zq))] H := hP
  have hD : va_D A [(h, .inr (9, [.ref w0, .ref w1, .ref w2, .ref w3, .ref w4, .ref w5, .int ywt, .int yre, .int ydy])), (w0, .inl (cI, 12, .inl za0)), (w1, .inl (cI, 40, .inl za1)), (w2, .inl (cI, 40, .inl za2)), (w3, .inl (cI, 20, .inl ya3)), (w4, .inr (8, [.ref k0, .ref k1, .ref k2, .ref k3, .ref k4, .ref k5, .ref k6, .ref k7, .ref k8, .int yn])), (k0, .inl (cI, 60, .inl yb0)), (k1, .inl (cI, 60, .inl yb1)), (k2, .inl (cI, 60, .inl yb2)), (k3, .inl (cI, 60, .inl yb3)), (k4, .inl (cI, 60, .inl yb4)), (k5, .inl (cI, 60, .inl yb5)), (k6, .inl (cI, 40, .inl yb6)), (k7, .inl (cI, 40, .inl yb7)), (k8, .inl (cI, 40, .inl yb8)), (w5, .inr (3, [.ref pf, .int ym])), (pf, .inl (cI, 36, .inl yq)), (o, .inr (9, [.ref v0, .ref v1, .ref v2, .ref v3, .ref v4, .ref v5, .int zwt, .int zre, .int zdy])), (v0, .inl (cI, 12, .inl za0)), (v1, .inl (cI, 40, .inl za1)), (v2, .inl (cI, 40, .inl za2)), (v3, .inl (cI, 20, .inl za3)), (v4, .inr (8, [.ref j0, .ref j1, .ref j2, .ref j3, .ref j4, .ref j5, .ref j6, .ref j7, .ref j8, .int zn])), (j0, .inl (cI, 60, .inl zb0)), (j1, .inl (cI, 60, .inl zb1)), (j2, .inl (cI, 60, .inl zb2)), (j3, .inl (cI, 60, .inl zb3)), (j4, .inl (cI, 60, .inl zb4)), (j5, .inl (cI, 60, .inl zb5)), (j6, .inl (cI, 40, .inl zb6)), (j7, .inl (cI, 40, .inl zb7)), (j8, .inl (cI, 40, .inl zb8)), (v5, .inr (3, [.ref po, .int zm])), (po, .inl (cI, 36, .inl zq))] := hD
  refine lv_aload_n hx hb dX9_copyFrom_45 rfl (lv_at hl 1 rfl) ?_
  refine va_get (D := D) (ci := 9) (v := .ref v3) (C := RX9) (T := TX9) (N := 9) hx hb hT giX9 hown hK hP 17 rfl rfl 3 (by decide) (hT (Cond.fieldLink RX9 21 "DesertWire$World" "waits" "[I") mw_95) (fun _ h9 => h9) rfl dX9_copyFrom_46 ?_
  refine lv_iconst (v := 0) hx hb dX9_copyFrom_49 (by decide) ?_
  refine lv_aload_n hx hb dX9_copyFrom_50 rfl (lv_at hl 0 rfl) ?_
  refine va_get (D := D) (ci := 9) (v := .ref w3) (C := RX9) (T := TX9) (N := 9) hx hb hT giX9 hown hK hP 0 rfl rfl 3 (by decide) (hT (Cond.fieldLink RX9 21 "DesertWire$World" "waits" "[I") mw_95) (fun _ h9 => h9) rfl dX9_copyFrom_51 ?_
  refine lv_iconst (v := 0) hx hb dX9_copyFrom_54 (by decide) ?_
  refine lv_bipush (v := 20) hx hb dX9_copyFrom_55 (by decide) ?_
  refine k_copy (c0 := cI) (c1 := cI) hx hb (hml.trans hl.1.symm) hown (hT _ mw_1015) (hT _ mw_865) (hT _ mw_864) (hT _ mw_19) hK hP hD hS 21 4 rfl rfl (by decide) (by decide) (Nat.le_of_ble_eq_true rfl) (by decide +kernel) dX9_copyFrom_57 (fun H locs hP hD hS => ?_)
  have hP : va_P D vwCl [(h, .inr (9, [.ref w0, .ref w1, .ref w2, .ref w3, .ref w4, .ref w5, .int ywt, .int yre, .int ydy])), (w0, .inl (cI, 12, .inl za0)), (w1, .inl (cI, 40, .inl za1)), (w2, .inl (cI, 40, .inl za2)), (w3, .inl (cI, 20, .inl za3)), (w4, .inr (8, [.ref k0, .ref k1, .ref k2, .ref k3, .ref k4, .ref k5, .ref k6, .ref k7, .ref k8, .int yn])), (k0, .inl (cI, 60, .inl yb0)), (k1, .inl (cI, 60, .inl yb1)), (k2, .inl (cI, 60, .inl yb2)), (k3, .inl (cI, 60, .inl yb3)), (k4, .inl (cI, 60, .inl yb4)), (k5, .inl (cI, 60, .inl yb5)), (k6, .inl (cI, 40, .inl yb6)), (k7, .inl (cI, 40, .inl yb7)), (k8, .inl (cI, 40, .inl yb8)), (w5, .inr (3, [.ref pf, .int ym])), (pf, .inl (cI, 36, .inl yq)), (o, .inr (9, [.ref v0, .ref v1, .ref v2, .ref v3, .ref v4, .ref v5, .int zwt, .int zre, .int zdy])), (v0, .inl (cI, 12, .inl za0)), (v1, .inl (cI, 40, .inl za1)), (v2, .inl (cI, 40, .inl za2)), (v3, .inl (cI, 20, .inl za3)), (v4, .inr (8, [.ref j0, .ref j1, .ref j2, .ref j3, .ref j4, .ref j5, .ref j6, .ref j7, .ref j8, .int zn])), (j0, .inl (cI, 60, .inl zb0)), (j1, .inl (cI, 60, .inl zb1)), (j2, .inl (cI, 60, .inl zb2)), (j3, .inl (cI, 60, .inl zb3)), (j4, .inl (cI, 60, .inl zb4)), (j5, .inl (cI, 60, .inl zb5)), (j6, .inl (cI, 40, .inl zb6)), (j7, .inl (cI, 40, .inl zb7)), (j8, .inl (cI, 40, .inl zb8)), (v5, .inr (3, [.ref po, .int zm])), (po, .inl (cI, 36, .inl zq))] H := hP
  have hD : va_D A [(h, .inr (9, [.ref w0, .ref w1, .ref w2, .ref w3, .ref w4, .ref w5, .int ywt, .int yre, .int ydy])), (w0, .inl (cI, 12, .inl za0)), (w1, .inl (cI, 40, .inl za1)), (w2, .inl (cI, 40, .inl za2)), (w3, .inl (cI, 20, .inl za3)), (w4, .inr (8, [.ref k0, .ref k1, .ref k2, .ref k3, .ref k4, .ref k5, .ref k6, .ref k7, .ref k8, .int yn])), (k0, .inl (cI, 60, .inl yb0)), (k1, .inl (cI, 60, .inl yb1)), (k2, .inl (cI, 60, .inl yb2)), (k3, .inl (cI, 60, .inl yb3)), (k4, .inl (cI, 60, .inl yb4)), (k5, .inl (cI, 60, .inl yb5)), (k6, .inl (cI, 40, .inl yb6)), (k7, .inl (cI, 40, .inl yb7)), (k8, .inl (cI, 40, .inl yb8)), (w5, .inr (3, [.ref pf, .int ym])), (pf, .inl (cI, 36, .inl yq)), (o, .inr (9, [.ref v0, .ref v1, .ref v2, .ref v3, .ref v4, .ref v5, .int zwt, .int zre, .int zdy])), (v0, .inl (cI, 12, .inl za0)), (v1, .inl (cI, 40, .inl za1)), (v2, .inl (cI, 40, .inl za2)), (v3, .inl (cI, 20, .inl za3)), (v4, .inr (8, [.ref j0, .ref j1, .ref j2, .ref j3, .ref j4, .ref j5, .ref j6, .ref j7, .ref j8, .int zn])), (j0, .inl (cI, 60, .inl zb0)), (j1, .inl (cI, 60, .inl zb1)), (j2, .inl (cI, 60, .inl zb2)), (j3, .inl (cI, 60, .inl zb3)), (j4, .inl (cI, 60, .inl zb4)), (j5, .inl (cI, 60, .inl zb5)), (j6, .inl (cI, 40, .inl zb6)), (j7, .inl (cI, 40, .inl zb7)), (j8, .inl (cI, 40, .inl zb8)), (v5, .inr (3, [.ref po, .int zm])), (po, .inl (cI, 36, .inl zq))] := hD
  refine lv_aload_n hx hb dX9_copyFrom_60 rfl (lv_at hl 0 rfl) ?_
  refine va_get (D := D) (ci := 9) (v := .ref w4) (C := RX9) (T := TX9) (N := 9) hx hb hT giX9 hown hK hP 0 rfl rfl 4 (by decide) (hT (Cond.fieldLink RX9 27 "DesertWire$World" "works" "LDesertWire$Works;") mw_97) (fun _ h9 => h9) rfl dX9_copyFrom_61 ?_
  refine lv_aload_n hx hb dX9_copyFrom_64 rfl (lv_at hl 1 rfl) ?_
  refine va_get (D := D) (ci := 9) (v := .ref v4) (C := RX9) (T := TX9) (N := 9) hx hb hT giX9 hown hK hP 17 rfl rfl 4 (by decide) (hT (Cond.fieldLink RX9 27 "DesertWire$World" "works" "LDesertWire$Works;") mw_97) (fun _ h9 => h9) rfl dX9_copyFrom_65 ?_
  refine kJv (wr := [(h, .inr (9, [.ref w0, .ref w1, .ref w2, .ref w3, .ref w4, .ref w5, .int ywt, .int yre, .int ydy])), (w0, .inl (cI, 12, .inl za0)), (w1, .inl (cI, 40, .inl za1)), (w2, .inl (cI, 40, .inl za2)), (w3, .inl (cI, 20, .inl za3)), (w5, .inr (3, [.ref pf, .int ym])), (pf, .inl (cI, 36, .inl yq)), (o, .inr (9, [.ref v0, .ref v1, .ref v2, .ref v3, .ref v4, .ref v5, .int zwt, .int zre, .int zdy])), (v0, .inl (cI, 12, .inl za0)), (v1, .inl (cI, 40, .inl za1)), (v2, .inl (cI, 40, .inl za2)), (v3, .inl (cI, 20, .inl za3)), (v5, .inr (3, [.ref po, .int zm])), (po, .inl (cI, 36, .inl zq))]) (va_runV (As := [.ref v4]) (rest := []) ⟨hx, hb, hml, hown, hT⟩ (c_X8_copyFrom l D cI w4 k0 k1 k2 k3 k4 k5 k6 k7 k8 v4 j0 j1 j2 j3 j4 j5 j6 j7 j8 H.size yn zn yb0 yb1 yb2 yb3 yb4 yb5 yb6 yb7 yb8 zb0 zb1 zb2 zb3 zb4 zb5 zb6 zb7 zb8) (cwV 1 hT (gV_in mw_1019 mw_1016 mw_1017 mw_1018 mw_3) rfl rfl rfl (by decide +kernel) ⟨Nat.le_of_ble_eq_true rfl, Nat.le_of_ble_eq_true rfl⟩) (kRecv (own := "") (q0 := 5) (ci := 8) hK hP hD hN rfl rfl [5, 22, 6, 7, 8, 9, 10, 11, 12, 13, 14, 23, 24, 25, 26, 27, 28, 29, 30, 31] rfl (by decide)) rfl rfl hl.1 rfl (lv_room (Nat.le_of_ble_eq_true rfl)) dX9_copyFrom_68 ⟨Nat.le_of_ble_eq_true rfl, Nat.le_of_ble_eq_true rfl⟩) hP hD hS hA [5, 22, 6, 7, 8, 9, 10, 11, 12, 13, 14, 23, 24, 25, 26, 27, 28, 29, 30, 31] [0, 1, 2, 3, 4, 15, 16, 17, 18, 19, 20, 21, 32, 33] rfl rfl (by decide) (by decide) (fun u_3 H locs w_2 hP hD hS => ?_)
  have hP : va_P D vwCl [(h, .inr (9, [.ref w0, .ref w1, .ref w2, .ref w3, .ref w4, .ref w5, .int ywt, .int yre, .int ydy])), (w0, .inl (cI, 12, .inl za0)), (w1, .inl (cI, 40, .inl za1)), (w2, .inl (cI, 40, .inl za2)), (w3, .inl (cI, 20, .inl za3)), (w5, .inr (3, [.ref pf, .int ym])), (pf, .inl (cI, 36, .inl yq)), (o, .inr (9, [.ref v0, .ref v1, .ref v2, .ref v3, .ref v4, .ref v5, .int zwt, .int zre, .int zdy])), (v0, .inl (cI, 12, .inl za0)), (v1, .inl (cI, 40, .inl za1)), (v2, .inl (cI, 40, .inl za2)), (v3, .inl (cI, 20, .inl za3)), (v5, .inr (3, [.ref po, .int zm])), (po, .inl (cI, 36, .inl zq)), (w4, .inr (8, [.ref k0, .ref k1, .ref k2, .ref k3, .ref k4, .ref k5, .ref k6, .ref k7, .ref k8, .int zn])), (v4, .inr (8, [.ref j0, .ref j1, .ref j2, .ref j3, .ref j4, .ref j5, .ref j6, .ref j7, .ref j8, .int zn])), (k0, .inl (cI, 60, .inl zb0)), (k1, .inl (cI, 60, .inl zb1)), (k2, .inl (cI, 60, .inl zb2)), (k3, .inl (cI, 60, .inl zb3)), (k4, .inl (cI, 60, .inl zb4)), (k5, .inl (cI, 60, .inl zb5)), (k6, .inl (cI, 40, .inl zb6)), (k7, .inl (cI, 40, .inl zb7)), (k8, .inl (cI, 40, .inl zb8)), (j0, .inl (cI, 60, .inl zb0)), (j1, .inl (cI, 60, .inl zb1)), (j2, .inl (cI, 60, .inl zb2)), (j3, .inl (cI, 60, .inl zb3)), (j4, .inl (cI, 60, .inl zb4)), (j5, .inl (cI, 60, .inl zb5)), (j6, .inl (cI, 40, .inl zb6)), (j7, .inl (cI, 40, .inl zb7)), (j8, .inl (cI, 40, .inl zb8))] H := hP
  have hD : va_D A [(h, .inr (9, [.ref w0, .ref w1, .ref w2, .ref w3, .ref w4, .ref w5, .int ywt, .int yre, .int ydy])), (w0, .inl (cI, 12, .inl za0)), (w1, .inl (cI, 40, .inl za1)), (w2, .inl (cI, 40, .inl za2)), (w3, .inl (cI, 20, .inl za3)), (w5, .inr (3, [.ref pf, .int ym])), (pf, .inl (cI, 36, .inl yq)), (o, .inr (9, [.ref v0, .ref v1, .ref v2, .ref v3, .ref v4, .ref v5, .int zwt, .int zre, .int zdy])), (v0, .inl (cI, 12, .inl za0)), (v1, .inl (cI, 40, .inl za1)), (v2, .inl (cI, 40, .inl za2)), (v3, .inl (cI, 20, .inl za3)), (v5, .inr (3, [.ref po, .int zm])), (po, .inl (cI, 36, .inl zq)), (w4, .inr (8, [.ref k0, .ref k1, .ref k2, .ref k3, .ref k4, .ref k5, .ref k6, .ref k7, .ref k8, .int zn])), (v4, .inr (8, [.ref j0, .ref j1, .ref j2, .ref j3, .ref j4, .ref j5, .ref j6, .ref j7, .ref j8, .int zn])), (k0, .inl (cI, 60, .inl zb0)), (k1, .inl (cI, 60, .inl zb1)), (k2, .inl (cI, 60, .inl zb2)), (k3, .inl (cI, 60, .inl zb3)), (k4, .inl (cI, 60, .inl zb4)), (k5, .inl (cI, 60, .inl zb5)), (k6, .inl (cI, 40, .inl zb6)), (k7, .inl (cI, 40, .inl zb7)), (k8, .inl (cI, 40, .inl zb8)), (j0, .inl (cI, 60, .inl zb0)), (j1, .inl (cI, 60, .inl zb1)), (j2, .inl (cI, 60, .inl zb2)), (j3, .inl (cI, 60, .inl zb3)), (j4, .inl (cI, 60, .inl zb4)), (j5, .inl (cI, 60, .inl zb5)), (j6, .inl (cI, 40, .inl zb6)), (j7, .inl (cI, 40, .inl zb7)), (j8, .inl (cI, 40, .inl zb8))] := hD
  refine lv_aload_n hx hb dX9_copyFrom_71 rfl (lv_at hl 0 rfl) ?_
  refine va_get (D := D) (ci := 9) (v := .ref w5) (C := RX9) (T := TX9) (N := 9) hx hb hT giX9 hown hK hP 0 rfl rfl 5 (by decide) (hT (Cond.fieldLink RX9 34 "DesertWire$World" "parties" "LDesertWire$Parties;") mw_100) (fun _ h9 => h9) rfl dX9_copyFrom_72 ?_
  refine lv_aload_n hx hb dX9_copyFrom_75 rfl (lv_at hl 1 rfl) ?_
  refine va_get (D := D) (ci := 9) (v := .ref v5) (C := RX9) (T := TX9) (N := 9) hx hb hT giX9 hown hK hP 7 rfl rfl 5 (by decide) (hT (Cond.fieldLink RX9 34 "DesertWire$World" "parties" "LDesertWire$Parties;") mw_100) (fun _ h9 => h9) rfl dX9_copyFrom_76 ?_
  refine kJv (wr := [(h, .inr (9, [.ref w0, .ref w1, .ref w2, .ref w3, .ref w4, .ref w5, .int ywt, .int yre, .int ydy])), (w0, .inl (cI, 12, .inl za0)), (w1, .inl (cI, 40, .inl za1)), (w2, .inl (cI, 40, .inl za2)), (w3, .inl (cI, 20, .inl za3)), (o, .inr (9, [.ref v0, .ref v1, .ref v2, .ref v3, .ref v4, .ref v5, .int zwt, .int zre, .int zdy])), (v0, .inl (cI, 12, .inl za0)), (v1, .inl (cI, 40, .inl za1)), (v2, .inl (cI, 40, .inl za2)), (v3, .inl (cI, 20, .inl za3)), (w4, .inr (8, [.ref k0, .ref k1, .ref k2, .ref k3, .ref k4, .ref k5, .ref k6, .ref k7, .ref k8, .int zn])), (v4, .inr (8, [.ref j0, .ref j1, .ref j2, .ref j3, .ref j4, .ref j5, .ref j6, .ref j7, .ref j8, .int zn])), (k0, .inl (cI, 60, .inl zb0)), (k1, .inl (cI, 60, .inl zb1)), (k2, .inl (cI, 60, .inl zb2)), (k3, .inl (cI, 60, .inl zb3)), (k4, .inl (cI, 60, .inl zb4)), (k5, .inl (cI, 60, .inl zb5)), (k6, .inl (cI, 40, .inl zb6)), (k7, .inl (cI, 40, .inl zb7)), (k8, .inl (cI, 40, .inl zb8)), (j0, .inl (cI, 60, .inl zb0)), (j1, .inl (cI, 60, .inl zb1)), (j2, .inl (cI, 60, .inl zb2)), (j3, .inl (cI, 60, .inl zb3)), (j4, .inl (cI, 60, .inl zb4)), (j5, .inl (cI, 60, .inl zb5)), (j6, .inl (cI, 40, .inl zb6)), (j7, .inl (cI, 40, .inl zb7)), (j8, .inl (cI, 40, .inl zb8))]) (va_runV (As := [.ref v5]) (rest := []) ⟨hx, hb, hml, hown, hT⟩ (c_X3_copyFrom l D cI w5 pf v5 po H.size ym yq zm zq) (cwV 1 hT (gV_in mw_1024 mw_1021 mw_1022 mw_1023 mw_4) rfl rfl rfl (by decide +kernel) ⟨Nat.le_of_ble_eq_true rfl, Nat.le_of_ble_eq_true rfl⟩) (kRecv (own := "") (q0 := 5) (ci := 3) hK hP hD hN rfl rfl [5, 6, 12, 13] rfl (by decide)) rfl rfl hl.1 rfl (lv_room (Nat.le_of_ble_eq_true rfl)) dX9_copyFrom_79 ⟨Nat.le_of_ble_eq_true rfl, Nat.le_of_ble_eq_true rfl⟩) hP hD hS hA [5, 6, 12, 13] [0, 1, 2, 3, 4, 7, 8, 9, 10, 11, 14, 15, 16, 17, 18, 19, 20, 21, 22, 23, 24, 25, 26, 27, 28, 29, 30, 31, 32, 33] rfl rfl (by decide) (by decide) (fun u_6 H locs w_5 hP hD hS => ?_)
  have hP : va_P D vwCl [(h, .inr (9, [.ref w0, .ref w1, .ref w2, .ref w3, .ref w4, .ref w5, .int ywt, .int yre, .int ydy])), (w0, .inl (cI, 12, .inl za0)), (w1, .inl (cI, 40, .inl za1)), (w2, .inl (cI, 40, .inl za2)), (w3, .inl (cI, 20, .inl za3)), (o, .inr (9, [.ref v0, .ref v1, .ref v2, .ref v3, .ref v4, .ref v5, .int zwt, .int zre, .int zdy])), (v0, .inl (cI, 12, .inl za0)), (v1, .inl (cI, 40, .inl za1)), (v2, .inl (cI, 40, .inl za2)), (v3, .inl (cI, 20, .inl za3)), (w4, .inr (8, [.ref k0, .ref k1, .ref k2, .ref k3, .ref k4, .ref k5, .ref k6, .ref k7, .ref k8, .int zn])), (v4, .inr (8, [.ref j0, .ref j1, .ref j2, .ref j3, .ref j4, .ref j5, .ref j6, .ref j7, .ref j8, .int zn])), (k0, .inl (cI, 60, .inl zb0)), (k1, .inl (cI, 60, .inl zb1)), (k2, .inl (cI, 60, .inl zb2)), (k3, .inl (cI, 60, .inl zb3)), (k4, .inl (cI, 60, .inl zb4)), (k5, .inl (cI, 60, .inl zb5)), (k6, .inl (cI, 40, .inl zb6)), (k7, .inl (cI, 40, .inl zb7)), (k8, .inl (cI, 40, .inl zb8)), (j0, .inl (cI, 60, .inl zb0)), (j1, .inl (cI, 60, .inl zb1)), (j2, .inl (cI, 60, .inl zb2)), (j3, .inl (cI, 60, .inl zb3)), (j4, .inl (cI, 60, .inl zb4)), (j5, .inl (cI, 60, .inl zb5)), (j6, .inl (cI, 40, .inl zb6)), (j7, .inl (cI, 40, .inl zb7)), (j8, .inl (cI, 40, .inl zb8)), (w5, .inr (3, [.ref pf, .int zm])), (pf, .inl (cI, 36, .inl zq)), (v5, .inr (3, [.ref po, .int zm])), (po, .inl (cI, 36, .inl zq))] H := hP
  have hD : va_D A [(h, .inr (9, [.ref w0, .ref w1, .ref w2, .ref w3, .ref w4, .ref w5, .int ywt, .int yre, .int ydy])), (w0, .inl (cI, 12, .inl za0)), (w1, .inl (cI, 40, .inl za1)), (w2, .inl (cI, 40, .inl za2)), (w3, .inl (cI, 20, .inl za3)), (o, .inr (9, [.ref v0, .ref v1, .ref v2, .ref v3, .ref v4, .ref v5, .int zwt, .int zre, .int zdy])), (v0, .inl (cI, 12, .inl za0)), (v1, .inl (cI, 40, .inl za1)), (v2, .inl (cI, 40, .inl za2)), (v3, .inl (cI, 20, .inl za3)), (w4, .inr (8, [.ref k0, .ref k1, .ref k2, .ref k3, .ref k4, .ref k5, .ref k6, .ref k7, .ref k8, .int zn])), (v4, .inr (8, [.ref j0, .ref j1, .ref j2, .ref j3, .ref j4, .ref j5, .ref j6, .ref j7, .ref j8, .int zn])), (k0, .inl (cI, 60, .inl zb0)), (k1, .inl (cI, 60, .inl zb1)), (k2, .inl (cI, 60, .inl zb2)), (k3, .inl (cI, 60, .inl zb3)), (k4, .inl (cI, 60, .inl zb4)), (k5, .inl (cI, 60, .inl zb5)), (k6, .inl (cI, 40, .inl zb6)), (k7, .inl (cI, 40, .inl zb7)), (k8, .inl (cI, 40, .inl zb8)), (j0, .inl (cI, 60, .inl zb0)), (j1, .inl (cI, 60, .inl zb1)), (j2, .inl (cI, 60, .inl zb2)), (j3, .inl (cI, 60, .inl zb3)), (j4, .inl (cI, 60, .inl zb4)), (j5, .inl (cI, 60, .inl zb5)), (j6, .inl (cI, 40, .inl zb6)), (j7, .inl (cI, 40, .inl zb7)), (j8, .inl (cI, 40, .inl zb8)), (w5, .inr (3, [.ref pf, .int zm])), (pf, .inl (cI, 36, .inl zq)), (v5, .inr (3, [.ref po, .int zm])), (po, .inl (cI, 36, .inl zq))] := hD
  refine lv_aload_n hx hb dX9_copyFrom_82 rfl (lv_at hl 0 rfl) ?_
  refine lv_aload_n hx hb dX9_copyFrom_83 rfl (lv_at hl 1 rfl) ?_
  refine va_get (D := D) (ci := 9) (v := .int zwt) (C := RX9) (T := TX9) (N := 9) hx hb hT giX9 hown hK hP 5 rfl rfl 6 (by decide) (hT (Cond.fieldLink RX9 38 "DesertWire$World" "waiting" "I") mw_103) (fun _ h9 => h9) rfl dX9_copyFrom_84 ?_
  refine va_put (D := D) (ci := 9) (v := .int zwt) (ty := .int) (C := RX9) (T := TX9) (N := 9) hx hb hT giX9 tyX9 tyX9_ok nmX9 hown hK hP hD hS 0 rfl rfl 6 (by decide) (hT (Cond.fieldLink RX9 38 "DesertWire$World" "waiting" "I") mw_103) (fun _ h9 => h9) rfl (by decide +kernel) rfl rfl (Nat.le_of_ble_eq_true rfl) dX9_copyFrom_87 (fun H locs hP hD hS => ?_)
  have hP : va_P D vwCl [(h, .inr (9, [.ref w0, .ref w1, .ref w2, .ref w3, .ref w4, .ref w5, .int zwt, .int yre, .int ydy])), (w0, .inl (cI, 12, .inl za0)), (w1, .inl (cI, 40, .inl za1)), (w2, .inl (cI, 40, .inl za2)), (w3, .inl (cI, 20, .inl za3)), (o, .inr (9, [.ref v0, .ref v1, .ref v2, .ref v3, .ref v4, .ref v5, .int zwt, .int zre, .int zdy])), (v0, .inl (cI, 12, .inl za0)), (v1, .inl (cI, 40, .inl za1)), (v2, .inl (cI, 40, .inl za2)), (v3, .inl (cI, 20, .inl za3)), (w4, .inr (8, [.ref k0, .ref k1, .ref k2, .ref k3, .ref k4, .ref k5, .ref k6, .ref k7, .ref k8, .int zn])), (v4, .inr (8, [.ref j0, .ref j1, .ref j2, .ref j3, .ref j4, .ref j5, .ref j6, .ref j7, .ref j8, .int zn])), (k0, .inl (cI, 60, .inl zb0)), (k1, .inl (cI, 60, .inl zb1)), (k2, .inl (cI, 60, .inl zb2)), (k3, .inl (cI, 60, .inl zb3)), (k4, .inl (cI, 60, .inl zb4)), (k5, .inl (cI, 60, .inl zb5)), (k6, .inl (cI, 40, .inl zb6)), (k7, .inl (cI, 40, .inl zb7)), (k8, .inl (cI, 40, .inl zb8)), (j0, .inl (cI, 60, .inl zb0)), (j1, .inl (cI, 60, .inl zb1)), (j2, .inl (cI, 60, .inl zb2)), (j3, .inl (cI, 60, .inl zb3)), (j4, .inl (cI, 60, .inl zb4)), (j5, .inl (cI, 60, .inl zb5)), (j6, .inl (cI, 40, .inl zb6)), (j7, .inl (cI, 40, .inl zb7)), (j8, .inl (cI, 40, .inl zb8)), (w5, .inr (3, [.ref pf, .int zm])), (pf, .inl (cI, 36, .inl zq)), (v5, .inr (3, [.ref po, .int zm])), (po, .inl (cI, 36, .inl zq))] H := hP
  have hD : va_D A [(h, .inr (9, [.ref w0, .ref w1, .ref w2, .ref w3, .ref w4, .ref w5, .int zwt, .int yre, .int ydy])), (w0, .inl (cI, 12, .inl za0)), (w1, .inl (cI, 40, .inl za1)), (w2, .inl (cI, 40, .inl za2)), (w3, .inl (cI, 20, .inl za3)), (o, .inr (9, [.ref v0, .ref v1, .ref v2, .ref v3, .ref v4, .ref v5, .int zwt, .int zre, .int zdy])), (v0, .inl (cI, 12, .inl za0)), (v1, .inl (cI, 40, .inl za1)), (v2, .inl (cI, 40, .inl za2)), (v3, .inl (cI, 20, .inl za3)), (w4, .inr (8, [.ref k0, .ref k1, .ref k2, .ref k3, .ref k4, .ref k5, .ref k6, .ref k7, .ref k8, .int zn])), (v4, .inr (8, [.ref j0, .ref j1, .ref j2, .ref j3, .ref j4, .ref j5, .ref j6, .ref j7, .ref j8, .int zn])), (k0, .inl (cI, 60, .inl zb0)), (k1, .inl (cI, 60, .inl zb1)), (k2, .inl (cI, 60, .inl zb2)), (k3, .inl (cI, 60, .inl zb3)), (k4, .inl (cI, 60, .inl zb4)), (k5, .inl (cI, 60, .inl zb5)), (k6, .inl (cI, 40, .inl zb6)), (k7, .inl (cI, 40, .inl zb7)), (k8, .inl (cI, 40, .inl zb8)), (j0, .inl (cI, 60, .inl zb0)), (j1, .inl (cI, 60, .inl zb1)), (j2, .inl (cI, 60, .inl zb2)), (j3, .inl (cI, 60, .inl zb3)), (j4, .inl (cI, 60, .inl zb4)), (j5, .inl (cI, 60, .inl zb5)), (j6, .inl (cI, 40, .inl zb6)), (j7, .inl (cI, 40, .inl zb7)), (j8, .inl (cI, 40, .inl zb8)), (w5, .inr (3, [.ref pf, .int zm])), (pf, .inl (cI, 36, .inl zq)), (v5, .inr (3, [.ref po, .int zm])), (po, .inl (cI, 36, .inl zq))] := hD
  refine lv_aload_n hx hb dX9_copyFrom_90 rfl (lv_at hl 0 rfl) ?_
  refine lv_aload_n hx hb dX9_copyFrom_91 rfl (lv_at hl 1 rfl) ?_
  refine va_get (D := D) (ci := 9) (v := .int zre) (C := RX9) (T := TX9) (N := 9) hx hb hT giX9 hown hK hP 5 rfl rfl 7 (by decide) (hT (Cond.fieldLink RX9 42 "DesertWire$World" "reach" "I") mw_105) (fun _ h9 => h9) rfl dX9_copyFrom_92 ?_
  refine va_put (D := D) (ci := 9) (v := .int zre) (ty := .int) (C := RX9) (T := TX9) (N := 9) hx hb hT giX9 tyX9 tyX9_ok nmX9 hown hK hP hD hS 0 rfl rfl 7 (by decide) (hT (Cond.fieldLink RX9 42 "DesertWire$World" "reach" "I") mw_105) (fun _ h9 => h9) rfl (by decide +kernel) rfl rfl (Nat.le_of_ble_eq_true rfl) dX9_copyFrom_95 (fun H locs hP hD hS => ?_)
  have hP : va_P D vwCl [(h, .inr (9, [.ref w0, .ref w1, .ref w2, .ref w3, .ref w4, .ref w5, .int zwt, .int zre, .int ydy])), (w0, .inl (cI, 12, .inl za0)), (w1, .inl (cI, 40, .inl za1)), (w2, .inl (cI, 40, .inl za2)), (w3, .inl (cI, 20, .inl za3)), (o, .inr (9, [.ref v0, .ref v1, .ref v2, .ref v3, .ref v4, .ref v5, .int zwt, .int zre, .int zdy])), (v0, .inl (cI, 12, .inl za0)), (v1, .inl (cI, 40, .inl za1)), (v2, .inl (cI, 40, .inl za2)), (v3, .inl (cI, 20, .inl za3)), (w4, .inr (8, [.ref k0, .ref k1, .ref k2, .ref k3, .ref k4, .ref k5, .ref k6, .ref k7, .ref k8, .int zn])), (v4, .inr (8, [.ref j0, .ref j1, .ref j2, .ref j3, .ref j4, .ref j5, .ref j6, .ref j7, .ref j8, .int zn])), (k0, .inl (cI, 60, .inl zb0)), (k1, .inl (cI, 60, .inl zb1)), (k2, .inl (cI, 60, .inl zb2)), (k3, .inl (cI, 60, .inl zb3)), (k4, .inl (cI, 60, .inl zb4)), (k5, .inl (cI, 60, .inl zb5)), (k6, .inl (cI, 40, .inl zb6)), (k7, .inl (cI, 40, .inl zb7)), (k8, .inl (cI, 40, .inl zb8)), (j0, .inl (cI, 60, .inl zb0)), (j1, .inl (cI, 60, .inl zb1)), (j2, .inl (cI, 60, .inl zb2)), (j3, .inl (cI, 60, .inl zb3)), (j4, .inl (cI, 60, .inl zb4)), (j5, .inl (cI, 60, .inl zb5)), (j6, .inl (cI, 40, .inl zb6)), (j7, .inl (cI, 40, .inl zb7)), (j8, .inl (cI, 40, .inl zb8)), (w5, .inr (3, [.ref pf, .int zm])), (pf, .inl (cI, 36, .inl zq)), (v5, .inr (3, [.ref po, .int zm])), (po, .inl (cI, 36, .inl zq))] H := hP
  have hD : va_D A [(h, .inr (9, [.ref w0, .ref w1, .ref w2, .ref w3, .ref w4, .ref w5, .int zwt, .int zre, .int ydy])), (w0, .inl (cI, 12, .inl za0)), (w1, .inl (cI, 40, .inl za1)), (w2, .inl (cI, 40, .inl za2)), (w3, .inl (cI, 20, .inl za3)), (o, .inr (9, [.ref v0, .ref v1, .ref v2, .ref v3, .ref v4, .ref v5, .int zwt, .int zre, .int zdy])), (v0, .inl (cI, 12, .inl za0)), (v1, .inl (cI, 40, .inl za1)), (v2, .inl (cI, 40, .inl za2)), (v3, .inl (cI, 20, .inl za3)), (w4, .inr (8, [.ref k0, .ref k1, .ref k2, .ref k3, .ref k4, .ref k5, .ref k6, .ref k7, .ref k8, .int zn])), (v4, .inr (8, [.ref j0, .ref j1, .ref j2, .ref j3, .ref j4, .ref j5, .ref j6, .ref j7, .ref j8, .int zn])), (k0, .inl (cI, 60, .inl zb0)), (k1, .inl (cI, 60, .inl zb1)), (k2, .inl (cI, 60, .inl zb2)), (k3, .inl (cI, 60, .inl zb3)), (k4, .inl (cI, 60, .inl zb4)), (k5, .inl (cI, 60, .inl zb5)), (k6, .inl (cI, 40, .inl zb6)), (k7, .inl (cI, 40, .inl zb7)), (k8, .inl (cI, 40, .inl zb8)), (j0, .inl (cI, 60, .inl zb0)), (j1, .inl (cI, 60, .inl zb1)), (j2, .inl (cI, 60, .inl zb2)), (j3, .inl (cI, 60, .inl zb3)), (j4, .inl (cI, 60, .inl zb4)), (j5, .inl (cI, 60, .inl zb5)), (j6, .inl (cI, 40, .inl zb6)), (j7, .inl (cI, 40, .inl zb7)), (j8, .inl (cI, 40, .inl zb8)), (w5, .inr (3, [.ref pf, .int zm])), (pf, .inl (cI, 36, .inl zq)), (v5, .inr (3, [.ref po, .int zm])), (po, .inl (cI, 36, .inl zq))] := hD
  refine lv_aload_n hx hb dX9_copyFrom_98 rfl (lv_at hl 0 rfl) ?_
  refine lv_aload_n hx hb dX9_copyFrom_99 rfl (lv_at hl 1 rfl) ?_
  refine va_get (D := D) (ci := 9) (v := .int zdy) (C := RX9) (T := TX9) (N := 9) hx hb hT giX9 hown hK hP 5 rfl rfl 8 (by decide) (hT (Cond.fieldLink RX9 45 "DesertWire$World" "day" "I") mw_108) (fun _ h9 => h9) rfl dX9_copyFrom_100 ?_
  refine va_put (D := D) (ci := 9) (v := .int zdy) (ty := .int) (C := RX9) (T := TX9) (N := 9) hx hb hT giX9 tyX9 tyX9_ok nmX9 hown hK hP hD hS 0 rfl rfl 8 (by decide) (hT (Cond.fieldLink RX9 45 "DesertWire$World" "day" "I") mw_108) (fun _ h9 => h9) rfl (by decide +kernel) rfl rfl (Nat.le_of_ble_eq_true rfl) dX9_copyFrom_103 (fun H locs hP hD hS => ?_)
  have hP : va_P D vwCl [(h, .inr (9, [.ref w0, .ref w1, .ref w2, .ref w3, .ref w4, .ref w5, .int zwt, .int zre, .int zdy])), (w0, .inl (cI, 12, .inl za0)), (w1, .inl (cI, 40, .inl za1)), (w2, .inl (cI, 40, .inl za2)), (w3, .inl (cI, 20, .inl za3)), (o, .inr (9, [.ref v0, .ref v1, .ref v2, .ref v3, .ref v4, .ref v5, .int zwt, .int zre, .int zdy])), (v0, .inl (cI, 12, .inl za0)), (v1, .inl (cI, 40, .inl za1)), (v2, .inl (cI, 40, .inl za2)), (v3, .inl (cI, 20, .inl za3)), (w4, .inr (8, [.ref k0, .ref k1, .ref k2, .ref k3, .ref k4, .ref k5, .ref k6, .ref k7, .ref k8, .int zn])), (v4, .inr (8, [.ref j0, .ref j1, .ref j2, .ref j3, .ref j4, .ref j5, .ref j6, .ref j7, .ref j8, .int zn])), (k0, .inl (cI, 60, .inl zb0)), (k1, .inl (cI, 60, .inl zb1)), (k2, .inl (cI, 60, .inl zb2)), (k3, .inl (cI, 60, .inl zb3)), (k4, .inl (cI, 60, .inl zb4)), (k5, .inl (cI, 60, .inl zb5)), (k6, .inl (cI, 40, .inl zb6)), (k7, .inl (cI, 40, .inl zb7)), (k8, .inl (cI, 40, .inl zb8)), (j0, .inl (cI, 60, .inl zb0)), (j1, .inl (cI, 60, .inl zb1)), (j2, .inl (cI, 60, .inl zb2)), (j3, .inl (cI, 60, .inl zb3)), (j4, .inl (cI, 60, .inl zb4)), (j5, .inl (cI, 60, .inl zb5)), (j6, .inl (cI, 40, .inl zb6)), (j7, .inl (cI, 40, .inl zb7)), (j8, .inl (cI, 40, .inl zb8)), (w5, .inr (3, [.ref pf, .int zm])), (pf, .inl (cI, 36, .inl zq)), (v5, .inr (3, [.ref po, .int zm])), (po, .inl (cI, 36, .inl zq))] H := hP
  have hD : va_D A [(h, .inr (9, [.ref w0, .ref w1, .ref w2, .ref w3, .ref w4, .ref w5, .int zwt, .int zre, .int zdy])), (w0, .inl (cI, 12, .inl za0)), (w1, .inl (cI, 40, .inl za1)), (w2, .inl (cI, 40, .inl za2)), (w3, .inl (cI, 20, .inl za3)), (o, .inr (9, [.ref v0, .ref v1, .ref v2, .ref v3, .ref v4, .ref v5, .int zwt, .int zre, .int zdy])), (v0, .inl (cI, 12, .inl za0)), (v1, .inl (cI, 40, .inl za1)), (v2, .inl (cI, 40, .inl za2)), (v3, .inl (cI, 20, .inl za3)), (w4, .inr (8, [.ref k0, .ref k1, .ref k2, .ref k3, .ref k4, .ref k5, .ref k6, .ref k7, .ref k8, .int zn])), (v4, .inr (8, [.ref j0, .ref j1, .ref j2, .ref j3, .ref j4, .ref j5, .ref j6, .ref j7, .ref j8, .int zn])), (k0, .inl (cI, 60, .inl zb0)), (k1, .inl (cI, 60, .inl zb1)), (k2, .inl (cI, 60, .inl zb2)), (k3, .inl (cI, 60, .inl zb3)), (k4, .inl (cI, 60, .inl zb4)), (k5, .inl (cI, 60, .inl zb5)), (k6, .inl (cI, 40, .inl zb6)), (k7, .inl (cI, 40, .inl zb7)), (k8, .inl (cI, 40, .inl zb8)), (j0, .inl (cI, 60, .inl zb0)), (j1, .inl (cI, 60, .inl zb1)), (j2, .inl (cI, 60, .inl zb2)), (j3, .inl (cI, 60, .inl zb3)), (j4, .inl (cI, 60, .inl zb4)), (j5, .inl (cI, 60, .inl zb5)), (j6, .inl (cI, 40, .inl zb6)), (j7, .inl (cI, 40, .inl zb7)), (j8, .inl (cI, 40, .inl zb8)), (w5, .inr (3, [.ref pf, .int zm])), (pf, .inl (cI, 36, .inl zq)), (v5, .inr (3, [.ref po, .int zm])), (po, .inl (cI, 36, .inl zq))] := hD
  exact hRet () [0, 1, 2, 3, 4, 10, 12, 13, 14, 15, 16, 17, 18, 19, 20, 30, 31, 5, 6, 7, 8, 9, 11, 21, 22, 23, 24, 25, 26, 27, 28, 29, 32, 33] trivial hP hD (by decide) rfl hS dX9_copyFrom_106
