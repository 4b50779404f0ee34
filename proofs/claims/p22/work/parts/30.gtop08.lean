theorem dX10_soils_0 : decode cX10_soils 0 = .ok (.iload_n 1, 1) := by decide +kernel
theorem dX10_soils_1 : decode cX10_soils 1 = .ok (.invokestatic 173, 3) := by decide +kernel
theorem dX10_soils_4 : decode cX10_soils 4 = .ok (.ifCond .eq 10, 3) := by decide +kernel
theorem dX10_soils_7 : decode cX10_soils 7 = .ok (.iload_n 2, 1) := by decide +kernel
theorem dX10_soils_8 : decode cX10_soils 8 = .ok (.invokestatic 89, 3) := by decide +kernel
theorem dX10_soils_11 : decode cX10_soils 11 = .ok (.ifCond .ne 9, 3) := by decide +kernel
theorem dX10_soils_14 : decode cX10_soils 14 = .ok (.aload_n 0, 1) := by decide +kernel
theorem dX10_soils_15 : decode cX10_soils 15 = .ok (.iconst 1, 1) := by decide +kernel
theorem dX10_soils_16 : decode cX10_soils 16 = .ok (.invokevirtual 82, 3) := by decide +kernel
theorem dX10_soils_19 : decode cX10_soils 19 = .ok (.ireturn, 1) := by decide +kernel
theorem dX10_soils_20 : decode cX10_soils 20 = .ok (.aload_n 0, 1) := by decide +kernel
theorem dX10_soils_21 : decode cX10_soils 21 = .ok (.getfield 70, 3) := by decide +kernel
theorem dX10_soils_24 : decode cX10_soils 24 = .ok (.iload_n 1, 1) := by decide +kernel
theorem dX10_soils_25 : decode cX10_soils 25 = .ok (.invokevirtual 176, 3) := by decide +kernel
theorem dX10_soils_28 : decode cX10_soils 28 = .ok (.ifCond .eq 9, 3) := by decide +kernel
theorem dX10_soils_31 : decode cX10_soils 31 = .ok (.aload_n 0, 1) := by decide +kernel
theorem dX10_soils_32 : decode cX10_soils 32 = .ok (.iconst 2, 1) := by decide +kernel
theorem dX10_soils_33 : decode cX10_soils 33 = .ok (.invokevirtual 82, 3) := by decide +kernel
theorem dX10_soils_36 : decode cX10_soils 36 = .ok (.ireturn, 1) := by decide +kernel
theorem dX10_soils_37 : decode cX10_soils 37 = .ok (.aload_n 0, 1) := by decide +kernel
theorem dX10_soils_38 : decode cX10_soils 38 = .ok (.getfield 70, 3) := by decide +kernel
theorem dX10_soils_41 : decode cX10_soils 41 = .ok (.iload_n 1, 1) := by decide +kernel
theorem dX10_soils_42 : decode cX10_soils 42 = .ok (.invokevirtual 179, 3) := by decide +kernel
theorem dX10_soils_45 : decode cX10_soils 45 = .ok (.bipush 40, 2) := by decide +kernel
theorem dX10_soils_47 : decode cX10_soils 47 = .ok (.iload_n 2, 1) := by decide +kernel
theorem dX10_soils_48 : decode cX10_soils 48 = .ok (.isub, 1) := by decide +kernel
theorem dX10_soils_49 : decode cX10_soils 49 = .ok (.if_icmp .le 9, 3) := by decide +kernel
theorem dX10_soils_52 : decode cX10_soils 52 = .ok (.aload_n 0, 1) := by decide +kernel
theorem dX10_soils_53 : decode cX10_soils 53 = .ok (.iconst 3, 1) := by decide +kernel
theorem dX10_soils_54 : decode cX10_soils 54 = .ok (.invokevirtual 82, 3) := by decide +kernel
theorem dX10_soils_57 : decode cX10_soils 57 = .ok (.ireturn, 1) := by decide +kernel
theorem dX10_soils_58 : decode cX10_soils 58 = .ok (.aload_n 0, 1) := by decide +kernel
theorem dX10_soils_59 : decode cX10_soils 59 = .ok (.getfield 70, 3) := by decide +kernel
theorem dX10_soils_62 : decode cX10_soils 62 = .ok (.iload_n 1, 1) := by decide +kernel
theorem dX10_soils_63 : decode cX10_soils 63 = .ok (.iconst (-1), 1) := by decide +kernel
theorem dX10_soils_64 : decode cX10_soils 64 = .ok (.iconst 2, 1) := by decide +kernel
theorem dX10_soils_65 : decode cX10_soils 65 = .ok (.invokevirtual 182, 3) := by decide +kernel
theorem dX10_soils_68 : decode cX10_soils 68 = .ok (.ifCond .ne 9, 3) := by decide +kernel
theorem dX10_soils_71 : decode cX10_soils 71 = .ok (.aload_n 0, 1) := by decide +kernel
theorem dX10_soils_72 : decode cX10_soils 72 = .ok (.iconst 5, 1) := by decide +kernel
theorem dX10_soils_73 : decode cX10_soils 73 = .ok (.invokevirtual 82, 3) := by decide +kernel
theorem dX10_soils_76 : decode cX10_soils 76 = .ok (.ireturn, 1) := by decide +kernel
theorem dX10_soils_77 : decode cX10_soils 77 = .ok (.aload_n 0, 1) := by decide +kernel
theorem dX10_soils_78 : decode cX10_soils 78 = .ok (.iload_n 1, 1) := by decide +kernel
theorem dX10_soils_79 : decode cX10_soils 79 = .ok (.iload_n 2, 1) := by decide +kernel
theorem dX10_soils_80 : decode cX10_soils 80 = .ok (.invokevirtual 186, 3) := by decide +kernel
theorem dX10_soils_83 : decode cX10_soils 83 = .ok (.ireturn, 1) := by decide +kernel
set_option maxHeartbeats 4000000 in
set_option maxRecDepth 100000 in
theorem c_X10_soilsG (l : Launch) (D : va_G) (cI : ClassId) (aK aV : Nat → Nat) (k k0 k1 k2 k3 k4 k5 k6 k7 k8 k9 ka kb k00 k01 k02 k03 k04 k05 ka0 ka1 ka2 : Nat) (sz : Nat) (cc : Int32) (c06 : Int32) (c07 : Int32) (c08 : Int32) (cb : Nat → Int32) (c01 : Nat → Int32) (ca0 : Nat → Int32) (ca1 : Nat → Int32) (ca2 : Nat → Int32) (a0 : Int32) (a1 : Int32) (pre0 : ∀ k : Nat, k < 4 → 0 ≤ (ca1 k).toInt ∧ (ca1 k).toInt ≤ 36) : Met l yX10_soils (gW yX10_soils cX10_soils 3 (some .int)) ({ frames := 5, cells := 0, slots := 0, locals := 110 } : Room) (kPreX D cI aK aV [.ref k, .int a0, .int a1] [(k, .inr (10, [.ref k0, .ref k1, .ref k2, .ref k3, .ref k4, .ref k5, .ref k6, .ref k7, .ref k8, .ref k9, .ref ka, .ref kb, .int cc])), (k0, .inr (9, [.ref k00, .ref k01, .ref k02, .ref k03, .ref k04, .ref k05, .int c06, .int c07, .int c08])), (ka, .inr (6, [.ref ka0, .ref ka1, .ref ka2])), (kb, .inl (cI, 6, .inl cb)), (k01, .inl (cI, 40, .inl c01)), (ka0, .inl (cI, 4, .inl ca0)), (ka1, .inl (cI, 4, .inl ca1)), (ka2, .inl (cI, 144, .inl ca2))] sz) (va_Qi (fun (r : Int32) (u : (Nat → Int32) × (Nat → Int32)) => r = soilR ca0 ca1 ca2 a0 a1 ∧ u.2 = soilS 0 c01 ca0 ca1 ca2 a0 a1) (fun u t => kWd D cI (va_A [(k, .inr (10, [.ref k0, .ref k1, .ref k2, .ref k3, .ref k4, .ref k5, .ref k6, .ref k7, .ref k8, .ref k9, .ref ka, .ref kb, .int cc])), (k0, .inr (9, [.ref k00, .ref k01, .ref k02, .ref k03, .ref k04, .ref k05, .int c06, .int c07, .int c08])), (ka, .inr (6, [.ref ka0, .ref ka1, .ref ka2])), (kb, .inl (cI, 6, .inl cb)), (k01, .inl (cI, 40, .inl c01)), (ka0, .inl (cI, 4, .inl ca0)), (ka1, .inl (cI, 4, .inl ca1)), (ka2, .inl (cI, 144, .inl ca2))] sz) [(k, .inr (10, [.ref k0, .ref k1, .ref k2, .ref k3, .ref k4, .ref k5, .ref k6, .ref k7, .ref k8, .ref k9, .ref ka, .ref kb, .int cc])), (k0, .inr (9, [.ref k00, .ref k01, .ref k02, .ref k03, .ref k04, .ref k05, .int c06, .int c07, .int c08])), (ka, .inr (6, [.ref ka0, .ref ka1, .ref ka2])), (kb, .inl (cI, 6, .inl u.1)), (k01, .inl (cI, 40, .inl u.2)), (ka0, .inl (cI, 4, .inl ca0)), (ka1, .inl (cI, 4, .inl ca1)), (ka2, .inl (cI, 144, .inl ca2))] t) (va_A [(k, .inr (10, [.ref k0, .ref k1, .ref k2, .ref k3, .ref k4, .ref k5, .ref k6, .ref k7, .ref k8, .ref k9, .ref ka, .ref kb, .int cc])), (k0, .inr (9, [.ref k00, .ref k01, .ref k02, .ref k03, .ref k04, .ref k05, .int c06, .int c07, .int c08])), (ka, .inr (6, [.ref ka0, .ref ka1, .ref ka2])), (kb, .inl (cI, 6, .inl cb)), (k01, .inl (cI, 40, .inl c01)), (ka0, .inl (cI, 4, .inl ca0)), (ka1, .inl (cI, 4, .inl ca1)), (ka2, .inl (cI, 144, .inl ca2))] sz)) 0 0 (va_A [(k, .inr (10, [.ref k0, .ref k1, .ref k2, .ref k3, .ref k4, .ref k5, .ref k6, .ref k7, .ref k8, .ref k9, .ref ka, .ref kb, .int cc])), (k0, .inr (9, [.ref k00, .ref k01, .ref k02, .ref k03, .ref k04, .ref k05, .int c06, .int c07, .int c08])), (ka, .inr (6, [.ref ka0, .ref ka1, .ref ka2])), (kb, .inl (cI, 6, .inl cb)), (k01, .inl (cI, 40, .inl c01)), (ka0, .inl (cI, 4, .inl ca0)), (ka1, .inl (cI, 4, .inl ca1)), (ka2, .inl (cI, 144, .inl ca2))] sz) := by
  refine kMetIX (own := RX10) (by decide) rfl (Nat.le_of_ble_eq_true rfl) ?_
  intro p e s m args below meth c hx hb hT hown hname hml A Q hK hP hD hS hA hN hXS hRet ls hl
  have hl : lv_has ls 3 [(0, .ref k), (1, .int a0), (2, .int a1)] := hl
  have lo_a0 := k_lo a0
  have hi_a0 := k_hi a0
  have lo_a1 := k_lo a1
  have hi_a1 := k_hi a1
  have hln_a0 : 0 ≤ a0.toInt → a0.toInt ≤ 3 → 0 ≤ (ca1 a0.toNatClampNeg).toInt ∧ (ca1 a0.toNatClampNeg).toInt ≤ 36 := fun z0 z1 => pre0 a0.toNatClampNeg (by rw [k_clamp]; omega)
  refine lv_iload_n hx hb dX10_soils_0 rfl (lv_at hl 1 rfl) ?_
  refine kJi (wr := [(k, .inr (10, [.ref k0, .ref k1, .ref k2, .ref k3, .ref k4, .ref k5, .ref k6, .ref k7, .ref k8, .ref k9, .ref ka, .ref kb, .int cc])), (k0, .inr (9, [.ref k00, .ref k01, .ref k02, .ref k03, .ref k04, .ref k05, .int c06, .int c07, .int c08])), (ka, .inr (6, [.ref ka0, .ref ka1, .ref ka2])), (kb, .inl (cI, 6, .inl cb)), (k01, .inl (cI, 40, .inl c01)), (ka0, .inl (cI, 4, .inl ca0)), (ka1, .inl (cI, 4, .inl ca1)), (ka2, .inl (cI, 144, .inl ca2))]) (va_runS (As := [.int a0]) (rest := []) ⟨hx, hb, hml, hown, hT⟩ (c_X10_isSheetG l D cI aK aV s.heap.size a0) (cwS 1 hT (gS_in mw_662 mw_660 mw_661 mw_1) rfl rfl rfl (by decide +kernel) ⟨Nat.le_of_ble_eq_true rfl, Nat.le_of_ble_eq_true rfl⟩) (kStatX hK hP hD hN hXS hS hA [] rfl (by decide)) rfl rfl hl.1 rfl (lv_room (Nat.le_of_ble_eq_true rfl)) dX10_soils_1 ⟨Nat.le_of_ble_eq_true rfl, Nat.le_of_ble_eq_true rfl⟩) hP hD hS hA [] [0, 1, 2, 3, 4, 5, 6, 7] rfl rfl (by decide) (by decide) ?_
  clear hP hD hS
  intro r_1 u_3 H locs w_2 hP hD hS
  replace hP : va_P D vwCl [(k, .inr (10, [.ref k0, .ref k1, .ref k2, .ref k3, .ref k4, .ref k5, .ref k6, .ref k7, .ref k8, .ref k9, .ref ka, .ref kb, .int cc])), (k0, .inr (9, [.ref k00, .ref k01, .ref k02, .ref k03, .ref k04, .ref k05, .int c06, .int c07, .int c08])), (ka, .inr (6, [.ref ka0, .ref ka1, .ref ka2])), (kb, .inl (cI, 6, .inl cb)), (k01, .inl (cI, 40, .inl c01)), (ka0, .inl (cI, 4, .inl ca0)), (ka1, .inl (cI, 4, .inl ca1)), (ka2, .inl (cI, 144, .inl ca2))] H := hP
  replace hD : va_D A [(k, .inr (10, [.ref k0, .ref k1, .ref k2, .ref k3, .ref k4, .ref k5, .ref k6, .ref k7, .ref k8, .ref k9, .ref ka, .ref kb, .int cc])), (k0, .inr (9, [.ref k00, .ref k01, .ref k02, .ref k03, .ref k04, .ref k05, .int c06, .int c07, .int c08])), (ka, .inr (6, [.ref ka0, .ref ka1, .ref ka2])), (kb, .inl (cI, 6, .inl cb)), (k01, .inl (cI, 40, .inl c01)), (ka0, .inl (cI, 4, .inl ca0)), (ka1, .inl (cI, 4, .inl ca1)), (ka2, .inl (cI, 144, .inl ca2))] := hD
  rcases w_2 with ⟨hr_1, h_4, h_5⟩ | ⟨hr_1, h_6⟩
  · have h_4 : 0 ≤ a0.toInt := h_4
    have h_5 : a0.toInt ≤ 3 := h_5
    obtain rfl : r_1 = 1 := hr_1.trans (by decide)
    refine b_if_eq hx hb zl_1 (tgt := 14) dX10_soils_4 (by decide) (fun c_7 => by exfalso; omega) (fun c_7 => ?_)
    refine lv_iload_n hx hb dX10_soils_7 rfl (lv_at hl 2 rfl) ?_
    refine kJi (wr := [(k, .inr (10, [.ref k0, .ref k1, .ref k2, .ref k3, .ref k4, .ref k5, .ref k6, .ref k7, .ref k8, .ref k9, .ref ka, .ref kb, .int cc])), (k0, .inr (9, [.ref k00, .ref k01, .ref k02, .ref k03, .ref k04, .ref k05, .int c06, .int c07, .int c08])), (ka, .inr (6, [.ref ka0, .ref ka1, .ref ka2])), (kb, .inl (cI, 6, .inl cb)), (k01, .inl (cI, 40, .inl c01)), (ka0, .inl (cI, 4, .inl ca0)), (ka1, .inl (cI, 4, .inl ca1)), (ka2, .inl (cI, 144, .inl ca2))]) (va_runS (As := [.int a1]) (rest := []) ⟨hx, hb, hml, hown, hT⟩ (c_X10_isMileG l D cI aK aV H.size a1) (cwS 1 hT (gS_in mw_346 mw_344 mw_345 mw_1) rfl rfl rfl (by decide +kernel) ⟨Nat.le_of_ble_eq_true rfl, Nat.le_of_ble_eq_true rfl⟩) (kStatX hK hP hD hN hXS hS hA [] rfl (by decide)) rfl rfl hl.1 rfl (lv_room (Nat.le_of_ble_eq_true rfl)) dX10_soils_8 ⟨Nat.le_of_ble_eq_true rfl, Nat.le_of_ble_eq_true rfl⟩) hP hD hS hA [] [0, 1, 2, 3, 4, 5, 6, 7] rfl rfl (by decide) (by decide) ?_
    clear hP hD hS
    intro r_8 u_10 H locs w_9 hP hD hS
    replace hP : va_P D vwCl [(k, .inr (10, [.ref k0, .ref k1, .ref k2, .ref k3, .ref k4, .ref k5, .ref k6, .ref k7, .ref k8, .ref k9, .ref ka, .ref kb, .int cc])), (k0, .inr (9, [.ref k00, .ref k01, .ref k02, .ref k03, .ref k04, .ref k05, .int c06, .int c07, .int c08])), (ka, .inr (6, [.ref ka0, .ref ka1, .ref ka2])), (kb, .inl (cI, 6, .inl cb)), (k01, .inl (cI, 40, .inl c01)), (ka0, .inl (cI, 4, .inl ca0)), (ka1, .inl (cI, 4, .inl ca1)), (ka2, .inl (cI, 144, .inl ca2))] H := hP
    replace hD : va_D A [(k, .inr (10, [.ref k0, .ref k1, .ref k2, .ref k3, .ref k4, .ref k5, .ref k6, .ref k7, .ref k8, .ref k9, .ref ka, .ref kb, .int cc])), (k0, .inr (9, [.ref k00, .ref k01, .ref k02, .ref k03, .ref k04, .ref k05, .int c06, .int c07, .int c08])), (ka, .inr (6, [.ref ka0, .ref ka1, .ref ka2])), (kb, .inl (cI, 6, .inl cb)), (k01, .inl (cI, 40, .inl c01)), (ka0, .inl (cI, 4, .inl ca0)), (ka1, .inl (cI, 4, .inl ca1)), (ka2, .inl (cI, 144, .inl ca2))] := hD
    rcases w_9 with ⟨hr_8, h_11, h_12⟩ | ⟨hr_8, h_13⟩
    · have h_11 : 0 ≤ a1.toInt := h_11
      have h_12 : a1.toInt ≤ 39 := h_12
      obtain rfl : r_8 = 1 := hr_8.trans (by decide)
      refine b_if_ne hx hb zl_1 (tgt := 20) dX10_soils_11 (by decide) (fun c_14 => ?_) (fun c_14 => by exfalso; omega)
      refine lv_aload_n hx hb dX10_soils_20 rfl (lv_at hl 0 rfl) ?_
      refine va_get (D := D) (ci := 10) (v := .ref ka) (C := RX10) (T := TX10) (N := 13) hx hb hT giX10 hown hK hP 0 rfl rfl 10 (by decide) (hT (Cond.fieldLink RX10 70 "DesertWire" "sheets" "LDesertWire$Sheets;") mw_301) (fun _ h9 => h9) rfl dX10_soils_21 ?_
      refine lv_iload_n hx hb dX10_soils_24 rfl (lv_at hl 1 rfl) ?_
      refine kJi (wr := [(k, .inr (10, [.ref k0, .ref k1, .ref k2, .ref k3, .ref k4, .ref k5, .ref k6, .ref k7, .ref k8, .ref k9, .ref ka, .ref kb, .int cc])), (k0, .inr (9, [.ref k00, .ref k01, .ref k02, .ref k03, .ref k04, .ref k05, .int c06, .int c07, .int c08])), (kb, .inl (cI, 6, .inl cb)), (k01, .inl (cI, 40, .inl c01)), (ka1, .inl (cI, 4, .inl ca1)), (ka2, .inl (cI, 144, .inl ca2))]) (va_runV (As := [.int a0]) (rest := []) ⟨hx, hb, hml, hown, hT⟩ (c_X6_isMissingG l D cI aK aV ka ka0 ka1 ka2 H.size ca0 a0) (cwV 1 hT (gV_in mw_666 mw_663 mw_664 mw_665 mw_11) rfl rfl rfl (by decide +kernel) ⟨Nat.le_of_ble_eq_true rfl, Nat.le_of_ble_eq_true rfl⟩) (kRecvX (q0 := 2) (ci := 6) hK hP hD hN hXS hS hA rfl rfl [2, 5] rfl (by decide)) rfl rfl hl.1 rfl (lv_room (Nat.le_of_ble_eq_true rfl)) dX10_soils_25 ⟨Nat.le_of_ble_eq_true rfl, Nat.le_of_ble_eq_true rfl⟩) hP hD hS hA [2, 5] [0, 1, 3, 4, 6, 7] rfl rfl (by decide) (by decide) ?_
      clear hP hD hS
      intro r_15 u_17 H locs w_16 hP hD hS
      replace hP : va_P D vwCl [(k, .inr (10, [.ref k0, .ref k1, .ref k2, .ref k3, .ref k4, .ref k5, .ref k6, .ref k7, .ref k8, .ref k9, .ref ka, .ref kb, .int cc])), (k0, .inr (9, [.ref k00, .ref k01, .ref k02, .ref k03, .ref k04, .ref k05, .int c06, .int c07, .int c08])), (kb, .inl (cI, 6, .inl cb)), (k01, .inl (cI, 40, .inl c01)), (ka1, .inl (cI, 4, .inl ca1)), (ka2, .inl (cI, 144, .inl ca2)), (ka, .inr (6, [.ref ka0, .ref ka1, .ref ka2])), (ka0, .inl (cI, 4, .inl ca0))] H := hP
      replace hD : va_D A [(k, .inr (10, [.ref k0, .ref k1, .ref k2, .ref k3, .ref k4, .ref k5, .ref k6, .ref k7, .ref k8, .ref k9, .ref ka, .ref kb, .int cc])), (k0, .inr (9, [.ref k00, .ref k01, .ref k02, .ref k03, .ref k04, .ref k05, .int c06, .int c07, .int c08])), (kb, .inl (cI, 6, .inl cb)), (k01, .inl (cI, 40, .inl c01)), (ka1, .inl (cI, 4, .inl ca1)), (ka2, .inl (cI, 144, .inl ca2)), (ka, .inr (6, [.ref ka0, .ref ka1, .ref ka2])), (ka0, .inl (cI, 4, .inl ca0))] := hD
      rcases w_16 with ⟨hr_15, h_18, h_19, h_20⟩ | ⟨hr_15, h_21, h_22, h_23⟩ | ⟨hr_15, h_24⟩
      · have h_18 : 0 ≤ a0.toInt := h_18
        have h_19 : a0.toInt ≤ 3 := h_19
        have h_20 : (ca0 a0.toNatClampNeg).toInt = 0 := h_20
        obtain rfl : r_15 = 1 := hr_15.trans (by decide)
        refine b_if_eq hx hb zl_1 (tgt := 37) dX10_soils_28 (by decide) (fun c_25 => by exfalso; omega) (fun c_25 => ?_)
        refine lv_aload_n hx hb dX10_soils_31 rfl (lv_at hl 0 rfl) ?_
        refine lv_iconst (v := 2) hx hb dX10_soils_32 (by decide) ?_
        refine kJi (wr := [(k0, .inr (9, [.ref k00, .ref k01, .ref k02, .ref k03, .ref k04, .ref k05, .int c06, .int c07, .int c08])), (k01, .inl (cI, 40, .inl c01)), (ka1, .inl (cI, 4, .inl ca1)), (ka2, .inl (cI, 144, .inl ca2)), (ka, .inr (6, [.ref ka0, .ref ka1, .ref ka2])), (ka0, .inl (cI, 4, .inl ca0))]) (va_runV (As := [.int 2]) (rest := []) ⟨hx, hb, hml, hown, hT⟩ (c_X10_findingG l D cI aK aV k k0 k1 k2 k3 k4 k5 k6 k7 k8 k9 ka kb H.size cc cb 2) (cwV 1 hT (gV_in mw_338 mw_335 mw_337 mw_p1_0 mw_1) rfl rfl rfl (by decide +kernel) ⟨Nat.le_of_ble_eq_true rfl, Nat.le_of_ble_eq_true rfl⟩) (kRecvX (q0 := 0) (ci := 10) hK hP hD hN hXS hS hA rfl rfl [0, 2] rfl (by decide)) rfl rfl hl.1 rfl (lv_room (Nat.le_of_ble_eq_true rfl)) dX10_soils_33 ⟨Nat.le_of_ble_eq_true rfl, Nat.le_of_ble_eq_true rfl⟩) hP hD hS hA [0, 2] [1, 3, 4, 5, 6, 7] rfl rfl (by decide) (by decide) ?_
        clear hP hD hS
        intro r_26 scb_28 H locs w_27 hP hD hS
        replace hP : va_P D vwCl [(k0, .inr (9, [.ref k00, .ref k01, .ref k02, .ref k03, .ref k04, .ref k05, .int c06, .int c07, .int c08])), (k01, .inl (cI, 40, .inl c01)), (ka1, .inl (cI, 4, .inl ca1)), (ka2, .inl (cI, 144, .inl ca2)), (ka, .inr (6, [.ref ka0, .ref ka1, .ref ka2])), (ka0, .inl (cI, 4, .inl ca0)), (k, .inr (10, [.ref k0, .ref k1, .ref k2, .ref k3, .ref k4, .ref k5, .ref k6, .ref k7, .ref k8, .ref k9, .ref ka, .ref kb, .int cc])), (kb, .inl (cI, 6, .inl scb_28))] H := hP
        replace hD : va_D A [(k0, .inr (9, [.ref k00, .ref k01, .ref k02, .ref k03, .ref k04, .ref k05, .int c06, .int c07, .int c08])), (k01, .inl (cI, 40, .inl c01)), (ka1, .inl (cI, 4, .inl ca1)), (ka2, .inl (cI, 144, .inl ca2)), (ka, .inr (6, [.ref ka0, .ref ka1, .ref ka2])), (ka0, .inl (cI, 4, .inl ca0)), (k, .inr (10, [.ref k0, .ref k1, .ref k2, .ref k3, .ref k4, .ref k5, .ref k6, .ref k7, .ref k8, .ref k9, .ref ka, .ref kb, .int cc])), (kb, .inl (cI, 6, .inl scb_28))] := hD
        have hr_26 := w_27
        obtain rfl : r_26 = (-1000002) := hr_26.trans (by decide)
        exact hRet (scb_28, c01) [6, 0, 4, 7, 1, 5, 2, 3] ⟨(by (try dsimp only); unfold soilR; (repeat (first | rw [if_pos (by omega)] | rw [if_neg (by omega)] | rw [if_pos (by assumption)] | rw [if_neg (fun z => absurd (zl_0.symm.trans z) (by decide))]))), (by (try dsimp only); unfold soilS; (repeat (first | rw [if_pos (by omega)] | rw [if_neg (by omega)] | rw [if_pos (by assumption)] | rw [if_neg (fun z => absurd (zl_0.symm.trans z) (by decide))])))⟩ hP hD (by decide) rfl hS rfl dX10_soils_36
      · have h_21 : 0 ≤ a0.toInt := h_21
        have h_22 : a0.toInt ≤ 3 := h_22
        have h_23 : (ca0 a0.toNatClampNeg).toInt ≠ 0 := h_23
        obtain rfl : r_15 = 0 := hr_15.trans (by decide)
        refine b_if_eq hx hb zl_0 (tgt := 37) dX10_soils_28 (by decide) (fun c_29 => ?_) (fun c_29 => by exfalso; omega)
        refine lv_aload_n hx hb dX10_soils_37 rfl (lv_at hl 0 rfl) ?_
        refine va_get (D := D) (ci := 10) (v := .ref ka) (C := RX10) (T := TX10) (N := 13) hx hb hT giX10 hown hK hP 0 rfl rfl 10 (by decide) (hT (Cond.fieldLink RX10 70 "DesertWire" "sheets" "LDesertWire$Sheets;") mw_301) (fun _ h9 => h9) rfl dX10_soils_38 ?_
        refine lv_iload_n hx hb dX10_soils_41 rfl (lv_at hl 1 rfl) ?_
        refine kJi (wr := [(k, .inr (10, [.ref k0, .ref k1, .ref k2, .ref k3, .ref k4, .ref k5, .ref k6, .ref k7, .ref k8, .ref k9, .ref ka, .ref kb, .int cc])), (k0, .inr (9, [.ref k00, .ref k01, .ref k02, .ref k03, .ref k04, .ref k05, .int c06, .int c07, .int c08])), (kb, .inl (cI, 6, .inl cb)), (k01, .inl (cI, 40, .inl c01)), (ka2, .inl (cI, 144, .inl ca2)), (ka0, .inl (cI, 4, .inl ca0))]) (va_runV (As := [.int a0]) (rest := []) ⟨hx, hb, hml, hown, hT⟩ (c_X6_lengthOfG l D cI aK aV ka ka0 ka1 ka2 H.size ca1 a0 (by first | omega | decide | assumption | rfl)) (cwV 1 hT (gV_in mw_675 mw_672 mw_673 mw_674 mw_11) rfl rfl rfl (by decide +kernel) ⟨Nat.le_of_ble_eq_true rfl, Nat.le_of_ble_eq_true rfl⟩) (kRecvX (q0 := 6) (ci := 6) hK hP hD hN hXS hS hA rfl rfl [6, 4] rfl (by decide)) rfl rfl hl.1 rfl (lv_room (Nat.le_of_ble_eq_true rfl)) dX10_soils_42 ⟨Nat.le_of_ble_eq_true rfl, Nat.le_of_ble_eq_true rfl⟩) hP hD hS hA [6, 4] [0, 1, 2, 3, 5, 7] rfl rfl (by decide) (by decide) ?_
        clear hP hD hS
        intro r_30 u_32 H locs w_31 hP hD hS
        replace hP : va_P D vwCl [(k, .inr (10, [.ref k0, .ref k1, .ref k2, .ref k3, .ref k4, .ref k5, .ref k6, .ref k7, .ref k8, .ref k9, .ref ka, .ref kb, .int cc])), (k0, .inr (9, [.ref k00, .ref k01, .ref k02, .ref k03, .ref k04, .ref k05, .int c06, .int c07, .int c08])), (kb, .inl (cI, 6, .inl cb)), (k01, .inl (cI, 40, .inl c01)), (ka2, .inl (cI, 144, .inl ca2)), (ka0, .inl (cI, 4, .inl ca0)), (ka, .inr (6, [.ref ka0, .ref ka1, .ref ka2])), (ka1, .inl (cI, 4, .inl ca1))] H := hP
        replace hD : va_D A [(k, .inr (10, [.ref k0, .ref k1, .ref k2, .ref k3, .ref k4, .ref k5, .ref k6, .ref k7, .ref k8, .ref k9, .ref ka, .ref kb, .int cc])), (k0, .inr (9, [.ref k00, .ref k01, .ref k02, .ref k03, .ref k04, .ref k05, .int c06, .int c07, .int c08])), (kb, .inl (cI, 6, .inl cb)), (k01, .inl (cI, 40, .inl c01)), (ka2, .inl (cI, 144, .inl ca2)), (ka0, .inl (cI, 4, .inl ca0)), (ka, .inr (6, [.ref ka0, .ref ka1, .ref ka2])), (ka1, .inl (cI, 4, .inl ca1))] := hD
        rcases w_31 with ⟨h_33, h_34, h_35, h_36, h_37⟩ | ⟨hr_30, h_38⟩
        · have h_33 : 0 ≤ a0.toInt := h_33
          have h_34 : a0.toInt ≤ 3 := h_34
          have h_35 : 0 ≤ r_30.toInt := h_35
          have h_36 : r_30.toInt ≤ 36 := h_36
          have h_37 : r_30.toInt = (ca1 a0.toNatClampNeg).toInt := h_37
          have lo_r_30 := k_lo r_30
          have hi_r_30 := k_hi r_30
          refine lv_bipush (v := 40) hx hb dX10_soils_45 (by decide) ?_
          refine lv_iload_n hx hb dX10_soils_47 rfl (lv_at hl 2 rfl) ?_
          refine lv_isub hx hb dX10_soils_48 ?_
          refine lv_topi (fun v_39 ev_39 => ?_)
          have tv_39 : v_39.toInt = 40 - a1.toInt := by rw [ev_39]; exact k_subv zl_40 rfl (by omega) (by omega)
          refine b_icmp_le hx hb rfl rfl (tgt := 58) dX10_soils_49 (by decide) (fun c_40 => ?_) (fun c_40 => ?_)
          · refine lv_aload_n hx hb dX10_soils_58 rfl (lv_at hl 0 rfl) ?_
            refine va_get (D := D) (ci := 10) (v := .ref ka) (C := RX10) (T := TX10) (N := 13) hx hb hT giX10 hown hK hP 0 rfl rfl 10 (by decide) (hT (Cond.fieldLink RX10 70 "DesertWire" "sheets" "LDesertWire$Sheets;") mw_301) (fun _ h9 => h9) rfl dX10_soils_59 ?_
            refine lv_iload_n hx hb dX10_soils_62 rfl (lv_at hl 1 rfl) ?_
            refine lv_iconst (v := (-1)) hx hb dX10_soils_63 (by decide) ?_
            refine lv_iconst (v := 2) hx hb dX10_soils_64 (by decide) ?_
            refine kJi (wr := [(k, .inr (10, [.ref k0, .ref k1, .ref k2, .ref k3, .ref k4, .ref k5, .ref k6, .ref k7, .ref k8, .ref k9, .ref ka, .ref kb, .int cc])), (k0, .inr (9, [.ref k00, .ref k01, .ref k02, .ref k03, .ref k04, .ref k05, .int c06, .int c07, .int c08])), (kb, .inl (cI, 6, .inl cb)), (k01, .inl (cI, 40, .inl c01)), (ka0, .inl (cI, 4, .inl ca0))]) (va_runV (As := [.int a0, .int (-1), .int 2]) (rest := []) ⟨hx, hb, hml, hown, hT⟩ (c_X6_allWithinG l D cI aK aV ka ka0 ka1 ka2 H.size ca1 ca2 a0 (-1) 2 (by first | omega | (simp only [zl_m1, zl_2]; first | done | omega) | decide | assumption | rfl) (by first | omega | (simp only [zl_m1, zl_2]; first | done | omega) | decide | assumption | rfl) (by first | omega | (simp only [zl_m1, zl_2]; first | done | omega) | decide | assumption | rfl)) (cwV 3 hT (gV_in mw_679 mw_676 mw_677 mw_678 mw_11) rfl rfl rfl (by decide +kernel) ⟨Nat.le_of_ble_eq_true rfl, Nat.le_of_ble_eq_true rfl⟩) (kRecvX (q0 := 6) (ci := 6) hK hP hD hN hXS hS hA rfl rfl [6, 7, 4] rfl (by decide)) rfl rfl hl.1 rfl (lv_room (Nat.le_of_ble_eq_true rfl)) dX10_soils_65 ⟨Nat.le_of_ble_eq_true rfl, Nat.le_of_ble_eq_true rfl⟩) hP hD hS hA [6, 7, 4] [0, 1, 2, 3, 5] rfl rfl (by decide) (by decide) ?_
            clear hP hD hS
            intro r_41 u_43 H locs w_42 hP hD hS
            replace hP : va_P D vwCl [(k, .inr (10, [.ref k0, .ref k1, .ref k2, .ref k3, .ref k4, .ref k5, .ref k6, .ref k7, .ref k8, .ref k9, .ref ka, .ref kb, .int cc])), (k0, .inr (9, [.ref k00, .ref k01, .ref k02, .ref k03, .ref k04, .ref k05, .int c06, .int c07, .int c08])), (kb, .inl (cI, 6, .inl cb)), (k01, .inl (cI, 40, .inl c01)), (ka0, .inl (cI, 4, .inl ca0)), (ka, .inr (6, [.ref ka0, .ref ka1, .ref ka2])), (ka1, .inl (cI, 4, .inl ca1)), (ka2, .inl (cI, 144, .inl ca2))] H := hP
            replace hD : va_D A [(k, .inr (10, [.ref k0, .ref k1, .ref k2, .ref k3, .ref k4, .ref k5, .ref k6, .ref k7, .ref k8, .ref k9, .ref ka, .ref kb, .int cc])), (k0, .inr (9, [.ref k00, .ref k01, .ref k02, .ref k03, .ref k04, .ref k05, .int c06, .int c07, .int c08])), (kb, .inl (cI, 6, .inl cb)), (k01, .inl (cI, 40, .inl c01)), (ka0, .inl (cI, 4, .inl ca0)), (ka, .inr (6, [.ref ka0, .ref ka1, .ref ka2])), (ka1, .inl (cI, 4, .inl ca1)), (ka2, .inl (cI, 144, .inl ca2))] := hD
            rcases w_42 with ⟨hr_41, h_44⟩ | ⟨hr_41, h_45⟩
            · try simp only [zl_m1, zl_2] at h_44
              have h_44 : allB (shv ca2 a0) (-1) 2 (ca1 a0.toNatClampNeg).toInt.toNat = true := h_44
              have h_44 : allB (shv ca2 a0) (-1) 2 (ca1 a0.toNatClampNeg).toInt.toNat = true := h_44
              obtain rfl : r_41 = 1 := hr_41.trans (by decide)
              refine b_if_ne hx hb zl_1 (tgt := 77) dX10_soils_68 (by decide) (fun c_46 => ?_) (fun c_46 => by exfalso; omega)
              refine lv_aload_n hx hb dX10_soils_77 rfl (lv_at hl 0 rfl) ?_
              refine lv_iload_n hx hb dX10_soils_78 rfl (lv_at hl 1 rfl) ?_
              refine lv_iload_n hx hb dX10_soils_79 rfl (lv_at hl 2 rfl) ?_
              refine kJi (wr := [(kb, .inl (cI, 6, .inl cb)), (ka0, .inl (cI, 4, .inl ca0))]) (va_runV (As := [.int a0, .int a1]) (rest := []) ⟨hx, hb, hml, hown, hT⟩ (c_X10_tellSoilsG l D cI aK aV k k0 k1 k2 k3 k4 k5 k6 k7 k8 k9 ka kb k00 k01 k02 k03 k04 k05 ka0 ka1 ka2 H.size cc c06 c07 c08 c01 ca1 ca2 a0 a1 (by first | omega | decide | assumption | rfl) (by first | omega | decide | assumption | rfl) (by first | omega | decide | assumption | rfl) (by first | omega | decide | assumption | rfl) (by first | omega | decide | assumption | rfl) (by first | omega | decide | assumption | rfl)) (cwV 2 hT (gV_in mw_695 mw_692 mw_694 mw_p2_0 mw_1) rfl rfl rfl (by decide +kernel) ⟨Nat.le_of_ble_eq_true rfl, Nat.le_of_ble_eq_true rfl⟩) (kRecvX (q0 := 0) (ci := 10) hK hP hD hN hXS hS hA rfl rfl [0, 1, 5, 3, 6, 7] rfl (by decide)) rfl rfl hl.1 rfl (lv_room (Nat.le_of_ble_eq_true rfl)) dX10_soils_80 ⟨Nat.le_of_ble_eq_true rfl, Nat.le_of_ble_eq_true rfl⟩) hP hD hS hA [0, 1, 5, 3, 6, 7] [2, 4] rfl rfl (by decide) (by decide) ?_
              clear hP hD hS
              intro r_47 sc01_49 H locs w_48 hP hD hS
              replace hP : va_P D vwCl [(kb, .inl (cI, 6, .inl cb)), (ka0, .inl (cI, 4, .inl ca0)), (k, .inr (10, [.ref k0, .ref k1, .ref k2, .ref k3, .ref k4, .ref k5, .ref k6, .ref k7, .ref k8, .ref k9, .ref ka, .ref kb, .int cc])), (k0, .inr (9, [.ref k00, .ref k01, .ref k02, .ref k03, .ref k04, .ref k05, .int c06, .int c07, .int c08])), (ka, .inr (6, [.ref ka0, .ref ka1, .ref ka2])), (k01, .inl (cI, 40, .inl sc01_49)), (ka1, .inl (cI, 4, .inl ca1)), (ka2, .inl (cI, 144, .inl ca2))] H := hP
              replace hD : va_D A [(kb, .inl (cI, 6, .inl cb)), (ka0, .inl (cI, 4, .inl ca0)), (k, .inr (10, [.ref k0, .ref k1, .ref k2, .ref k3, .ref k4, .ref k5, .ref k6, .ref k7, .ref k8, .ref k9, .ref ka, .ref kb, .int cc])), (k0, .inr (9, [.ref k00, .ref k01, .ref k02, .ref k03, .ref k04, .ref k05, .int c06, .int c07, .int c08])), (ka, .inr (6, [.ref ka0, .ref ka1, .ref ka2])), (k01, .inl (cI, 40, .inl sc01_49)), (ka1, .inl (cI, 4, .inl ca1)), (ka2, .inl (cI, 144, .inl ca2))] := hD
              obtain ⟨h_50, h_51⟩ := w_48
              have h_50 : r_47 = cntB (shv ca2 a0) (ca1 a0.toNatClampNeg).toInt.toNat := h_50
              have h_50 : r_47 = cntB (shv ca2 a0) (ca1 a0.toNatClampNeg).toInt.toNat := h_50
              have h_51 : sc01_49 = soW c01 (0 + a1.toInt.toNat) (shv ca2 a0) (ca1 a0.toNatClampNeg).toInt.toNat := h_51
              have h_51 : sc01_49 = soW c01 (0 + a1.toInt.toNat) (shv ca2 a0) (ca1 a0.toNatClampNeg).toInt.toNat := h_51
              have lo_r_47 := k_lo r_47
              have hi_r_47 := k_hi r_47
              exact hRet (cb, sc01_49) [2, 3, 4, 0, 5, 1, 6, 7] ⟨(by (try dsimp only); unfold soilR; (repeat (first | rw [if_pos (by omega)] | rw [if_neg (by omega)] | rw [if_pos (by assumption)] | rw [if_neg (fun z => absurd (zl_0.symm.trans z) (by decide))])); first | done | exact h_50), (by (try dsimp only); unfold soilS; (repeat (first | rw [if_pos (by omega)] | rw [if_neg (by omega)] | rw [if_pos (by assumption)] | rw [if_neg (fun z => absurd (zl_0.symm.trans z) (by decide))])); first | done | exact h_51)⟩ hP hD (by decide) rfl hS rfl dX10_soils_83
            · try simp only [zl_m1, zl_2] at h_45
              have h_45 : allB (shv ca2 a0) (-1) 2 (ca1 a0.toNatClampNeg).toInt.toNat = false := h_45
              have h_45 : allB (shv ca2 a0) (-1) 2 (ca1 a0.toNatClampNeg).toInt.toNat = false := h_45
              obtain rfl : r_41 = 0 := hr_41.trans (by decide)
              refine b_if_ne hx hb zl_0 (tgt := 77) dX10_soils_68 (by decide) (fun c_52 => by exfalso; omega) (fun c_52 => ?_)
              refine lv_aload_n hx hb dX10_soils_71 rfl (lv_at hl 0 rfl) ?_
              refine lv_iconst (v := 5) hx hb dX10_soils_72 (by decide) ?_
              refine kJi (wr := [(k0, .inr (9, [.ref k00, .ref k01, .ref k02, .ref k03, .ref k04, .ref k05, .int c06, .int c07, .int c08])), (k01, .inl (cI, 40, .inl c01)), (ka0, .inl (cI, 4, .inl ca0)), (ka, .inr (6, [.ref ka0, .ref ka1, .ref ka2])), (ka1, .inl (cI, 4, .inl ca1)), (ka2, .inl (cI, 144, .inl ca2))]) (va_runV (As := [.int 5]) (rest := []) ⟨hx, hb, hml, hown, hT⟩ (c_X10_findingG l D cI aK aV k k0 k1 k2 k3 k4 k5 k6 k7 k8 k9 ka kb H.size cc cb 5) (cwV 1 hT (gV_in mw_338 mw_335 mw_337 mw_p1_0 mw_1) rfl rfl rfl (by decide +kernel) ⟨Nat.le_of_ble_eq_true rfl, Nat.le_of_ble_eq_true rfl⟩) (kRecvX (q0 := 0) (ci := 10) hK hP hD hN hXS hS hA rfl rfl [0, 2] rfl (by decide)) rfl rfl hl.1 rfl (lv_room (Nat.le_of_ble_eq_true rfl)) dX10_soils_73 ⟨Nat.le_of_ble_eq_true rfl, Nat.le_of_ble_eq_true rfl⟩) hP hD hS hA [0, 2] [1, 3, 4, 5, 6, 7] rfl rfl (by decide) (by decide) ?_
              clear hP hD hS
              intro r_53 scb_55 H locs w_54 hP hD hS
              replace hP : va_P D vwCl [(k0, .inr (9, [.ref k00, .ref k01, .ref k02, .ref k03, .ref k04, .ref k05, .int c06, .int c07, .int c08])), (k01, .inl (cI, 40, .inl c01)), (ka0, .inl (cI, 4, .inl ca0)), (ka, .inr (6, [.ref ka0, .ref ka1, .ref ka2])), (ka1, .inl (cI, 4, .inl ca1)), (ka2, .inl (cI, 144, .inl ca2)), (k, .inr (10, [.ref k0, .ref k1, .ref k2, .ref k3, .ref k4, .ref k5, .ref k6, .ref k7, .ref k8, .ref k9, .ref ka, .ref kb, .int cc])), (kb, .inl (cI, 6, .inl scb_55))] H := hP
              replace hD : va_D A [(k0, .inr (9, [.ref k00, .ref k01, .ref k02, .ref k03, .ref k04, .ref k05, .int c06, .int c07, .int c08])), (k01, .inl (cI, 40, .inl c01)), (ka0, .inl (cI, 4, .inl ca0)), (ka, .inr (6, [.ref ka0, .ref ka1, .ref ka2])), (ka1, .inl (cI, 4, .inl ca1)), (ka2, .inl (cI, 144, .inl ca2)), (k, .inr (10, [.ref k0, .ref k1, .ref k2, .ref k3, .ref k4, .ref k5, .ref k6, .ref k7, .ref k8, .ref k9, .ref ka, .ref kb, .int cc])), (kb, .inl (cI, 6, .inl scb_55))] := hD
              have hr_53 := w_54
              obtain rfl : r_53 = (-1000005) := hr_53.trans (by decide)
              exact hRet (scb_55, c01) [6, 0, 3, 7, 1, 2, 4, 5] ⟨(by (try dsimp only); unfold soilR; (repeat (first | rw [if_pos (by omega)] | rw [if_neg (by omega)] | rw [if_pos (by assumption)] | rw [if_neg (fun z => absurd (h_45.symm.trans z) (by decide))]))), (by (try dsimp only); unfold soilS; (repeat (first | rw [if_pos (by omega)] | rw [if_neg (by omega)] | rw [if_pos (by assumption)] | rw [if_neg (fun z => absurd (h_45.symm.trans z) (by decide))])))⟩ hP hD (by decide) rfl hS rfl dX10_soils_76
          · refine lv_aload_n hx hb dX10_soils_52 rfl (lv_at hl 0 rfl) ?_
            refine lv_iconst (v := 3) hx hb dX10_soils_53 (by decide) ?_
            refine kJi (wr := [(k0, .inr (9, [.ref k00, .ref k01, .ref k02, .ref k03, .ref k04, .ref k05, .int c06, .int c07, .int c08])), (k01, .inl (cI, 40, .inl c01)), (ka2, .inl (cI, 144, .inl ca2)), (ka0, .inl (cI, 4, .inl ca0)), (ka, .inr (6, [.ref ka0, .ref ka1, .ref ka2])), (ka1, .inl (cI, 4, .inl ca1))]) (va_runV (As := [.int 3]) (rest := []) ⟨hx, hb, hml, hown, hT⟩ (c_X10_findingG l D cI aK aV k k0 k1 k2 k3 k4 k5 k6 k7 k8 k9 ka kb H.size cc cb 3) (cwV 1 hT (gV_in mw_338 mw_335 mw_337 mw_p1_0 mw_1) rfl rfl rfl (by decide +kernel) ⟨Nat.le_of_ble_eq_true rfl, Nat.le_of_ble_eq_true rfl⟩) (kRecvX (q0 := 0) (ci := 10) hK hP hD hN hXS hS hA rfl rfl [0, 2] rfl (by decide)) rfl rfl hl.1 rfl (lv_room (Nat.le_of_ble_eq_true rfl)) dX10_soils_54 ⟨Nat.le_of_ble_eq_true rfl, Nat.le_of_ble_eq_true rfl⟩) hP hD hS hA [0, 2] [1, 3, 4, 5, 6, 7] rfl rfl (by decide) (by decide) ?_
            clear hP hD hS
            intro r_56 scb_58 H locs w_57 hP hD hS
            replace hP : va_P D vwCl [(k0, .inr (9, [.ref k00, .ref k01, .ref k02, .ref k03, .ref k04, .ref k05, .int c06, .int c07, .int c08])), (k01, .inl (cI, 40, .inl c01)), (ka2, .inl (cI, 144, .inl ca2)), (ka0, .inl (cI, 4, .inl ca0)), (ka, .inr (6, [.ref ka0, .ref ka1, .ref ka2])), (ka1, .inl (cI, 4, .inl ca1)), (k, .inr (10, [.ref k0, .ref k1, .ref k2, .ref k3, .ref k4, .ref k5, .ref k6, .ref k7, .ref k8, .ref k9, .ref ka, .ref kb, .int cc])), (kb, .inl (cI, 6, .inl scb_58))] H := hP
            replace hD : va_D A [(k0, .inr (9, [.ref k00, .ref k01, .ref k02, .ref k03, .ref k04, .ref k05, .int c06, .int c07, .int c08])), (k01, .inl (cI, 40, .inl c01)), (ka2, .inl (cI, 144, .inl ca2)), (ka0, .inl (cI, 4, .inl ca0)), (ka, .inr (6, [.ref ka0, .ref ka1, .ref ka2])), (ka1, .inl (cI, 4, .inl ca1)), (k, .inr (10, [.ref k0, .ref k1, .ref k2, .ref k3, .ref k4, .ref k5, .ref k6, .ref k7, .ref k8, .ref k9, .ref ka, .ref kb, .int cc])), (kb, .inl (cI, 6, .inl scb_58))] := hD
            have hr_56 := w_57
            obtain rfl : r_56 = (-1000003) := hr_56.trans (by decide)
            exact hRet (scb_58, c01) [6, 0, 4, 7, 1, 3, 5, 2] ⟨(by (try dsimp only); unfold soilR; (repeat (first | rw [if_pos (by omega)] | rw [if_neg (by omega)] | rw [if_pos (by assumption)] | rw [if_neg (fun z => absurd (zl_0.symm.trans z) (by decide))]))), (by (try dsimp only); unfold soilS; (repeat (first | rw [if_pos (by omega)] | rw [if_neg (by omega)] | rw [if_pos (by assumption)] | rw [if_neg (fun z => absurd (zl_0.symm.trans z) (by decide))])))⟩ hP hD (by decide) rfl hS rfl dX10_soils_57
        · exfalso; omega
      · exfalso; omega
    · have h_13 : a1.toInt < 0 ∨ 39 < a1.toInt := h_13
      obtain rfl : r_8 = 0 := hr_8.trans (by decide)
      refine b_if_ne hx hb zl_0 (tgt := 20) dX10_soils_11 (by decide) (fun c_59 => by exfalso; omega) (fun c_59 => ?_)
      refine lv_aload_n hx hb dX10_soils_14 rfl (lv_at hl 0 rfl) ?_
      refine lv_iconst (v := 1) hx hb dX10_soils_15 (by decide) ?_
      refine kJi (wr := [(k0, .inr (9, [.ref k00, .ref k01, .ref k02, .ref k03, .ref k04, .ref k05, .int c06, .int c07, .int c08])), (ka, .inr (6, [.ref ka0, .ref ka1, .ref ka2])), (k01, .inl (cI, 40, .inl c01)), (ka0, .inl (cI, 4, .inl ca0)), (ka1, .inl (cI, 4, .inl ca1)), (ka2, .inl (cI, 144, .inl ca2))]) (va_runV (As := [.int 1]) (rest := []) ⟨hx, hb, hml, hown, hT⟩ (c_X10_findingG l D cI aK aV k k0 k1 k2 k3 k4 k5 k6 k7 k8 k9 ka kb H.size cc cb 1) (cwV 1 hT (gV_in mw_338 mw_335 mw_337 mw_p1_0 mw_1) rfl rfl rfl (by decide +kernel) ⟨Nat.le_of_ble_eq_true rfl, Nat.le_of_ble_eq_true rfl⟩) (kRecvX (q0 := 0) (ci := 10) hK hP hD hN hXS hS hA rfl rfl [0, 3] rfl (by decide)) rfl rfl hl.1 rfl (lv_room (Nat.le_of_ble_eq_true rfl)) dX10_soils_16 ⟨Nat.le_of_ble_eq_true rfl, Nat.le_of_ble_eq_true rfl⟩) hP hD hS hA [0, 3] [1, 2, 4, 5, 6, 7] rfl rfl (by decide) (by decide) ?_
      clear hP hD hS
      intro r_60 scb_62 H locs w_61 hP hD hS
      replace hP : va_P D vwCl [(k0, .inr (9, [.ref k00, .ref k01, .ref k02, .ref k03, .ref k04, .ref k05, .int c06, .int c07, .int c08])), (ka, .inr (6, [.ref ka0, .ref ka1, .ref ka2])), (k01, .inl (cI, 40, .inl c01)), (ka0, .inl (cI, 4, .inl ca0)), (ka1, .inl (cI, 4, .inl ca1)), (ka2, .inl (cI, 144, .inl ca2)), (k, .inr (10, [.ref k0, .ref k1, .ref k2, .ref k3, .ref k4, .ref k5, .ref k6, .ref k7, .ref k8, .ref k9, .ref ka, .ref kb, .int cc])), (kb, .inl (cI, 6, .inl scb_62))] H := hP
      replace hD : va_D A [(k0, .inr (9, [.ref k00, .ref k01, .ref k02, .ref k03, .ref k04, .ref k05, .int c06, .int c07, .int c08])), (ka, .inr (6, [.ref ka0, .ref ka1, .ref ka2])), (k01, .inl (cI, 40, .inl c01)), (ka0, .inl (cI, 4, .inl ca0)), (ka1, .inl (cI, 4, .inl ca1)), (ka2, .inl (cI, 144, .inl ca2)), (k, .inr (10, [.ref k0, .ref k1, .ref k2, .ref k3, .ref k4, .ref k5, .ref k6, .ref k7, .ref k8, .ref k9, .ref ka, .ref kb, .int cc])), (kb, .inl (cI, 6, .inl scb_62))] := hD
      have hr_60 := w_61
      obtain rfl : r_60 = (-1000001) := hr_60.trans (by decide)
      exact hRet (scb_62, c01) [6, 0, 1, 7, 2, 3, 4, 5] ⟨(by (try dsimp only); unfold soilR; (repeat (first | rw [if_pos (by omega)] | rw [if_neg (by omega)] | rw [if_pos (by assumption)] | rw [if_neg (fun z => absurd (zl_0.symm.trans z) (by decide))]))), (by (try dsimp only); unfold soilS; (repeat (first | rw [if_pos (by omega)] | rw [if_neg (by omega)] | rw [if_pos (by assumption)] | rw [if_neg (fun z => absurd (zl_0.symm.trans z) (by decide))])))⟩ hP hD (by decide) rfl hS rfl dX10_soils_19
  · have h_6 : a0.toInt < 0 ∨ 3 < a0.toInt := h_6
    obtain rfl : r_1 = 0 := hr_1.trans (by decide)
    refine b_if_eq hx hb zl_0 (tgt := 14) dX10_soils_4 (by decide) (fun c_63 => ?_) (fun c_63 => by exfalso; omega)
    refine lv_aload_n hx hb dX10_soils_14 rfl (lv_at hl 0 rfl) ?_
    refine lv_iconst (v := 1) hx hb dX10_soils_15 (by decide) ?_
    refine kJi (wr := [(k0, .inr (9, [.ref k00, .ref k01, .ref k02, .ref k03, .ref k04, .ref k05, .int c06, .int c07, .int c08])), (ka, .inr (6, [.ref ka0, .ref ka1, .ref ka2])), (k01, .inl (cI, 40, .inl c01)), (ka0, .inl (cI, 4, .inl ca0)), (ka1, .inl (cI, 4, .inl ca1)), (ka2, .inl (cI, 144, .inl ca2))]) (va_runV (As := [.int 1]) (rest := []) ⟨hx, hb, hml, hown, hT⟩ (c_X10_findingG l D cI aK aV k k0 k1 k2 k3 k4 k5 k6 k7 k8 k9 ka kb H.size cc cb 1) (cwV 1 hT (gV_in mw_338 mw_335 mw_337 mw_p1_0 mw_1) rfl rfl rfl (by decide +kernel) ⟨Nat.le_of_ble_eq_true rfl, Nat.le_of_ble_eq_true rfl⟩) (kRecvX (q0 := 0) (ci := 10) hK hP hD hN hXS hS hA rfl rfl [0, 3] rfl (by decide)) rfl rfl hl.1 rfl (lv_room (Nat.le_of_ble_eq_true rfl)) dX10_soils_16 ⟨Nat.le_of_ble_eq_true rfl, Nat.le_of_ble_eq_true rfl⟩) hP hD hS hA [0, 3] [1, 2, 4, 5, 6, 7] rfl rfl (by decide) (by decide) ?_
    clear hP hD hS
    intro r_64 scb_66 H locs w_65 hP hD hS
    replace hP : va_P D vwCl [(k0, .inr (9, [.ref k00, .ref k01, .ref k02, .ref k03, .ref k04, .ref k05, .int c06, .int c07, .int c08])), (ka, .inr (6, [.ref ka0, .ref ka1, .ref ka2])), (k01, .inl (cI, 40, .inl c01)), (ka0, .inl (cI, 4, .inl ca0)), (ka1, .inl (cI, 4, .inl ca1)), (ka2, .inl (cI, 144, .inl ca2)), (k, .inr (10, [.ref k0, .ref k1, .ref k2, .ref k3, .ref k4, .ref k5, .ref k6, .ref k7, .ref k8, .ref k9, .ref ka, .ref kb, .int cc])), (kb, .inl (cI, 6, .inl scb_66))] H := hP
    replace hD : va_D A [(k0, .inr (9, [.ref k00, .ref k01, .ref k02, .ref k03, .ref k04, .ref k05, .int c06, .int c07, .int c08])), (ka, .inr (6, [.ref ka0, .ref ka1, .ref ka2])), (k01, .inl (cI, 40, .inl c01)), (ka0, .inl (cI, 4, .inl ca0)), (ka1, .inl (cI, 4, .inl ca1)), (ka2, .inl (cI, 144, .inl ca2)), (k, .inr (10, [.ref k0, .ref k1, .ref k2, .ref k3, .ref k4, .ref k5, .ref k6, .ref k7, .ref k8, .ref k9, .ref ka, .ref kb, .int cc])), (kb, .inl (cI, 6, .inl scb_66))] := hD
    have hr_64 := w_65
    obtain rfl : r_64 = (-1000001) := hr_64.trans (by decide)
    exact hRet (scb_66, c01) [6, 0, 1, 7, 2, 3, 4, 5] ⟨(by (try dsimp only); unfold soilR; (repeat (first | rw [if_pos (by omega)] | rw [if_neg (by omega)] | rw [if_pos (by assumption)] | rw [if_neg (fun z => absurd (zl_0.symm.trans z) (by decide))]))), (by (try dsimp only); unfold soilS; (repeat (first | rw [if_pos (by omega)] | rw [if_neg (by omega)] | rw [if_pos (by assumption)] | rw [if_neg (fun z => absurd (zl_0.symm.trans z) (by decide))])))⟩ hP hD (by decide) rfl hS rfl dX10_soils_19
theorem dX10_party_0 : decode cX10_party 0 = .ok (.iload_n 1, 1) := by decide +kernel
theorem dX10_party_1 : decode cX10_party 1 = .ok (.invokestatic 89, 3) := by decide +kernel
theorem dX10_party_4 : decode cX10_party 4 = .ok (.ifCond .eq 29, 3) := by decide +kernel
theorem dX10_party_7 : decode cX10_party 7 = .ok (.iload_n 2, 1) := by decide +kernel
theorem dX10_party_8 : decode cX10_party 8 = .ok (.iconst 1, 1) := by decide +kernel
theorem dX10_party_9 : decode cX10_party 9 = .ok (.if_icmp .eq 8, 3) := by decide +kernel
theorem dX10_party_12 : decode cX10_party 12 = .ok (.iload_n 2, 1) := by decide +kernel
theorem dX10_party_13 : decode cX10_party 13 = .ok (.iconst (-1), 1) := by decide +kernel
theorem dX10_party_14 : decode cX10_party 14 = .ok (.if_icmp .ne 19, 3) := by decide +kernel
theorem dX10_party_17 : decode cX10_party 17 = .ok (.iload 4, 2) := by decide +kernel
theorem dX10_party_19 : decode cX10_party 19 = .ok (.ifCond .lt 14, 3) := by decide +kernel
theorem dX10_party_22 : decode cX10_party 22 = .ok (.iload 4, 2) := by decide +kernel
theorem dX10_party_24 : decode cX10_party 24 = .ok (.bipush 99, 2) := by decide +kernel
theorem dX10_party_26 : decode cX10_party 26 = .ok (.if_icmp .gt 7, 3) := by decide +kernel
theorem dX10_party_29 : decode cX10_party 29 = .ok (.iconst 1, 1) := by decide +kernel
theorem dX10_party_30 : decode cX10_party 30 = .ok (.goto 4, 3) := by decide +kernel
theorem dX10_party_33 : decode cX10_party 33 = .ok (.iconst 0, 1) := by decide +kernel
theorem dX10_party_34 : decode cX10_party 34 = .ok (.istore 5, 2) := by decide +kernel
theorem dX10_party_36 : decode cX10_party 36 = .ok (.iload 5, 2) := by decide +kernel
theorem dX10_party_38 : decode cX10_party 38 = .ok (.ifCond .eq 27, 3) := by decide +kernel
theorem dX10_party_41 : decode cX10_party 41 = .ok (.iload_n 3, 1) := by decide +kernel
theorem dX10_party_42 : decode cX10_party 42 = .ok (.bipush 100, 2) := by decide +kernel
theorem dX10_party_44 : decode cX10_party 44 = .ok (.if_icmp .lt 21, 3) := by decide +kernel
theorem dX10_party_47 : decode cX10_party 47 = .ok (.iload_n 3, 1) := by decide +kernel
theorem dX10_party_48 : decode cX10_party 48 = .ok (.bipush 100, 2) := by decide +kernel
theorem dX10_party_50 : decode cX10_party 50 = .ok (.idiv, 1) := by decide +kernel
theorem dX10_party_51 : decode cX10_party 51 = .ok (.bipush 50, 2) := by decide +kernel
theorem dX10_party_53 : decode cX10_party 53 = .ok (.if_icmp .gt 12, 3) := by decide +kernel
theorem dX10_party_56 : decode cX10_party 56 = .ok (.iload_n 3, 1) := by decide +kernel
theorem dX10_party_57 : decode cX10_party 57 = .ok (.bipush 100, 2) := by decide +kernel
theorem dX10_party_59 : decode cX10_party 59 = .ok (.irem, 1) := by decide +kernel
theorem dX10_party_60 : decode cX10_party 60 = .ok (.bipush 50, 2) := by decide +kernel
theorem dX10_party_62 : decode cX10_party 62 = .ok (.if_icmp .le 9, 3) := by decide +kernel
theorem dX10_party_65 : decode cX10_party 65 = .ok (.aload_n 0, 1) := by decide +kernel
theorem dX10_party_66 : decode cX10_party 66 = .ok (.iconst 1, 1) := by decide +kernel
theorem dX10_party_67 : decode cX10_party 67 = .ok (.invokevirtual 82, 3) := by decide +kernel
theorem dX10_party_70 : decode cX10_party 70 = .ok (.ireturn, 1) := by decide +kernel
theorem dX10_party_71 : decode cX10_party 71 = .ok (.aload_n 0, 1) := by decide +kernel
theorem dX10_party_72 : decode cX10_party 72 = .ok (.getfield 12, 3) := by decide +kernel
theorem dX10_party_75 : decode cX10_party 75 = .ok (.getfield 193, 3) := by decide +kernel
theorem dX10_party_78 : decode cX10_party 78 = .ok (.invokevirtual 197, 3) := by decide +kernel
theorem dX10_party_81 : decode cX10_party 81 = .ok (.ifCond .ne 9, 3) := by decide +kernel
theorem dX10_party_84 : decode cX10_party 84 = .ok (.aload_n 0, 1) := by decide +kernel
theorem dX10_party_85 : decode cX10_party 85 = .ok (.iconst 4, 1) := by decide +kernel
theorem dX10_party_86 : decode cX10_party 86 = .ok (.invokevirtual 82, 3) := by decide +kernel
theorem dX10_party_89 : decode cX10_party 89 = .ok (.ireturn, 1) := by decide +kernel
theorem dX10_party_90 : decode cX10_party 90 = .ok (.aload_n 0, 1) := by decide +kernel
theorem dX10_party_91 : decode cX10_party 91 = .ok (.getfield 12, 3) := by decide +kernel
theorem dX10_party_94 : decode cX10_party 94 = .ok (.getfield 193, 3) := by decide +kernel
theorem dX10_party_97 : decode cX10_party 97 = .ok (.invokevirtual 200, 3) := by decide +kernel
theorem dX10_party_100 : decode cX10_party 100 = .ok (.istore 6, 2) := by decide +kernel
theorem dX10_party_102 : decode cX10_party 102 = .ok (.aload_n 0, 1) := by decide +kernel
theorem dX10_party_103 : decode cX10_party 103 = .ok (.getfield 12, 3) := by decide +kernel
theorem dX10_party_106 : decode cX10_party 106 = .ok (.getfield 193, 3) := by decide +kernel
theorem dX10_party_109 : decode cX10_party 109 = .ok (.iload 6, 2) := by decide +kernel
theorem dX10_party_111 : decode cX10_party 111 = .ok (.iconst 0, 1) := by decide +kernel
theorem dX10_party_112 : decode cX10_party 112 = .ok (.iload_n 1, 1) := by decide +kernel
theorem dX10_party_113 : decode cX10_party 113 = .ok (.invokevirtual 203, 3) := by decide +kernel
theorem dX10_party_116 : decode cX10_party 116 = .ok (.aload_n 0, 1) := by decide +kernel
theorem dX10_party_117 : decode cX10_party 117 = .ok (.getfield 12, 3) := by decide +kernel
theorem dX10_party_120 : decode cX10_party 120 = .ok (.getfield 193, 3) := by decide +kernel
theorem dX10_party_123 : decode cX10_party 123 = .ok (.iload 6, 2) := by decide +kernel
theorem dX10_party_125 : decode cX10_party 125 = .ok (.iconst 1, 1) := by decide +kernel
theorem dX10_party_126 : decode cX10_party 126 = .ok (.iload_n 2, 1) := by decide +kernel
theorem dX10_party_127 : decode cX10_party 127 = .ok (.invokevirtual 203, 3) := by decide +kernel
theorem dX10_party_130 : decode cX10_party 130 = .ok (.aload_n 0, 1) := by decide +kernel
theorem dX10_party_131 : decode cX10_party 131 = .ok (.getfield 12, 3) := by decide +kernel
theorem dX10_party_134 : decode cX10_party 134 = .ok (.getfield 193, 3) := by decide +kernel
theorem dX10_party_137 : decode cX10_party 137 = .ok (.iload 6, 2) := by decide +kernel
theorem dX10_party_139 : decode cX10_party 139 = .ok (.iconst 2, 1) := by decide +kernel
theorem dX10_party_140 : decode cX10_party 140 = .ok (.iload_n 3, 1) := by decide +kernel
theorem dX10_party_141 : decode cX10_party 141 = .ok (.bipush 100, 2) := by decide +kernel
theorem dX10_party_143 : decode cX10_party 143 = .ok (.idiv, 1) := by decide +kernel
theorem dX10_party_144 : decode cX10_party 144 = .ok (.invokevirtual 203, 3) := by decide +kernel
theorem dX10_party_147 : decode cX10_party 147 = .ok (.aload_n 0, 1) := by decide +kernel
theorem dX10_party_148 : decode cX10_party 148 = .ok (.getfield 12, 3) := by decide +kernel
theorem dX10_party_151 : decode cX10_party 151 = .ok (.getfield 193, 3) := by decide +kernel
theorem dX10_party_154 : decode cX10_party 154 = .ok (.iload 6, 2) := by decide +kernel
theorem dX10_party_156 : decode cX10_party 156 = .ok (.iconst 3, 1) := by decide +kernel
theorem dX10_party_157 : decode cX10_party 157 = .ok (.iload_n 3, 1) := by decide +kernel
theorem dX10_party_158 : decode cX10_party 158 = .ok (.bipush 100, 2) := by decide +kernel
theorem dX10_party_160 : decode cX10_party 160 = .ok (.irem, 1) := by decide +kernel
theorem dX10_party_161 : decode cX10_party 161 = .ok (.invokevirtual 203, 3) := by decide +kernel
theorem dX10_party_164 : decode cX10_party 164 = .ok (.aload_n 0, 1) := by decide +kernel
theorem dX10_party_165 : decode cX10_party 165 = .ok (.getfield 12, 3) := by decide +kernel
theorem dX10_party_168 : decode cX10_party 168 = .ok (.getfield 193, 3) := by decide +kernel
theorem dX10_party_171 : decode cX10_party 171 = .ok (.iload 6, 2) := by decide +kernel
theorem dX10_party_173 : decode cX10_party 173 = .ok (.iconst 4, 1) := by decide +kernel
theorem dX10_party_174 : decode cX10_party 174 = .ok (.iload 4, 2) := by decide +kernel
theorem dX10_party_176 : decode cX10_party 176 = .ok (.invokevirtual 203, 3) := by decide +kernel
theorem dX10_party_179 : decode cX10_party 179 = .ok (.iload 6, 2) := by decide +kernel
theorem dX10_party_181 : decode cX10_party 181 = .ok (.ireturn, 1) := by decide +kernel
set_option maxHeartbeats 4000000 in
set_option maxRecDepth 100000 in
theorem c_X10_partyG (l : Launch) (D : va_G) (cI : ClassId) (aK aV : Nat → Nat) (k k0 k1 k2 k3 k4 k5 k6 k7 k8 k9 ka kb k00 k01 k02 k03 k04 k05 k050 : Nat) (sz : Nat) (cc : Int32) (c06 : Int32) (c07 : Int32) (c08 : Int32) (cb : Nat → Int32) (c051 : Int32) (c050 : Nat → Int32) (a0 : Int32) (a1 : Int32) (a2 : Int32) (a3 : Int32) (pre0 : 0 ≤ c051.toInt) : Met l yX10_party (gW yX10_party cX10_party 7 (some .int)) ({ frames := 2, cells := 0, slots := 0, locals := 44 } : Room) (kPreX D cI aK aV [.ref k, .int a0, .int a1, .int a2, .int a3] [(k, .inr (10, [.ref k0, .ref k1, .ref k2, .ref k3, .ref k4, .ref k5, .ref k6, .ref k7, .ref k8, .ref k9, .ref ka, .ref kb, .int cc])), (k0, .inr (9, [.ref k00, .ref k01, .ref k02, .ref k03, .ref k04, .ref k05, .int c06, .int c07, .int c08])), (kb, .inl (cI, 6, .inl cb)), (k05, .inr (3, [.ref k050, .int c051])), (k050, .inl (cI, 36, .inl c050))] sz) (va_Qi (fun (r : Int32) (u : (Nat → Int32) × Int32 × (Nat → Int32)) => r = partyR c051 a0 a1 a2 a3 ∧ u.2.1.toInt = partyN c051 a0 a1 a2 a3) (fun u t => kWd D cI (va_A [(k, .inr (10, [.ref k0, .ref k1, .ref k2, .ref k3, .ref k4, .ref k5, .ref k6, .ref k7, .ref k8, .ref k9, .ref ka, .ref kb, .int cc])), (k0, .inr (9, [.ref k00, .ref k01, .ref k02, .ref k03, .ref k04, .ref k05, .int c06, .int c07, .int c08])), (kb, .inl (cI, 6, .inl cb)), (k05, .inr (3, [.ref k050, .int c051])), (k050, .inl (cI, 36, .inl c050))] sz) [(k, .inr (10, [.ref k0, .ref k1, .ref k2, .ref k3, .ref k4, .ref k5, .ref k6, .ref k7, .ref k8, .ref k9, .ref ka, .ref kb, .int cc])), (k0, .inr (9, [.ref k00, .ref k01, .ref k02, .ref k03, .ref k04, .ref k05, .int c06, .int c07, .int c08])), (kb, .inl (cI, 6, .inl u.1)), (k05, .inr (3, [.ref k050, .int u.2.1])), (k050, .inl (cI, 36, .inl u.2.2))] t) (va_A [(k, .inr (10, [.ref k0, .ref k1, .ref k2, .ref k3, .ref k4, .ref k5, .ref k6, .ref k7, .ref k8, .ref k9, .ref ka, .ref kb, .int cc])), (k0, .inr (9, [.ref k00, .ref k01, .ref k02, .ref k03, .ref k04, .ref k05, .int c06, .int c07, .int c08])), (kb, .inl (cI, 6, .inl cb)), (k05, .inr (3, [.ref k050, .int c051])), (k050, .inl (cI, 36, .inl c050))] sz)) 0 0 (va_A [(k, .inr (10, [.ref k0, .ref k1, .ref k2, .ref k3, .ref k4, .ref k5, .ref k6, .ref k7, .ref k8, .ref k9, .ref ka, .ref kb, .int cc])), (k0, .inr (9, [.ref k00, .ref k01, .ref k02, .ref k03, .ref k04, .ref k05, .int c06, .int c07, .int c08])), (kb, .inl (cI, 6, .inl cb)), (k05, .inr (3, [.ref k050, .int c051])), (k050, .inl (cI, 36, .inl c050))] sz) := by
  refine kMetIX (own := RX10) (by decide) rfl (Nat.le_of_ble_eq_true rfl) ?_
  intro p e s m args below meth c hx hb hT hown hname hml A Q hK hP hD hS hA hN hXS hRet ls hl
  have hl : lv_has ls 7 [(0, .ref k), (1, .int a0), (2, .int a1), (3, .int a2), (4, .int a3)] := hl
  have lo_a0 := k_lo a0
  have hi_a0 := k_hi a0
  have lo_a1 := k_lo a1
  have hi_a1 := k_hi a1
  have lo_a2 := k_lo a2
  have hi_a2 := k_hi a2
  have lo_a3 := k_lo a3
  have hi_a3 := k_hi a3
  have lo_c051 := k_lo c051
  have hi_c051 := k_hi c051
  refine lv_iload_n hx hb dX10_party_0 rfl (lv_at hl 1 rfl) ?_
  refine kJi (wr := [(k, .inr (10, [.ref k0, .ref k1, .ref k2, .ref k3, .ref k4, .ref k5, .ref k6, .ref k7, .ref k8, .ref k9, .ref ka, .ref kb, .int cc])), (k0, .inr (9, [.ref k00, .ref k01, .ref k02, .ref k03, .ref k04, .ref k05, .int c06, .int c07, .int c08])), (kb, .inl (cI, 6, .inl cb)), (k05, .inr (3, [.ref k050, .int c051])), (k050, .inl (cI, 36, .inl c050))]) (va_runS (As := [.int a0]) (rest := []) ⟨hx, hb, hml, hown, hT⟩ (c_X10_isMileG l D cI aK aV s.heap.size a0) (cwS 1 hT (gS_in mw_346 mw_344 mw_345 mw_1) rfl rfl rfl (by decide +kernel) ⟨Nat.le_of_ble_eq_true rfl, Nat.le_of_ble_eq_true rfl⟩) (kStatX hK hP hD hN hXS hS hA [] rfl (by decide)) rfl rfl hl.1 rfl (lv_room (Nat.le_of_ble_eq_true rfl)) dX10_party_1 ⟨Nat.le_of_ble_eq_true rfl, Nat.le_of_ble_eq_true rfl⟩) hP hD hS hA [] [0, 1, 2, 3, 4] rfl rfl (by decide) (by decide) ?_
  clear hP hD hS
  intro r_1 u_3 H locs w_2 hP hD hS
  replace hP : va_P D vwCl [(k, .inr (10, [.ref k0, .ref k1, .ref k2, .ref k3, .ref k4, .ref k5, .ref k6, .ref k7, .ref k8, .ref k9, .ref ka, .ref kb, .int cc])), (k0, .inr (9, [.ref k00, .ref k01, .ref k02, .ref k03, .ref k04, .ref k05, .int c06, .int c07, .int c08])), (kb, .inl (cI, 6, .inl cb)), (k05, .inr (3, [.ref k050, .int c051])), (k050, .inl (cI, 36, .inl c050))] H := hP
  replace hD : va_D A [(k, .inr (10, [.ref k0, .ref k1, .ref k2, .ref k3, .ref k4, .ref k5, .ref k6, .ref k7, .ref k8, .ref k9, .ref ka, .ref kb, .int cc])), (k0, .inr (9, [.ref k00, .ref k01, .ref k02, .ref k03, .ref k04, .ref k05, .int c06, .int c07, .int c08])), (kb, .inl (cI, 6, .inl cb)), (k05, .inr (3, [.ref k050, .int c051])), (k050, .inl (cI, 36, .inl c050))] := hD
  rcases w_2 with ⟨hr_1, h_4, h_5⟩ | ⟨hr_1, h_6⟩
  · have h_4 : 0 ≤ a0.toInt := h_4
    have h_5 : a0.toInt ≤ 39 := h_5
    obtain rfl : r_1 = 1 := hr_1.trans (by decide)
    refine b_if_eq hx hb zl_1 (tgt := 33) dX10_party_4 (by decide) (fun c_7 => by exfalso; omega) (fun c_7 => ?_)
    refine lv_iload_n hx hb dX10_party_7 rfl (lv_at hl 2 rfl) ?_
    refine lv_iconst (v := 1) hx hb dX10_party_8 (by decide) ?_
    refine b_icmp_eq hx hb rfl zl_1 (tgt := 17) dX10_party_9 (by decide) (fun c_8 => ?_) (fun c_8 => ?_)
    · refine lv_iload hx hb dX10_party_17 (lv_at hl 4 rfl) ?_
      refine b_if_lt hx hb rfl (tgt := 33) dX10_party_19 (by decide) (fun c_9 => ?_) (fun c_9 => ?_)
      · refine lv_iconst (v := 0) hx hb dX10_party_33 (by decide) ?_
        refine lv_istore (lv' := [(5, .int 0), (0, .ref k), (1, .int a0), (2, .int a1), (3, .int a2), (4, .int a3)]) hx hb dX10_party_34 hl (by decide) rfl ?_
        clear hl
        intro ls hl
        refine lv_iload hx hb dX10_party_36 (lv_at hl 0 rfl) ?_
        refine b_if_eq hx hb zl_0 (tgt := 65) dX10_party_38 (by decide) (fun c_10 => ?_) (fun c_10 => by exfalso; omega)
        refine lv_aload_n hx hb dX10_party_65 rfl (lv_at hl 1 rfl) ?_
        refine lv_iconst (v := 1) hx hb dX10_party_66 (by decide) ?_
        refine kJi (wr := [(k0, .inr (9, [.ref k00, .ref k01, .ref k02, .ref k03, .ref k04, .ref k05, .int c06, .int c07, .int c08])), (k05, .inr (3, [.ref k050, .int c051])), (k050, .inl (cI, 36, .inl c050))]) (va_runV (As := [.int 1]) (rest := []) ⟨hx, hb, hml, hown, hT⟩ (c_X10_findingG l D cI aK aV k k0 k1 k2 k3 k4 k5 k6 k7 k8 k9 ka kb H.size cc cb 1) (cwV 1 hT (gV_in mw_338 mw_335 mw_337 mw_p1_0 mw_1) rfl rfl rfl (by decide +kernel) ⟨Nat.le_of_ble_eq_true rfl, Nat.le_of_ble_eq_true rfl⟩) (kRecvX (q0 := 0) (ci := 10) hK hP hD hN hXS hS hA rfl rfl [0, 2] rfl (by decide)) rfl rfl hl.1 rfl (lv_room (Nat.le_of_ble_eq_true rfl)) dX10_party_67 ⟨Nat.le_of_ble_eq_true rfl, Nat.le_of_ble_eq_true rfl⟩) hP hD hS hA [0, 2] [1, 3, 4] rfl rfl (by decide) (by decide) ?_
        clear hP hD hS
        intro r_11 scb_13 H locs w_12 hP hD hS
        replace hP : va_P D vwCl [(k0, .inr (9, [.ref k00, .ref k01, .ref k02, .ref k03, .ref k04, .ref k05, .int c06, .int c07, .int c08])), (k05, .inr (3, [.ref k050, .int c051])), (k050, .inl (cI, 36, .inl c050)), (k, .inr (10, [.ref k0, .ref k1, .ref k2, .ref k3, .ref k4, .ref k5, .ref k6, .ref k7, .ref k8, .ref k9, .ref ka, .ref kb, .int cc])), (kb, .inl (cI, 6, .inl scb_13))] H := hP
        replace hD : va_D A [(k0, .inr (9, [.ref k00, .ref k01, .ref k02, .ref k03, .ref k04, .ref k05, .int c06, .int c07, .int c08])), (k05, .inr (3, [.ref k050, .int c051])), (k050, .inl (cI, 36, .inl c050)), (k, .inr (10, [.ref k0, .ref k1, .ref k2, .ref k3, .ref k4, .ref k5, .ref k6, .ref k7, .ref k8, .ref k9, .ref ka, .ref kb, .int cc])), (kb, .inl (cI, 6, .inl scb_13))] := hD
        have hr_11 := w_12
        obtain rfl : r_11 = (-1000001) := hr_11.trans (by decide)
        exact hRet (scb_13, c051, c050) [3, 0, 4, 1, 2] ⟨(by (try dsimp only); unfold partyR; (repeat (first | rw [if_pos (by omega)] | rw [if_neg (by omega)]))), (by (try dsimp only); unfold partyN; (repeat (first | rw [if_pos (by omega)] | rw [if_neg (by omega)])); first | done | exact (by omega))⟩ hP hD (by decide) rfl hS rfl dX10_party_70
      · refine lv_iload hx hb dX10_party_22 (lv_at hl 4 rfl) ?_
        refine lv_bipush (v := 99) hx hb dX10_party_24 (by decide) ?_
        refine b_icmp_gt hx hb rfl zl_99 (tgt := 33) dX10_party_26 (by decide) (fun c_14 => ?_) (fun c_14 => ?_)
        · refine lv_iconst (v := 0) hx hb dX10_party_33 (by decide) ?_
          refine lv_istore (lv' := [(5, .int 0), (0, .ref k), (1, .int a0), (2, .int a1), (3, .int a2), (4, .int a3)]) hx hb dX10_party_34 hl (by decide) rfl ?_
          clear hl
          intro ls hl
          refine lv_iload hx hb dX10_party_36 (lv_at hl 0 rfl) ?_
          refine b_if_eq hx hb zl_0 (tgt := 65) dX10_party_38 (by decide) (fun c_15 => ?_) (fun c_15 => by exfalso; omega)
          refine lv_aload_n hx hb dX10_party_65 rfl (lv_at hl 1 rfl) ?_
          refine lv_iconst (v := 1) hx hb dX10_party_66 (by decide) ?_
          refine kJi (wr := [(k0, .inr (9, [.ref k00, .ref k01, .ref k02, .ref k03, .ref k04, .ref k05, .int c06, .int c07, .int c08])), (k05, .inr (3, [.ref k050, .int c051])), (k050, .inl (cI, 36, .inl c050))]) (va_runV (As := [.int 1]) (rest := []) ⟨hx, hb, hml, hown, hT⟩ (c_X10_findingG l D cI aK aV k k0 k1 k2 k3 k4 k5 k6 k7 k8 k9 ka kb H.size cc cb 1) (cwV 1 hT (gV_in mw_338 mw_335 mw_337 mw_p1_0 mw_1) rfl rfl rfl (by decide +kernel) ⟨Nat.le_of_ble_eq_true rfl, Nat.le_of_ble_eq_true rfl⟩) (kRecvX (q0 := 0) (ci := 10) hK hP hD hN hXS hS hA rfl rfl [0, 2] rfl (by decide)) rfl rfl hl.1 rfl (lv_room (Nat.le_of_ble_eq_true rfl)) dX10_party_67 ⟨Nat.le_of_ble_eq_true rfl, Nat.le_of_ble_eq_true rfl⟩) hP hD hS hA [0, 2] [1, 3, 4] rfl rfl (by decide) (by decide) ?_
          clear hP hD hS
          intro r_16 scb_18 H locs w_17 hP hD hS
          replace hP : va_P D vwCl [(k0, .inr (9, [.ref k00, .ref k01, .ref k02, .ref k03, .ref k04, .ref k05, .int c06, .int c07, .int c08])), (k05, .inr (3, [.ref k050, .int c051])), (k050, .inl (cI, 36, .inl c050)), (k, .inr (10, [.ref k0, .ref k1, .ref k2, .ref k3, .ref k4, .ref k5, .ref k6, .ref k7, .ref k8, .ref k9, .ref ka, .ref kb, .int cc])), (kb, .inl (cI, 6, .inl scb_18))] H := hP
          replace hD : va_D A [(k0, .inr (9, [.ref k00, .ref k01, .ref k02, .ref k03, .ref k04, .ref k05, .int c06, .int c07, .int c08])), (k05, .inr (3, [.ref k050, .int c051])), (k050, .inl (cI, 36, .inl c050)), (k, .inr (10, [.ref k0, .ref k1, .ref k2, .ref k3, .ref k4, .ref k5, .ref k6, .ref k7, .ref k8, .ref k9, .ref ka, .ref kb, .int cc])), (kb, .inl (cI, 6, .inl scb_18))] := hD
          have hr_16 := w_17
          obtain rfl : r_16 = (-1000001) := hr_16.trans (by decide)
          exact hRet (scb_18, c051, c050) [3, 0, 4, 1, 2] ⟨(by (try dsimp only); unfold partyR; (repeat (first | rw [if_pos (by omega)] | rw [if_neg (by omega)]))), (by (try dsimp only); unfold partyN; (repeat (first | rw [if_pos (by omega)] | rw [if_neg (by omega)])); first | done | exact (by omega))⟩ hP hD (by decide) rfl hS rfl dX10_party_70
        · refine lv_iconst (v := 1) hx hb dX10_party_29 (by decide) ?_
          refine lv_goto (tgt := 34) hx hb dX10_party_30 (by decide) ?_
          refine lv_istore (lv' := [(5, .int 1), (0, .ref k), (1, .int a0), (2, .int a1), (3, .int a2), (4, .int a3)]) hx hb dX10_party_34 hl (by decide) rfl ?_
          clear hl
          intro ls hl
          refine lv_iload hx hb dX10_party_36 (lv_at hl 0 rfl) ?_
          refine b_if_eq hx hb zl_1 (tgt := 65) dX10_party_38 (by decide) (fun c_19 => by exfalso; omega) (fun c_19 => ?_)
          refine lv_iload_n hx hb dX10_party_41 rfl (lv_at hl 4 rfl) ?_
          refine lv_bipush (v := 100) hx hb dX10_party_42 (by decide) ?_
          refine b_icmp_lt hx hb rfl zl_100 (tgt := 65) dX10_party_44 (by decide) (fun c_20 => ?_) (fun c_20 => ?_)
          · refine lv_aload_n hx hb dX10_party_65 rfl (lv_at hl 1 rfl) ?_
            refine lv_iconst (v := 1) hx hb dX10_party_66 (by decide) ?_
            refine kJi (wr := [(k0, .inr (9, [.ref k00, .ref k01, .ref k02, .ref k03, .ref k04, .ref k05, .int c06, .int c07, .int c08])), (k05, .inr (3, [.ref k050, .int c051])), (k050, .inl (cI, 36, .inl c050))]) (va_runV (As := [.int 1]) (rest := []) ⟨hx, hb, hml, hown, hT⟩ (c_X10_findingG l D cI aK aV k k0 k1 k2 k3 k4 k5 k6 k7 k8 k9 ka kb H.size cc cb 1) (cwV 1 hT (gV_in mw_338 mw_335 mw_337 mw_p1_0 mw_1) rfl rfl rfl (by decide +kernel) ⟨Nat.le_of_ble_eq_true rfl, Nat.le_of_ble_eq_true rfl⟩) (kRecvX (q0 := 0) (ci := 10) hK hP hD hN hXS hS hA rfl rfl [0, 2] rfl (by decide)) rfl rfl hl.1 rfl (lv_room (Nat.le_of_ble_eq_true rfl)) dX10_party_67 ⟨Nat.le_of_ble_eq_true rfl, Nat.le_of_ble_eq_true rfl⟩) hP hD hS hA [0, 2] [1, 3, 4] rfl rfl (by decide) (by decide) ?_
            clear hP hD hS
            intro r_21 scb_23 H locs w_22 hP hD hS
            replace hP : va_P D vwCl [(k0, .inr (9, [.ref k00, .ref k01, .ref k02, .ref k03, .ref k04, .ref k05, .int c06, .int c07, .int c08])), (k05, .inr (3, [.ref k050, .int c051])), (k050, .inl (cI, 36, .inl c050)), (k, .inr (10, [.ref k0, .ref k1, .ref k2, .ref k3, .ref k4, .ref k5, .ref k6, .ref k7, .ref k8, .ref k9, .ref ka, .ref kb, .int cc])), (kb, .inl (cI, 6, .inl scb_23))] H := hP
            replace hD : va_D A [(k0, .inr (9, [.ref k00, .ref k01, .ref k02, .ref k03, .ref k04, .ref k05, .int c06, .int c07, .int c08])), (k05, .inr (3, [.ref k050, .int c051])), (k050, .inl (cI, 36, .inl c050)), (k, .inr (10, [.ref k0, .ref k1, .ref k2, .ref k3, .ref k4, .ref k5, .ref k6, .ref k7, .ref k8, .ref k9, .ref ka, .ref kb, .int cc])), (kb, .inl (cI, 6, .inl scb_23))] := hD
            have hr_21 := w_22
            obtain rfl : r_21 = (-1000001) := hr_21.trans (by decide)
            exact hRet (scb_23, c051, c050) [3, 0, 4, 1, 2] ⟨(by (try dsimp only); unfold partyR; (repeat (first | rw [if_pos (by omega)] | rw [if_neg (by omega)]))), (by (try dsimp only); unfold partyN; (repeat (first | rw [if_pos (by omega)] | rw [if_neg (by omega)])); first | done | exact (by omega))⟩ hP hD (by decide) rfl hS rfl dX10_party_70
          · refine lv_iload_n hx hb dX10_party_47 rfl (lv_at hl 4 rfl) ?_
            refine lv_bipush (v := 100) hx hb dX10_party_48 (by decide) ?_
            refine lv_idiv hx hb dX10_party_50 (by decide) ?_
            refine lv_topi (fun v_24 ev_24 => ?_)
            have tv_24 : v_24.toInt = a2.toInt / 100 := k_divv (w := 0) ev_24 zl_100 (by omega) (by decide)
            have lo_v_24 := k_lo v_24
            have hi_v_24 := k_hi v_24
            refine lv_bipush (v := 50) hx hb dX10_party_51 (by decide) ?_
            refine b_icmp_gt hx hb rfl zl_50 (tgt := 65) dX10_party_53 (by decide) (fun c_25 => ?_) (fun c_25 => ?_)
            · refine lv_aload_n hx hb dX10_party_65 rfl (lv_at hl 1 rfl) ?_
              refine lv_iconst (v := 1) hx hb dX10_party_66 (by decide) ?_
              refine kJi (wr := [(k0, .inr (9, [.ref k00, .ref k01, .ref k02, .ref k03, .ref k04, .ref k05, .int c06, .int c07, .int c08])), (k05, .inr (3, [.ref k050, .int c051])), (k050, .inl (cI, 36, .inl c050))]) (va_runV (As := [.int 1]) (rest := []) ⟨hx, hb, hml, hown, hT⟩ (c_X10_findingG l D cI aK aV k k0 k1 k2 k3 k4 k5 k6 k7 k8 k9 ka kb H.size cc cb 1) (cwV 1 hT (gV_in mw_338 mw_335 mw_337 mw_p1_0 mw_1) rfl rfl rfl (by decide +kernel) ⟨Nat.le_of_ble_eq_true rfl, Nat.le_of_ble_eq_true rfl⟩) (kRecvX (q0 := 0) (ci := 10) hK hP hD hN hXS hS hA rfl rfl [0, 2] rfl (by decide)) rfl rfl hl.1 rfl (lv_room (Nat.le_of_ble_eq_true rfl)) dX10_party_67 ⟨Nat.le_of_ble_eq_true rfl, Nat.le_of_ble_eq_true rfl⟩) hP hD hS hA [0, 2] [1, 3, 4] rfl rfl (by decide) (by decide) ?_
              clear hP hD hS
              intro r_26 scb_28 H locs w_27 hP hD hS
              replace hP : va_P D vwCl [(k0, .inr (9, [.ref k00, .ref k01, .ref k02, .ref k03, .ref k04, .ref k05, .int c06, .int c07, .int c08])), (k05, .inr (3, [.ref k050, .int c051])), (k050, .inl (cI, 36, .inl c050)), (k, .inr (10, [.ref k0, .ref k1, .ref k2, .ref k3, .ref k4, .ref k5, .ref k6, .ref k7, .ref k8, .ref k9, .ref ka, .ref kb, .int cc])), (kb, .inl (cI, 6, .inl scb_28))] H := hP
              replace hD : va_D A [(k0, .inr (9, [.ref k00, .ref k01, .ref k02, .ref k03, .ref k04, .ref k05, .int c06, .int c07, .int c08])), (k05, .inr (3, [.ref k050, .int c051])), (k050, .inl (cI, 36, .inl c050)), (k, .inr (10, [.ref k0, .ref k1, .ref k2, .ref k3, .ref k4, .ref k5, .ref k6, .ref k7, .ref k8, .ref k9, .ref ka, .ref kb, .int cc])), (kb, .inl (cI, 6, .inl scb_28))] := hD
              have hr_26 := w_27
              obtain rfl : r_26 = (-1000001) := hr_26.trans (by decide)
              exact hRet (scb_28, c051, c050) [3, 0, 4, 1, 2] ⟨(by (try dsimp only); unfold partyR; (repeat (first | rw [if_pos (by omega)] | rw [if_neg (by omega)]))), (by (try dsimp only); unfold partyN; (repeat (first | rw [if_pos (by omega)] | rw [if_neg (by omega)])); first | done | exact (by omega))⟩ hP hD (by decide) rfl hS rfl dX10_party_70
            · refine lv_iload_n hx hb dX10_party_56 rfl (lv_at hl 4 rfl) ?_
              refine lv_bipush (v := 100) hx hb dX10_party_57 (by decide) ?_
              refine lv_irem hx hb dX10_party_59 (by decide) ?_
              refine lv_topi (fun v_29 ev_29 => ?_)
              have tv_29 : v_29.toInt = a2.toInt % 100 := k_remv (w := 0) ev_29 zl_100 (by omega) (by decide)
              have lo_v_29 := k_lo v_29
              have hi_v_29 := k_hi v_29
              refine lv_bipush (v := 50) hx hb dX10_party_60 (by decide) ?_
              refine b_icmp_le hx hb rfl zl_50 (tgt := 71) dX10_party_62 (by decide) (fun c_30 => ?_) (fun c_30 => ?_)
              · refine lv_aload_n hx hb dX10_party_71 rfl (lv_at hl 1 rfl) ?_
                refine va_get (D := D) (ci := 10) (v := .ref k0) (C := RX10) (T := TX10) (N := 13) hx hb hT giX10 hown hK hP 0 rfl rfl 0 (by decide) (hT (Cond.fieldLink RX10 12 "DesertWire" "now" "LDesertWire$World;") mw_291) (fun _ h9 => h9) rfl dX10_party_72 ?_
                refine va_get (D := D) (ci := 9) (v := .ref k05) (C := RX9) (T := TX9) (N := 9) hx hb hT giX9 hown hK hP 1 rfl rfl 5 (by decide) (hT (Cond.fieldLink RX10 193 "DesertWire$World" "parties" "LDesertWire$Parties;") mw_102) (fun _ h9 => h9) rfl dX10_party_75 ?_
                refine kJi (wr := [(k, .inr (10, [.ref k0, .ref k1, .ref k2, .ref k3, .ref k4, .ref k5, .ref k6, .ref k7, .ref k8, .ref k9, .ref ka, .ref kb, .int cc])), (k0, .inr (9, [.ref k00, .ref k01, .ref k02, .ref k03, .ref k04, .ref k05, .int c06, .int c07, .int c08])), (kb, .inl (cI, 6, .inl cb)), (k050, .inl (cI, 36, .inl c050))]) (va_runV (As := []) (rest := []) ⟨hx, hb, hml, hown, hT⟩ (c_X3_hasRoomG l D cI aK aV k05 k050 H.size c051) (cwV 0 hT (gV_in mw_704 mw_701 mw_702 mw_703 mw_4) rfl rfl rfl (by decide +kernel) ⟨Nat.le_of_ble_eq_true rfl, Nat.le_of_ble_eq_true rfl⟩) (kRecvX (q0 := 3) (ci := 3) hK hP hD hN hXS hS hA rfl rfl [3] rfl (by decide)) rfl rfl hl.1 rfl (lv_room (Nat.le_of_ble_eq_true rfl)) dX10_party_78 ⟨Nat.le_of_ble_eq_true rfl, Nat.le_of_ble_eq_true rfl⟩) hP hD hS hA [3] [0, 1, 2, 4] rfl rfl (by decide) (by decide) ?_
                clear hP hD hS
                intro r_31 u_33 H locs w_32 hP hD hS
                replace hP : va_P D vwCl [(k, .inr (10, [.ref k0, .ref k1, .ref k2, .ref k3, .ref k4, .ref k5, .ref k6, .ref k7, .ref k8, .ref k9, .ref ka, .ref kb, .int cc])), (k0, .inr (9, [.ref k00, .ref k01, .ref k02, .ref k03, .ref k04, .ref k05, .int c06, .int c07, .int c08])), (kb, .inl (cI, 6, .inl cb)), (k050, .inl (cI, 36, .inl c050)), (k05, .inr (3, [.ref k050, .int c051]))] H := hP
                replace hD : va_D A [(k, .inr (10, [.ref k0, .ref k1, .ref k2, .ref k3, .ref k4, .ref k5, .ref k6, .ref k7, .ref k8, .ref k9, .ref ka, .ref kb, .int cc])), (k0, .inr (9, [.ref k00, .ref k01, .ref k02, .ref k03, .ref k04, .ref k05, .int c06, .int c07, .int c08])), (kb, .inl (cI, 6, .inl cb)), (k050, .inl (cI, 36, .inl c050)), (k05, .inr (3, [.ref k050, .int c051]))] := hD
                rcases w_32 with ⟨hr_31, h_34, h_35⟩ | ⟨hr_31, h_36⟩
                · have h_34 : 0 ≤ c051.toInt := h_34
                  have h_35 : c051.toInt < 4 := h_35
                  obtain rfl : r_31 = 1 := hr_31.trans (by decide)
                  refine b_if_ne hx hb zl_1 (tgt := 90) dX10_party_81 (by decide) (fun c_37 => ?_) (fun c_37 => by exfalso; omega)
                  refine lv_aload_n hx hb dX10_party_90 rfl (lv_at hl 1 rfl) ?_
                  refine va_get (D := D) (ci := 10) (v := .ref k0) (C := RX10) (T := TX10) (N := 13) hx hb hT giX10 hown hK hP 0 rfl rfl 0 (by decide) (hT (Cond.fieldLink RX10 12 "DesertWire" "now" "LDesertWire$World;") mw_291) (fun _ h9 => h9) rfl dX10_party_91 ?_
                  refine va_get (D := D) (ci := 9) (v := .ref k05) (C := RX9) (T := TX9) (N := 9) hx hb hT giX9 hown hK hP 1 rfl rfl 5 (by decide) (hT (Cond.fieldLink RX10 193 "DesertWire$World" "parties" "LDesertWire$Parties;") mw_102) (fun _ h9 => h9) rfl dX10_party_94 ?_
                  refine kJi (wr := [(k, .inr (10, [.ref k0, .ref k1, .ref k2, .ref k3, .ref k4, .ref k5, .ref k6, .ref k7, .ref k8, .ref k9, .ref ka, .ref kb, .int cc])), (k0, .inr (9, [.ref k00, .ref k01, .ref k02, .ref k03, .ref k04, .ref k05, .int c06, .int c07, .int c08])), (kb, .inl (cI, 6, .inl cb))]) (va_runV (As := []) (rest := []) ⟨hx, hb, hml, hown, hT⟩ (c_X3_addG l D cI aK aV k05 k050 H.size c051 c050) (cwV 0 hT (gV_in mw_708 mw_705 mw_706 mw_707 mw_4) rfl rfl rfl (by decide +kernel) ⟨Nat.le_of_ble_eq_true rfl, Nat.le_of_ble_eq_true rfl⟩) (kRecvX (q0 := 4) (ci := 3) hK hP hD hN hXS hS hA rfl rfl [4, 3] rfl (by decide)) rfl rfl hl.1 rfl (lv_room (Nat.le_of_ble_eq_true rfl)) dX10_party_97 ⟨Nat.le_of_ble_eq_true rfl, Nat.le_of_ble_eq_true rfl⟩) hP hD hS hA [4, 3] [0, 1, 2] rfl rfl (by decide) (by decide) ?_
                  clear hP hD hS
                  intro r_38 u_42 H locs w_39 hP hD hS
                  obtain ⟨sc1_40, sc0_41⟩ := u_42
                  replace hP : va_P D vwCl [(k, .inr (10, [.ref k0, .ref k1, .ref k2, .ref k3, .ref k4, .ref k5, .ref k6, .ref k7, .ref k8, .ref k9, .ref ka, .ref kb, .int cc])), (k0, .inr (9, [.ref k00, .ref k01, .ref k02, .ref k03, .ref k04, .ref k05, .int c06, .int c07, .int c08])), (kb, .inl (cI, 6, .inl cb)), (k05, .inr (3, [.ref k050, .int sc1_40])), (k050, .inl (cI, 36, .inl sc0_41))] H := hP
                  replace hD : va_D A [(k, .inr (10, [.ref k0, .ref k1, .ref k2, .ref k3, .ref k4, .ref k5, .ref k6, .ref k7, .ref k8, .ref k9, .ref ka, .ref kb, .int cc])), (k0, .inr (9, [.ref k00, .ref k01, .ref k02, .ref k03, .ref k04, .ref k05, .int c06, .int c07, .int c08])), (kb, .inl (cI, 6, .inl cb)), (k05, .inr (3, [.ref k050, .int sc1_40])), (k050, .inl (cI, 36, .inl sc0_41))] := hD
                  have lo_sc1_40 := k_lo sc1_40
                  have hi_sc1_40 := k_hi sc1_40
                  rcases w_39 with ⟨h_43, h_44, h_45, h_46⟩ | ⟨hr_38, h_47, h_48⟩
                  · have h_43 : 0 ≤ c051.toInt := h_43
                    have h_44 : c051.toInt < 4 := h_44
                    have h_45 : r_38.toInt = c051.toInt := h_45
                    have h_46 : sc1_40.toInt = c051.toInt + 1 := h_46
                    have lo_r_38 := k_lo r_38
                    have hi_r_38 := k_hi r_38
                    refine lv_istore (lv' := [(6, .int r_38), (5, .int 1), (0, .ref k), (1, .int a0), (2, .int a1), (3, .int a2), (4, .int a3)]) hx hb dX10_party_100 hl (by decide) rfl ?_
                    clear hl
                    intro ls hl
                    refine lv_aload_n hx hb dX10_party_102 rfl (lv_at hl 2 rfl) ?_
                    refine va_get (D := D) (ci := 10) (v := .ref k0) (C := RX10) (T := TX10) (N := 13) hx hb hT giX10 hown hK hP 0 rfl rfl 0 (by decide) (hT (Cond.fieldLink RX10 12 "DesertWire" "now" "LDesertWire$World;") mw_291) (fun _ h9 => h9) rfl dX10_party_103 ?_
                    refine va_get (D := D) (ci := 9) (v := .ref k05) (C := RX9) (T := TX9) (N := 9) hx hb hT giX9 hown hK hP 1 rfl rfl 5 (by decide) (hT (Cond.fieldLink RX10 193 "DesertWire$World" "parties" "LDesertWire$Parties;") mw_102) (fun _ h9 => h9) rfl dX10_party_106 ?_
                    refine lv_iload hx hb dX10_party_109 (lv_at hl 0 rfl) ?_
                    refine lv_iconst (v := 0) hx hb dX10_party_111 (by decide) ?_
                    refine lv_iload_n hx hb dX10_party_112 rfl (lv_at hl 3 rfl) ?_
                    refine kJv (wr := [(k, .inr (10, [.ref k0, .ref k1, .ref k2, .ref k3, .ref k4, .ref k5, .ref k6, .ref k7, .ref k8, .ref k9, .ref ka, .ref kb, .int cc])), (k0, .inr (9, [.ref k00, .ref k01, .ref k02, .ref k03, .ref k04, .ref k05, .int c06, .int c07, .int c08])), (kb, .inl (cI, 6, .inl cb))]) (va_runV (As := [.int r_38, .int 0, .int a0]) (rest := []) ⟨hx, hb, hml, hown, hT⟩ (c_X3_setG l D cI aK aV k05 k050 H.size sc1_40 sc0_41 r_38 0 a0) (cwV 3 hT (gV_in mw_713 mw_710 mw_711 mw_712 mw_4) rfl rfl rfl (by decide +kernel) ⟨Nat.le_of_ble_eq_true rfl, Nat.le_of_ble_eq_true rfl⟩) (kRecvX (q0 := 3) (ci := 3) hK hP hD hN hXS hS hA rfl rfl [3, 4] rfl (by decide)) rfl rfl hl.1 rfl (lv_room (Nat.le_of_ble_eq_true rfl)) dX10_party_113 ⟨Nat.le_of_ble_eq_true rfl, Nat.le_of_ble_eq_true rfl⟩) hP hD hS hA [3, 4] [0, 1, 2] rfl rfl (by decide) (by decide) ?_
                    clear hP hD hS
                    intro sc0_51 H locs w_50 hP hD hS
                    replace hP : va_P D vwCl [(k, .inr (10, [.ref k0, .ref k1, .ref k2, .ref k3, .ref k4, .ref k5, .ref k6, .ref k7, .ref k8, .ref k9, .ref ka, .ref kb, .int cc])), (k0, .inr (9, [.ref k00, .ref k01, .ref k02, .ref k03, .ref k04, .ref k05, .int c06, .int c07, .int c08])), (kb, .inl (cI, 6, .inl cb)), (k05, .inr (3, [.ref k050, .int sc1_40])), (k050, .inl (cI, 36, .inl sc0_51))] H := hP
                    replace hD : va_D A [(k, .inr (10, [.ref k0, .ref k1, .ref k2, .ref k3, .ref k4, .ref k5, .ref k6, .ref k7, .ref k8, .ref k9, .ref ka, .ref kb, .int cc])), (k0, .inr (9, [.ref k00, .ref k01, .ref k02, .ref k03, .ref k04, .ref k05, .int c06, .int c07, .int c08])), (kb, .inl (cI, 6, .inl cb)), (k05, .inr (3, [.ref k050, .int sc1_40])), (k050, .inl (cI, 36, .inl sc0_51))] := hD
                    refine lv_aload_n hx hb dX10_party_116 rfl (lv_at hl 2 rfl) ?_
                    refine va_get (D := D) (ci := 10) (v := .ref k0) (C := RX10) (T := TX10) (N := 13) hx hb hT giX10 hown hK hP 0 rfl rfl 0 (by decide) (hT (Cond.fieldLink RX10 12 "DesertWire" "now" "LDesertWire$World;") mw_291) (fun _ h9 => h9) rfl dX10_party_117 ?_
                    refine va_get (D := D) (ci := 9) (v := .ref k05) (C := RX9) (T := TX9) (N := 9) hx hb hT giX9 hown hK hP 1 rfl rfl 5 (by decide) (hT (Cond.fieldLink RX10 193 "DesertWire$World" "parties" "LDesertWire$Parties;") mw_102) (fun _ h9 => h9) rfl dX10_party_120 ?_
                    refine lv_iload hx hb dX10_party_123 (lv_at hl 0 rfl) ?_
                    refine lv_iconst (v := 1) hx hb dX10_party_125 (by decide) ?_
                    refine lv_iload_n hx hb dX10_party_126 rfl (lv_at hl 4 rfl) ?_
                    refine kJv (wr := [(k, .inr (10, [.ref k0, .ref k1, .ref k2, .ref k3, .ref k4, .ref k5, .ref k6, .ref k7, .ref k8, .ref k9, .ref ka, .ref kb, .int cc])), (k0, .inr (9, [.ref k00, .ref k01, .ref k02, .ref k03, .ref k04, .ref k05, .int c06, .int c07, .int c08])), (kb, .inl (cI, 6, .inl cb))]) (va_runV (As := [.int r_38, .int 1, .int a1]) (rest := []) ⟨hx, hb, hml, hown, hT⟩ (c_X3_setG l D cI aK aV k05 k050 H.size sc1_40 sc0_51 r_38 1 a1) (cwV 3 hT (gV_in mw_713 mw_710 mw_711 mw_712 mw_4) rfl rfl rfl (by decide +kernel) ⟨Nat.le_of_ble_eq_true rfl, Nat.le_of_ble_eq_true rfl⟩) (kRecvX (q0 := 3) (ci := 3) hK hP hD hN hXS hS hA rfl rfl [3, 4] rfl (by decide)) rfl rfl hl.1 rfl (lv_room (Nat.le_of_ble_eq_true rfl)) dX10_party_127 ⟨Nat.le_of_ble_eq_true rfl, Nat.le_of_ble_eq_true rfl⟩) hP hD hS hA [3, 4] [0, 1, 2] rfl rfl (by decide) (by decide) ?_
                    clear hP hD hS
                    intro sc0_54 H locs w_53 hP hD hS
                    replace hP : va_P D vwCl [(k, .inr (10, [.ref k0, .ref k1, .ref k2, .ref k3, .ref k4, .ref k5, .ref k6, .ref k7, .ref k8, .ref k9, .ref ka, .ref kb, .int cc])), (k0, .inr (9, [.ref k00, .ref k01, .ref k02, .ref k03, .ref k04, .ref k05, .int c06, .int c07, .int c08])), (kb, .inl (cI, 6, .inl cb)), (k05, .inr (3, [.ref k050, .int sc1_40])), (k050, .inl (cI, 36, .inl sc0_54))] H := hP
                    replace hD : va_D A [(k, .inr (10, [.ref k0, .ref k1, .ref k2, .ref k3, .ref k4, .ref k5, .ref k6, .ref k7, .ref k8, .ref k9, .ref ka, .ref kb, .int cc])), (k0, .inr (9, [.ref k00, .ref k01, .ref k02, .ref k03, .ref k04, .ref k05, .int c06, .int c07, .int c08])), (kb, .inl (cI, 6, .inl cb)), (k05, .inr (3, [.ref k050, .int sc1_40])), (k050, .inl (cI, 36, .inl sc0_54))] := hD
                    refine lv_aload_n hx hb dX10_party_130 rfl (lv_at hl 2 rfl) ?_
                    refine va_get (D := D) (ci := 10) (v := .ref k0) (C := RX10) (T := TX10) (N := 13) hx hb hT giX10 hown hK hP 0 rfl rfl 0 (by decide) (hT (Cond.fieldLink RX10 12 "DesertWire" "now" "LDesertWire$World;") mw_291) (fun _ h9 => h9) rfl dX10_party_131 ?_
                    refine va_get (D := D) (ci := 9) (v := .ref k05) (C := RX9) (T := TX9) (N := 9) hx hb hT giX9 hown hK hP 1 rfl rfl 5 (by decide) (hT (Cond.fieldLink RX10 193 "DesertWire$World" "parties" "LDesertWire$Parties;") mw_102) (fun _ h9 => h9) rfl dX10_party_134 ?_
                    refine lv_iload hx hb dX10_party_137 (lv_at hl 0 rfl) ?_
                    refine lv_iconst (v := 2) hx hb dX10_party_139 (by decide) ?_
                    refine lv_iload_n hx hb dX10_party_140 rfl (lv_at hl 5 rfl) ?_
                    refine lv_bipush (v := 100) hx hb dX10_party_141 (by decide) ?_
                    refine lv_idiv hx hb dX10_party_143 (by decide) ?_
                    refine lv_topi (fun v_55 ev_55 => ?_)
                    have tv_55 : v_55.toInt = a2.toInt / 100 := k_divv (w := 0) ev_55 zl_100 (by omega) (by decide)
                    have lo_v_55 := k_lo v_55
                    have hi_v_55 := k_hi v_55
                    refine kJv (wr := [(k, .inr (10, [.ref k0, .ref k1, .ref k2, .ref k3, .ref k4, .ref k5, .ref k6, .ref k7, .ref k8, .ref k9, .ref ka, .ref kb, .int cc])), (k0, .inr (9, [.ref k00, .ref k01, .ref k02, .ref k03, .ref k04, .ref k05, .int c06, .int c07, .int c08])), (kb, .inl (cI, 6, .inl cb))]) (va_runV (As := [.int r_38, .int 2, .int v_55]) (rest := []) ⟨hx, hb, hml, hown, hT⟩ (c_X3_setG l D cI aK aV k05 k050 H.size sc1_40 sc0_54 r_38 2 v_55) (cwV 3 hT (gV_in mw_713 mw_710 mw_711 mw_712 mw_4) rfl rfl rfl (by decide +kernel) ⟨Nat.le_of_ble_eq_true rfl, Nat.le_of_ble_eq_true rfl⟩) (kRecvX (q0 := 3) (ci := 3) hK hP hD hN hXS hS hA rfl rfl [3, 4] rfl (by decide)) rfl rfl hl.1 rfl (lv_room (Nat.le_of_ble_eq_true rfl)) dX10_party_144 ⟨Nat.le_of_ble_eq_true rfl, Nat.le_of_ble_eq_true rfl⟩) hP hD hS hA [3, 4] [0, 1, 2] rfl rfl (by decide) (by decide) ?_
                    clear hP hD hS
                    intro sc0_58 H locs w_57 hP hD hS
                    replace hP : va_P D vwCl [(k, .inr (10, [.ref k0, .ref k1, .ref k2, .ref k3, .ref k4, .ref k5, .ref k6, .ref k7, .ref k8, .ref k9, .ref ka, .ref kb, .int cc])), (k0, .inr (9, [.ref k00, .ref k01, .ref k02, .ref k03, .ref k04, .ref k05, .int c06, .int c07, .int c08])), (kb, .inl (cI, 6, .inl cb)), (k05, .inr (3, [.ref k050, .int sc1_40])), (k050, .inl (cI, 36, .inl sc0_58))] H := hP
                    replace hD : va_D A [(k, .inr (10, [.ref k0, .ref k1, .ref k2, .ref k3, .ref k4, .ref k5, .ref k6, .ref k7, .ref k8, .ref k9, .ref ka, .ref kb, .int cc])), (k0, .inr (9, [.ref k00, .ref k01, .ref k02, .ref k03, .ref k04, .ref k05, .int c06, .int c07, .int c08])), (kb, .inl (cI, 6, .inl cb)), (k05, .inr (3, [.ref k050, .int sc1_40])), (k050, .inl (cI, 36, .inl sc0_58))] := hD
                    refine lv_aload_n hx hb dX10_party_147 rfl (lv_at hl 2 rfl) ?_
                    refine va_get (D := D) (ci := 10) (v := .ref k0) (C := RX10) (T := TX10) (N := 13) hx hb hT giX10 hown hK hP 0 rfl rfl 0 (by decide) (hT (Cond.fieldLink RX10 12 "DesertWire" "now" "LDesertWire$World;") mw_291) (fun _ h9 => h9) rfl dX10_party_148 ?_
                    refine va_get (D := D) (ci := 9) (v := .ref k05) (C := RX9) (T := TX9) (N := 9) hx hb hT giX9 hown hK hP 1 rfl rfl 5 (by decide) (hT (Cond.fieldLink RX10 193 "DesertWire$World" "parties" "LDesertWire$Parties;") mw_102) (fun _ h9 => h9) rfl dX10_party_151 ?_
                    refine lv_iload hx hb dX10_party_154 (lv_at hl 0 rfl) ?_
                    refine lv_iconst (v := 3) hx hb dX10_party_156 (by decide) ?_
                    refine lv_iload_n hx hb dX10_party_157 rfl (lv_at hl 5 rfl) ?_
                    refine lv_bipush (v := 100) hx hb dX10_party_158 (by decide) ?_
                    refine lv_irem hx hb dX10_party_160 (by decide) ?_
                    refine lv_topi (fun v_59 ev_59 => ?_)
                    have tv_59 : v_59.toInt = a2.toInt % 100 := k_remv (w := 0) ev_59 zl_100 (by omega) (by decide)
                    have lo_v_59 := k_lo v_59
                    have hi_v_59 := k_hi v_59
                    refine kJv (wr := [(k, .inr (10, [.ref k0, .ref k1, .ref k2, .ref k3, .ref k4, .ref k5, .ref k6, .ref k7, .ref k8, .ref k9, .ref ka, .ref kb, .int cc])), (k0, .inr (9, [.ref k00, .ref k01, .ref k02, .ref k03, .ref k04, .ref k05, .int c06, .int c07, .int c08])), (kb, .inl (cI, 6, .inl cb))]) (va_runV (As := [.int r_38, .int 3, .int v_59]) (rest := []) ⟨hx, hb, hml, hown, hT⟩ (c_X3_setG l D cI aK aV k05 k050 H.size sc1_40 sc0_58 r_38 3 v_59) (cwV 3 hT (gV_in mw_713 mw_710 mw_711 mw_712 mw_4) rfl rfl rfl (by decide +kernel) ⟨Nat.le_of_ble_eq_true rfl, Nat.le_of_ble_eq_true rfl⟩) (kRecvX (q0 := 3) (ci := 3) hK hP hD hN hXS hS hA rfl rfl [3, 4] rfl (by decide)) rfl rfl hl.1 rfl (lv_room (Nat.le_of_ble_eq_true rfl)) dX10_party_161 ⟨Nat.le_of_ble_eq_true rfl, Nat.le_of_ble_eq_true rfl⟩) hP hD hS hA [3, 4] [0, 1, 2] rfl rfl (by decide) (by decide) ?_
                    clear hP hD hS
                    intro sc0_62 H locs w_61 hP hD hS
                    replace hP : va_P D vwCl [(k, .inr (10, [.ref k0, .ref k1, .ref k2, .ref k3, .ref k4, .ref k5, .ref k6, .ref k7, .ref k8, .ref k9, .ref ka, .ref kb, .int cc])), (k0, .inr (9, [.ref k00, .ref k01, .ref k02, .ref k03, .ref k04, .ref k05, .int c06, .int c07, .int c08])), (kb, .inl (cI, 6, .inl cb)), (k05, .inr (3, [.ref k050, .int sc1_40])), (k050, .inl (cI, 36, .inl sc0_62))] H := hP
                    replace hD : va_D A [(k, .inr (10, [.ref k0, .ref k1, .ref k2, .ref k3, .ref k4, .ref k5, .ref k6, .ref k7, .ref k8, .ref k9, .ref ka, .ref kb, .int cc])), (k0, .inr (9, [.ref k00, .ref k01, .ref k02, .ref k03, .ref k04, .ref k05, .int c06, .int c07, .int c08])), (kb, .inl (cI, 6, .inl cb)), (k05, .inr (3, [.ref k050, .int sc1_40])), (k050, .inl (cI, 36, .inl sc0_62))] := hD
                    refine lv_aload_n hx hb dX10_party_164 rfl (lv_at hl 2 rfl) ?_
                    refine va_get (D := D) (ci := 10) (v := .ref k0) (C := RX10) (T := TX10) (N := 13) hx hb hT giX10 hown hK hP 0 rfl rfl 0 (by decide) (hT (Cond.fieldLink RX10 12 "DesertWire" "now" "LDesertWire$World;") mw_291) (fun _ h9 => h9) rfl dX10_party_165 ?_
                    refine va_get (D := D) (ci := 9) (v := .ref k05) (C := RX9) (T := TX9) (N := 9) hx hb hT giX9 hown hK hP 1 rfl rfl 5 (by decide) (hT (Cond.fieldLink RX10 193 "DesertWire$World" "parties" "LDesertWire$Parties;") mw_102) (fun _ h9 => h9) rfl dX10_party_168 ?_
                    refine lv_iload hx hb dX10_party_171 (lv_at hl 0 rfl) ?_
                    refine lv_iconst (v := 4) hx hb dX10_party_173 (by decide) ?_
                    refine lv_iload hx hb dX10_party_174 (lv_at hl 6 rfl) ?_
                    refine kJv (wr := [(k, .inr (10, [.ref k0, .ref k1, .ref k2, .ref k3, .ref k4, .ref k5, .ref k6, .ref k7, .ref k8, .ref k9, .ref ka, .ref kb, .int cc])), (k0, .inr (9, [.ref k00, .ref k01, .ref k02, .ref k03, .ref k04, .ref k05, .int c06, .int c07, .int c08])), (kb, .inl (cI, 6, .inl cb))]) (va_runV (As := [.int r_38, .int 4, .int a3]) (rest := []) ⟨hx, hb, hml, hown, hT⟩ (c_X3_setG l D cI aK aV k05 k050 H.size sc1_40 sc0_62 r_38 4 a3) (cwV 3 hT (gV_in mw_713 mw_710 mw_711 mw_712 mw_4) rfl rfl rfl (by decide +kernel) ⟨Nat.le_of_ble_eq_true rfl, Nat.le_of_ble_eq_true rfl⟩) (kRecvX (q0 := 3) (ci := 3) hK hP hD hN hXS hS hA rfl rfl [3, 4] rfl (by decide)) rfl rfl hl.1 rfl (lv_room (Nat.le_of_ble_eq_true rfl)) dX10_party_176 ⟨Nat.le_of_ble_eq_true rfl, Nat.le_of_ble_eq_true rfl⟩) hP hD hS hA [3, 4] [0, 1, 2] rfl rfl (by decide) (by decide) ?_
                    clear hP hD hS
                    intro sc0_65 H locs w_64 hP hD hS
                    replace hP : va_P D vwCl [(k, .inr (10, [.ref k0, .ref k1, .ref k2, .ref k3, .ref k4, .ref k5, .ref k6, .ref k7, .ref k8, .ref k9, .ref ka, .ref kb, .int cc])), (k0, .inr (9, [.ref k00, .ref k01, .ref k02, .ref k03, .ref k04, .ref k05, .int c06, .int c07, .int c08])), (kb, .inl (cI, 6, .inl cb)), (k05, .inr (3, [.ref k050, .int sc1_40])), (k050, .inl (cI, 36, .inl sc0_65))] H := hP
                    replace hD : va_D A [(k, .inr (10, [.ref k0, .ref k1, .ref k2, .ref k3, .ref k4, .ref k5, .ref k6, .ref k7, .ref k8, .ref k9, .ref ka, .ref kb, .int cc])), (k0, .inr (9, [.ref k00, .ref k01, .ref k02, .ref k03, .ref k04, .ref k05, .int c06, .int c07, .int c08])), (kb, .inl (cI, 6, .inl cb)), (k05, .inr (3, [.ref k050, .int sc1_40])), (k050, .inl (cI, 36, .inl sc0_65))] := hD
                    refine lv_iload hx hb dX10_party_179 (lv_at hl 0 rfl) ?_
                    exact hRet (cb, sc1_40, sc0_65) [0, 1, 2, 3, 4] ⟨(by (try dsimp only); unfold partyR; (repeat (first | rw [if_pos (by omega)] | rw [if_neg (by omega)])); first | done | exact k_inj (by omega)), (by (try dsimp only); unfold partyN; (repeat (first | rw [if_pos (by omega)] | rw [if_neg (by omega)])); first | done | exact (by omega))⟩ hP hD (by decide) rfl hS rfl dX10_party_181
                  · exfalso; omega
                · have h_36 : c051.toInt < 0 ∨ 4 ≤ c051.toInt := h_36
                  obtain rfl : r_31 = 0 := hr_31.trans (by decide)
                  refine b_if_ne hx hb zl_0 (tgt := 90) dX10_party_81 (by decide) (fun c_66 => by exfalso; omega) (fun c_66 => ?_)
                  refine lv_aload_n hx hb dX10_party_84 rfl (lv_at hl 1 rfl) ?_
                  refine lv_iconst (v := 4) hx hb dX10_party_85 (by decide) ?_
                  refine kJi (wr := [(k0, .inr (9, [.ref k00, .ref k01, .ref k02, .ref k03, .ref k04, .ref k05, .int c06, .int c07, .int c08])), (k050, .inl (cI, 36, .inl c050)), (k05, .inr (3, [.ref k050, .int c051]))]) (va_runV (As := [.int 4]) (rest := []) ⟨hx, hb, hml, hown, hT⟩ (c_X10_findingG l D cI aK aV k k0 k1 k2 k3 k4 k5 k6 k7 k8 k9 ka kb H.size cc cb 4) (cwV 1 hT (gV_in mw_338 mw_335 mw_337 mw_p1_0 mw_1) rfl rfl rfl (by decide +kernel) ⟨Nat.le_of_ble_eq_true rfl, Nat.le_of_ble_eq_true rfl⟩) (kRecvX (q0 := 0) (ci := 10) hK hP hD hN hXS hS hA rfl rfl [0, 2] rfl (by decide)) rfl rfl hl.1 rfl (lv_room (Nat.le_of_ble_eq_true rfl)) dX10_party_86 ⟨Nat.le_of_ble_eq_true rfl, Nat.le_of_ble_eq_true rfl⟩) hP hD hS hA [0, 2] [1, 3, 4] rfl rfl (by decide) (by decide) ?_
                  clear hP hD hS
                  intro r_67 scb_69 H locs w_68 hP hD hS
                  replace hP : va_P D vwCl [(k0, .inr (9, [.ref k00, .ref k01, .ref k02, .ref k03, .ref k04, .ref k05, .int c06, .int c07, .int c08])), (k050, .inl (cI, 36, .inl c050)), (k05, .inr (3, [.ref k050, .int c051])), (k, .inr (10, [.ref k0, .ref k1, .ref k2, .ref k3, .ref k4, .ref k5, .ref k6, .ref k7, .ref k8, .ref k9, .ref ka, .ref kb, .int cc])), (kb, .inl (cI, 6, .inl scb_69))] H := hP
                  replace hD : va_D A [(k0, .inr (9, [.ref k00, .ref k01, .ref k02, .ref k03, .ref k04, .ref k05, .int c06, .int c07, .int c08])), (k050, .inl (cI, 36, .inl c050)), (k05, .inr (3, [.ref k050, .int c051])), (k, .inr (10, [.ref k0, .ref k1, .ref k2, .ref k3, .ref k4, .ref k5, .ref k6, .ref k7, .ref k8, .ref k9, .ref ka, .ref kb, .int cc])), (kb, .inl (cI, 6, .inl scb_69))] := hD
                  have hr_67 := w_68
                  obtain rfl : r_67 = (-1000004) := hr_67.trans (by decide)
                  exact hRet (scb_69, c051, c050) [3, 0, 4, 2, 1] ⟨(by (try dsimp only); unfold partyR; (repeat (first | rw [if_pos (by omega)] | rw [if_neg (by omega)]))), (by (try dsimp only); unfold partyN; (repeat (first | rw [if_pos (by omega)] | rw [if_neg (by omega)])); first | done | exact (by omega))⟩ hP hD (by decide) rfl hS rfl dX10_party_89
              · refine lv_aload_n hx hb dX10_party_65 rfl (lv_at hl 1 rfl) ?_
                refine lv_iconst (v := 1) hx hb dX10_party_66 (by decide) ?_
                refine kJi (wr := [(k0, .inr (9, [.ref k00, .ref k01, .ref k02, .ref k03, .ref k04, .ref k05, .int c06, .int c07, .int c08])), (k05, .inr (3, [.ref k050, .int c051])), (k050, .inl (cI, 36, .inl c050))]) (va_runV (As := [.int 1]) (rest := []) ⟨hx, hb, hml, hown, hT⟩ (c_X10_findingG l D cI aK aV k k0 k1 k2 k3 k4 k5 k6 k7 k8 k9 ka kb H.size cc cb 1) (cwV 1 hT (gV_in mw_338 mw_335 mw_337 mw_p1_0 mw_1) rfl rfl rfl (by decide +kernel) ⟨Nat.le_of_ble_eq_true rfl, Nat.le_of_ble_eq_true rfl⟩) (kRecvX (q0 := 0) (ci := 10) hK hP hD hN hXS hS hA rfl rfl [0, 2] rfl (by decide)) rfl rfl hl.1 rfl (lv_room (Nat.le_of_ble_eq_true rfl)) dX10_party_67 ⟨Nat.le_of_ble_eq_true rfl, Nat.le_of_ble_eq_true rfl⟩) hP hD hS hA [0, 2] [1, 3, 4] rfl rfl (by decide) (by decide) ?_
                clear hP hD hS
                intro r_70 scb_72 H locs w_71 hP hD hS
                replace hP : va_P D vwCl [(k0, .inr (9, [.ref k00, .ref k01, .ref k02, .ref k03, .ref k04, .ref k05, .int c06, .int c07, .int c08])), (k05, .inr (3, [.ref k050, .int c051])), (k050, .inl (cI, 36, .inl c050)), (k, .inr (10, [.ref k0, .ref k1, .ref k2, .ref k3, .ref k4, .ref k5, .ref k6, .ref k7, .ref k8, .ref k9, .ref ka, .ref kb, .int cc])), (kb, .inl (cI, 6, .inl scb_72))] H := hP
                replace hD : va_D A [(k0, .inr (9, [.ref k00, .ref k01, .ref k02, .ref k03, .ref k04, .ref k05, .int c06, .int c07, .int c08])), (k05, .inr (3, [.ref k050, .int c051])), (k050, .inl (cI, 36, .inl c050)), (k, .inr (10, [.ref k0, .ref k1, .ref k2, .ref k3, .ref k4, .ref k5, .ref k6, .ref k7, .ref k8, .ref k9, .ref ka, .ref kb, .int cc])), (kb, .inl (cI, 6, .inl scb_72))] := hD
                have hr_70 := w_71
                obtain rfl : r_70 = (-1000001) := hr_70.trans (by decide)
                exact hRet (scb_72, c051, c050) [3, 0, 4, 1, 2] ⟨(by (try dsimp only); unfold partyR; (repeat (first | rw [if_pos (by omega)] | rw [if_neg (by omega)]))), (by (try dsimp only); unfold partyN; (repeat (first | rw [if_pos (by omega)] | rw [if_neg (by omega)])); first | done | exact (by omega))⟩ hP hD (by decide) rfl hS rfl dX10_party_70
    · refine lv_iload_n hx hb dX10_party_12 rfl (lv_at hl 2 rfl) ?_
      refine lv_iconst (v := (-1)) hx hb dX10_party_13 (by decide) ?_
      refine b_icmp_ne hx hb rfl zl_m1 (tgt := 33) dX10_party_14 (by decide) (fun c_73 => ?_) (fun c_73 => ?_)
      · refine lv_iconst (v := 0) hx hb dX10_party_33 (by decide) ?_
        refine lv_istore (lv' := [(5, .int 0), (0, .ref k), (1, .int a0), (2, .int a1), (3, .int a2), (4, .int a3)]) hx hb dX10_party_34 hl (by decide) rfl ?_
        clear hl
        intro ls hl
        refine lv_iload hx hb dX10_party_36 (lv_at hl 0 rfl) ?_
        refine b_if_eq hx hb zl_0 (tgt := 65) dX10_party_38 (by decide) (fun c_74 => ?_) (fun c_74 => by exfalso; omega)
        refine lv_aload_n hx hb dX10_party_65 rfl (lv_at hl 1 rfl) ?_
        refine lv_iconst (v := 1) hx hb dX10_party_66 (by decide) ?_
        refine kJi (wr := [(k0, .inr (9, [.ref k00, .ref k01, .ref k02, .ref k03, .ref k04, .ref k05, .int c06, .int c07, .int c08])), (k05, .inr (3, [.ref k050, .int c051])), (k050, .inl (cI, 36, .inl c050))]) (va_runV (As := [.int 1]) (rest := []) ⟨hx, hb, hml, hown, hT⟩ (c_X10_findingG l D cI aK aV k k0 k1 k2 k3 k4 k5 k6 k7 k8 k9 ka kb H.size cc cb 1) (cwV 1 hT (gV_in mw_338 mw_335 mw_337 mw_p1_0 mw_1) rfl rfl rfl (by decide +kernel) ⟨Nat.le_of_ble_eq_true rfl, Nat.le_of_ble_eq_true rfl⟩) (kRecvX (q0 := 0) (ci := 10) hK hP hD hN hXS hS hA rfl rfl [0, 2] rfl (by decide)) rfl rfl hl.1 rfl (lv_room (Nat.le_of_ble_eq_true rfl)) dX10_party_67 ⟨Nat.le_of_ble_eq_true rfl, Nat.le_of_ble_eq_true rfl⟩) hP hD hS hA [0, 2] [1, 3, 4] rfl rfl (by decide) (by decide) ?_
        clear hP hD hS
        intro r_75 scb_77 H locs w_76 hP hD hS
        replace hP : va_P D vwCl [(k0, .inr (9, [.ref k00, .ref k01, .ref k02, .ref k03, .ref k04, .ref k05, .int c06, .int c07, .int c08])), (k05, .inr (3, [.ref k050, .int c051])), (k050, .inl (cI, 36, .inl c050)), (k, .inr (10, [.ref k0, .ref k1, .ref k2, .ref k3, .ref k4, .ref k5, .ref k6, .ref k7, .ref k8, .ref k9, .ref ka, .ref kb, .int cc])), (kb, .inl (cI, 6, .inl scb_77))] H := hP
        replace hD : va_D A [(k0, .inr (9, [.ref k00, .ref k01, .ref k02, .ref k03, .ref k04, .ref k05, .int c06, .int c07, .int c08])), (k05, .inr (3, [.ref k050, .int c051])), (k050, .inl (cI, 36, .inl c050)), (k, .inr (10, [.ref k0, .ref k1, .ref k2, .ref k3, .ref k4, .ref k5, .ref k6, .ref k7, .ref k8, .ref k9, .ref ka, .ref kb, .int cc])), (kb, .inl (cI, 6, .inl scb_77))] := hD
        have hr_75 := w_76
        obtain rfl : r_75 = (-1000001) := hr_75.trans (by decide)
        exact hRet (scb_77, c051, c050) [3, 0, 4, 1, 2] ⟨(by (try dsimp only); unfold partyR; (repeat (first | rw [if_pos (by omega)] | rw [if_neg (by omega)]))), (by (try dsimp only); unfold partyN; (repeat (first | rw [if_pos (by omega)] | rw [if_neg (by omega)])); first | done | exact (by omega))⟩ hP hD (by decide) rfl hS rfl dX10_party_70
      · refine lv_iload hx hb dX10_party_17 (lv_at hl 4 rfl) ?_
        refine b_if_lt hx hb rfl (tgt := 33) dX10_party_19 (by decide) (fun c_78 => ?_) (fun c_78 => ?_)
        · refine lv_iconst (v := 0) hx hb dX10_party_33 (by decide) ?_
          refine lv_istore (lv' := [(5, .int 0), (0, .ref k), (1, .int a0), (2, .int a1), (3, .int a2), (4, .int a3)]) hx hb dX10_party_34 hl (by decide) rfl ?_
          clear hl
          intro ls hl
          refine lv_iload hx hb dX10_party_36 (lv_at hl 0 rfl) ?_
          refine b_if_eq hx hb zl_0 (tgt := 65) dX10_party_38 (by decide) (fun c_79 => ?_) (fun c_79 => by exfalso; omega)
          refine lv_aload_n hx hb dX10_party_65 rfl (lv_at hl 1 rfl) ?_
          refine lv_iconst (v := 1) hx hb dX10_party_66 (by decide) ?_
          refine kJi (wr := [(k0, .inr (9, [.ref k00, .ref k01, .ref k02, .ref k03, .ref k04, .ref k05, .int c06, .int c07, .int c08])), (k05, .inr (3, [.ref k050, .int c051])), (k050, .inl (cI, 36, .inl c050))]) (va_runV (As := [.int 1]) (rest := []) ⟨hx, hb, hml, hown, hT⟩ (c_X10_findingG l D cI aK aV k k0 k1 k2 k3 k4 k5 k6 k7 k8 k9 ka kb H.size cc cb 1) (cwV 1 hT (gV_in mw_338 mw_335 mw_337 mw_p1_0 mw_1) rfl rfl rfl (by decide +kernel) ⟨Nat.le_of_ble_eq_true rfl, Nat.le_of_ble_eq_true rfl⟩) (kRecvX (q0 := 0) (ci := 10) hK hP hD hN hXS hS hA rfl rfl [0, 2] rfl (by decide)) rfl rfl hl.1 rfl (lv_room (Nat.le_of_ble_eq_true rfl)) dX10_party_67 ⟨Nat.le_of_ble_eq_true rfl, Nat.le_of_ble_eq_true rfl⟩) hP hD hS hA [0, 2] [1, 3, 4] rfl rfl (by decide) (by decide) ?_
          clear hP hD hS
          intro r_80 scb_82 H locs w_81 hP hD hS
          replace hP : va_P D vwCl [(k0, .inr (9, [.ref k00, .ref k01, .ref k02, .ref k03, .ref k04, .ref k05, .int c06, .int c07, .int c08])), (k05, .inr (3, [.ref k050, .int c051])), (k050, .inl (cI, 36, .inl c050)), (k, .inr (10, [.ref k0, .ref k1, .ref k2, .ref k3, .ref k4, .ref k5, .ref k6, .ref k7, .ref k8, .ref k9, .ref ka, .ref kb, .int cc])), (kb, .inl (cI, 6, .inl scb_82))] H := hP
          replace hD : va_D A [(k0, .inr (9, [.ref k00, .ref k01, .ref k02, .ref k03, .ref k04, .ref k05, .int c06, .int c07, .int c08])), (k05, .inr (3, [.ref k050, .int c051])), (k050, .inl (cI, 36, .inl c050)), (k, .inr (10, [.ref k0, .ref k1, .ref k2, .ref k3, .ref k4, .ref k5, .ref k6, .ref k7, .ref k8, .ref k9, .ref ka, .ref kb, .int cc])), (kb, .inl (cI, 6, .inl scb_82))] := hD
          have hr_80 := w_81
          obtain rfl : r_80 = (-1000001) := hr_80.trans (by decide)
          exact hRet (scb_82, c051, c050) [3, 0, 4, 1, 2] ⟨(by (try dsimp only); unfold partyR; (repeat (first | rw [if_pos (by omega)] | rw [if_neg (by omega)]))), (by (try dsimp only); unfold partyN; (repeat (first | rw [if_pos (by omega)] | rw [if_neg (by omega)])); first | done | exact (by omega))⟩ hP hD (by decide) rfl hS rfl dX10_party_70
        · refine lv_iload hx hb dX10_party_22 (lv_at hl 4 rfl) ?_
          refine lv_bipush (v := 99) hx hb dX10_party_24 (by decide) ?_
          refine b_icmp_gt hx hb rfl zl_99 (tgt := 33) dX10_party_26 (by decide) (fun c_83 => ?_) (fun c_83 => ?_)
          · refine lv_iconst (v := 0) hx hb dX10_party_33 (by decide) ?_
            refine lv_istore (lv' := [(5, .int 0), (0, .ref k), (1, .int a0), (2, .int a1), (3, .int a2), (4, .int a3)]) hx hb dX10_party_34 hl (by decide) rfl ?_
            clear hl
            intro ls hl
            refine lv_iload hx hb dX10_party_36 (lv_at hl 0 rfl) ?_
            refine b_if_eq hx hb zl_0 (tgt := 65) dX10_party_38 (by decide) (fun c_84 => ?_) (fun c_84 => by exfalso; omega)
            refine lv_aload_n hx hb dX10_party_65 rfl (lv_at hl 1 rfl) ?_
            refine lv_iconst (v := 1) hx hb dX10_party_66 (by decide) ?_
            refine kJi (wr := [(k0, .inr (9, [.ref k00, .ref k01, .ref k02, .ref k03, .ref k04, .ref k05, .int c06, .int c07, .int c08])), (k05, .inr (3, [.ref k050, .int c051])), (k050, .inl (cI, 36, .inl c050))]) (va_runV (As := [.int 1]) (rest := []) ⟨hx, hb, hml, hown, hT⟩ (c_X10_findingG l D cI aK aV k k0 k1 k2 k3 k4 k5 k6 k7 k8 k9 ka kb H.size cc cb 1) (cwV 1 hT (gV_in mw_338 mw_335 mw_337 mw_p1_0 mw_1) rfl rfl rfl (by decide +kernel) ⟨Nat.le_of_ble_eq_true rfl, Nat.le_of_ble_eq_true rfl⟩) (kRecvX (q0 := 0) (ci := 10) hK hP hD hN hXS hS hA rfl rfl [0, 2] rfl (by decide)) rfl rfl hl.1 rfl (lv_room (Nat.le_of_ble_eq_true rfl)) dX10_party_67 ⟨Nat.le_of_ble_eq_true rfl, Nat.le_of_ble_eq_true rfl⟩) hP hD hS hA [0, 2] [1, 3, 4] rfl rfl (by decide) (by decide) ?_
            clear hP hD hS
            intro r_85 scb_87 H locs w_86 hP hD hS
            replace hP : va_P D vwCl [(k0, .inr (9, [.ref k00, .ref k01, .ref k02, .ref k03, .ref k04, .ref k05, .int c06, .int c07, .int c08])), (k05, .inr (3, [.ref k050, .int c051])), (k050, .inl (cI, 36, .inl c050)), (k, .inr (10, [.ref k0, .ref k1, .ref k2, .ref k3, .ref k4, .ref k5, .ref k6, .ref k7, .ref k8, .ref k9, .ref ka, .ref kb, .int cc])), (kb, .inl (cI, 6, .inl scb_87))] H := hP
            replace hD : va_D A [(k0, .inr (9, [.ref k00, .ref k01, .ref k02, .ref k03, .ref k04, .ref k05, .int c06, .int c07, .int c08])), (k05, .inr (3, [.ref k050, .int c051])), (k050, .inl (cI, 36, .inl c050)), (k, .inr (10, [.ref k0, .ref k1, .ref k2, .ref k3, .ref k4, .ref k5, .ref k6, .ref k7, .ref k8, .ref k9, .ref ka, .ref kb, .int cc])), (kb, .inl (cI, 6, .inl scb_87))] := hD
            have hr_85 := w_86
            obtain rfl : r_85 = (-1000001) := hr_85.trans (by decide)
            exact hRet (scb_87, c051, c050) [3, 0, 4, 1, 2] ⟨(by (try dsimp only); unfold partyR; (repeat (first | rw [if_pos (by omega)] | rw [if_neg (by omega)]))), (by (try dsimp only); unfold partyN; (repeat (first | rw [if_pos (by omega)] | rw [if_neg (by omega)])); first | done | exact (by omega))⟩ hP hD (by decide) rfl hS rfl dX10_party_70
          · refine lv_iconst (v := 1) hx hb dX10_party_29 (by decide) ?_
            refine lv_goto (tgt := 34) hx hb dX10_party_30 (by decide) ?_
            refine lv_istore (lv' := [(5, .int 1), (0, .ref k), (1, .int a0), (2, .int a1), (3, .int a2), (4, .int a3)]) hx hb dX10_party_34 hl (by decide) rfl ?_
            clear hl
            intro ls hl
            refine lv_iload hx hb dX10_party_36 (lv_at hl 0 rfl) ?_
            refine b_if_eq hx hb zl_1 (tgt := 65) dX10_party_38 (by decide) (fun c_88 => by exfalso; omega) (fun c_88 => ?_)
            refine lv_iload_n hx hb dX10_party_41 rfl (lv_at hl 4 rfl) ?_
            refine lv_bipush (v := 100) hx hb dX10_party_42 (by decide) ?_
            refine b_icmp_lt hx hb rfl zl_100 (tgt := 65) dX10_party_44 (by decide) (fun c_89 => ?_) (fun c_89 => ?_)
            · refine lv_aload_n hx hb dX10_party_65 rfl (lv_at hl 1 rfl) ?_
              refine lv_iconst (v := 1) hx hb dX10_party_66 (by decide) ?_
              refine kJi (wr := [(k0, .inr (9, [.ref k00, .ref k01, .ref k02, .ref k03, .ref k04, .ref k05, .int c06, .int c07, .int c08])), (k05, .inr (3, [.ref k050, .int c051])), (k050, .inl (cI, 36, .inl c050))]) (va_runV (As := [.int 1]) (rest := []) ⟨hx, hb, hml, hown, hT⟩ (c_X10_findingG l D cI aK aV k k0 k1 k2 k3 k4 k5 k6 k7 k8 k9 ka kb H.size cc cb 1) (cwV 1 hT (gV_in mw_338 mw_335 mw_337 mw_p1_0 mw_1) rfl rfl rfl (by decide +kernel) ⟨Nat.le_of_ble_eq_true rfl, Nat.le_of_ble_eq_true rfl⟩) (kRecvX (q0 := 0) (ci := 10) hK hP hD hN hXS hS hA rfl rfl [0, 2] rfl (by decide)) rfl rfl hl.1 rfl (lv_room (Nat.le_of_ble_eq_true rfl)) dX10_party_67 ⟨Nat.le_of_ble_eq_true rfl, Nat.le_of_ble_eq_true rfl⟩) hP hD hS hA [0, 2] [1, 3, 4] rfl rfl (by decide) (by decide) ?_
              clear hP hD hS
              intro r_90 scb_92 H locs w_91 hP hD hS
              replace hP : va_P D vwCl [(k0, .inr (9, [.ref k00, .ref k01, .ref k02, .ref k03, .ref k04, .ref k05, .int c06, .int c07, .int c08])), (k05, .inr (3, [.ref k050, .int c051])), (k050, .inl (cI, 36, .inl c050)), (k, .inr (10, [.ref k0, .ref k1, .ref k2, .ref k3, .ref k4, .ref k5, .ref k6, .ref k7, .ref k8, .ref k9, .ref ka, .ref kb, .int cc])), (kb, .inl (cI, 6, .inl scb_92))] H := hP
              replace hD : va_D A [(k0, .inr (9, [.ref k00, .ref k01, .ref k02, .ref k03, .ref k04, .ref k05, .int c06, .int c07, .int c08])), (k05, .inr (3, [.ref k050, .int c051])), (k050, .inl (cI, 36, .inl c050)), (k, .inr (10, [.ref k0, .ref k1, .ref k2, .ref k3, .ref k4, .ref k5, .ref k6, .ref k7, .ref k8, .ref k9, .ref ka, .ref kb, .int cc])), (kb, .inl (cI, 6, .inl scb_92))] := hD
              have hr_90 := w_91
              obtain rfl : r_90 = (-1000001) := hr_90.trans (by decide)
              exact hRet (scb_92, c051, c050) [3, 0, 4, 1, 2] ⟨(by (try dsimp only); unfold partyR; (repeat (first | rw [if_pos (by omega)] | rw [if_neg (by omega)]))), (by (try dsimp only); unfold partyN; (repeat (first | rw [if_pos (by omega)] | rw [if_neg (by omega)])); first | done | exact (by omega))⟩ hP hD (by decide) rfl hS rfl dX10_party_70
            · refine lv_iload_n hx hb dX10_party_47 rfl (lv_at hl 4 rfl) ?_
              refine lv_bipush (v := 100) hx hb dX10_party_48 (by decide) ?_
              refine lv_idiv hx hb dX10_party_50 (by decide) ?_
              refine lv_topi (fun v_93 ev_93 => ?_)
              have tv_93 : v_93.toInt = a2.toInt / 100 := k_divv (w := 0) ev_93 zl_100 (by omega) (by decide)
              have lo_v_93 := k_lo v_93
              have hi_v_93 := k_hi v_93
              refine lv_bipush (v := 50) hx hb dX10_party_51 (by decide) ?_
              refine b_icmp_gt hx hb rfl zl_50 (tgt := 65) dX10_party_53 (by decide) (fun c_94 => ?_) (fun c_94 => ?_)
              · refine lv_aload_n hx hb dX10_party_65 rfl (lv_at hl 1 rfl) ?_
                refine lv_iconst (v := 1) hx hb dX10_party_66 (by decide) ?_
                refine kJi (wr := [(k0, .inr (9, [.ref k00, .ref k01, .ref k02, .ref k03, .ref k04, .ref k05, .int c06, .int c07, .int c08])), (k05, .inr (3, [.ref k050, .int c051])), (k050, .inl (cI, 36, .inl c050))]) (va_runV (As := [.int 1]) (rest := []) ⟨hx, hb, hml, hown, hT⟩ (c_X10_findingG l D cI aK aV k k0 k1 k2 k3 k4 k5 k6 k7 k8 k9 ka kb H.size cc cb 1) (cwV 1 hT (gV_in mw_338 mw_335 mw_337 mw_p1_0 mw_1) rfl rfl rfl (by decide +kernel) ⟨Nat.le_of_ble_eq_true rfl, Nat.le_of_ble_eq_true rfl⟩) (kRecvX (q0 := 0) (ci := 10) hK hP hD hN hXS hS hA rfl rfl [0, 2] rfl (by decide)) rfl rfl hl.1 rfl (lv_room (Nat.le_of_ble_eq_true rfl)) dX10_party_67 ⟨Nat.le_of_ble_eq_true rfl, Nat.le_of_ble_eq_true rfl⟩) hP hD hS hA [0, 2] [1, 3, 4] rfl rfl (by decide) (by decide) ?_
                clear hP hD hS
                intro r_95 scb_97 H locs w_96 hP hD hS
                replace hP : va_P D vwCl [(k0, .inr (9, [.ref k00, .ref k01, .ref k02, .ref k03, .ref k04, .ref k05, .int c06, .int c07, .int c08])), (k05, .inr (3, [.ref k050, .int c051])), (k050, .inl (cI, 36, .inl c050)), (k, .inr (10, [.ref k0, .ref k1, .ref k2, .ref k3, .ref k4, .ref k5, .ref k6, .ref k7, .ref k8, .ref k9, .ref ka, .ref kb, .int cc])), (kb, .inl (cI, 6, .inl scb_97))] H := hP
                replace hD : va_D A [(k0, .inr (9, [.ref k00, .ref k01, .ref k02, .ref k03, .ref k04, .ref k05, .int c06, .int c07, .int c08])), (k05, .inr (3, [.ref k050, .int c051])), (k050, .inl (cI, 36, .inl c050)), (k, .inr (10, [.ref k0, .ref k1, .ref k2, .ref k3, .ref k4, .ref k5, .ref k6, .ref k7, .ref k8, .ref k9, .ref ka, .ref kb, .int cc])), (kb, .inl (cI, 6, .inl scb_97))] := hD
                have hr_95 := w_96
                obtain rfl : r_95 = (-1000001) := hr_95.trans (by decide)
                exact hRet (scb_97, c051, c050) [3, 0, 4, 1, 2] ⟨(by (try dsimp only); unfold partyR; (repeat (first | rw [if_pos (by omega)] | rw [if_neg (by omega)]))), (by (try dsimp only); unfold partyN; (repeat (first | rw [if_pos (by omega)] | rw [if_neg (by omega)])); first | done | exact (by omega))⟩ hP hD (by decide) rfl hS rfl dX10_party_70
              · refine lv_iload_n hx hb dX10_party_56 rfl (lv_at hl 4 rfl) ?_
                refine lv_bipush (v := 100) hx hb dX10_party_57 (by decide) ?_
                refine lv_irem hx hb dX10_party_59 (by decide) ?_
                refine lv_topi (fun v_98 ev_98 => ?_)
                have tv_98 : v_98.toInt = a2.toInt % 100 := k_remv (w := 0) ev_98 zl_100 (by omega) (by decide)
                have lo_v_98 := k_lo v_98
                have hi_v_98 := k_hi v_98
                refine lv_bipush (v := 50) hx hb dX10_party_60 (by decide) ?_
                refine b_icmp_le hx hb rfl zl_50 (tgt := 71) dX10_party_62 (by decide) (fun c_99 => ?_) (fun c_99 => ?_)
                · refine lv_aload_n hx hb dX10_party_71 rfl (lv_at hl 1 rfl) ?_
                  refine va_get (D := D) (ci := 10) (v := .ref k0) (C := RX10) (T := TX10) (N := 13) hx hb hT giX10 hown hK hP 0 rfl rfl 0 (by decide) (hT (Cond.fieldLink RX10 12 "DesertWire" "now" "LDesertWire$World;") mw_291) (fun _ h9 => h9) rfl dX10_party_72 ?_
                  refine va_get (D := D) (ci := 9) (v := .ref k05) (C := RX9) (T := TX9) (N := 9) hx hb hT giX9 hown hK hP 1 rfl rfl 5 (by decide) (hT (Cond.fieldLink RX10 193 "DesertWire$World" "parties" "LDesertWire$Parties;") mw_102) (fun _ h9 => h9) rfl dX10_party_75 ?_
                  refine kJi (wr := [(k, .inr (10, [.ref k0, .ref k1, .ref k2, .ref k3, .ref k4, .ref k5, .ref k6, .ref k7, .ref k8, .ref k9, .ref ka, .ref kb, .int cc])), (k0, .inr (9, [.ref k00, .ref k01, .ref k02, .ref k03, .ref k04, .ref k05, .int c06, .int c07, .int c08])), (kb, .inl (cI, 6, .inl cb)), (k050, .inl (cI, 36, .inl c050))]) (va_runV (As := []) (rest := []) ⟨hx, hb, hml, hown, hT⟩ (c_X3_hasRoomG l D cI aK aV k05 k050 H.size c051) (cwV 0 hT (gV_in mw_704 mw_701 mw_702 mw_703 mw_4) rfl rfl rfl (by decide +kernel) ⟨Nat.le_of_ble_eq_true rfl, Nat.le_of_ble_eq_true rfl⟩) (kRecvX (q0 := 3) (ci := 3) hK hP hD hN hXS hS hA rfl rfl [3] rfl (by decide)) rfl rfl hl.1 rfl (lv_room (Nat.le_of_ble_eq_true rfl)) dX10_party_78 ⟨Nat.le_of_ble_eq_true rfl, Nat.le_of_ble_eq_true rfl⟩) hP hD hS hA [3] [0, 1, 2, 4] rfl rfl (by decide) (by decide) ?_
                  clear hP hD hS
                  intro r_100 u_102 H locs w_101 hP hD hS
                  replace hP : va_P D vwCl [(k, .inr (10, [.ref k0, .ref k1, .ref k2, .ref k3, .ref k4, .ref k5, .ref k6, .ref k7, .ref k8, .ref k9, .ref ka, .ref kb, .int cc])), (k0, .inr (9, [.ref k00, .ref k01, .ref k02, .ref k03, .ref k04, .ref k05, .int c06, .int c07, .int c08])), (kb, .inl (cI, 6, .inl cb)), (k050, .inl (cI, 36, .inl c050)), (k05, .inr (3, [.ref k050, .int c051]))] H := hP
                  replace hD : va_D A [(k, .inr (10, [.ref k0, .ref k1, .ref k2, .ref k3, .ref k4, .ref k5, .ref k6, .ref k7, .ref k8, .ref k9, .ref ka, .ref kb, .int cc])), (k0, .inr (9, [.ref k00, .ref k01, .ref k02, .ref k03, .ref k04, .ref k05, .int c06, .int c07, .int c08])), (kb, .inl (cI, 6, .inl cb)), (k050, .inl (cI, 36, .inl c050)), (k05, .inr (3, [.ref k050, .int c051]))] := hD
                  rcases w_101 with ⟨hr_100, h_103, h_104⟩ | ⟨hr_100, h_105⟩
                  · have h_103 : 0 ≤ c051.toInt := h_103
                    have h_104 : c051.toInt < 4 := h_104
                    obtain rfl : r_100 = 1 := hr_100.trans (by decide)
                    refine b_if_ne hx hb zl_1 (tgt := 90) dX10_party_81 (by decide) (fun c_106 => ?_) (fun c_106 => by exfalso; omega)
                    refine lv_aload_n hx hb dX10_party_90 rfl (lv_at hl 1 rfl) ?_
                    refine va_get (D := D) (ci := 10) (v := .ref k0) (C := RX10) (T := TX10) (N := 13) hx hb hT giX10 hown hK hP 0 rfl rfl 0 (by decide) (hT (Cond.fieldLink RX10 12 "DesertWire" "now" "LDesertWire$World;") mw_291) (fun _ h9 => h9) rfl dX10_party_91 ?_
                    refine va_get (D := D) (ci := 9) (v := .ref k05) (C := RX9) (T := TX9) (N := 9) hx hb hT giX9 hown hK hP 1 rfl rfl 5 (by decide) (hT (Cond.fieldLink RX10 193 "DesertWire$World" "parties" "LDesertWire$Parties;") mw_102) (fun _ h9 => h9) rfl dX10_party_94 ?_
                    refine kJi (wr := [(k, .inr (10, [.ref k0, .ref k1, .ref k2, .ref k3, .ref k4, .ref k5, .ref k6, .ref k7, .ref k8, .ref k9, .ref ka, .ref kb, .int cc])), (k0, .inr (9, [.ref k00, .ref k01, .ref k02, .ref k03, .ref k04, .ref k05, .int c06, .int c07, .int c08])), (kb, .inl (cI, 6, .inl cb))]) (va_runV (As := []) (rest := []) ⟨hx, hb, hml, hown, hT⟩ (c_X3_addG l D cI aK aV k05 k050 H.size c051 c050) (cwV 0 hT (gV_in mw_708 mw_705 mw_706 mw_707 mw_4) rfl rfl rfl (by decide +kernel) ⟨Nat.le_of_ble_eq_true rfl, Nat.le_of_ble_eq_true rfl⟩) (kRecvX (q0 := 4) (ci := 3) hK hP hD hN hXS hS hA rfl rfl [4, 3] rfl (by decide)) rfl rfl hl.1 rfl (lv_room (Nat.le_of_ble_eq_true rfl)) dX10_party_97 ⟨Nat.le_of_ble_eq_true rfl, Nat.le_of_ble_eq_true rfl⟩) hP hD hS hA [4, 3] [0, 1, 2] rfl rfl (by decide) (by decide) ?_
                    clear hP hD hS
                    intro r_107 u_111 H locs w_108 hP hD hS
                    obtain ⟨sc1_109, sc0_110⟩ := u_111
                    replace hP : va_P D vwCl [(k, .inr (10, [.ref k0, .ref k1, .ref k2, .ref k3, .ref k4, .ref k5, .ref k6, .ref k7, .ref k8, .ref k9, .ref ka, .ref kb, .int cc])), (k0, .inr (9, [.ref k00, .ref k01, .ref k02, .ref k03, .ref k04, .ref k05, .int c06, .int c07, .int c08])), (kb, .inl (cI, 6, .inl cb)), (k05, .inr (3, [.ref k050, .int sc1_109])), (k050, .inl (cI, 36, .inl sc0_110))] H := hP
                    replace hD : va_D A [(k, .inr (10, [.ref k0, .ref k1, .ref k2, .ref k3, .ref k4, .ref k5, .ref k6, .ref k7, .ref k8, .ref k9, .ref ka, .ref kb, .int cc])), (k0, .inr (9, [.ref k00, .ref k01, .ref k02, .ref k03, .ref k04, .ref k05, .int c06, .int c07, .int c08])), (kb, .inl (cI, 6, .inl cb)), (k05, .inr (3, [.ref k050, .int sc1_109])), (k050, .inl (cI, 36, .inl sc0_110))] := hD
                    have lo_sc1_109 := k_lo sc1_109
                    have hi_sc1_109 := k_hi sc1_109
                    rcases w_108 with ⟨h_112, h_113, h_114, h_115⟩ | ⟨hr_107, h_116, h_117⟩
                    · have h_112 : 0 ≤ c051.toInt := h_112
                      have h_113 : c051.toInt < 4 := h_113
                      have h_114 : r_107.toInt = c051.toInt := h_114
                      have h_115 : sc1_109.toInt = c051.toInt + 1 := h_115
                      have lo_r_107 := k_lo r_107
                      have hi_r_107 := k_hi r_107
                      refine lv_istore (lv' := [(6, .int r_107), (5, .int 1), (0, .ref k), (1, .int a0), (2, .int a1), (3, .int a2), (4, .int a3)]) hx hb dX10_party_100 hl (by decide) rfl ?_
                      clear hl
                      intro ls hl
                      refine lv_aload_n hx hb dX10_party_102 rfl (lv_at hl 2 rfl) ?_
                      refine va_get (D := D) (ci := 10) (v := .ref k0) (C := RX10) (T := TX10) (N := 13) hx hb hT giX10 hown hK hP 0 rfl rfl 0 (by decide) (hT (Cond.fieldLink RX10 12 "DesertWire" "now" "LDesertWire$World;") mw_291) (fun _ h9 => h9) rfl dX10_party_103 ?_
                      refine va_get (D := D) (ci := 9) (v := .ref k05) (C := RX9) (T := TX9) (N := 9) hx hb hT giX9 hown hK hP 1 rfl rfl 5 (by decide) (hT (Cond.fieldLink RX10 193 "DesertWire$World" "parties" "LDesertWire$Parties;") mw_102) (fun _ h9 => h9) rfl dX10_party_106 ?_
                      refine lv_iload hx hb dX10_party_109 (lv_at hl 0 rfl) ?_
                      refine lv_iconst (v := 0) hx hb dX10_party_111 (by decide) ?_
                      refine lv_iload_n hx hb dX10_party_112 rfl (lv_at hl 3 rfl) ?_
                      refine kJv (wr := [(k, .inr (10, [.ref k0, .ref k1, .ref k2, .ref k3, .ref k4, .ref k5, .ref k6, .ref k7, .ref k8, .ref k9, .ref ka, .ref kb, .int cc])), (k0, .inr (9, [.ref k00, .ref k01, .ref k02, .ref k03, .ref k04, .ref k05, .int c06, .int c07, .int c08])), (kb, .inl (cI, 6, .inl cb))]) (va_runV (As := [.int r_107, .int 0, .int a0]) (rest := []) ⟨hx, hb, hml, hown, hT⟩ (c_X3_setG l D cI aK aV k05 k050 H.size sc1_109 sc0_110 r_107 0 a0) (cwV 3 hT (gV_in mw_713 mw_710 mw_711 mw_712 mw_4) rfl rfl rfl (by decide +kernel) ⟨Nat.le_of_ble_eq_true rfl, Nat.le_of_ble_eq_true rfl⟩) (kRecvX (q0 := 3) (ci := 3) hK hP hD hN hXS hS hA rfl rfl [3, 4] rfl (by decide)) rfl rfl hl.1 rfl (lv_room (Nat.le_of_ble_eq_true rfl)) dX10_party_113 ⟨Nat.le_of_ble_eq_true rfl, Nat.le_of_ble_eq_true rfl⟩) hP hD hS hA [3, 4] [0, 1, 2] rfl rfl (by decide) (by decide) ?_
                      clear hP hD hS
                      intro sc0_120 H locs w_119 hP hD hS
                      replace hP : va_P D vwCl [(k, .inr (10, [.ref k0, .ref k1, .ref k2, .ref k3, .ref k4, .ref k5, .ref k6, .ref k7, .ref k8, .ref k9, .ref ka, .ref kb, .int cc])), (k0, .inr (9, [.ref k00, .ref k01, .ref k02, .ref k03, .ref k04, .ref k05, .int c06, .int c07, .int c08])), (kb, .inl (cI, 6, .inl cb)), (k05, .inr (3, [.ref k050, .int sc1_109])), (k050, .inl (cI, 36, .inl sc0_120))] H := hP
                      replace hD : va_D A [(k, .inr (10, [.ref k0, .ref k1, .ref k2, .ref k3, .ref k4, .ref k5, .ref k6, .ref k7, .ref k8, .ref k9, .ref ka, .ref kb, .int cc])), (k0, .inr (9, [.ref k00, .ref k01, .ref k02, .ref k03, .ref k04, .ref k05, .int c06, .int c07, .int c08])), (kb, .inl (cI, 6, .inl cb)), (k05, .inr (3, [.ref k050, .int sc1_109])), (k050, .inl (cI, 36, .inl sc0_120))] := hD
                      refine lv_aload_n hx hb dX10_party_116 rfl (lv_at hl 2 rfl) ?_
                      refine va_get (D := D) (ci := 10) (v := .ref k0) (C := RX10) (T := TX10) (N := 13) hx hb hT giX10 hown hK hP 0 rfl rfl 0 (by decide) (hT (Cond.fieldLink RX10 12 "DesertWire" "now" "LDesertWire$World;") mw_291) (fun _ h9 => h9) rfl dX10_party_117 ?_
                      refine va_get (D := D) (ci := 9) (v := .ref k05) (C := RX9) (T := TX9) (N := 9) hx hb hT giX9 hown hK hP 1 rfl rfl 5 (by decide) (hT (Cond.fieldLink RX10 193 "DesertWire$World" "parties" "LDesertWire$Parties;") mw_102) (fun _ h9 => h9) rfl dX10_party_120 ?_
                      refine lv_iload hx hb dX10_party_123 (lv_at hl 0 rfl) ?_
                      refine lv_iconst (v := 1) hx hb dX10_party_125 (by decide) ?_
                      refine lv_iload_n hx hb dX10_party_126 rfl (lv_at hl 4 rfl) ?_
                      refine kJv (wr := [(k, .inr (10, [.ref k0, .ref k1, .ref k2, .ref k3, .ref k4, .ref k5, .ref k6, .ref k7, .ref k8, .ref k9, .ref ka, .ref kb, .int cc])), (k0, .inr (9, [.ref k00, .ref k01, .ref k02, .ref k03, .ref k04, .ref k05, .int c06, .int c07, .int c08])), (kb, .inl (cI, 6, .inl cb))]) (va_runV (As := [.int r_107, .int 1, .int a1]) (rest := []) ⟨hx, hb, hml, hown, hT⟩ (c_X3_setG l D cI aK aV k05 k050 H.size sc1_109 sc0_120 r_107 1 a1) (cwV 3 hT (gV_in mw_713 mw_710 mw_711 mw_712 mw_4) rfl rfl rfl (by decide +kernel) ⟨Nat.le_of_ble_eq_true rfl, Nat.le_of_ble_eq_true rfl⟩) (kRecvX (q0 := 3) (ci := 3) hK hP hD hN hXS hS hA rfl rfl [3, 4] rfl (by decide)) rfl rfl hl.1 rfl (lv_room (Nat.le_of_ble_eq_true rfl)) dX10_party_127 ⟨Nat.le_of_ble_eq_true rfl, Nat.le_of_ble_eq_true rfl⟩) hP hD hS hA [3, 4] [0, 1, 2] rfl rfl (by decide) (by decide) ?_
                      clear hP hD hS
                      intro sc0_123 H locs w_122 hP hD hS
                      replace hP : va_P D vwCl [(k, .inr (10, [.ref k0, .ref k1, .ref k2, .ref k3, .ref k4, .ref k5, .ref k6, .ref k7, .ref k8, .ref k9, .ref ka, .ref kb, .int cc])), (k0, .inr (9, [.ref k00, .ref k01, .ref k02, .ref k03, .ref k04, .ref k05, .int c06, .int c07, .int c08])), (kb, .inl (cI, 6, .inl cb)), (k05, .inr (3, [.ref k050, .int sc1_109])), (k050, .inl (cI, 36, .inl sc0_123))] H := hP
                      replace hD : va_D A [(k, .inr (10, [.ref k0, .ref k1, .ref k2, .ref k3, .ref k4, .ref k5, .ref k6, .ref k7, .ref k8, .ref k9, .ref ka, .ref kb, .int cc])), (k0, .inr (9, [.ref k00, .ref k01, .ref k02, .ref k03, .ref k04, .ref k05, .int c06, .int c07, .int c08])), (kb, .inl (cI, 6, .inl cb)), (k05, .inr (3, [.ref k050, .int sc1_109])), (k050, .inl (cI, 36, .inl sc0_123))] := hD
                      refine lv_aload_n hx hb dX10_party_130 rfl (lv_at hl 2 rfl) ?_
                      refine va_get (D := D) (ci := 10) (v := .ref k0) (C := RX10) (T := TX10) (N := 13) hx hb hT giX10 hown hK hP 0 rfl rfl 0 (by decide) (hT (Cond.fieldLink RX10 12 "DesertWire" "now" "LDesertWire$World;") mw_291) (fun _ h9 => h9) rfl dX10_party_131 ?_
                      refine va_get (D := D) (ci := 9) (v := .ref k05) (C := RX9) (T := TX9) (N := 9) hx hb hT giX9 hown hK hP 1 rfl rfl 5 (by decide) (hT (Cond.fieldLink RX10 193 "DesertWire$World" "parties" "LDesertWire$Parties;") mw_102) (fun _ h9 => h9) rfl dX10_party_134 ?_
                      refine lv_iload hx hb dX10_party_137 (lv_at hl 0 rfl) ?_
                      refine lv_iconst (v := 2) hx hb dX10_party_139 (by decide) ?_
                      refine lv_iload_n hx hb dX10_party_140 rfl (lv_at hl 5 rfl) ?_
                      refine lv_bipush (v := 100) hx hb dX10_party_141 (by decide) ?_
                      refine lv_idiv hx hb dX10_party_143 (by decide) ?_
                      refine lv_topi (fun v_124 ev_124 => ?_)
                      have tv_124 : v_124.toInt = a2.toInt / 100 := k_divv (w := 0) ev_124 zl_100 (by omega) (by decide)
                      have lo_v_124 := k_lo v_124
                      have hi_v_124 := k_hi v_124
                      refine kJv (wr := [(k, .inr (10, [.ref k0, .ref k1, .ref k2, .ref k3, .ref k4, .ref k5, .ref k6, .ref k7, .ref k8, .ref k9, .ref ka, .ref kb, .int cc])), (k0, .inr (9, [.ref k00, .ref k01, .ref k02, .ref k03, .ref k04, .ref k05, .int c06, .int c07, .int c08])), (kb, .inl (cI, 6, .inl cb))]) (va_runV (As := [.int r_107, .int 2, .int v_124]) (rest := []) ⟨hx, hb, hml, hown, hT⟩ (c_X3_setG l D cI aK aV k05 k050 H.size sc1_109 sc0_123 r_107 2 v_124) (cwV 3 hT (gV_in mw_713 mw_710 mw_711 mw_712 mw_4) rfl rfl rfl (by decide +kernel) ⟨Nat.le_of_ble_eq_true rfl, Nat.le_of_ble_eq_true rfl⟩) (kRecvX (q0 := 3) (ci := 3) hK hP hD hN hXS hS hA rfl rfl [3, 4] rfl (by decide)) rfl rfl hl.1 rfl (lv_room (Nat.le_of_ble_eq_true rfl)) dX10_party_144 ⟨Nat.le_of_ble_eq_true rfl, Nat.le_of_ble_eq_true rfl⟩) hP hD hS hA [3, 4] [0, 1, 2] rfl rfl (by decide) (by decide) ?_
                      clear hP hD hS
                      intro sc0_127 H locs w_126 hP hD hS
                      replace hP : va_P D vwCl [(k, .inr (10, [.ref k0, .ref k1, .ref k2, .ref k3, .ref k4, .ref k5, .ref k6, .ref k7, .ref k8, .ref k9, .ref ka, .ref kb, .int cc])), (k0, .inr (9, [.ref k00, .ref k01, .ref k02, .ref k03, .ref k04, .ref k05, .int c06, .int c07, .int c08])), (kb, .inl (cI, 6, .inl cb)), (k05, .inr (3, [.ref k050, .int sc1_109])), (k050, .inl (cI, 36, .inl sc0_127))] H := hP
                      replace hD : va_D A [(k, .inr (10, [.ref k0, .ref k1, .ref k2, .ref k3, .ref k4, .ref k5, .ref k6, .ref k7, .ref k8, .ref k9, .ref ka, .ref kb, .int cc])), (k0, .inr (9, [.ref k00, .ref k01, .ref k02, .ref k03, .ref k04, .ref k05, .int c06, .int c07, .int c08])), (kb, .inl (cI, 6, .inl cb)), (k05, .inr (3, [.ref k050, .int sc1_109])), (k050, .inl (cI, 36, .inl sc0_127))] := hD
                      refine lv_aload_n hx hb dX10_party_147 rfl (lv_at hl 2 rfl) ?_
                      refine va_get (D := D) (ci := 10) (v := .ref k0) (C := RX10) (T := TX10) (N := 13) hx hb hT giX10 hown hK hP 0 rfl rfl 0 (by decide) (hT (Cond.fieldLink RX10 12 "DesertWire" "now" "LDesertWire$World;") mw_291) (fun _ h9 => h9) rfl dX10_party_148 ?_
                      refine va_get (D := D) (ci := 9) (v := .ref k05) (C := RX9) (T := TX9) (N := 9) hx hb hT giX9 hown hK hP 1 rfl rfl 5 (by decide) (hT (Cond.fieldLink RX10 193 "DesertWire$World" "parties" "LDesertWire$Parties;") mw_102) (fun _ h9 => h9) rfl dX10_party_151 ?_
                      refine lv_iload hx hb dX10_party_154 (lv_at hl 0 rfl) ?_
                      refine lv_iconst (v := 3) hx hb dX10_party_156 (by decide) ?_
                      refine lv_iload_n hx hb dX10_party_157 rfl (lv_at hl 5 rfl) ?_
                      refine lv_bipush (v := 100) hx hb dX10_party_158 (by decide) ?_
                      refine lv_irem hx hb dX10_party_160 (by decide) ?_
                      refine lv_topi (fun v_128 ev_128 => ?_)
                      have tv_128 : v_128.toInt = a2.toInt % 100 := k_remv (w := 0) ev_128 zl_100 (by omega) (by decide)
                      have lo_v_128 := k_lo v_128
                      have hi_v_128 := k_hi v_128
                      refine kJv (wr := [(k, .inr (10, [.ref k0, .ref k1, .ref k2, .ref k3, .ref k4, .ref k5, .ref k6, .ref k7, .ref k8, .ref k9, .ref ka, .ref kb, .int cc])), (k0, .inr (9, [.ref k00, .ref k01, .ref k02, .ref k03, .ref k04, .ref k05, .int c06, .int c07, .int c08])), (kb, .inl (cI, 6, .inl cb))]) (va_runV (As := [.int r_107, .int 3, .int v_128]) (rest := []) ⟨hx, hb, hml, hown, hT⟩ (c_X3_setG l D cI aK aV k05 k050 H.size sc1_109 sc0_127 r_107 3 v_128) (cwV 3 hT (gV_in mw_713 mw_710 mw_711 mw_712 mw_4) rfl rfl rfl (by decide +kernel) ⟨Nat.le_of_ble_eq_true rfl, Nat.le_of_ble_eq_true rfl⟩) (kRecvX (q0 := 3) (ci := 3) hK hP hD hN hXS hS hA rfl rfl [3, 4] rfl (by decide)) rfl rfl hl.1 rfl (lv_room (Nat.le_of_ble_eq_true rfl)) dX10_party_161 ⟨Nat.le_of_ble_eq_true rfl, Nat.le_of_ble_eq_true rfl⟩) hP hD hS hA [3, 4] [0, 1, 2] rfl rfl (by decide) (by decide) ?_
                      clear hP hD hS
                      intro sc0_131 H locs w_130 hP hD hS
                      replace hP : va_P D vwCl [(k, .inr (10, [.ref k0, .ref k1, .ref k2, .ref k3, .ref k4, .ref k5, .ref k6, .ref k7, .ref k8, .ref k9, .ref ka, .ref kb, .int cc])), (k0, .inr (9, [.ref k00, .ref k01, .ref k02, .ref k03, .ref k04, .ref k05, .int c06, .int c07, .int c08])), (kb, .inl (cI, 6, .inl cb)), (k05, .inr (3, [.ref k050, .int sc1_109])), (k050, .inl (cI, 36, .inl sc0_131))] H := hP
                      replace hD : va_D A [(k, .inr (10, [.ref k0, .ref k1, .ref k2, .ref k3, .ref k4, .ref k5, .ref k6, .ref k7, .ref k8, .ref k9, .ref ka, .ref kb, .int cc])), (k0, .inr (9, [.ref k00, .ref k01, .ref k02, .ref k03, .ref k04, .ref k05, .int c06, .int c07, .int c08])), (kb, .inl (cI, 6, .inl cb)), (k05, .inr (3, [.ref k050, .int sc1_109])), (k050, .inl (cI, 36, .inl sc0_131))] := hD
                      refine lv_aload_n hx hb dX10_party_164 rfl (lv_at hl 2 rfl) ?_
                      refine va_get (D := D) (ci := 10) (v := .ref k0) (C := RX10) (T := TX10) (N := 13) hx hb hT giX10 hown hK hP 0 rfl rfl 0 (by decide) (hT (Cond.fieldLink RX10 12 "DesertWire" "now" "LDesertWire$World;") mw_291) (fun _ h9 => h9) rfl dX10_party_165 ?_
                      refine va_get (D := D) (ci := 9) (v := .ref k05) (C := RX9) (T := TX9) (N := 9) hx hb hT giX9 hown hK hP 1 rfl rfl 5 (by decide) (hT (Cond.fieldLink RX10 193 "DesertWire$World" "parties" "LDesertWire$Parties;") mw_102) (fun _ h9 => h9) rfl dX10_party_168 ?_
                      refine lv_iload hx hb dX10_party_171 (lv_at hl 0 rfl) ?_
                      refine lv_iconst (v := 4) hx hb dX10_party_173 (by decide) ?_
                      refine lv_iload hx hb dX10_party_174 (lv_at hl 6 rfl) ?_
                      refine kJv (wr := [(k, .inr (10, [.ref k0, .ref k1, .ref k2, .ref k3, .ref k4, .ref k5, .ref k6, .ref k7, .ref k8, .ref k9, .ref ka, .ref kb, .int cc])), (k0, .inr (9, [.ref k00, .ref k01, .ref k02, .ref k03, .ref k04, .ref k05, .int c06, .int c07, .int c08])), (kb, .inl (cI, 6, .inl cb))]) (va_runV (As := [.int r_107, .int 4, .int a3]) (rest := []) ⟨hx, hb, hml, hown, hT⟩ (c_X3_setG l D cI aK aV k05 k050 H.size sc1_109 sc0_131 r_107 4 a3) (cwV 3 hT (gV_in mw_713 mw_710 mw_711 mw_712 mw_4) rfl rfl rfl (by decide +kernel) ⟨Nat.le_of_ble_eq_true rfl, Nat.le_of_ble_eq_true rfl⟩) (kRecvX (q0 := 3) (ci := 3) hK hP hD hN hXS hS hA rfl rfl [3, 4] rfl (by decide)) rfl rfl hl.1 rfl (lv_room (Nat.le_of_ble_eq_true rfl)) dX10_party_176 ⟨Nat.le_of_ble_eq_true rfl, Nat.le_of_ble_eq_true rfl⟩) hP hD hS hA [3, 4] [0, 1, 2] rfl rfl (by decide) (by decide) ?_
                      clear hP hD hS
                      intro sc0_134 H locs w_133 hP hD hS
                      replace hP : va_P D vwCl [(k, .inr (10, [.ref k0, .ref k1, .ref k2, .ref k3, .ref k4, .ref k5, .ref k6, .ref k7, .ref k8, .ref k9, .ref ka, .ref kb, .int cc])), (k0, .inr (9, [.ref k00, .ref k01, .ref k02, .ref k03, .ref k04, .ref k05, .int c06, .int c07, .int c08])), (kb, .inl (cI, 6, .inl cb)), (k05, .inr (3, [.ref k050, .int sc1_109])), (k050, .inl (cI, 36, .inl sc0_134))] H := hP
                      replace hD : va_D A [(k, .inr (10, [.ref k0, .ref k1, .ref k2, .ref k3, .ref k4, .ref k5, .ref k6, .ref k7, .ref k8, .ref k9, .ref ka, .ref kb, .int cc])), (k0, .inr (9, [.ref k00, .ref k01, .ref k02, .ref k03, .ref k04, .ref k05, .int c06, .int c07, .int c08])), (kb, .inl (cI, 6, .inl cb)), (k05, .inr (3, [.ref k050, .int sc1_109])), (k050, .inl (cI, 36, .inl sc0_134))] := hD
                      refine lv_iload hx hb dX10_party_179 (lv_at hl 0 rfl) ?_
                      exact hRet (cb, sc1_109, sc0_134) [0, 1, 2, 3, 4] ⟨(by (try dsimp only); unfold partyR; (repeat (first | rw [if_pos (by omega)] | rw [if_neg (by omega)])); first | done | exact k_inj (by omega)), (by (try dsimp only); unfold partyN; (repeat (first | rw [if_pos (by omega)] | rw [if_neg (by omega)])); first | done | exact (by omega))⟩ hP hD (by decide) rfl hS rfl dX10_party_181
                    · exfalso; omega
                  · have h_105 : c051.toInt < 0 ∨ 4 ≤ c051.toInt := h_105
                    obtain rfl : r_100 = 0 := hr_100.trans (by decide)
                    refine b_if_ne hx hb zl_0 (tgt := 90) dX10_party_81 (by decide) (fun c_135 => by exfalso; omega) (fun c_135 => ?_)
                    refine lv_aload_n hx hb dX10_party_84 rfl (lv_at hl 1 rfl) ?_
                    refine lv_iconst (v := 4) hx hb dX10_party_85 (by decide) ?_
                    refine kJi (wr := [(k0, .inr (9, [.ref k00, .ref k01, .ref k02, .ref k03, .ref k04, .ref k05, .int c06, .int c07, .int c08])), (k050, .inl (cI, 36, .inl c050)), (k05, .inr (3, [.ref k050, .int c051]))]) (va_runV (As := [.int 4]) (rest := []) ⟨hx, hb, hml, hown, hT⟩ (c_X10_findingG l D cI aK aV k k0 k1 k2 k3 k4 k5 k6 k7 k8 k9 ka kb H.size cc cb 4) (cwV 1 hT (gV_in mw_338 mw_335 mw_337 mw_p1_0 mw_1) rfl rfl rfl (by decide +kernel) ⟨Nat.le_of_ble_eq_true rfl, Nat.le_of_ble_eq_true rfl⟩) (kRecvX (q0 := 0) (ci := 10) hK hP hD hN hXS hS hA rfl rfl [0, 2] rfl (by decide)) rfl rfl hl.1 rfl (lv_room (Nat.le_of_ble_eq_true rfl)) dX10_party_86 ⟨Nat.le_of_ble_eq_true rfl, Nat.le_of_ble_eq_true rfl⟩) hP hD hS hA [0, 2] [1, 3, 4] rfl rfl (by decide) (by decide) ?_
                    clear hP hD hS
                    intro r_136 scb_138 H locs w_137 hP hD hS
                    replace hP : va_P D vwCl [(k0, .inr (9, [.ref k00, .ref k01, .ref k02, .ref k03, .ref k04, .ref k05, .int c06, .int c07, .int c08])), (k050, .inl (cI, 36, .inl c050)), (k05, .inr (3, [.ref k050, .int c051])), (k, .inr (10, [.ref k0, .ref k1, .ref k2, .ref k3, .ref k4, .ref k5, .ref k6, .ref k7, .ref k8, .ref k9, .ref ka, .ref kb, .int cc])), (kb, .inl (cI, 6, .inl scb_138))] H := hP
                    replace hD : va_D A [(k0, .inr (9, [.ref k00, .ref k01, .ref k02, .ref k03, .ref k04, .ref k05, .int c06, .int c07, .int c08])), (k050, .inl (cI, 36, .inl c050)), (k05, .inr (3, [.ref k050, .int c051])), (k, .inr (10, [.ref k0, .ref k1, .ref k2, .ref k3, .ref k4, .ref k5, .ref k6, .ref k7, .ref k8, .ref k9, .ref ka, .ref kb, .int cc])), (kb, .inl (cI, 6, .inl scb_138))] := hD
                    have hr_136 := w_137
                    obtain rfl : r_136 = (-1000004) := hr_136.trans (by decide)
                    exact hRet (scb_138, c051, c050) [3, 0, 4, 2, 1] ⟨(by (try dsimp only); unfold partyR; (repeat (first | rw [if_pos (by omega)] | rw [if_neg (by omega)]))), (by (try dsimp only); unfold partyN; (repeat (first | rw [if_pos (by omega)] | rw [if_neg (by omega)])); first | done | exact (by omega))⟩ hP hD (by decide) rfl hS rfl dX10_party_89
                · refine lv_aload_n hx hb dX10_party_65 rfl (lv_at hl 1 rfl) ?_
                  refine lv_iconst (v := 1) hx hb dX10_party_66 (by decide) ?_
                  refine kJi (wr := [(k0, .inr (9, [.ref k00, .ref k01, .ref k02, .ref k03, .ref k04, .ref k05, .int c06, .int c07, .int c08])), (k05, .inr (3, [.ref k050, .int c051])), (k050, .inl (cI, 36, .inl c050))]) (va_runV (As := [.int 1]) (rest := []) ⟨hx, hb, hml, hown, hT⟩ (c_X10_findingG l D cI aK aV k k0 k1 k2 k3 k4 k5 k6 k7 k8 k9 ka kb H.size cc cb 1) (cwV 1 hT (gV_in mw_338 mw_335 mw_337 mw_p1_0 mw_1) rfl rfl rfl (by decide +kernel) ⟨Nat.le_of_ble_eq_true rfl, Nat.le_of_ble_eq_true rfl⟩) (kRecvX (q0 := 0) (ci := 10) hK hP hD hN hXS hS hA rfl rfl [0, 2] rfl (by decide)) rfl rfl hl.1 rfl (lv_room (Nat.le_of_ble_eq_true rfl)) dX10_party_67 ⟨Nat.le_of_ble_eq_true rfl, Nat.le_of_ble_eq_true rfl⟩) hP hD hS hA [0, 2] [1, 3, 4] rfl rfl (by decide) (by decide) ?_
                  clear hP hD hS
                  intro r_139 scb_141 H locs w_140 hP hD hS
                  replace hP : va_P D vwCl [(k0, .inr (9, [.ref k00, .ref k01, .ref k02, .ref k03, .ref k04, .ref k05, .int c06, .int c07, .int c08])), (k05, .inr (3, [.ref k050, .int c051])), (k050, .inl (cI, 36, .inl c050)), (k, .inr (10, [.ref k0, .ref k1, .ref k2, .ref k3, .ref k4, .ref k5, .ref k6, .ref k7, .ref k8, .ref k9, .ref ka, .ref kb, .int cc])), (kb, .inl (cI, 6, .inl scb_141))] H := hP
                  replace hD : va_D A [(k0, .inr (9, [.ref k00, .ref k01, .ref k02, .ref k03, .ref k04, .ref k05, .int c06, .int c07, .int c08])), (k05, .inr (3, [.ref k050, .int c051])), (k050, .inl (cI, 36, .inl c050)), (k, .inr (10, [.ref k0, .ref k1, .ref k2, .ref k3, .ref k4, .ref k5, .ref k6, .ref k7, .ref k8, .ref k9, .ref ka, .ref kb, .int cc])), (kb, .inl (cI, 6, .inl scb_141))] := hD
                  have hr_139 := w_140
                  obtain rfl : r_139 = (-1000001) := hr_139.trans (by decide)
                  exact hRet (scb_141, c051, c050) [3, 0, 4, 1, 2] ⟨(by (try dsimp only); unfold partyR; (repeat (first | rw [if_pos (by omega)] | rw [if_neg (by omega)]))), (by (try dsimp only); unfold partyN; (repeat (first | rw [if_pos (by omega)] | rw [if_neg (by omega)])); first | done | exact (by omega))⟩ hP hD (by decide) rfl hS rfl dX10_party_70
  · have h_6 : a0.toInt < 0 ∨ 39 < a0.toInt := h_6
    obtain rfl : r_1 = 0 := hr_1.trans (by decide)
    refine b_if_eq hx hb zl_0 (tgt := 33) dX10_party_4 (by decide) (fun c_142 => ?_) (fun c_142 => by exfalso; omega)
    refine lv_iconst (v := 0) hx hb dX10_party_33 (by decide) ?_
    refine lv_istore (lv' := [(5, .int 0), (0, .ref k), (1, .int a0), (2, .int a1), (3, .int a2), (4, .int a3)]) hx hb dX10_party_34 hl (by decide) rfl ?_
    clear hl
    intro ls hl
    refine lv_iload hx hb dX10_party_36 (lv_at hl 0 rfl) ?_
    refine b_if_eq hx hb zl_0 (tgt := 65) dX10_party_38 (by decide) (fun c_143 => ?_) (fun c_143 => by exfalso; omega)
    refine lv_aload_n hx hb dX10_party_65 rfl (lv_at hl 1 rfl) ?_
    refine lv_iconst (v := 1) hx hb dX10_party_66 (by decide) ?_
    refine kJi (wr := [(k0, .inr (9, [.ref k00, .ref k01, .ref k02, .ref k03, .ref k04, .ref k05, .int c06, .int c07, .int c08])), (k05, .inr (3, [.ref k050, .int c051])), (k050, .inl (cI, 36, .inl c050))]) (va_runV (As := [.int 1]) (rest := []) ⟨hx, hb, hml, hown, hT⟩ (c_X10_findingG l D cI aK aV k k0 k1 k2 k3 k4 k5 k6 k7 k8 k9 ka kb H.size cc cb 1) (cwV 1 hT (gV_in mw_338 mw_335 mw_337 mw_p1_0 mw_1) rfl rfl rfl (by decide +kernel) ⟨Nat.le_of_ble_eq_true rfl, Nat.le_of_ble_eq_true rfl⟩) (kRecvX (q0 := 0) (ci := 10) hK hP hD hN hXS hS hA rfl rfl [0, 2] rfl (by decide)) rfl rfl hl.1 rfl (lv_room (Nat.le_of_ble_eq_true rfl)) dX10_party_67 ⟨Nat.le_of_ble_eq_true rfl, Nat.le_of_ble_eq_true rfl⟩) hP hD hS hA [0, 2] [1, 3, 4] rfl rfl (by decide) (by decide) ?_
    clear hP hD hS
    intro r_144 scb_146 H locs w_145 hP hD hS
    replace hP : va_P D vwCl [(k0, .inr (9, [.ref k00, .ref k01, .ref k02, .ref k03, .ref k04, .ref k05, .int c06, .int c07, .int c08])), (k05, .inr (3, [.ref k050, .int c051])), (k050, .inl (cI, 36, .inl c050)), (k, .inr (10, [.ref k0, .ref k1, .ref k2, .ref k3, .ref k4, .ref k5, .ref k6, .ref k7, .ref k8, .ref k9, .ref ka, .ref kb, .int cc])), (kb, .inl (cI, 6, .inl scb_146))] H := hP
    replace hD : va_D A [(k0, .inr (9, [.ref k00, .ref k01, .ref k02, .ref k03, .ref k04, .ref k05, .int c06, .int c07, .int c08])), (k05, .inr (3, [.ref k050, .int c051])), (k050, .inl (cI, 36, .inl c050)), (k, .inr (10, [.ref k0, .ref k1, .ref k2, .ref k3, .ref k4, .ref k5, .ref k6, .ref k7, .ref k8, .ref k9, .ref ka, .ref kb, .int cc])), (kb, .inl (cI, 6, .inl scb_146))] := hD
    have hr_144 := w_145
    obtain rfl : r_144 = (-1000001) := hr_144.trans (by decide)
    exact hRet (scb_146, c051, c050) [3, 0, 4, 1, 2] ⟨(by (try dsimp only); unfold partyR; (repeat (first | rw [if_pos (by omega)] | rw [if_neg (by omega)]))), (by (try dsimp only); unfold partyN; (repeat (first | rw [if_pos (by omega)] | rw [if_neg (by omega)])); first | done | exact (by omega))⟩ hP hD (by decide) rfl hS rfl dX10_party_70
theorem dX10_partyIs_0 : decode cX10_partyIs 0 = .ok (.aload_n 0, 1) := by decide +kernel
theorem dX10_partyIs_1 : decode cX10_partyIs 1 = .ok (.getfield 12, 3) := by decide +kernel
theorem dX10_partyIs_4 : decode cX10_partyIs 4 = .ok (.getfield 193, 3) := by decide +kernel
theorem dX10_partyIs_7 : decode cX10_partyIs 7 = .ok (.iload_n 1, 1) := by decide +kernel
theorem dX10_partyIs_8 : decode cX10_partyIs 8 = .ok (.invokevirtual 207, 3) := by decide +kernel
theorem dX10_partyIs_11 : decode cX10_partyIs 11 = .ok (.ifCond .eq 13, 3) := by decide +kernel
theorem dX10_partyIs_14 : decode cX10_partyIs 14 = .ok (.iload_n 2, 1) := by decide +kernel
theorem dX10_partyIs_15 : decode cX10_partyIs 15 = .ok (.ifCond .lt 9, 3) := by decide +kernel
theorem dX10_partyIs_18 : decode cX10_partyIs 18 = .ok (.iload_n 2, 1) := by decide +kernel
theorem dX10_partyIs_19 : decode cX10_partyIs 19 = .ok (.bipush 9, 2) := by decide +kernel
theorem dX10_partyIs_21 : decode cX10_partyIs 21 = .ok (.if_icmp .lt 9, 3) := by decide +kernel
theorem dX10_partyIs_24 : decode cX10_partyIs 24 = .ok (.aload_n 0, 1) := by decide +kernel
theorem dX10_partyIs_25 : decode cX10_partyIs 25 = .ok (.iconst 1, 1) := by decide +kernel
theorem dX10_partyIs_26 : decode cX10_partyIs 26 = .ok (.invokevirtual 82, 3) := by decide +kernel
theorem dX10_partyIs_29 : decode cX10_partyIs 29 = .ok (.ireturn, 1) := by decide +kernel
theorem dX10_partyIs_30 : decode cX10_partyIs 30 = .ok (.aload_n 0, 1) := by decide +kernel
theorem dX10_partyIs_31 : decode cX10_partyIs 31 = .ok (.getfield 12, 3) := by decide +kernel
theorem dX10_partyIs_34 : decode cX10_partyIs 34 = .ok (.getfield 193, 3) := by decide +kernel
theorem dX10_partyIs_37 : decode cX10_partyIs 37 = .ok (.iload_n 1, 1) := by decide +kernel
theorem dX10_partyIs_38 : decode cX10_partyIs 38 = .ok (.iload_n 2, 1) := by decide +kernel
theorem dX10_partyIs_39 : decode cX10_partyIs 39 = .ok (.invokevirtual 208, 3) := by decide +kernel
theorem dX10_partyIs_42 : decode cX10_partyIs 42 = .ok (.ireturn, 1) := by decide +kernel
set_option maxHeartbeats 4000000 in
set_option maxRecDepth 100000 in
theorem c_X10_partyIsG (l : Launch) (D : va_G) (cI : ClassId) (aK aV : Nat → Nat) (k k0 k1 k2 k3 k4 k5 k6 k7 k8 k9 ka kb k00 k01 k02 k03 k04 k05 k050 : Nat) (sz : Nat) (cc : Int32) (c06 : Int32) (c07 : Int32) (c08 : Int32) (cb : Nat → Int32) (c051 : Int32) (c050 : Nat → Int32) (a0 : Int32) (a1 : Int32) : Met l yX10_partyIs (gW yX10_partyIs cX10_partyIs 3 (some .int)) ({ frames := 2, cells := 0, slots := 0, locals := 43 } : Room) (kPreX D cI aK aV [.ref k, .int a0, .int a1] [(k, .inr (10, [.ref k0, .ref k1, .ref k2, .ref k3, .ref k4, .ref k5, .ref k6, .ref k7, .ref k8, .ref k9, .ref ka, .ref kb, .int cc])), (k0, .inr (9, [.ref k00, .ref k01, .ref k02, .ref k03, .ref k04, .ref k05, .int c06, .int c07, .int c08])), (kb, .inl (cI, 6, .inl cb)), (k05, .inr (3, [.ref k050, .int c051])), (k050, .inl (cI, 36, .inl c050))] sz) (va_Qi (fun (r : Int32) (u : (Nat → Int32)) => True) (fun u t => kWd D cI (va_A [(k, .inr (10, [.ref k0, .ref k1, .ref k2, .ref k3, .ref k4, .ref k5, .ref k6, .ref k7, .ref k8, .ref k9, .ref ka, .ref kb, .int cc])), (k0, .inr (9, [.ref k00, .ref k01, .ref k02, .ref k03, .ref k04, .ref k05, .int c06, .int c07, .int c08])), (kb, .inl (cI, 6, .inl cb)), (k05, .inr (3, [.ref k050, .int c051])), (k050, .inl (cI, 36, .inl c050))] sz) [(k, .inr (10, [.ref k0, .ref k1, .ref k2, .ref k3, .ref k4, .ref k5, .ref k6, .ref k7, .ref k8, .ref k9, .ref ka, .ref kb, .int cc])), (k0, .inr (9, [.ref k00, .ref k01, .ref k02, .ref k03, .ref k04, .ref k05, .int c06, .int c07, .int c08])), (kb, .inl (cI, 6, .inl u)), (k05, .inr (3, [.ref k050, .int c051])), (k050, .inl (cI, 36, .inl c050))] t) (va_A [(k, .inr (10, [.ref k0, .ref k1, .ref k2, .ref k3, .ref k4, .ref k5, .ref k6, .ref k7, .ref k8, .ref k9, .ref ka, .ref kb, .int cc])), (k0, .inr (9, [.ref k00, .ref k01, .ref k02, .ref k03, .ref k04, .ref k05, .int c06, .int c07, .int c08])), (kb, .inl (cI, 6, .inl cb)), (k05, .inr (3, [.ref k050, .int c051])), (k050, .inl (cI, 36, .inl c050))] sz)) 0 0 (va_A [(k, .inr (10, [.ref k0, .ref k1, .ref k2, .ref k3, .ref k4, .ref k5, .ref k6, .ref k7, .ref k8, .ref k9, .ref ka, .ref kb, .int cc])), (k0, .inr (9, [.ref k00, .ref k01, .ref k02, .ref k03, .ref k04, .ref k05, .int c06, .int c07, .int c08])), (kb, .inl (cI, 6, .inl cb)), (k05, .inr (3, [.ref k050, .int c051])), (k050, .inl (cI, 36, .inl c050))] sz) := by
  refine kMetIX (own := RX10) (by decide) rfl (Nat.le_of_ble_eq_true rfl) ?_
  intro p e s m args below meth c hx hb hT hown hname hml A Q hK hP hD hS hA hN hXS hRet ls hl
  have hl : lv_has ls 3 [(0, .ref k), (1, .int a0), (2, .int a1)] := hl
  have lo_a0 := k_lo a0
  have hi_a0 := k_hi a0
  have lo_a1 := k_lo a1
  have hi_a1 := k_hi a1
  have lo_c051 := k_lo c051
  have hi_c051 := k_hi c051
  refine lv_aload_n hx hb dX10_partyIs_0 rfl (lv_at hl 0 rfl) ?_
  refine va_get (D := D) (ci := 10) (v := .ref k0) (C := RX10) (T := TX10) (N := 13) hx hb hT giX10 hown hK hP 0 rfl rfl 0 (by decide) (hT (Cond.fieldLink RX10 12 "DesertWire" "now" "LDesertWire$World;") mw_291) (fun _ h9 => h9) rfl dX10_partyIs_1 ?_
  refine va_get (D := D) (ci := 9) (v := .ref k05) (C := RX9) (T := TX9) (N := 9) hx hb hT giX9 hown hK hP 1 rfl rfl 5 (by decide) (hT (Cond.fieldLink RX10 193 "DesertWire$World" "parties" "LDesertWire$Parties;") mw_102) (fun _ h9 => h9) rfl dX10_partyIs_4 ?_
  refine lv_iload_n hx hb dX10_partyIs_7 rfl (lv_at hl 1 rfl) ?_
  refine kJi (wr := [(k, .inr (10, [.ref k0, .ref k1, .ref k2, .ref k3, .ref k4, .ref k5, .ref k6, .ref k7, .ref k8, .ref k9, .ref ka, .ref kb, .int cc])), (k0, .inr (9, [.ref k00, .ref k01, .ref k02, .ref k03, .ref k04, .ref k05, .int c06, .int c07, .int c08])), (kb, .inl (cI, 6, .inl cb)), (k050, .inl (cI, 36, .inl c050))]) (va_runV (As := [.int a0]) (rest := []) ⟨hx, hb, hml, hown, hT⟩ (c_X3_hasG l D cI aK aV k05 k050 s.heap.size c051 a0) (cwV 1 hT (gV_in mw_717 mw_722 mw_715 mw_716 mw_4) rfl rfl rfl (by decide +kernel) ⟨Nat.le_of_ble_eq_true rfl, Nat.le_of_ble_eq_true rfl⟩) (kRecvX (q0 := 3) (ci := 3) hK hP hD hN hXS hS hA rfl rfl [3] rfl (by decide)) rfl rfl hl.1 rfl (lv_room (Nat.le_of_ble_eq_true rfl)) dX10_partyIs_8 ⟨Nat.le_of_ble_eq_true rfl, Nat.le_of_ble_eq_true rfl⟩) hP hD hS hA [3] [0, 1, 2, 4] rfl rfl (by decide) (by decide) ?_
  clear hP hD hS
  intro r_1 u_3 H locs w_2 hP hD hS
  replace hP : va_P D vwCl [(k, .inr (10, [.ref k0, .ref k1, .ref k2, .ref k3, .ref k4, .ref k5, .ref k6, .ref k7, .ref k8, .ref k9, .ref ka, .ref kb, .int cc])), (k0, .inr (9, [.ref k00, .ref k01, .ref k02, .ref k03, .ref k04, .ref k05, .int c06, .int c07, .int c08])), (kb, .inl (cI, 6, .inl cb)), (k050, .inl (cI, 36, .inl c050)), (k05, .inr (3, [.ref k050, .int c051]))] H := hP
  replace hD : va_D A [(k, .inr (10, [.ref k0, .ref k1, .ref k2, .ref k3, .ref k4, .ref k5, .ref k6, .ref k7, .ref k8, .ref k9, .ref ka, .ref kb, .int cc])), (k0, .inr (9, [.ref k00, .ref k01, .ref k02, .ref k03, .ref k04, .ref k05, .int c06, .int c07, .int c08])), (kb, .inl (cI, 6, .inl cb)), (k050, .inl (cI, 36, .inl c050)), (k05, .inr (3, [.ref k050, .int c051]))] := hD
  rcases w_2 with ⟨hr_1, h_4, h_5, h_6⟩ | ⟨hr_1, h_7⟩
  · have h_4 : 0 ≤ a0.toInt := h_4
    have h_5 : a0.toInt < c051.toInt := h_5
    have h_6 : a0.toInt < 4 := h_6
    obtain rfl : r_1 = 1 := hr_1.trans (by decide)
    refine b_if_eq hx hb zl_1 (tgt := 24) dX10_partyIs_11 (by decide) (fun c_8 => by exfalso; omega) (fun c_8 => ?_)
    refine lv_iload_n hx hb dX10_partyIs_14 rfl (lv_at hl 2 rfl) ?_
    refine b_if_lt hx hb rfl (tgt := 24) dX10_partyIs_15 (by decide) (fun c_9 => ?_) (fun c_9 => ?_)
    · refine lv_aload_n hx hb dX10_partyIs_24 rfl (lv_at hl 0 rfl) ?_
      refine lv_iconst (v := 1) hx hb dX10_partyIs_25 (by decide) ?_
      refine kJi (wr := [(k0, .inr (9, [.ref k00, .ref k01, .ref k02, .ref k03, .ref k04, .ref k05, .int c06, .int c07, .int c08])), (k050, .inl (cI, 36, .inl c050)), (k05, .inr (3, [.ref k050, .int c051]))]) (va_runV (As := [.int 1]) (rest := []) ⟨hx, hb, hml, hown, hT⟩ (c_X10_findingG l D cI aK aV k k0 k1 k2 k3 k4 k5 k6 k7 k8 k9 ka kb H.size cc cb 1) (cwV 1 hT (gV_in mw_338 mw_335 mw_337 mw_p1_0 mw_1) rfl rfl rfl (by decide +kernel) ⟨Nat.le_of_ble_eq_true rfl, Nat.le_of_ble_eq_true rfl⟩) (kRecvX (q0 := 0) (ci := 10) hK hP hD hN hXS hS hA rfl rfl [0, 2] rfl (by decide)) rfl rfl hl.1 rfl (lv_room (Nat.le_of_ble_eq_true rfl)) dX10_partyIs_26 ⟨Nat.le_of_ble_eq_true rfl, Nat.le_of_ble_eq_true rfl⟩) hP hD hS hA [0, 2] [1, 3, 4] rfl rfl (by decide) (by decide) ?_
      clear hP hD hS
      intro r_10 scb_12 H locs w_11 hP hD hS
      replace hP : va_P D vwCl [(k0, .inr (9, [.ref k00, .ref k01, .ref k02, .ref k03, .ref k04, .ref k05, .int c06, .int c07, .int c08])), (k050, .inl (cI, 36, .inl c050)), (k05, .inr (3, [.ref k050, .int c051])), (k, .inr (10, [.ref k0, .ref k1, .ref k2, .ref k3, .ref k4, .ref k5, .ref k6, .ref k7, .ref k8, .ref k9, .ref ka, .ref kb, .int cc])), (kb, .inl (cI, 6, .inl scb_12))] H := hP
      replace hD : va_D A [(k0, .inr (9, [.ref k00, .ref k01, .ref k02, .ref k03, .ref k04, .ref k05, .int c06, .int c07, .int c08])), (k050, .inl (cI, 36, .inl c050)), (k05, .inr (3, [.ref k050, .int c051])), (k, .inr (10, [.ref k0, .ref k1, .ref k2, .ref k3, .ref k4, .ref k5, .ref k6, .ref k7, .ref k8, .ref k9, .ref ka, .ref kb, .int cc])), (kb, .inl (cI, 6, .inl scb_12))] := hD
      have hr_10 := w_11
      obtain rfl : r_10 = (-1000001) := hr_10.trans (by decide)
      exact hRet scb_12 [3, 0, 4, 2, 1] trivial hP hD (by decide) rfl hS rfl dX10_partyIs_29
    · refine lv_iload_n hx hb dX10_partyIs_18 rfl (lv_at hl 2 rfl) ?_
      refine lv_bipush (v := 9) hx hb dX10_partyIs_19 (by decide) ?_
      refine b_icmp_lt hx hb rfl zl_9 (tgt := 30) dX10_partyIs_21 (by decide) (fun c_13 => ?_) (fun c_13 => ?_)
      · refine lv_aload_n hx hb dX10_partyIs_30 rfl (lv_at hl 0 rfl) ?_
        refine va_get (D := D) (ci := 10) (v := .ref k0) (C := RX10) (T := TX10) (N := 13) hx hb hT giX10 hown hK hP 0 rfl rfl 0 (by decide) (hT (Cond.fieldLink RX10 12 "DesertWire" "now" "LDesertWire$World;") mw_291) (fun _ h9 => h9) rfl dX10_partyIs_31 ?_
        refine va_get (D := D) (ci := 9) (v := .ref k05) (C := RX9) (T := TX9) (N := 9) hx hb hT giX9 hown hK hP 1 rfl rfl 5 (by decide) (hT (Cond.fieldLink RX10 193 "DesertWire$World" "parties" "LDesertWire$Parties;") mw_102) (fun _ h9 => h9) rfl dX10_partyIs_34 ?_
        refine lv_iload_n hx hb dX10_partyIs_37 rfl (lv_at hl 1 rfl) ?_
        refine lv_iload_n hx hb dX10_partyIs_38 rfl (lv_at hl 2 rfl) ?_
        refine kJi (wr := [(k, .inr (10, [.ref k0, .ref k1, .ref k2, .ref k3, .ref k4, .ref k5, .ref k6, .ref k7, .ref k8, .ref k9, .ref ka, .ref kb, .int cc])), (k0, .inr (9, [.ref k00, .ref k01, .ref k02, .ref k03, .ref k04, .ref k05, .int c06, .int c07, .int c08])), (kb, .inl (cI, 6, .inl cb))]) (va_runV (As := [.int a0, .int a1]) (rest := []) ⟨hx, hb, hml, hown, hT⟩ (c_X3_getG l D cI aK aV k05 k050 H.size c051 c050 a0 a1) (cwV 2 hT (gV_in mw_726 mw_723 mw_724 mw_725 mw_4) rfl rfl rfl (by decide +kernel) ⟨Nat.le_of_ble_eq_true rfl, Nat.le_of_ble_eq_true rfl⟩) (kRecvX (q0 := 4) (ci := 3) hK hP hD hN hXS hS hA rfl rfl [4, 3] rfl (by decide)) rfl rfl hl.1 rfl (lv_room (Nat.le_of_ble_eq_true rfl)) dX10_partyIs_39 ⟨Nat.le_of_ble_eq_true rfl, Nat.le_of_ble_eq_true rfl⟩) hP hD hS hA [4, 3] [0, 1, 2] rfl rfl (by decide) (by decide) ?_
        clear hP hD hS
        intro r_14 u_16 H locs w_15 hP hD hS
        replace hP : va_P D vwCl [(k, .inr (10, [.ref k0, .ref k1, .ref k2, .ref k3, .ref k4, .ref k5, .ref k6, .ref k7, .ref k8, .ref k9, .ref ka, .ref kb, .int cc])), (k0, .inr (9, [.ref k00, .ref k01, .ref k02, .ref k03, .ref k04, .ref k05, .int c06, .int c07, .int c08])), (kb, .inl (cI, 6, .inl cb)), (k05, .inr (3, [.ref k050, .int c051])), (k050, .inl (cI, 36, .inl c050))] H := hP
        replace hD : va_D A [(k, .inr (10, [.ref k0, .ref k1, .ref k2, .ref k3, .ref k4, .ref k5, .ref k6, .ref k7, .ref k8, .ref k9, .ref ka, .ref kb, .int cc])), (k0, .inr (9, [.ref k00, .ref k01, .ref k02, .ref k03, .ref k04, .ref k05, .int c06, .int c07, .int c08])), (kb, .inl (cI, 6, .inl cb)), (k05, .inr (3, [.ref k050, .int c051])), (k050, .inl (cI, 36, .inl c050))] := hD
        have lo_r_14 := k_lo r_14
        have hi_r_14 := k_hi r_14
        exact hRet cb [0, 1, 2, 3, 4] trivial hP hD (by decide) rfl hS rfl dX10_partyIs_42
      · refine lv_aload_n hx hb dX10_partyIs_24 rfl (lv_at hl 0 rfl) ?_
        refine lv_iconst (v := 1) hx hb dX10_partyIs_25 (by decide) ?_
        refine kJi (wr := [(k0, .inr (9, [.ref k00, .ref k01, .ref k02, .ref k03, .ref k04, .ref k05, .int c06, .int c07, .int c08])), (k050, .inl (cI, 36, .inl c050)), (k05, .inr (3, [.ref k050, .int c051]))]) (va_runV (As := [.int 1]) (rest := []) ⟨hx, hb, hml, hown, hT⟩ (c_X10_findingG l D cI aK aV k k0 k1 k2 k3 k4 k5 k6 k7 k8 k9 ka kb H.size cc cb 1) (cwV 1 hT (gV_in mw_338 mw_335 mw_337 mw_p1_0 mw_1) rfl rfl rfl (by decide +kernel) ⟨Nat.le_of_ble_eq_true rfl, Nat.le_of_ble_eq_true rfl⟩) (kRecvX (q0 := 0) (ci := 10) hK hP hD hN hXS hS hA rfl rfl [0, 2] rfl (by decide)) rfl rfl hl.1 rfl (lv_room (Nat.le_of_ble_eq_true rfl)) dX10_partyIs_26 ⟨Nat.le_of_ble_eq_true rfl, Nat.le_of_ble_eq_true rfl⟩) hP hD hS hA [0, 2] [1, 3, 4] rfl rfl (by decide) (by decide) ?_
        clear hP hD hS
        intro r_17 scb_19 H locs w_18 hP hD hS
        replace hP : va_P D vwCl [(k0, .inr (9, [.ref k00, .ref k01, .ref k02, .ref k03, .ref k04, .ref k05, .int c06, .int c07, .int c08])), (k050, .inl (cI, 36, .inl c050)), (k05, .inr (3, [.ref k050, .int c051])), (k, .inr (10, [.ref k0, .ref k1, .ref k2, .ref k3, .ref k4, .ref k5, .ref k6, .ref k7, .ref k8, .ref k9, .ref ka, .ref kb, .int cc])), (kb, .inl (cI, 6, .inl scb_19))] H := hP
        replace hD : va_D A [(k0, .inr (9, [.ref k00, .ref k01, .ref k02, .ref k03, .ref k04, .ref k05, .int c06, .int c07, .int c08])), (k050, .inl (cI, 36, .inl c050)), (k05, .inr (3, [.ref k050, .int c051])), (k, .inr (10, [.ref k0, .ref k1, .ref k2, .ref k3, .ref k4, .ref k5, .ref k6, .ref k7, .ref k8, .ref k9, .ref ka, .ref kb, .int cc])), (kb, .inl (cI, 6, .inl scb_19))] := hD
        have hr_17 := w_18
        obtain rfl : r_17 = (-1000001) := hr_17.trans (by decide)
        exact hRet scb_19 [3, 0, 4, 2, 1] trivial hP hD (by decide) rfl hS rfl dX10_partyIs_29
  · have h_7 : a0.toInt < 0 ∨ c051.toInt ≤ a0.toInt ∨ 4 ≤ a0.toInt := h_7
    obtain rfl : r_1 = 0 := hr_1.trans (by decide)
    refine b_if_eq hx hb zl_0 (tgt := 24) dX10_partyIs_11 (by decide) (fun c_20 => ?_) (fun c_20 => by exfalso; omega)
    refine lv_aload_n hx hb dX10_partyIs_24 rfl (lv_at hl 0 rfl) ?_
    refine lv_iconst (v := 1) hx hb dX10_partyIs_25 (by decide) ?_
    refine kJi (wr := [(k0, .inr (9, [.ref k00, .ref k01, .ref k02, .ref k03, .ref k04, .ref k05, .int c06, .int c07, .int c08])), (k050, .inl (cI, 36, .inl c050)), (k05, .inr (3, [.ref k050, .int c051]))]) (va_runV (As := [.int 1]) (rest := []) ⟨hx, hb, hml, hown, hT⟩ (c_X10_findingG l D cI aK aV k k0 k1 k2 k3 k4 k5 k6 k7 k8 k9 ka kb H.size cc cb 1) (cwV 1 hT (gV_in mw_338 mw_335 mw_337 mw_p1_0 mw_1) rfl rfl rfl (by decide +kernel) ⟨Nat.le_of_ble_eq_true rfl, Nat.le_of_ble_eq_true rfl⟩) (kRecvX (q0 := 0) (ci := 10) hK hP hD hN hXS hS hA rfl rfl [0, 2] rfl (by decide)) rfl rfl hl.1 rfl (lv_room (Nat.le_of_ble_eq_true rfl)) dX10_partyIs_26 ⟨Nat.le_of_ble_eq_true rfl, Nat.le_of_ble_eq_true rfl⟩) hP hD hS hA [0, 2] [1, 3, 4] rfl rfl (by decide) (by decide) ?_
    clear hP hD hS
    intro r_21 scb_23 H locs w_22 hP hD hS
    replace hP : va_P D vwCl [(k0, .inr (9, [.ref k00, .ref k01, .ref k02, .ref k03, .ref k04, .ref k05, .int c06, .int c07, .int c08])), (k050, .inl (cI, 36, .inl c050)), (k05, .inr (3, [.ref k050, .int c051])), (k, .inr (10, [.ref k0, .ref k1, .ref k2, .ref k3, .ref k4, .ref k5, .ref k6, .ref k7, .ref k8, .ref k9, .ref ka, .ref kb, .int cc])), (kb, .inl (cI, 6, .inl scb_23))] H := hP
    replace hD : va_D A [(k0, .inr (9, [.ref k00, .ref k01, .ref k02, .ref k03, .ref k04, .ref k05, .int c06, .int c07, .int c08])), (k050, .inl (cI, 36, .inl c050)), (k05, .inr (3, [.ref k050, .int c051])), (k, .inr (10, [.ref k0, .ref k1, .ref k2, .ref k3, .ref k4, .ref k5, .ref k6, .ref k7, .ref k8, .ref k9, .ref ka, .ref kb, .int cc])), (kb, .inl (cI, 6, .inl scb_23))] := hD
    have hr_21 := w_22
    obtain rfl : r_21 = (-1000001) := hr_21.trans (by decide)
    exact hRet scb_23 [3, 0, 4, 2, 1] trivial hP hD (by decide) rfl hS rfl dX10_partyIs_29
theorem dX10_give_0 : decode cX10_give 0 = .ok (.aload_n 0, 1) := by decide +kernel
theorem dX10_give_1 : decode cX10_give 1 = .ok (.getfield 12, 3) := by decide +kernel
theorem dX10_give_4 : decode cX10_give 4 = .ok (.getfield 193, 3) := by decide +kernel
theorem dX10_give_7 : decode cX10_give 7 = .ok (.iload_n 1, 1) := by decide +kernel
theorem dX10_give_8 : decode cX10_give 8 = .ok (.invokevirtual 207, 3) := by decide +kernel
theorem dX10_give_11 : decode cX10_give 11 = .ok (.ifCond .eq 12, 3) := by decide +kernel
theorem dX10_give_14 : decode cX10_give 14 = .ok (.iload_n 2, 1) := by decide +kernel
theorem dX10_give_15 : decode cX10_give 15 = .ok (.ifCond .lt 8, 3) := by decide +kernel
theorem dX10_give_18 : decode cX10_give 18 = .ok (.iload_n 2, 1) := by decide +kernel
theorem dX10_give_19 : decode cX10_give 19 = .ok (.iconst 2, 1) := by decide +kernel
theorem dX10_give_20 : decode cX10_give 20 = .ok (.if_icmp .le 9, 3) := by decide +kernel
theorem dX10_give_23 : decode cX10_give 23 = .ok (.aload_n 0, 1) := by decide +kernel
theorem dX10_give_24 : decode cX10_give 24 = .ok (.iconst 1, 1) := by decide +kernel
theorem dX10_give_25 : decode cX10_give 25 = .ok (.invokevirtual 82, 3) := by decide +kernel
theorem dX10_give_28 : decode cX10_give 28 = .ok (.ireturn, 1) := by decide +kernel
theorem dX10_give_29 : decode cX10_give 29 = .ok (.iload_n 2, 1) := by decide +kernel
theorem dX10_give_30 : decode cX10_give 30 = .ok (.iconst 2, 1) := by decide +kernel
theorem dX10_give_31 : decode cX10_give 31 = .ok (.if_icmp .ne 8, 3) := by decide +kernel
theorem dX10_give_34 : decode cX10_give 34 = .ok (.bipush 99, 2) := by decide +kernel
theorem dX10_give_36 : decode cX10_give 36 = .ok (.goto 6, 3) := by decide +kernel
theorem dX10_give_39 : decode cX10_give 39 = .ok (.sipush 9999, 3) := by decide +kernel
theorem dX10_give_42 : decode cX10_give 42 = .ok (.istore 4, 2) := by decide +kernel
theorem dX10_give_44 : decode cX10_give 44 = .ok (.iload_n 3, 1) := by decide +kernel
theorem dX10_give_45 : decode cX10_give 45 = .ok (.iconst 1, 1) := by decide +kernel
theorem dX10_give_46 : decode cX10_give 46 = .ok (.if_icmp .lt 9, 3) := by decide +kernel
theorem dX10_give_49 : decode cX10_give 49 = .ok (.iload_n 3, 1) := by decide +kernel
theorem dX10_give_50 : decode cX10_give 50 = .ok (.iload 4, 2) := by decide +kernel
theorem dX10_give_52 : decode cX10_give 52 = .ok (.if_icmp .le 9, 3) := by decide +kernel
theorem dX10_give_55 : decode cX10_give 55 = .ok (.aload_n 0, 1) := by decide +kernel
theorem dX10_give_56 : decode cX10_give 56 = .ok (.iconst 1, 1) := by decide +kernel
theorem dX10_give_57 : decode cX10_give 57 = .ok (.invokevirtual 82, 3) := by decide +kernel
theorem dX10_give_60 : decode cX10_give 60 = .ok (.ireturn, 1) := by decide +kernel
theorem dX10_give_61 : decode cX10_give 61 = .ok (.aload_n 0, 1) := by decide +kernel
theorem dX10_give_62 : decode cX10_give 62 = .ok (.getfield 12, 3) := by decide +kernel
theorem dX10_give_65 : decode cX10_give 65 = .ok (.getfield 193, 3) := by decide +kernel
theorem dX10_give_68 : decode cX10_give 68 = .ok (.iload_n 1, 1) := by decide +kernel
theorem dX10_give_69 : decode cX10_give 69 = .ok (.invokevirtual 211, 3) := by decide +kernel
theorem dX10_give_72 : decode cX10_give 72 = .ok (.ifCond .eq 9, 3) := by decide +kernel
theorem dX10_give_75 : decode cX10_give 75 = .ok (.aload_n 0, 1) := by decide +kernel
theorem dX10_give_76 : decode cX10_give 76 = .ok (.iconst 3, 1) := by decide +kernel
theorem dX10_give_77 : decode cX10_give 77 = .ok (.invokevirtual 82, 3) := by decide +kernel
theorem dX10_give_80 : decode cX10_give 80 = .ok (.ireturn, 1) := by decide +kernel
theorem dX10_give_81 : decode cX10_give 81 = .ok (.iload_n 2, 1) := by decide +kernel
theorem dX10_give_82 : decode cX10_give 82 = .ok (.ifCond .ne 7, 3) := by decide +kernel
theorem dX10_give_85 : decode cX10_give 85 = .ok (.iconst 5, 1) := by decide +kernel
theorem dX10_give_86 : decode cX10_give 86 = .ok (.goto 14, 3) := by decide +kernel
theorem dX10_give_89 : decode cX10_give 89 = .ok (.iload_n 2, 1) := by decide +kernel
theorem dX10_give_90 : decode cX10_give 90 = .ok (.iconst 1, 1) := by decide +kernel
theorem dX10_give_91 : decode cX10_give 91 = .ok (.if_icmp .ne 8, 3) := by decide +kernel
theorem dX10_give_94 : decode cX10_give 94 = .ok (.bipush 6, 2) := by decide +kernel
theorem dX10_give_96 : decode cX10_give 96 = .ok (.goto 4, 3) := by decide +kernel
theorem dX10_give_99 : decode cX10_give 99 = .ok (.iconst 4, 1) := by decide +kernel
theorem dX10_give_100 : decode cX10_give 100 = .ok (.istore 5, 2) := by decide +kernel
theorem dX10_give_102 : decode cX10_give 102 = .ok (.aload_n 0, 1) := by decide +kernel
theorem dX10_give_103 : decode cX10_give 103 = .ok (.getfield 12, 3) := by decide +kernel
theorem dX10_give_106 : decode cX10_give 106 = .ok (.getfield 193, 3) := by decide +kernel
theorem dX10_give_109 : decode cX10_give 109 = .ok (.iload_n 1, 1) := by decide +kernel
theorem dX10_give_110 : decode cX10_give 110 = .ok (.iload 5, 2) := by decide +kernel
theorem dX10_give_112 : decode cX10_give 112 = .ok (.invokevirtual 208, 3) := by decide +kernel
theorem dX10_give_115 : decode cX10_give 115 = .ok (.iload_n 3, 1) := by decide +kernel
theorem dX10_give_116 : decode cX10_give 116 = .ok (.iadd, 1) := by decide +kernel
theorem dX10_give_117 : decode cX10_give 117 = .ok (.istore 6, 2) := by decide +kernel
theorem dX10_give_119 : decode cX10_give 119 = .ok (.iload 6, 2) := by decide +kernel
theorem dX10_give_121 : decode cX10_give 121 = .ok (.iload 4, 2) := by decide +kernel
theorem dX10_give_123 : decode cX10_give 123 = .ok (.if_icmp .le 9, 3) := by decide +kernel
theorem dX10_give_126 : decode cX10_give 126 = .ok (.aload_n 0, 1) := by decide +kernel
theorem dX10_give_127 : decode cX10_give 127 = .ok (.iconst 4, 1) := by decide +kernel
theorem dX10_give_128 : decode cX10_give 128 = .ok (.invokevirtual 82, 3) := by decide +kernel
theorem dX10_give_131 : decode cX10_give 131 = .ok (.ireturn, 1) := by decide +kernel
theorem dX10_give_132 : decode cX10_give 132 = .ok (.aload_n 0, 1) := by decide +kernel
theorem dX10_give_133 : decode cX10_give 133 = .ok (.getfield 12, 3) := by decide +kernel
theorem dX10_give_136 : decode cX10_give 136 = .ok (.getfield 193, 3) := by decide +kernel
theorem dX10_give_139 : decode cX10_give 139 = .ok (.iload_n 1, 1) := by decide +kernel
theorem dX10_give_140 : decode cX10_give 140 = .ok (.iload 5, 2) := by decide +kernel
theorem dX10_give_142 : decode cX10_give 142 = .ok (.iload 6, 2) := by decide +kernel
theorem dX10_give_144 : decode cX10_give 144 = .ok (.invokevirtual 203, 3) := by decide +kernel
theorem dX10_give_147 : decode cX10_give 147 = .ok (.iload 6, 2) := by decide +kernel
theorem dX10_give_149 : decode cX10_give 149 = .ok (.ireturn, 1) := by decide +kernel
set_option maxHeartbeats 4000000 in
set_option maxRecDepth 100000 in
theorem c_X10_giveG (l : Launch) (D : va_G) (cI : ClassId) (aK aV : Nat → Nat) (k k0 k1 k2 k3 k4 k5 k6 k7 k8 k9 ka kb k00 k01 k02 k03 k04 k05 k050 : Nat) (sz : Nat) (cc : Int32) (c06 : Int32) (c07 : Int32) (c08 : Int32) (cb : Nat → Int32) (c051 : Int32) (c050 : Nat → Int32) (a0 : Int32) (a1 : Int32) (a2 : Int32) : Met l yX10_give (gW yX10_give cX10_give 7 (some .int)) ({ frames := 3, cells := 0, slots := 0, locals := 64 } : Room) (kPreX D cI aK aV [.ref k, .int a0, .int a1, .int a2] [(k, .inr (10, [.ref k0, .ref k1, .ref k2, .ref k3, .ref k4, .ref k5, .ref k6, .ref k7, .ref k8, .ref k9, .ref ka, .ref kb, .int cc])), (k0, .inr (9, [.ref k00, .ref k01, .ref k02, .ref k03, .ref k04, .ref k05, .int c06, .int c07, .int c08])), (kb, .inl (cI, 6, .inl cb)), (k05, .inr (3, [.ref k050, .int c051])), (k050, .inl (cI, 36, .inl c050))] sz) (va_Qi (fun (r : Int32) (u : (Nat → Int32) × (Nat → Int32)) => True) (fun u t => kWd D cI (va_A [(k, .inr (10, [.ref k0, .ref k1, .ref k2, .ref k3, .ref k4, .ref k5, .ref k6, .ref k7, .ref k8, .ref k9, .ref ka, .ref kb, .int cc])), (k0, .inr (9, [.ref k00, .ref k01, .ref k02, .ref k03, .ref k04, .ref k05, .int c06, .int c07, .int c08])), (kb, .inl (cI, 6, .inl cb)), (k05, .inr (3, [.ref k050, .int c051])), (k050, .inl (cI, 36, .inl c050))] sz) [(k, .inr (10, [.ref k0, .ref k1, .ref k2, .ref k3, .ref k4, .ref k5, .ref k6, .ref k7, .ref k8, .ref k9, .ref ka, .ref kb, .int cc])), (k0, .inr (9, [.ref k00, .ref k01, .ref k02, .ref k03, .ref k04, .ref k05, .int c06, .int c07, .int c08])), (kb, .inl (cI, 6, .inl u.1)), (k05, .inr (3, [.ref k050, .int c051])), (k050, .inl (cI, 36, .inl u.2))] t) (va_A [(k, .inr (10, [.ref k0, .ref k1, .ref k2, .ref k3, .ref k4, .ref k5, .ref k6, .ref k7, .ref k8, .ref k9, .ref ka, .ref kb, .int cc])), (k0, .inr (9, [.ref k00, .ref k01, .ref k02, .ref k03, .ref k04, .ref k05, .int c06, .int c07, .int c08])), (kb, .inl (cI, 6, .inl cb)), (k05, .inr (3, [.ref k050, .int c051])), (k050, .inl (cI, 36, .inl c050))] sz)) 0 0 (va_A [(k, .inr (10, [.ref k0, .ref k1, .ref k2, .ref k3, .ref k4, .ref k5, .ref k6, .ref k7, .ref k8, .ref k9, .ref ka, .ref kb, .int cc])), (k0, .inr (9, [.ref k00, .ref k01, .ref k02, .ref k03, .ref k04, .ref k05, .int c06, .int c07, .int c08])), (kb, .inl (cI, 6, .inl cb)), (k05, .inr (3, [.ref k050, .int c051])), (k050, .inl (cI, 36, .inl c050))] sz) := by
  refine kMetIX (own := RX10) (by decide) rfl (Nat.le_of_ble_eq_true rfl) ?_
  intro p e s m args below meth c hx hb hT hown hname hml A Q hK hP hD hS hA hN hXS hRet ls hl
  have hl : lv_has ls 7 [(0, .ref k), (1, .int a0), (2, .int a1), (3, .int a2)] := hl
  have lo_a0 := k_lo a0
  have hi_a0 := k_hi a0
  have lo_a1 := k_lo a1
  have hi_a1 := k_hi a1
  have lo_a2 := k_lo a2
  have hi_a2 := k_hi a2
  have lo_c051 := k_lo c051
  have hi_c051 := k_hi c051
  refine lv_aload_n hx hb dX10_give_0 rfl (lv_at hl 0 rfl) ?_
  refine va_get (D := D) (ci := 10) (v := .ref k0) (C := RX10) (T := TX10) (N := 13) hx hb hT giX10 hown hK hP 0 rfl rfl 0 (by decide) (hT (Cond.fieldLink RX10 12 "DesertWire" "now" "LDesertWire$World;") mw_291) (fun _ h9 => h9) rfl dX10_give_1 ?_
  refine va_get (D := D) (ci := 9) (v := .ref k05) (C := RX9) (T := TX9) (N := 9) hx hb hT giX9 hown hK hP 1 rfl rfl 5 (by decide) (hT (Cond.fieldLink RX10 193 "DesertWire$World" "parties" "LDesertWire$Parties;") mw_102) (fun _ h9 => h9) rfl dX10_give_4 ?_
  refine lv_iload_n hx hb dX10_give_7 rfl (lv_at hl 1 rfl) ?_
  refine kJi (wr := [(k, .inr (10, [.ref k0, .ref k1, .ref k2, .ref k3, .ref k4, .ref k5, .ref k6, .ref k7, .ref k8, .ref k9, .ref ka, .ref kb, .int cc])), (k0, .inr (9, [.ref k00, .ref k01, .ref k02, .ref k03, .ref k04, .ref k05, .int c06, .int c07, .int c08])), (kb, .inl (cI, 6, .inl cb)), (k050, .inl (cI, 36, .inl c050))]) (va_runV (As := [.int a0]) (rest := []) ⟨hx, hb, hml, hown, hT⟩ (c_X3_hasG l D cI aK aV k05 k050 s.heap.size c051 a0) (cwV 1 hT (gV_in mw_717 mw_722 mw_715 mw_716 mw_4) rfl rfl rfl (by decide +kernel) ⟨Nat.le_of_ble_eq_true rfl, Nat.le_of_ble_eq_true rfl⟩) (kRecvX (q0 := 3) (ci := 3) hK hP hD hN hXS hS hA rfl rfl [3] rfl (by decide)) rfl rfl hl.1 rfl (lv_room (Nat.le_of_ble_eq_true rfl)) dX10_give_8 ⟨Nat.le_of_ble_eq_true rfl, Nat.le_of_ble_eq_true rfl⟩) hP hD hS hA [3] [0, 1, 2, 4] rfl rfl (by decide) (by decide) ?_
  clear hP hD hS
  intro r_1 u_3 H locs w_2 hP hD hS
  replace hP : va_P D vwCl [(k, .inr (10, [.ref k0, .ref k1, .ref k2, .ref k3, .ref k4, .ref k5, .ref k6, .ref k7, .ref k8, .ref k9, .ref ka, .ref kb, .int cc])), (k0, .inr (9, [.ref k00, .ref k01, .ref k02, .ref k03, .ref k04, .ref k05, .int c06, .int c07, .int c08])), (kb, .inl (cI, 6, .inl cb)), (k050, .inl (cI, 36, .inl c050)), (k05, .inr (3, [.ref k050, .int c051]))] H := hP
  replace hD : va_D A [(k, .inr (10, [.ref k0, .ref k1, .ref k2, .ref k3, .ref k4, .ref k5, .ref k6, .ref k7, .ref k8, .ref k9, .ref ka, .ref kb, .int cc])), (k0, .inr (9, [.ref k00, .ref k01, .ref k02, .ref k03, .ref k04, .ref k05, .int c06, .int c07, .int c08])), (kb, .inl (cI, 6, .inl cb)), (k050, .inl (cI, 36, .inl c050)), (k05, .inr (3, [.ref k050, .int c051]))] := hD
  rcases w_2 with ⟨hr_1, h_4, h_5, h_6⟩ | ⟨hr_1, h_7⟩
  · have h_4 : 0 ≤ a0.toInt := h_4
    have h_5 : a0.toInt < c051.toInt := h_5
    have h_6 : a0.toInt < 4 := h_6
    obtain rfl : r_1 = 1 := hr_1.trans (by decide)
    refine b_if_eq hx hb zl_1 (tgt := 23) dX10_give_11 (by decide) (fun c_8 => by exfalso; omega) (fun c_8 => ?_)
    refine lv_iload_n hx hb dX10_give_14 rfl (lv_at hl 2 rfl) ?_
    refine b_if_lt hx hb rfl (tgt := 23) dX10_give_15 (by decide) (fun c_9 => ?_) (fun c_9 => ?_)
    · refine lv_aload_n hx hb dX10_give_23 rfl (lv_at hl 0 rfl) ?_
      refine lv_iconst (v := 1) hx hb dX10_give_24 (by decide) ?_
      refine kJi (wr := [(k0, .inr (9, [.ref k00, .ref k01, .ref k02, .ref k03, .ref k04, .ref k05, .int c06, .int c07, .int c08])), (k050, .inl (cI, 36, .inl c050)), (k05, .inr (3, [.ref k050, .int c051]))]) (va_runV (As := [.int 1]) (rest := []) ⟨hx, hb, hml, hown, hT⟩ (c_X10_findingG l D cI aK aV k k0 k1 k2 k3 k4 k5 k6 k7 k8 k9 ka kb H.size cc cb 1) (cwV 1 hT (gV_in mw_338 mw_335 mw_337 mw_p1_0 mw_1) rfl rfl rfl (by decide +kernel) ⟨Nat.le_of_ble_eq_true rfl, Nat.le_of_ble_eq_true rfl⟩) (kRecvX (q0 := 0) (ci := 10) hK hP hD hN hXS hS hA rfl rfl [0, 2] rfl (by decide)) rfl rfl hl.1 rfl (lv_room (Nat.le_of_ble_eq_true rfl)) dX10_give_25 ⟨Nat.le_of_ble_eq_true rfl, Nat.le_of_ble_eq_true rfl⟩) hP hD hS hA [0, 2] [1, 3, 4] rfl rfl (by decide) (by decide) ?_
      clear hP hD hS
      intro r_10 scb_12 H locs w_11 hP hD hS
      replace hP : va_P D vwCl [(k0, .inr (9, [.ref k00, .ref k01, .ref k02, .ref k03, .ref k04, .ref k05, .int c06, .int c07, .int c08])), (k050, .inl (cI, 36, .inl c050)), (k05, .inr (3, [.ref k050, .int c051])), (k, .inr (10, [.ref k0, .ref k1, .ref k2, .ref k3, .ref k4, .ref k5, .ref k6, .ref k7, .ref k8, .ref k9, .ref ka, .ref kb, .int cc])), (kb, .inl (cI, 6, .inl scb_12))] H := hP
      replace hD : va_D A [(k0, .inr (9, [.ref k00, .ref k01, .ref k02, .ref k03, .ref k04, .ref k05, .int c06, .int c07, .int c08])), (k050, .inl (cI, 36, .inl c050)), (k05, .inr (3, [.ref k050, .int c051])), (k, .inr (10, [.ref k0, .ref k1, .ref k2, .ref k3, .ref k4, .ref k5, .ref k6, .ref k7, .ref k8, .ref k9, .ref ka, .ref kb, .int cc])), (kb, .inl (cI, 6, .inl scb_12))] := hD
      have hr_10 := w_11
      obtain rfl : r_10 = (-1000001) := hr_10.trans (by decide)
      exact hRet (scb_12, c050) [3, 0, 4, 2, 1] trivial hP hD (by decide) rfl hS rfl dX10_give_28
    · refine lv_iload_n hx hb dX10_give_18 rfl (lv_at hl 2 rfl) ?_
      refine lv_iconst (v := 2) hx hb dX10_give_19 (by decide) ?_
      refine b_icmp_le hx hb rfl zl_2 (tgt := 29) dX10_give_20 (by decide) (fun c_13 => ?_) (fun c_13 => ?_)
      · refine lv_iload_n hx hb dX10_give_29 rfl (lv_at hl 2 rfl) ?_
        refine lv_iconst (v := 2) hx hb dX10_give_30 (by decide) ?_
        refine b_icmp_ne hx hb rfl zl_2 (tgt := 39) dX10_give_31 (by decide) (fun c_14 => ?_) (fun c_14 => ?_)
        · refine lv_sipush (v := 9999) hx hb dX10_give_39 (by decide) ?_
          refine lv_istore (lv' := [(4, .int 9999), (0, .ref k), (1, .int a0), (2, .int a1), (3, .int a2)]) hx hb dX10_give_42 hl (by decide) rfl ?_
          clear hl
          intro ls hl
          refine lv_iload_n hx hb dX10_give_44 rfl (lv_at hl 4 rfl) ?_
          refine lv_iconst (v := 1) hx hb dX10_give_45 (by decide) ?_
          refine b_icmp_lt hx hb rfl zl_1 (tgt := 55) dX10_give_46 (by decide) (fun c_15 => ?_) (fun c_15 => ?_)
          · refine lv_aload_n hx hb dX10_give_55 rfl (lv_at hl 1 rfl) ?_
            refine lv_iconst (v := 1) hx hb dX10_give_56 (by decide) ?_
            refine kJi (wr := [(k0, .inr (9, [.ref k00, .ref k01, .ref k02, .ref k03, .ref k04, .ref k05, .int c06, .int c07, .int c08])), (k050, .inl (cI, 36, .inl c050)), (k05, .inr (3, [.ref k050, .int c051]))]) (va_runV (As := [.int 1]) (rest := []) ⟨hx, hb, hml, hown, hT⟩ (c_X10_findingG l D cI aK aV k k0 k1 k2 k3 k4 k5 k6 k7 k8 k9 ka kb H.size cc cb 1) (cwV 1 hT (gV_in mw_338 mw_335 mw_337 mw_p1_0 mw_1) rfl rfl rfl (by decide +kernel) ⟨Nat.le_of_ble_eq_true rfl, Nat.le_of_ble_eq_true rfl⟩) (kRecvX (q0 := 0) (ci := 10) hK hP hD hN hXS hS hA rfl rfl [0, 2] rfl (by decide)) rfl rfl hl.1 rfl (lv_room (Nat.le_of_ble_eq_true rfl)) dX10_give_57 ⟨Nat.le_of_ble_eq_true rfl, Nat.le_of_ble_eq_true rfl⟩) hP hD hS hA [0, 2] [1, 3, 4] rfl rfl (by decide) (by decide) ?_
            clear hP hD hS
            intro r_16 scb_18 H locs w_17 hP hD hS
            replace hP : va_P D vwCl [(k0, .inr (9, [.ref k00, .ref k01, .ref k02, .ref k03, .ref k04, .ref k05, .int c06, .int c07, .int c08])), (k050, .inl (cI, 36, .inl c050)), (k05, .inr (3, [.ref k050, .int c051])), (k, .inr (10, [.ref k0, .ref k1, .ref k2, .ref k3, .ref k4, .ref k5, .ref k6, .ref k7, .ref k8, .ref k9, .ref ka, .ref kb, .int cc])), (kb, .inl (cI, 6, .inl scb_18))] H := hP
            replace hD : va_D A [(k0, .inr (9, [.ref k00, .ref k01, .ref k02, .ref k03, .ref k04, .ref k05, .int c06, .int c07, .int c08])), (k050, .inl (cI, 36, .inl c050)), (k05, .inr (3, [.ref k050, .int c051])), (k, .inr (10, [.ref k0, .ref k1, .ref k2, .ref k3, .ref k4, .ref k5, .ref k6, .ref k7, .ref k8, .ref k9, .ref ka, .ref kb, .int cc])), (kb, .inl (cI, 6, .inl scb_18))] := hD
            have hr_16 := w_17
            obtain rfl : r_16 = (-1000001) := hr_16.trans (by decide)
            exact hRet (scb_18, c050) [3, 0, 4, 2, 1] trivial hP hD (by decide) rfl hS rfl dX10_give_60
          · refine lv_iload_n hx hb dX10_give_49 rfl (lv_at hl 4 rfl) ?_
            refine lv_iload hx hb dX10_give_50 (lv_at hl 0 rfl) ?_
            refine b_icmp_le hx hb rfl zl_9999 (tgt := 61) dX10_give_52 (by decide) (fun c_19 => ?_) (fun c_19 => ?_)
            · refine lv_aload_n hx hb dX10_give_61 rfl (lv_at hl 1 rfl) ?_
              refine va_get (D := D) (ci := 10) (v := .ref k0) (C := RX10) (T := TX10) (N := 13) hx hb hT giX10 hown hK hP 0 rfl rfl 0 (by decide) (hT (Cond.fieldLink RX10 12 "DesertWire" "now" "LDesertWire$World;") mw_291) (fun _ h9 => h9) rfl dX10_give_62 ?_
              refine va_get (D := D) (ci := 9) (v := .ref k05) (C := RX9) (T := TX9) (N := 9) hx hb hT giX9 hown hK hP 1 rfl rfl 5 (by decide) (hT (Cond.fieldLink RX10 193 "DesertWire$World" "parties" "LDesertWire$Parties;") mw_102) (fun _ h9 => h9) rfl dX10_give_65 ?_
              refine lv_iload_n hx hb dX10_give_68 rfl (lv_at hl 2 rfl) ?_
              refine kJi (wr := [(k, .inr (10, [.ref k0, .ref k1, .ref k2, .ref k3, .ref k4, .ref k5, .ref k6, .ref k7, .ref k8, .ref k9, .ref ka, .ref kb, .int cc])), (k0, .inr (9, [.ref k00, .ref k01, .ref k02, .ref k03, .ref k04, .ref k05, .int c06, .int c07, .int c08])), (kb, .inl (cI, 6, .inl cb))]) (va_runV (As := [.int a0]) (rest := []) ⟨hx, hb, hml, hown, hT⟩ (c_X3_isLostG l D cI aK aV k05 k050 H.size c051 c050 a0) (cwV 1 hT (gV_in mw_734 mw_731 mw_732 mw_733 mw_4) rfl rfl rfl (by decide +kernel) ⟨Nat.le_of_ble_eq_true rfl, Nat.le_of_ble_eq_true rfl⟩) (kRecvX (q0 := 4) (ci := 3) hK hP hD hN hXS hS hA rfl rfl [4, 3] rfl (by decide)) rfl rfl hl.1 rfl (lv_room (Nat.le_of_ble_eq_true rfl)) dX10_give_69 ⟨Nat.le_of_ble_eq_true rfl, Nat.le_of_ble_eq_true rfl⟩) hP hD hS hA [4, 3] [0, 1, 2] rfl rfl (by decide) (by decide) ?_
              clear hP hD hS
              intro r_20 u_22 H locs w_21 hP hD hS
              replace hP : va_P D vwCl [(k, .inr (10, [.ref k0, .ref k1, .ref k2, .ref k3, .ref k4, .ref k5, .ref k6, .ref k7, .ref k8, .ref k9, .ref ka, .ref kb, .int cc])), (k0, .inr (9, [.ref k00, .ref k01, .ref k02, .ref k03, .ref k04, .ref k05, .int c06, .int c07, .int c08])), (kb, .inl (cI, 6, .inl cb)), (k05, .inr (3, [.ref k050, .int c051])), (k050, .inl (cI, 36, .inl c050))] H := hP
              replace hD : va_D A [(k, .inr (10, [.ref k0, .ref k1, .ref k2, .ref k3, .ref k4, .ref k5, .ref k6, .ref k7, .ref k8, .ref k9, .ref ka, .ref kb, .int cc])), (k0, .inr (9, [.ref k00, .ref k01, .ref k02, .ref k03, .ref k04, .ref k05, .int c06, .int c07, .int c08])), (kb, .inl (cI, 6, .inl cb)), (k05, .inr (3, [.ref k050, .int c051])), (k050, .inl (cI, 36, .inl c050))] := hD
              have lo_r_20 := k_lo r_20
              have hi_r_20 := k_hi r_20
              refine b_if_eq hx hb rfl (tgt := 81) dX10_give_72 (by decide) (fun c_23 => ?_) (fun c_23 => ?_)
              · refine lv_iload_n hx hb dX10_give_81 rfl (lv_at hl 3 rfl) ?_
                refine b_if_ne hx hb rfl (tgt := 89) dX10_give_82 (by decide) (fun c_24 => ?_) (fun c_24 => ?_)
                · refine lv_iload_n hx hb dX10_give_89 rfl (lv_at hl 3 rfl) ?_
                  refine lv_iconst (v := 1) hx hb dX10_give_90 (by decide) ?_
                  refine b_icmp_ne hx hb rfl zl_1 (tgt := 99) dX10_give_91 (by decide) (fun c_25 => by exfalso; omega) (fun c_25 => ?_)
                  refine lv_bipush (v := 6) hx hb dX10_give_94 (by decide) ?_
                  refine lv_goto (tgt := 100) hx hb dX10_give_96 (by decide) ?_
                  refine lv_istore (lv' := [(5, .int 6), (4, .int 9999), (0, .ref k), (1, .int a0), (2, .int a1), (3, .int a2)]) hx hb dX10_give_100 hl (by decide) rfl ?_
                  clear hl
                  intro ls hl
                  refine lv_aload_n hx hb dX10_give_102 rfl (lv_at hl 2 rfl) ?_
                  refine va_get (D := D) (ci := 10) (v := .ref k0) (C := RX10) (T := TX10) (N := 13) hx hb hT giX10 hown hK hP 0 rfl rfl 0 (by decide) (hT (Cond.fieldLink RX10 12 "DesertWire" "now" "LDesertWire$World;") mw_291) (fun _ h9 => h9) rfl dX10_give_103 ?_
                  refine va_get (D := D) (ci := 9) (v := .ref k05) (C := RX9) (T := TX9) (N := 9) hx hb hT giX9 hown hK hP 1 rfl rfl 5 (by decide) (hT (Cond.fieldLink RX10 193 "DesertWire$World" "parties" "LDesertWire$Parties;") mw_102) (fun _ h9 => h9) rfl dX10_give_106 ?_
                  refine lv_iload_n hx hb dX10_give_109 rfl (lv_at hl 3 rfl) ?_
                  refine lv_iload hx hb dX10_give_110 (lv_at hl 0 rfl) ?_
                  refine kJi (wr := [(k, .inr (10, [.ref k0, .ref k1, .ref k2, .ref k3, .ref k4, .ref k5, .ref k6, .ref k7, .ref k8, .ref k9, .ref ka, .ref kb, .int cc])), (k0, .inr (9, [.ref k00, .ref k01, .ref k02, .ref k03, .ref k04, .ref k05, .int c06, .int c07, .int c08])), (kb, .inl (cI, 6, .inl cb))]) (va_runV (As := [.int a0, .int 6]) (rest := []) ⟨hx, hb, hml, hown, hT⟩ (c_X3_getG l D cI aK aV k05 k050 H.size c051 c050 a0 6) (cwV 2 hT (gV_in mw_726 mw_723 mw_724 mw_725 mw_4) rfl rfl rfl (by decide +kernel) ⟨Nat.le_of_ble_eq_true rfl, Nat.le_of_ble_eq_true rfl⟩) (kRecvX (q0 := 3) (ci := 3) hK hP hD hN hXS hS hA rfl rfl [3, 4] rfl (by decide)) rfl rfl hl.1 rfl (lv_room (Nat.le_of_ble_eq_true rfl)) dX10_give_112 ⟨Nat.le_of_ble_eq_true rfl, Nat.le_of_ble_eq_true rfl⟩) hP hD hS hA [3, 4] [0, 1, 2] rfl rfl (by decide) (by decide) ?_
                  clear hP hD hS
                  intro r_26 u_28 H locs w_27 hP hD hS
                  replace hP : va_P D vwCl [(k, .inr (10, [.ref k0, .ref k1, .ref k2, .ref k3, .ref k4, .ref k5, .ref k6, .ref k7, .ref k8, .ref k9, .ref ka, .ref kb, .int cc])), (k0, .inr (9, [.ref k00, .ref k01, .ref k02, .ref k03, .ref k04, .ref k05, .int c06, .int c07, .int c08])), (kb, .inl (cI, 6, .inl cb)), (k05, .inr (3, [.ref k050, .int c051])), (k050, .inl (cI, 36, .inl c050))] H := hP
                  replace hD : va_D A [(k, .inr (10, [.ref k0, .ref k1, .ref k2, .ref k3, .ref k4, .ref k5, .ref k6, .ref k7, .ref k8, .ref k9, .ref ka, .ref kb, .int cc])), (k0, .inr (9, [.ref k00, .ref k01, .ref k02, .ref k03, .ref k04, .ref k05, .int c06, .int c07, .int c08])), (kb, .inl (cI, 6, .inl cb)), (k05, .inr (3, [.ref k050, .int c051])), (k050, .inl (cI, 36, .inl c050))] := hD
                  have lo_r_26 := k_lo r_26
                  have hi_r_26 := k_hi r_26
                  refine lv_iload_n hx hb dX10_give_115 rfl (lv_at hl 5 rfl) ?_
                  refine lv_iadd hx hb dX10_give_116 ?_
                  refine lv_topi (fun v_29 ev_29 => ?_)
                  have lo_v_29 := k_lo v_29
                  have hi_v_29 := k_hi v_29
                  refine lv_istore (lv' := [(6, .int v_29), (5, .int 6), (4, .int 9999), (0, .ref k), (1, .int a0), (2, .int a1), (3, .int a2)]) hx hb dX10_give_117 hl (by decide) rfl ?_
                  clear hl
                  intro ls hl
                  refine lv_iload hx hb dX10_give_119 (lv_at hl 0 rfl) ?_
                  refine lv_iload hx hb dX10_give_121 (lv_at hl 2 rfl) ?_
                  refine b_icmp_le hx hb rfl zl_9999 (tgt := 132) dX10_give_123 (by decide) (fun c_30 => ?_) (fun c_30 => ?_)
                  · refine lv_aload_n hx hb dX10_give_132 rfl (lv_at hl 3 rfl) ?_
                    refine va_get (D := D) (ci := 10) (v := .ref k0) (C := RX10) (T := TX10) (N := 13) hx hb hT giX10 hown hK hP 0 rfl rfl 0 (by decide) (hT (Cond.fieldLink RX10 12 "DesertWire" "now" "LDesertWire$World;") mw_291) (fun _ h9 => h9) rfl dX10_give_133 ?_
                    refine va_get (D := D) (ci := 9) (v := .ref k05) (C := RX9) (T := TX9) (N := 9) hx hb hT giX9 hown hK hP 1 rfl rfl 5 (by decide) (hT (Cond.fieldLink RX10 193 "DesertWire$World" "parties" "LDesertWire$Parties;") mw_102) (fun _ h9 => h9) rfl dX10_give_136 ?_
                    refine lv_iload_n hx hb dX10_give_139 rfl (lv_at hl 4 rfl) ?_
                    refine lv_iload hx hb dX10_give_140 (lv_at hl 1 rfl) ?_
                    refine lv_iload hx hb dX10_give_142 (lv_at hl 0 rfl) ?_
                    refine kJv (wr := [(k, .inr (10, [.ref k0, .ref k1, .ref k2, .ref k3, .ref k4, .ref k5, .ref k6, .ref k7, .ref k8, .ref k9, .ref ka, .ref kb, .int cc])), (k0, .inr (9, [.ref k00, .ref k01, .ref k02, .ref k03, .ref k04, .ref k05, .int c06, .int c07, .int c08])), (kb, .inl (cI, 6, .inl cb))]) (va_runV (As := [.int a0, .int 6, .int v_29]) (rest := []) ⟨hx, hb, hml, hown, hT⟩ (c_X3_setG l D cI aK aV k05 k050 H.size c051 c050 a0 6 v_29) (cwV 3 hT (gV_in mw_713 mw_710 mw_711 mw_712 mw_4) rfl rfl rfl (by decide +kernel) ⟨Nat.le_of_ble_eq_true rfl, Nat.le_of_ble_eq_true rfl⟩) (kRecvX (q0 := 3) (ci := 3) hK hP hD hN hXS hS hA rfl rfl [3, 4] rfl (by decide)) rfl rfl hl.1 rfl (lv_room (Nat.le_of_ble_eq_true rfl)) dX10_give_144 ⟨Nat.le_of_ble_eq_true rfl, Nat.le_of_ble_eq_true rfl⟩) hP hD hS hA [3, 4] [0, 1, 2] rfl rfl (by decide) (by decide) ?_
                    clear hP hD hS
                    intro sc0_33 H locs w_32 hP hD hS
                    replace hP : va_P D vwCl [(k, .inr (10, [.ref k0, .ref k1, .ref k2, .ref k3, .ref k4, .ref k5, .ref k6, .ref k7, .ref k8, .ref k9, .ref ka, .ref kb, .int cc])), (k0, .inr (9, [.ref k00, .ref k01, .ref k02, .ref k03, .ref k04, .ref k05, .int c06, .int c07, .int c08])), (kb, .inl (cI, 6, .inl cb)), (k05, .inr (3, [.ref k050, .int c051])), (k050, .inl (cI, 36, .inl sc0_33))] H := hP
                    replace hD : va_D A [(k, .inr (10, [.ref k0, .ref k1, .ref k2, .ref k3, .ref k4, .ref k5, .ref k6, .ref k7, .ref k8, .ref k9, .ref ka, .ref kb, .int cc])), (k0, .inr (9, [.ref k00, .ref k01, .ref k02, .ref k03, .ref k04, .ref k05, .int c06, .int c07, .int c08])), (kb, .inl (cI, 6, .inl cb)), (k05, .inr (3, [.ref k050, .int c051])), (k050, .inl (cI, 36, .inl sc0_33))] := hD
                    refine lv_iload hx hb dX10_give_147 (lv_at hl 0 rfl) ?_
                    exact hRet (cb, sc0_33) [0, 1, 2, 3, 4] trivial hP hD (by decide) rfl hS rfl dX10_give_149
                  · refine lv_aload_n hx hb dX10_give_126 rfl (lv_at hl 3 rfl) ?_
                    refine lv_iconst (v := 4) hx hb dX10_give_127 (by decide) ?_
                    refine kJi (wr := [(k0, .inr (9, [.ref k00, .ref k01, .ref k02, .ref k03, .ref k04, .ref k05, .int c06, .int c07, .int c08])), (k05, .inr (3, [.ref k050, .int c051])), (k050, .inl (cI, 36, .inl c050))]) (va_runV (As := [.int 4]) (rest := []) ⟨hx, hb, hml, hown, hT⟩ (c_X10_findingG l D cI aK aV k k0 k1 k2 k3 k4 k5 k6 k7 k8 k9 ka kb H.size cc cb 4) (cwV 1 hT (gV_in mw_338 mw_335 mw_337 mw_p1_0 mw_1) rfl rfl rfl (by decide +kernel) ⟨Nat.le_of_ble_eq_true rfl, Nat.le_of_ble_eq_true rfl⟩) (kRecvX (q0 := 0) (ci := 10) hK hP hD hN hXS hS hA rfl rfl [0, 2] rfl (by decide)) rfl rfl hl.1 rfl (lv_room (Nat.le_of_ble_eq_true rfl)) dX10_give_128 ⟨Nat.le_of_ble_eq_true rfl, Nat.le_of_ble_eq_true rfl⟩) hP hD hS hA [0, 2] [1, 3, 4] rfl rfl (by decide) (by decide) ?_
                    clear hP hD hS
                    intro r_34 scb_36 H locs w_35 hP hD hS
                    replace hP : va_P D vwCl [(k0, .inr (9, [.ref k00, .ref k01, .ref k02, .ref k03, .ref k04, .ref k05, .int c06, .int c07, .int c08])), (k05, .inr (3, [.ref k050, .int c051])), (k050, .inl (cI, 36, .inl c050)), (k, .inr (10, [.ref k0, .ref k1, .ref k2, .ref k3, .ref k4, .ref k5, .ref k6, .ref k7, .ref k8, .ref k9, .ref ka, .ref kb, .int cc])), (kb, .inl (cI, 6, .inl scb_36))] H := hP
                    replace hD : va_D A [(k0, .inr (9, [.ref k00, .ref k01, .ref k02, .ref k03, .ref k04, .ref k05, .int c06, .int c07, .int c08])), (k05, .inr (3, [.ref k050, .int c051])), (k050, .inl (cI, 36, .inl c050)), (k, .inr (10, [.ref k0, .ref k1, .ref k2, .ref k3, .ref k4, .ref k5, .ref k6, .ref k7, .ref k8, .ref k9, .ref ka, .ref kb, .int cc])), (kb, .inl (cI, 6, .inl scb_36))] := hD
                    have hr_34 := w_35
                    obtain rfl : r_34 = (-1000004) := hr_34.trans (by decide)
                    exact hRet (scb_36, c050) [3, 0, 4, 1, 2] trivial hP hD (by decide) rfl hS rfl dX10_give_131
                · refine lv_iconst (v := 5) hx hb dX10_give_85 (by decide) ?_
                  refine lv_goto (tgt := 100) hx hb dX10_give_86 (by decide) ?_
                  refine lv_istore (lv' := [(5, .int 5), (4, .int 9999), (0, .ref k), (1, .int a0), (2, .int a1), (3, .int a2)]) hx hb dX10_give_100 hl (by decide) rfl ?_
                  clear hl
                  intro ls hl
                  refine lv_aload_n hx hb dX10_give_102 rfl (lv_at hl 2 rfl) ?_
                  refine va_get (D := D) (ci := 10) (v := .ref k0) (C := RX10) (T := TX10) (N := 13) hx hb hT giX10 hown hK hP 0 rfl rfl 0 (by decide) (hT (Cond.fieldLink RX10 12 "DesertWire" "now" "LDesertWire$World;") mw_291) (fun _ h9 => h9) rfl dX10_give_103 ?_
                  refine va_get (D := D) (ci := 9) (v := .ref k05) (C := RX9) (T := TX9) (N := 9) hx hb hT giX9 hown hK hP 1 rfl rfl 5 (by decide) (hT (Cond.fieldLink RX10 193 "DesertWire$World" "parties" "LDesertWire$Parties;") mw_102) (fun _ h9 => h9) rfl dX10_give_106 ?_
                  refine lv_iload_n hx hb dX10_give_109 rfl (lv_at hl 3 rfl) ?_
                  refine lv_iload hx hb dX10_give_110 (lv_at hl 0 rfl) ?_
                  refine kJi (wr := [(k, .inr (10, [.ref k0, .ref k1, .ref k2, .ref k3, .ref k4, .ref k5, .ref k6, .ref k7, .ref k8, .ref k9, .ref ka, .ref kb, .int cc])), (k0, .inr (9, [.ref k00, .ref k01, .ref k02, .ref k03, .ref k04, .ref k05, .int c06, .int c07, .int c08])), (kb, .inl (cI, 6, .inl cb))]) (va_runV (As := [.int a0, .int 5]) (rest := []) ⟨hx, hb, hml, hown, hT⟩ (c_X3_getG l D cI aK aV k05 k050 H.size c051 c050 a0 5) (cwV 2 hT (gV_in mw_726 mw_723 mw_724 mw_725 mw_4) rfl rfl rfl (by decide +kernel) ⟨Nat.le_of_ble_eq_true rfl, Nat.le_of_ble_eq_true rfl⟩) (kRecvX (q0 := 3) (ci := 3) hK hP hD hN hXS hS hA rfl rfl [3, 4] rfl (by decide)) rfl rfl hl.1 rfl (lv_room (Nat.le_of_ble_eq_true rfl)) dX10_give_112 ⟨Nat.le_of_ble_eq_true rfl, Nat.le_of_ble_eq_true rfl⟩) hP hD hS hA [3, 4] [0, 1, 2] rfl rfl (by decide) (by decide) ?_
                  clear hP hD hS
                  intro r_37 u_39 H locs w_38 hP hD hS
                  replace hP : va_P D vwCl [(k, .inr (10, [.ref k0, .ref k1, .ref k2, .ref k3, .ref k4, .ref k5, .ref k6, .ref k7, .ref k8, .ref k9, .ref ka, .ref kb, .int cc])), (k0, .inr (9, [.ref k00, .ref k01, .ref k02, .ref k03, .ref k04, .ref k05, .int c06, .int c07, .int c08])), (kb, .inl (cI, 6, .inl cb)), (k05, .inr (3, [.ref k050, .int c051])), (k050, .inl (cI, 36, .inl c050))] H := hP
                  replace hD : va_D A [(k, .inr (10, [.ref k0, .ref k1, .ref k2, .ref k3, .ref k4, .ref k5, .ref k6, .ref k7, .ref k8, .ref k9, .ref ka, .ref kb, .int cc])), (k0, .inr (9, [.ref k00, .ref k01, .ref k02, .ref k03, .ref k04, .ref k05, .int c06, .int c07, .int c08])), (kb, .inl (cI, 6, .inl cb)), (k05, .inr (3, [.ref k050, .int c051])), (k050, .inl (cI, 36, .inl c050))] := hD
                  have lo_r_37 := k_lo r_37
                  have hi_r_37 := k_hi r_37
                  refine lv_iload_n hx hb dX10_give_115 rfl (lv_at hl 5 rfl) ?_
                  refine lv_iadd hx hb dX10_give_116 ?_
                  refine lv_topi (fun v_40 ev_40 => ?_)
                  have lo_v_40 := k_lo v_40
                  have hi_v_40 := k_hi v_40
                  refine lv_istore (lv' := [(6, .int v_40), (5, .int 5), (4, .int 9999), (0, .ref k), (1, .int a0), (2, .int a1), (3, .int a2)]) hx hb dX10_give_117 hl (by decide) rfl ?_
                  clear hl
                  intro ls hl
                  refine lv_iload hx hb dX10_give_119 (lv_at hl 0 rfl) ?_
                  refine lv_iload hx hb dX10_give_121 (lv_at hl 2 rfl) ?_
                  refine b_icmp_le hx hb rfl zl_9999 (tgt := 132) dX10_give_123 (by decide) (fun c_41 => ?_) (fun c_41 => ?_)
                  · refine lv_aload_n hx hb dX10_give_132 rfl (lv_at hl 3 rfl) ?_
                    refine va_get (D := D) (ci := 10) (v := .ref k0) (C := RX10) (T := TX10) (N := 13) hx hb hT giX10 hown hK hP 0 rfl rfl 0 (by decide) (hT (Cond.fieldLink RX10 12 "DesertWire" "now" "LDesertWire$World;") mw_291) (fun _ h9 => h9) rfl dX10_give_133 ?_
                    refine va_get (D := D) (ci := 9) (v := .ref k05) (C := RX9) (T := TX9) (N := 9) hx hb hT giX9 hown hK hP 1 rfl rfl 5 (by decide) (hT (Cond.fieldLink RX10 193 "DesertWire$World" "parties" "LDesertWire$Parties;") mw_102) (fun _ h9 => h9) rfl dX10_give_136 ?_
                    refine lv_iload_n hx hb dX10_give_139 rfl (lv_at hl 4 rfl) ?_
                    refine lv_iload hx hb dX10_give_140 (lv_at hl 1 rfl) ?_
                    refine lv_iload hx hb dX10_give_142 (lv_at hl 0 rfl) ?_
                    refine kJv (wr := [(k, .inr (10, [.ref k0, .ref k1, .ref k2, .ref k3, .ref k4, .ref k5, .ref k6, .ref k7, .ref k8, .ref k9, .ref ka, .ref kb, .int cc])), (k0, .inr (9, [.ref k00, .ref k01, .ref k02, .ref k03, .ref k04, .ref k05, .int c06, .int c07, .int c08])), (kb, .inl (cI, 6, .inl cb))]) (va_runV (As := [.int a0, .int 5, .int v_40]) (rest := []) ⟨hx, hb, hml, hown, hT⟩ (c_X3_setG l D cI aK aV k05 k050 H.size c051 c050 a0 5 v_40) (cwV 3 hT (gV_in mw_713 mw_710 mw_711 mw_712 mw_4) rfl rfl rfl (by decide +kernel) ⟨Nat.le_of_ble_eq_true rfl, Nat.le_of_ble_eq_true rfl⟩) (kRecvX (q0 := 3) (ci := 3) hK hP hD hN hXS hS hA rfl rfl [3, 4] rfl (by decide)) rfl rfl hl.1 rfl (lv_room (Nat.le_of_ble_eq_true rfl)) dX10_give_144 ⟨Nat.le_of_ble_eq_true rfl, Nat.le_of_ble_eq_true rfl⟩) hP hD hS hA [3, 4] [0, 1, 2] rfl rfl (by decide) (by decide) ?_
                    clear hP hD hS
                    intro sc0_44 H locs w_43 hP hD hS
                    replace hP : va_P D vwCl [(k, .inr (10, [.ref k0, .ref k1, .ref k2, .ref k3, .ref k4, .ref k5, .ref k6, .ref k7, .ref k8, .ref k9, .ref ka, .ref kb, .int cc])), (k0, .inr (9, [.ref k00, .ref k01, .ref k02, .ref k03, .ref k04, .ref k05, .int c06, .int c07, .int c08])), (kb, .inl (cI, 6, .inl cb)), (k05, .inr (3, [.ref k050, .int c051])), (k050, .inl (cI, 36, .inl sc0_44))] H := hP
                    replace hD : va_D A [(k, .inr (10, [.ref k0, .ref k1, .ref k2, .ref k3, .ref k4, .ref k5, .ref k6, .ref k7, .ref k8, .ref k9, .ref ka, .ref kb, .int cc])), (k0, .inr (9, [.ref k00, .ref k01, .ref k02, .ref k03, .ref k04, .ref k05, .int c06, .int c07, .int c08])), (kb, .inl (cI, 6, .inl cb)), (k05, .inr (3, [.ref k050, .int c051])), (k050, .inl (cI, 36, .inl sc0_44))] := hD
                    refine lv_iload hx hb dX10_give_147 (lv_at hl 0 rfl) ?_
                    exact hRet (cb, sc0_44) [0, 1, 2, 3, 4] trivial hP hD (by decide) rfl hS rfl dX10_give_149
                  · refine lv_aload_n hx hb dX10_give_126 rfl (lv_at hl 3 rfl) ?_
                    refine lv_iconst (v := 4) hx hb dX10_give_127 (by decide) ?_
                    refine kJi (wr := [(k0, .inr (9, [.ref k00, .ref k01, .ref k02, .ref k03, .ref k04, .ref k05, .int c06, .int c07, .int c08])), (k05, .inr (3, [.ref k050, .int c051])), (k050, .inl (cI, 36, .inl c050))]) (va_runV (As := [.int 4]) (rest := []) ⟨hx, hb, hml, hown, hT⟩ (c_X10_findingG l D cI aK aV k k0 k1 k2 k3 k4 k5 k6 k7 k8 k9 ka kb H.size cc cb 4) (cwV 1 hT (gV_in mw_338 mw_335 mw_337 mw_p1_0 mw_1) rfl rfl rfl (by decide +kernel) ⟨Nat.le_of_ble_eq_true rfl, Nat.le_of_ble_eq_true rfl⟩) (kRecvX (q0 := 0) (ci := 10) hK hP hD hN hXS hS hA rfl rfl [0, 2] rfl (by decide)) rfl rfl hl.1 rfl (lv_room (Nat.le_of_ble_eq_true rfl)) dX10_give_128 ⟨Nat.le_of_ble_eq_true rfl, Nat.le_of_ble_eq_true rfl⟩) hP hD hS hA [0, 2] [1, 3, 4] rfl rfl (by decide) (by decide) ?_
                    clear hP hD hS
                    intro r_45 scb_47 H locs w_46 hP hD hS
                    replace hP : va_P D vwCl [(k0, .inr (9, [.ref k00, .ref k01, .ref k02, .ref k03, .ref k04, .ref k05, .int c06, .int c07, .int c08])), (k05, .inr (3, [.ref k050, .int c051])), (k050, .inl (cI, 36, .inl c050)), (k, .inr (10, [.ref k0, .ref k1, .ref k2, .ref k3, .ref k4, .ref k5, .ref k6, .ref k7, .ref k8, .ref k9, .ref ka, .ref kb, .int cc])), (kb, .inl (cI, 6, .inl scb_47))] H := hP
                    replace hD : va_D A [(k0, .inr (9, [.ref k00, .ref k01, .ref k02, .ref k03, .ref k04, .ref k05, .int c06, .int c07, .int c08])), (k05, .inr (3, [.ref k050, .int c051])), (k050, .inl (cI, 36, .inl c050)), (k, .inr (10, [.ref k0, .ref k1, .ref k2, .ref k3, .ref k4, .ref k5, .ref k6, .ref k7, .ref k8, .ref k9, .ref ka, .ref kb, .int cc])), (kb, .inl (cI, 6, .inl scb_47))] := hD
                    have hr_45 := w_46
                    obtain rfl : r_45 = (-1000004) := hr_45.trans (by decide)
                    exact hRet (scb_47, c050) [3, 0, 4, 1, 2] trivial hP hD (by decide) rfl hS rfl dX10_give_131
              · refine lv_aload_n hx hb dX10_give_75 rfl (lv_at hl 1 rfl) ?_
                refine lv_iconst (v := 3) hx hb dX10_give_76 (by decide) ?_
                refine kJi (wr := [(k0, .inr (9, [.ref k00, .ref k01, .ref k02, .ref k03, .ref k04, .ref k05, .int c06, .int c07, .int c08])), (k05, .inr (3, [.ref k050, .int c051])), (k050, .inl (cI, 36, .inl c050))]) (va_runV (As := [.int 3]) (rest := []) ⟨hx, hb, hml, hown, hT⟩ (c_X10_findingG l D cI aK aV k k0 k1 k2 k3 k4 k5 k6 k7 k8 k9 ka kb H.size cc cb 3) (cwV 1 hT (gV_in mw_338 mw_335 mw_337 mw_p1_0 mw_1) rfl rfl rfl (by decide +kernel) ⟨Nat.le_of_ble_eq_true rfl, Nat.le_of_ble_eq_true rfl⟩) (kRecvX (q0 := 0) (ci := 10) hK hP hD hN hXS hS hA rfl rfl [0, 2] rfl (by decide)) rfl rfl hl.1 rfl (lv_room (Nat.le_of_ble_eq_true rfl)) dX10_give_77 ⟨Nat.le_of_ble_eq_true rfl, Nat.le_of_ble_eq_true rfl⟩) hP hD hS hA [0, 2] [1, 3, 4] rfl rfl (by decide) (by decide) ?_
                clear hP hD hS
                intro r_48 scb_50 H locs w_49 hP hD hS
                replace hP : va_P D vwCl [(k0, .inr (9, [.ref k00, .ref k01, .ref k02, .ref k03, .ref k04, .ref k05, .int c06, .int c07, .int c08])), (k05, .inr (3, [.ref k050, .int c051])), (k050, .inl (cI, 36, .inl c050)), (k, .inr (10, [.ref k0, .ref k1, .ref k2, .ref k3, .ref k4, .ref k5, .ref k6, .ref k7, .ref k8, .ref k9, .ref ka, .ref kb, .int cc])), (kb, .inl (cI, 6, .inl scb_50))] H := hP
                replace hD : va_D A [(k0, .inr (9, [.ref k00, .ref k01, .ref k02, .ref k03, .ref k04, .ref k05, .int c06, .int c07, .int c08])), (k05, .inr (3, [.ref k050, .int c051])), (k050, .inl (cI, 36, .inl c050)), (k, .inr (10, [.ref k0, .ref k1, .ref k2, .ref k3, .ref k4, .ref k5, .ref k6, .ref k7, .ref k8, .ref k9, .ref ka, .ref kb, .int cc])), (kb, .inl (cI, 6, .inl scb_50))] := hD
                have hr_48 := w_49
                obtain rfl : r_48 = (-1000003) := hr_48.trans (by decide)
                exact hRet (scb_50, c050) [3, 0, 4, 1, 2] trivial hP hD (by decide) rfl hS rfl dX10_give_80
            · refine lv_aload_n hx hb dX10_give_55 rfl (lv_at hl 1 rfl) ?_
              refine lv_iconst (v := 1) hx hb dX10_give_56 (by decide) ?_
              refine kJi (wr := [(k0, .inr (9, [.ref k00, .ref k01, .ref k02, .ref k03, .ref k04, .ref k05, .int c06, .int c07, .int c08])), (k050, .inl (cI, 36, .inl c050)), (k05, .inr (3, [.ref k050, .int c051]))]) (va_runV (As := [.int 1]) (rest := []) ⟨hx, hb, hml, hown, hT⟩ (c_X10_findingG l D cI aK aV k k0 k1 k2 k3 k4 k5 k6 k7 k8 k9 ka kb H.size cc cb 1) (cwV 1 hT (gV_in mw_338 mw_335 mw_337 mw_p1_0 mw_1) rfl rfl rfl (by decide +kernel) ⟨Nat.le_of_ble_eq_true rfl, Nat.le_of_ble_eq_true rfl⟩) (kRecvX (q0 := 0) (ci := 10) hK hP hD hN hXS hS hA rfl rfl [0, 2] rfl (by decide)) rfl rfl hl.1 rfl (lv_room (Nat.le_of_ble_eq_true rfl)) dX10_give_57 ⟨Nat.le_of_ble_eq_true rfl, Nat.le_of_ble_eq_true rfl⟩) hP hD hS hA [0, 2] [1, 3, 4] rfl rfl (by decide) (by decide) ?_
              clear hP hD hS
              intro r_51 scb_53 H locs w_52 hP hD hS
              replace hP : va_P D vwCl [(k0, .inr (9, [.ref k00, .ref k01, .ref k02, .ref k03, .ref k04, .ref k05, .int c06, .int c07, .int c08])), (k050, .inl (cI, 36, .inl c050)), (k05, .inr (3, [.ref k050, .int c051])), (k, .inr (10, [.ref k0, .ref k1, .ref k2, .ref k3, .ref k4, .ref k5, .ref k6, .ref k7, .ref k8, .ref k9, .ref ka, .ref kb, .int cc])), (kb, .inl (cI, 6, .inl scb_53))] H := hP
              replace hD : va_D A [(k0, .inr (9, [.ref k00, .ref k01, .ref k02, .ref k03, .ref k04, .ref k05, .int c06, .int c07, .int c08])), (k050, .inl (cI, 36, .inl c050)), (k05, .inr (3, [.ref k050, .int c051])), (k, .inr (10, [.ref k0, .ref k1, .ref k2, .ref k3, .ref k4, .ref k5, .ref k6, .ref k7, .ref k8, .ref k9, .ref ka, .ref kb, .int cc])), (kb, .inl (cI, 6, .inl scb_53))] := hD
              have hr_51 := w_52
              obtain rfl : r_51 = (-1000001) := hr_51.trans (by decide)
              exact hRet (scb_53, c050) [3, 0, 4, 2, 1] trivial hP hD (by decide) rfl hS rfl dX10_give_60
        · refine lv_bipush (v := 99) hx hb dX10_give_34 (by decide) ?_
          refine lv_goto (tgt := 42) hx hb dX10_give_36 (by decide) ?_
          refine lv_istore (lv' := [(4, .int 99), (0, .ref k), (1, .int a0), (2, .int a1), (3, .int a2)]) hx hb dX10_give_42 hl (by decide) rfl ?_
          clear hl
          intro ls hl
          refine lv_iload_n hx hb dX10_give_44 rfl (lv_at hl 4 rfl) ?_
          refine lv_iconst (v := 1) hx hb dX10_give_45 (by decide) ?_
          refine b_icmp_lt hx hb rfl zl_1 (tgt := 55) dX10_give_46 (by decide) (fun c_54 => ?_) (fun c_54 => ?_)
          · refine lv_aload_n hx hb dX10_give_55 rfl (lv_at hl 1 rfl) ?_
            refine lv_iconst (v := 1) hx hb dX10_give_56 (by decide) ?_
            refine kJi (wr := [(k0, .inr (9, [.ref k00, .ref k01, .ref k02, .ref k03, .ref k04, .ref k05, .int c06, .int c07, .int c08])), (k050, .inl (cI, 36, .inl c050)), (k05, .inr (3, [.ref k050, .int c051]))]) (va_runV (As := [.int 1]) (rest := []) ⟨hx, hb, hml, hown, hT⟩ (c_X10_findingG l D cI aK aV k k0 k1 k2 k3 k4 k5 k6 k7 k8 k9 ka kb H.size cc cb 1) (cwV 1 hT (gV_in mw_338 mw_335 mw_337 mw_p1_0 mw_1) rfl rfl rfl (by decide +kernel) ⟨Nat.le_of_ble_eq_true rfl, Nat.le_of_ble_eq_true rfl⟩) (kRecvX (q0 := 0) (ci := 10) hK hP hD hN hXS hS hA rfl rfl [0, 2] rfl (by decide)) rfl rfl hl.1 rfl (lv_room (Nat.le_of_ble_eq_true rfl)) dX10_give_57 ⟨Nat.le_of_ble_eq_true rfl, Nat.le_of_ble_eq_true rfl⟩) hP hD hS hA [0, 2] [1, 3, 4] rfl rfl (by decide) (by decide) ?_
            clear hP hD hS
            intro r_55 scb_57 H locs w_56 hP hD hS
            replace hP : va_P D vwCl [(k0, .inr (9, [.ref k00, .ref k01, .ref k02, .ref k03, .ref k04, .ref k05, .int c06, .int c07, .int c08])), (k050, .inl (cI, 36, .inl c050)), (k05, .inr (3, [.ref k050, .int c051])), (k, .inr (10, [.ref k0, .ref k1, .ref k2, .ref k3, .ref k4, .ref k5, .ref k6, .ref k7, .ref k8, .ref k9, .ref ka, .ref kb, .int cc])), (kb, .inl (cI, 6, .inl scb_57))] H := hP
            replace hD : va_D A [(k0, .inr (9, [.ref k00, .ref k01, .ref k02, .ref k03, .ref k04, .ref k05, .int c06, .int c07, .int c08])), (k050, .inl (cI, 36, .inl c050)), (k05, .inr (3, [.ref k050, .int c051])), (k, .inr (10, [.ref k0, .ref k1, .ref k2, .ref k3, .ref k4, .ref k5, .ref k6, .ref k7, .ref k8, .ref k9, .ref ka, .ref kb, .int cc])), (kb, .inl (cI, 6, .inl scb_57))] := hD
            have hr_55 := w_56
            obtain rfl : r_55 = (-1000001) := hr_55.trans (by decide)
            exact hRet (scb_57, c050) [3, 0, 4, 2, 1] trivial hP hD (by decide) rfl hS rfl dX10_give_60
          · refine lv_iload_n hx hb dX10_give_49 rfl (lv_at hl 4 rfl) ?_
            refine lv_iload hx hb dX10_give_50 (lv_at hl 0 rfl) ?_
            refine b_icmp_le hx hb rfl zl_99 (tgt := 61) dX10_give_52 (by decide) (fun c_58 => ?_) (fun c_58 => ?_)
            · refine lv_aload_n hx hb dX10_give_61 rfl (lv_at hl 1 rfl) ?_
              refine va_get (D := D) (ci := 10) (v := .ref k0) (C := RX10) (T := TX10) (N := 13) hx hb hT giX10 hown hK hP 0 rfl rfl 0 (by decide) (hT (Cond.fieldLink RX10 12 "DesertWire" "now" "LDesertWire$World;") mw_291) (fun _ h9 => h9) rfl dX10_give_62 ?_
              refine va_get (D := D) (ci := 9) (v := .ref k05) (C := RX9) (T := TX9) (N := 9) hx hb hT giX9 hown hK hP 1 rfl rfl 5 (by decide) (hT (Cond.fieldLink RX10 193 "DesertWire$World" "parties" "LDesertWire$Parties;") mw_102) (fun _ h9 => h9) rfl dX10_give_65 ?_
              refine lv_iload_n hx hb dX10_give_68 rfl (lv_at hl 2 rfl) ?_
              refine kJi (wr := [(k, .inr (10, [.ref k0, .ref k1, .ref k2, .ref k3, .ref k4, .ref k5, .ref k6, .ref k7, .ref k8, .ref k9, .ref ka, .ref kb, .int cc])), (k0, .inr (9, [.ref k00, .ref k01, .ref k02, .ref k03, .ref k04, .ref k05, .int c06, .int c07, .int c08])), (kb, .inl (cI, 6, .inl cb))]) (va_runV (As := [.int a0]) (rest := []) ⟨hx, hb, hml, hown, hT⟩ (c_X3_isLostG l D cI aK aV k05 k050 H.size c051 c050 a0) (cwV 1 hT (gV_in mw_734 mw_731 mw_732 mw_733 mw_4) rfl rfl rfl (by decide +kernel) ⟨Nat.le_of_ble_eq_true rfl, Nat.le_of_ble_eq_true rfl⟩) (kRecvX (q0 := 4) (ci := 3) hK hP hD hN hXS hS hA rfl rfl [4, 3] rfl (by decide)) rfl rfl hl.1 rfl (lv_room (Nat.le_of_ble_eq_true rfl)) dX10_give_69 ⟨Nat.le_of_ble_eq_true rfl, Nat.le_of_ble_eq_true rfl⟩) hP hD hS hA [4, 3] [0, 1, 2] rfl rfl (by decide) (by decide) ?_
              clear hP hD hS
              intro r_59 u_61 H locs w_60 hP hD hS
              replace hP : va_P D vwCl [(k, .inr (10, [.ref k0, .ref k1, .ref k2, .ref k3, .ref k4, .ref k5, .ref k6, .ref k7, .ref k8, .ref k9, .ref ka, .ref kb, .int cc])), (k0, .inr (9, [.ref k00, .ref k01, .ref k02, .ref k03, .ref k04, .ref k05, .int c06, .int c07, .int c08])), (kb, .inl (cI, 6, .inl cb)), (k05, .inr (3, [.ref k050, .int c051])), (k050, .inl (cI, 36, .inl c050))] H := hP
              replace hD : va_D A [(k, .inr (10, [.ref k0, .ref k1, .ref k2, .ref k3, .ref k4, .ref k5, .ref k6, .ref k7, .ref k8, .ref k9, .ref ka, .ref kb, .int cc])), (k0, .inr (9, [.ref k00, .ref k01, .ref k02, .ref k03, .ref k04, .ref k05, .int c06, .int c07, .int c08])), (kb, .inl (cI, 6, .inl cb)), (k05, .inr (3, [.ref k050, .int c051])), (k050, .inl (cI, 36, .inl c050))] := hD
              have lo_r_59 := k_lo r_59
              have hi_r_59 := k_hi r_59
              refine b_if_eq hx hb rfl (tgt := 81) dX10_give_72 (by decide) (fun c_62 => ?_) (fun c_62 => ?_)
              · refine lv_iload_n hx hb dX10_give_81 rfl (lv_at hl 3 rfl) ?_
                refine b_if_ne hx hb rfl (tgt := 89) dX10_give_82 (by decide) (fun c_63 => ?_) (fun c_63 => by exfalso; omega)
                refine lv_iload_n hx hb dX10_give_89 rfl (lv_at hl 3 rfl) ?_
                refine lv_iconst (v := 1) hx hb dX10_give_90 (by decide) ?_
                refine b_icmp_ne hx hb rfl zl_1 (tgt := 99) dX10_give_91 (by decide) (fun c_64 => ?_) (fun c_64 => by exfalso; omega)
                refine lv_iconst (v := 4) hx hb dX10_give_99 (by decide) ?_
                refine lv_istore (lv' := [(5, .int 4), (4, .int 99), (0, .ref k), (1, .int a0), (2, .int a1), (3, .int a2)]) hx hb dX10_give_100 hl (by decide) rfl ?_
                clear hl
                intro ls hl
                refine lv_aload_n hx hb dX10_give_102 rfl (lv_at hl 2 rfl) ?_
                refine va_get (D := D) (ci := 10) (v := .ref k0) (C := RX10) (T := TX10) (N := 13) hx hb hT giX10 hown hK hP 0 rfl rfl 0 (by decide) (hT (Cond.fieldLink RX10 12 "DesertWire" "now" "LDesertWire$World;") mw_291) (fun _ h9 => h9) rfl dX10_give_103 ?_
                refine va_get (D := D) (ci := 9) (v := .ref k05) (C := RX9) (T := TX9) (N := 9) hx hb hT giX9 hown hK hP 1 rfl rfl 5 (by decide) (hT (Cond.fieldLink RX10 193 "DesertWire$World" "parties" "LDesertWire$Parties;") mw_102) (fun _ h9 => h9) rfl dX10_give_106 ?_
                refine lv_iload_n hx hb dX10_give_109 rfl (lv_at hl 3 rfl) ?_
                refine lv_iload hx hb dX10_give_110 (lv_at hl 0 rfl) ?_
                refine kJi (wr := [(k, .inr (10, [.ref k0, .ref k1, .ref k2, .ref k3, .ref k4, .ref k5, .ref k6, .ref k7, .ref k8, .ref k9, .ref ka, .ref kb, .int cc])), (k0, .inr (9, [.ref k00, .ref k01, .ref k02, .ref k03, .ref k04, .ref k05, .int c06, .int c07, .int c08])), (kb, .inl (cI, 6, .inl cb))]) (va_runV (As := [.int a0, .int 4]) (rest := []) ⟨hx, hb, hml, hown, hT⟩ (c_X3_getG l D cI aK aV k05 k050 H.size c051 c050 a0 4) (cwV 2 hT (gV_in mw_726 mw_723 mw_724 mw_725 mw_4) rfl rfl rfl (by decide +kernel) ⟨Nat.le_of_ble_eq_true rfl, Nat.le_of_ble_eq_true rfl⟩) (kRecvX (q0 := 3) (ci := 3) hK hP hD hN hXS hS hA rfl rfl [3, 4] rfl (by decide)) rfl rfl hl.1 rfl (lv_room (Nat.le_of_ble_eq_true rfl)) dX10_give_112 ⟨Nat.le_of_ble_eq_true rfl, Nat.le_of_ble_eq_true rfl⟩) hP hD hS hA [3, 4] [0, 1, 2] rfl rfl (by decide) (by decide) ?_
                clear hP hD hS
                intro r_65 u_67 H locs w_66 hP hD hS
                replace hP : va_P D vwCl [(k, .inr (10, [.ref k0, .ref k1, .ref k2, .ref k3, .ref k4, .ref k5, .ref k6, .ref k7, .ref k8, .ref k9, .ref ka, .ref kb, .int cc])), (k0, .inr (9, [.ref k00, .ref k01, .ref k02, .ref k03, .ref k04, .ref k05, .int c06, .int c07, .int c08])), (kb, .inl (cI, 6, .inl cb)), (k05, .inr (3, [.ref k050, .int c051])), (k050, .inl (cI, 36, .inl c050))] H := hP
                replace hD : va_D A [(k, .inr (10, [.ref k0, .ref k1, .ref k2, .ref k3, .ref k4, .ref k5, .ref k6, .ref k7, .ref k8, .ref k9, .ref ka, .ref kb, .int cc])), (k0, .inr (9, [.ref k00, .ref k01, .ref k02, .ref k03, .ref k04, .ref k05, .int c06, .int c07, .int c08])), (kb, .inl (cI, 6, .inl cb)), (k05, .inr (3, [.ref k050, .int c051])), (k050, .inl (cI, 36, .inl c050))] := hD
                have lo_r_65 := k_lo r_65
                have hi_r_65 := k_hi r_65
                refine lv_iload_n hx hb dX10_give_115 rfl (lv_at hl 5 rfl) ?_
                refine lv_iadd hx hb dX10_give_116 ?_
                refine lv_topi (fun v_68 ev_68 => ?_)
                have lo_v_68 := k_lo v_68
                have hi_v_68 := k_hi v_68
                refine lv_istore (lv' := [(6, .int v_68), (5, .int 4), (4, .int 99), (0, .ref k), (1, .int a0), (2, .int a1), (3, .int a2)]) hx hb dX10_give_117 hl (by decide) rfl ?_
                clear hl
                intro ls hl
                refine lv_iload hx hb dX10_give_119 (lv_at hl 0 rfl) ?_
                refine lv_iload hx hb dX10_give_121 (lv_at hl 2 rfl) ?_
                refine b_icmp_le hx hb rfl zl_99 (tgt := 132) dX10_give_123 (by decide) (fun c_69 => ?_) (fun c_69 => ?_)
                · refine lv_aload_n hx hb dX10_give_132 rfl (lv_at hl 3 rfl) ?_
                  refine va_get (D := D) (ci := 10) (v := .ref k0) (C := RX10) (T := TX10) (N := 13) hx hb hT giX10 hown hK hP 0 rfl rfl 0 (by decide) (hT (Cond.fieldLink RX10 12 "DesertWire" "now" "LDesertWire$World;") mw_291) (fun _ h9 => h9) rfl dX10_give_133 ?_
                  refine va_get (D := D) (ci := 9) (v := .ref k05) (C := RX9) (T := TX9) (N := 9) hx hb hT giX9 hown hK hP 1 rfl rfl 5 (by decide) (hT (Cond.fieldLink RX10 193 "DesertWire$World" "parties" "LDesertWire$Parties;") mw_102) (fun _ h9 => h9) rfl dX10_give_136 ?_
                  refine lv_iload_n hx hb dX10_give_139 rfl (lv_at hl 4 rfl) ?_
                  refine lv_iload hx hb dX10_give_140 (lv_at hl 1 rfl) ?_
                  refine lv_iload hx hb dX10_give_142 (lv_at hl 0 rfl) ?_
                  refine kJv (wr := [(k, .inr (10, [.ref k0, .ref k1, .ref k2, .ref k3, .ref k4, .ref k5, .ref k6, .ref k7, .ref k8, .ref k9, .ref ka, .ref kb, .int cc])), (k0, .inr (9, [.ref k00, .ref k01, .ref k02, .ref k03, .ref k04, .ref k05, .int c06, .int c07, .int c08])), (kb, .inl (cI, 6, .inl cb))]) (va_runV (As := [.int a0, .int 4, .int v_68]) (rest := []) ⟨hx, hb, hml, hown, hT⟩ (c_X3_setG l D cI aK aV k05 k050 H.size c051 c050 a0 4 v_68) (cwV 3 hT (gV_in mw_713 mw_710 mw_711 mw_712 mw_4) rfl rfl rfl (by decide +kernel) ⟨Nat.le_of_ble_eq_true rfl, Nat.le_of_ble_eq_true rfl⟩) (kRecvX (q0 := 3) (ci := 3) hK hP hD hN hXS hS hA rfl rfl [3, 4] rfl (by decide)) rfl rfl hl.1 rfl (lv_room (Nat.le_of_ble_eq_true rfl)) dX10_give_144 ⟨Nat.le_of_ble_eq_true rfl, Nat.le_of_ble_eq_true rfl⟩) hP hD hS hA [3, 4] [0, 1, 2] rfl rfl (by decide) (by decide) ?_
                  clear hP hD hS
                  intro sc0_72 H locs w_71 hP hD hS
                  replace hP : va_P D vwCl [(k, .inr (10, [.ref k0, .ref k1, .ref k2, .ref k3, .ref k4, .ref k5, .ref k6, .ref k7, .ref k8, .ref k9, .ref ka, .ref kb, .int cc])), (k0, .inr (9, [.ref k00, .ref k01, .ref k02, .ref k03, .ref k04, .ref k05, .int c06, .int c07, .int c08])), (kb, .inl (cI, 6, .inl cb)), (k05, .inr (3, [.ref k050, .int c051])), (k050, .inl (cI, 36, .inl sc0_72))] H := hP
                  replace hD : va_D A [(k, .inr (10, [.ref k0, .ref k1, .ref k2, .ref k3, .ref k4, .ref k5, .ref k6, .ref k7, .ref k8, .ref k9, .ref ka, .ref kb, .int cc])), (k0, .inr (9, [.ref k00, .ref k01, .ref k02, .ref k03, .ref k04, .ref k05, .int c06, .int c07, .int c08])), (kb, .inl (cI, 6, .inl cb)), (k05, .inr (3, [.ref k050, .int c051])), (k050, .inl (cI, 36, .inl sc0_72))] := hD
                  refine lv_iload hx hb dX10_give_147 (lv_at hl 0 rfl) ?_
                  exact hRet (cb, sc0_72) [0, 1, 2, 3, 4] trivial hP hD (by decide) rfl hS rfl dX10_give_149
                · refine lv_aload_n hx hb dX10_give_126 rfl (lv_at hl 3 rfl) ?_
                  refine lv_iconst (v := 4) hx hb dX10_give_127 (by decide) ?_
                  refine kJi (wr := [(k0, .inr (9, [.ref k00, .ref k01, .ref k02, .ref k03, .ref k04, .ref k05, .int c06, .int c07, .int c08])), (k05, .inr (3, [.ref k050, .int c051])), (k050, .inl (cI, 36, .inl c050))]) (va_runV (As := [.int 4]) (rest := []) ⟨hx, hb, hml, hown, hT⟩ (c_X10_findingG l D cI aK aV k k0 k1 k2 k3 k4 k5 k6 k7 k8 k9 ka kb H.size cc cb 4) (cwV 1 hT (gV_in mw_338 mw_335 mw_337 mw_p1_0 mw_1) rfl rfl rfl (by decide +kernel) ⟨Nat.le_of_ble_eq_true rfl, Nat.le_of_ble_eq_true rfl⟩) (kRecvX (q0 := 0) (ci := 10) hK hP hD hN hXS hS hA rfl rfl [0, 2] rfl (by decide)) rfl rfl hl.1 rfl (lv_room (Nat.le_of_ble_eq_true rfl)) dX10_give_128 ⟨Nat.le_of_ble_eq_true rfl, Nat.le_of_ble_eq_true rfl⟩) hP hD hS hA [0, 2] [1, 3, 4] rfl rfl (by decide) (by decide) ?_
                  clear hP hD hS
                  intro r_73 scb_75 H locs w_74 hP hD hS
                  replace hP : va_P D vwCl [(k0, .inr (9, [.ref k00, .ref k01, .ref k02, .ref k03, .ref k04, .ref k05, .int c06, .int c07, .int c08])), (k05, .inr (3, [.ref k050, .int c051])), (k050, .inl (cI, 36, .inl c050)), (k, .inr (10, [.ref k0, .ref k1, .ref k2, .ref k3, .ref k4, .ref k5, .ref k6, .ref k7, .ref k8, .ref k9, .ref ka, .ref kb, .int cc])), (kb, .inl (cI, 6, .inl scb_75))] H := hP
                  replace hD : va_D A [(k0, .inr (9, [.ref k00, .ref k01, .ref k02, .ref k03, .ref k04, .ref k05, .int c06, .int c07, .int c08])), (k05, .inr (3, [.ref k050, .int c051])), (k050, .inl (cI, 36, .inl c050)), (k, .inr (10, [.ref k0, .ref k1, .ref k2, .ref k3, .ref k4, .ref k5, .ref k6, .ref k7, .ref k8, .ref k9, .ref ka, .ref kb, .int cc])), (kb, .inl (cI, 6, .inl scb_75))] := hD
                  have hr_73 := w_74
                  obtain rfl : r_73 = (-1000004) := hr_73.trans (by decide)
                  exact hRet (scb_75, c050) [3, 0, 4, 1, 2] trivial hP hD (by decide) rfl hS rfl dX10_give_131
              · refine lv_aload_n hx hb dX10_give_75 rfl (lv_at hl 1 rfl) ?_
                refine lv_iconst (v := 3) hx hb dX10_give_76 (by decide) ?_
                refine kJi (wr := [(k0, .inr (9, [.ref k00, .ref k01, .ref k02, .ref k03, .ref k04, .ref k05, .int c06, .int c07, .int c08])), (k05, .inr (3, [.ref k050, .int c051])), (k050, .inl (cI, 36, .inl c050))]) (va_runV (As := [.int 3]) (rest := []) ⟨hx, hb, hml, hown, hT⟩ (c_X10_findingG l D cI aK aV k k0 k1 k2 k3 k4 k5 k6 k7 k8 k9 ka kb H.size cc cb 3) (cwV 1 hT (gV_in mw_338 mw_335 mw_337 mw_p1_0 mw_1) rfl rfl rfl (by decide +kernel) ⟨Nat.le_of_ble_eq_true rfl, Nat.le_of_ble_eq_true rfl⟩) (kRecvX (q0 := 0) (ci := 10) hK hP hD hN hXS hS hA rfl rfl [0, 2] rfl (by decide)) rfl rfl hl.1 rfl (lv_room (Nat.le_of_ble_eq_true rfl)) dX10_give_77 ⟨Nat.le_of_ble_eq_true rfl, Nat.le_of_ble_eq_true rfl⟩) hP hD hS hA [0, 2] [1, 3, 4] rfl rfl (by decide) (by decide) ?_
                clear hP hD hS
                intro r_76 scb_78 H locs w_77 hP hD hS
                replace hP : va_P D vwCl [(k0, .inr (9, [.ref k00, .ref k01, .ref k02, .ref k03, .ref k04, .ref k05, .int c06, .int c07, .int c08])), (k05, .inr (3, [.ref k050, .int c051])), (k050, .inl (cI, 36, .inl c050)), (k, .inr (10, [.ref k0, .ref k1, .ref k2, .ref k3, .ref k4, .ref k5, .ref k6, .ref k7, .ref k8, .ref k9, .ref ka, .ref kb, .int cc])), (kb, .inl (cI, 6, .inl scb_78))] H := hP
                replace hD : va_D A [(k0, .inr (9, [.ref k00, .ref k01, .ref k02, .ref k03, .ref k04, .ref k05, .int c06, .int c07, .int c08])), (k05, .inr (3, [.ref k050, .int c051])), (k050, .inl (cI, 36, .inl c050)), (k, .inr (10, [.ref k0, .ref k1, .ref k2, .ref k3, .ref k4, .ref k5, .ref k6, .ref k7, .ref k8, .ref k9, .ref ka, .ref kb, .int cc])), (kb, .inl (cI, 6, .inl scb_78))] := hD
                have hr_76 := w_77
                obtain rfl : r_76 = (-1000003) := hr_76.trans (by decide)
                exact hRet (scb_78, c050) [3, 0, 4, 1, 2] trivial hP hD (by decide) rfl hS rfl dX10_give_80
            · refine lv_aload_n hx hb dX10_give_55 rfl (lv_at hl 1 rfl) ?_
              refine lv_iconst (v := 1) hx hb dX10_give_56 (by decide) ?_
              refine kJi (wr := [(k0, .inr (9, [.ref k00, .ref k01, .ref k02, .ref k03, .ref k04, .ref k05, .int c06, .int c07, .int c08])), (k050, .inl (cI, 36, .inl c050)), (k05, .inr (3, [.ref k050, .int c051]))]) (va_runV (As := [.int 1]) (rest := []) ⟨hx, hb, hml, hown, hT⟩ (c_X10_findingG l D cI aK aV k k0 k1 k2 k3 k4 k5 k6 k7 k8 k9 ka kb H.size cc cb 1) (cwV 1 hT (gV_in mw_338 mw_335 mw_337 mw_p1_0 mw_1) rfl rfl rfl (by decide +kernel) ⟨Nat.le_of_ble_eq_true rfl, Nat.le_of_ble_eq_true rfl⟩) (kRecvX (q0 := 0) (ci := 10) hK hP hD hN hXS hS hA rfl rfl [0, 2] rfl (by decide)) rfl rfl hl.1 rfl (lv_room (Nat.le_of_ble_eq_true rfl)) dX10_give_57 ⟨Nat.le_of_ble_eq_true rfl, Nat.le_of_ble_eq_true rfl⟩) hP hD hS hA [0, 2] [1, 3, 4] rfl rfl (by decide) (by decide) ?_
              clear hP hD hS
              intro r_79 scb_81 H locs w_80 hP hD hS
              replace hP : va_P D vwCl [(k0, .inr (9, [.ref k00, .ref k01, .ref k02, .ref k03, .ref k04, .ref k05, .int c06, .int c07, .int c08])), (k050, .inl (cI, 36, .inl c050)), (k05, .inr (3, [.ref k050, .int c051])), (k, .inr (10, [.ref k0, .ref k1, .ref k2, .ref k3, .ref k4, .ref k5, .ref k6, .ref k7, .ref k8, .ref k9, .ref ka, .ref kb, .int cc])), (kb, .inl (cI, 6, .inl scb_81))] H := hP
              replace hD : va_D A [(k0, .inr (9, [.ref k00, .ref k01, .ref k02, .ref k03, .ref k04, .ref k05, .int c06, .int c07, .int c08])), (k050, .inl (cI, 36, .inl c050)), (k05, .inr (3, [.ref k050, .int c051])), (k, .inr (10, [.ref k0, .ref k1, .ref k2, .ref k3, .ref k4, .ref k5, .ref k6, .ref k7, .ref k8, .ref k9, .ref ka, .ref kb, .int cc])), (kb, .inl (cI, 6, .inl scb_81))] := hD
              have hr_79 := w_80
              obtain rfl : r_79 = (-1000001) := hr_79.trans (by decide)
              exact hRet (scb_81, c050) [3, 0, 4, 2, 1] trivial hP hD (by decide) rfl hS rfl dX10_give_60
      · refine lv_aload_n hx hb dX10_give_23 rfl (lv_at hl 0 rfl) ?_
        refine lv_iconst (v := 1) hx hb dX10_give_24 (by decide) ?_
        refine kJi (wr := [(k0, .inr (9, [.ref k00, .ref k01, .ref k02, .ref k03, .ref k04, .ref k05, .int c06, .int c07, .int c08])), (k050, .inl (cI, 36, .inl c050)), (k05, .inr (3, [.ref k050, .int c051]))]) (va_runV (As := [.int 1]) (rest := []) ⟨hx, hb, hml, hown, hT⟩ (c_X10_findingG l D cI aK aV k k0 k1 k2 k3 k4 k5 k6 k7 k8 k9 ka kb H.size cc cb 1) (cwV 1 hT (gV_in mw_338 mw_335 mw_337 mw_p1_0 mw_1) rfl rfl rfl (by decide +kernel) ⟨Nat.le_of_ble_eq_true rfl, Nat.le_of_ble_eq_true rfl⟩) (kRecvX (q0 := 0) (ci := 10) hK hP hD hN hXS hS hA rfl rfl [0, 2] rfl (by decide)) rfl rfl hl.1 rfl (lv_room (Nat.le_of_ble_eq_true rfl)) dX10_give_25 ⟨Nat.le_of_ble_eq_true rfl, Nat.le_of_ble_eq_true rfl⟩) hP hD hS hA [0, 2] [1, 3, 4] rfl rfl (by decide) (by decide) ?_
        clear hP hD hS
        intro r_82 scb_84 H locs w_83 hP hD hS
        replace hP : va_P D vwCl [(k0, .inr (9, [.ref k00, .ref k01, .ref k02, .ref k03, .ref k04, .ref k05, .int c06, .int c07, .int c08])), (k050, .inl (cI, 36, .inl c050)), (k05, .inr (3, [.ref k050, .int c051])), (k, .inr (10, [.ref k0, .ref k1, .ref k2, .ref k3, .ref k4, .ref k5, .ref k6, .ref k7, .ref k8, .ref k9, .ref ka, .ref kb, .int cc])), (kb, .inl (cI, 6, .inl scb_84))] H := hP
        replace hD : va_D A [(k0, .inr (9, [.ref k00, .ref k01, .ref k02, .ref k03, .ref k04, .ref k05, .int c06, .int c07, .int c08])), (k050, .inl (cI, 36, .inl c050)), (k05, .inr (3, [.ref k050, .int c051])), (k, .inr (10, [.ref k0, .ref k1, .ref k2, .ref k3, .ref k4, .ref k5, .ref k6, .ref k7, .ref k8, .ref k9, .ref ka, .ref kb, .int cc])), (kb, .inl (cI, 6, .inl scb_84))] := hD
        have hr_82 := w_83
        obtain rfl : r_82 = (-1000001) := hr_82.trans (by decide)
        exact hRet (scb_84, c050) [3, 0, 4, 2, 1] trivial hP hD (by decide) rfl hS rfl dX10_give_28
  · have h_7 : a0.toInt < 0 ∨ c051.toInt ≤ a0.toInt ∨ 4 ≤ a0.toInt := h_7
    obtain rfl : r_1 = 0 := hr_1.trans (by decide)
    refine b_if_eq hx hb zl_0 (tgt := 23) dX10_give_11 (by decide) (fun c_85 => ?_) (fun c_85 => by exfalso; omega)
    refine lv_aload_n hx hb dX10_give_23 rfl (lv_at hl 0 rfl) ?_
    refine lv_iconst (v := 1) hx hb dX10_give_24 (by decide) ?_
    refine kJi (wr := [(k0, .inr (9, [.ref k00, .ref k01, .ref k02, .ref k03, .ref k04, .ref k05, .int c06, .int c07, .int c08])), (k050, .inl (cI, 36, .inl c050)), (k05, .inr (3, [.ref k050, .int c051]))]) (va_runV (As := [.int 1]) (rest := []) ⟨hx, hb, hml, hown, hT⟩ (c_X10_findingG l D cI aK aV k k0 k1 k2 k3 k4 k5 k6 k7 k8 k9 ka kb H.size cc cb 1) (cwV 1 hT (gV_in mw_338 mw_335 mw_337 mw_p1_0 mw_1) rfl rfl rfl (by decide +kernel) ⟨Nat.le_of_ble_eq_true rfl, Nat.le_of_ble_eq_true rfl⟩) (kRecvX (q0 := 0) (ci := 10) hK hP hD hN hXS hS hA rfl rfl [0, 2] rfl (by decide)) rfl rfl hl.1 rfl (lv_room (Nat.le_of_ble_eq_true rfl)) dX10_give_25 ⟨Nat.le_of_ble_eq_true rfl, Nat.le_of_ble_eq_true rfl⟩) hP hD hS hA [0, 2] [1, 3, 4] rfl rfl (by decide) (by decide) ?_
    clear hP hD hS
    intro r_86 scb_88 H locs w_87 hP hD hS
    replace hP : va_P D vwCl [(k0, .inr (9, [.ref k00, .ref k01, .ref k02, .ref k03, .ref k04, .ref k05, .int c06, .int c07, .int c08])), (k050, .inl (cI, 36, .inl c050)), (k05, .inr (3, [.ref k050, .int c051])), (k, .inr (10, [.ref k0, .ref k1, .ref k2, .ref k3, .ref k4, .ref k5, .ref k6, .ref k7, .ref k8, .ref k9, .ref ka, .ref kb, .int cc])), (kb, .inl (cI, 6, .inl scb_88))] H := hP
    replace hD : va_D A [(k0, .inr (9, [.ref k00, .ref k01, .ref k02, .ref k03, .ref k04, .ref k05, .int c06, .int c07, .int c08])), (k050, .inl (cI, 36, .inl c050)), (k05, .inr (3, [.ref k050, .int c051])), (k, .inr (10, [.ref k0, .ref k1, .ref k2, .ref k3, .ref k4, .ref k5, .ref k6, .ref k7, .ref k8, .ref k9, .ref ka, .ref kb, .int cc])), (kb, .inl (cI, 6, .inl scb_88))] := hD
    have hr_86 := w_87
    obtain rfl : r_86 = (-1000001) := hr_86.trans (by decide)
    exact hRet (scb_88, c050) [3, 0, 4, 2, 1] trivial hP hD (by decide) rfl hS rfl dX10_give_28
theorem dX10_rest_0 : decode cX10_rest 0 = .ok (.aload_n 0, 1) := by decide +kernel
theorem dX10_rest_1 : decode cX10_rest 1 = .ok (.getfield 12, 3) := by decide +kernel
theorem dX10_rest_4 : decode cX10_rest 4 = .ok (.getfield 193, 3) := by decide +kernel
theorem dX10_rest_7 : decode cX10_rest 7 = .ok (.iload_n 1, 1) := by decide +kernel
theorem dX10_rest_8 : decode cX10_rest 8 = .ok (.invokevirtual 207, 3) := by decide +kernel
theorem dX10_rest_11 : decode cX10_rest 11 = .ok (.ifCond .ne 9, 3) := by decide +kernel
theorem dX10_rest_14 : decode cX10_rest 14 = .ok (.aload_n 0, 1) := by decide +kernel
theorem dX10_rest_15 : decode cX10_rest 15 = .ok (.iconst 1, 1) := by decide +kernel
theorem dX10_rest_16 : decode cX10_rest 16 = .ok (.invokevirtual 82, 3) := by decide +kernel
theorem dX10_rest_19 : decode cX10_rest 19 = .ok (.ireturn, 1) := by decide +kernel
theorem dX10_rest_20 : decode cX10_rest 20 = .ok (.aload_n 0, 1) := by decide +kernel
theorem dX10_rest_21 : decode cX10_rest 21 = .ok (.getfield 12, 3) := by decide +kernel
theorem dX10_rest_24 : decode cX10_rest 24 = .ok (.getfield 193, 3) := by decide +kernel
theorem dX10_rest_27 : decode cX10_rest 27 = .ok (.iload_n 1, 1) := by decide +kernel
theorem dX10_rest_28 : decode cX10_rest 28 = .ok (.invokevirtual 211, 3) := by decide +kernel
theorem dX10_rest_31 : decode cX10_rest 31 = .ok (.ifCond .eq 9, 3) := by decide +kernel
theorem dX10_rest_34 : decode cX10_rest 34 = .ok (.aload_n 0, 1) := by decide +kernel
theorem dX10_rest_35 : decode cX10_rest 35 = .ok (.iconst 3, 1) := by decide +kernel
theorem dX10_rest_36 : decode cX10_rest 36 = .ok (.invokevirtual 82, 3) := by decide +kernel
theorem dX10_rest_39 : decode cX10_rest 39 = .ok (.ireturn, 1) := by decide +kernel
theorem dX10_rest_40 : decode cX10_rest 40 = .ok (.iload_n 2, 1) := by decide +kernel
theorem dX10_rest_41 : decode cX10_rest 41 = .ok (.ifCond .eq 7, 3) := by decide +kernel
theorem dX10_rest_44 : decode cX10_rest 44 = .ok (.iconst 1, 1) := by decide +kernel
theorem dX10_rest_45 : decode cX10_rest 45 = .ok (.goto 4, 3) := by decide +kernel
theorem dX10_rest_48 : decode cX10_rest 48 = .ok (.iconst 0, 1) := by decide +kernel
theorem dX10_rest_49 : decode cX10_rest 49 = .ok (.istore_n 3, 1) := by decide +kernel
theorem dX10_rest_50 : decode cX10_rest 50 = .ok (.aload_n 0, 1) := by decide +kernel
theorem dX10_rest_51 : decode cX10_rest 51 = .ok (.getfield 12, 3) := by decide +kernel
theorem dX10_rest_54 : decode cX10_rest 54 = .ok (.getfield 193, 3) := by decide +kernel
theorem dX10_rest_57 : decode cX10_rest 57 = .ok (.iload_n 1, 1) := by decide +kernel
theorem dX10_rest_58 : decode cX10_rest 58 = .ok (.bipush 8, 2) := by decide +kernel
theorem dX10_rest_60 : decode cX10_rest 60 = .ok (.invokevirtual 208, 3) := by decide +kernel
theorem dX10_rest_63 : decode cX10_rest 63 = .ok (.istore 4, 2) := by decide +kernel
theorem dX10_rest_65 : decode cX10_rest 65 = .ok (.aload_n 0, 1) := by decide +kernel
theorem dX10_rest_66 : decode cX10_rest 66 = .ok (.getfield 12, 3) := by decide +kernel
theorem dX10_rest_69 : decode cX10_rest 69 = .ok (.getfield 193, 3) := by decide +kernel
theorem dX10_rest_72 : decode cX10_rest 72 = .ok (.iload_n 1, 1) := by decide +kernel
theorem dX10_rest_73 : decode cX10_rest 73 = .ok (.bipush 8, 2) := by decide +kernel
theorem dX10_rest_75 : decode cX10_rest 75 = .ok (.iload_n 3, 1) := by decide +kernel
theorem dX10_rest_76 : decode cX10_rest 76 = .ok (.invokevirtual 203, 3) := by decide +kernel
theorem dX10_rest_79 : decode cX10_rest 79 = .ok (.iload 4, 2) := by decide +kernel
theorem dX10_rest_81 : decode cX10_rest 81 = .ok (.iload_n 3, 1) := by decide +kernel
theorem dX10_rest_82 : decode cX10_rest 82 = .ok (.if_icmp .ne 7, 3) := by decide +kernel
theorem dX10_rest_85 : decode cX10_rest 85 = .ok (.iconst 0, 1) := by decide +kernel
theorem dX10_rest_86 : decode cX10_rest 86 = .ok (.goto 4, 3) := by decide +kernel
theorem dX10_rest_89 : decode cX10_rest 89 = .ok (.iconst 1, 1) := by decide +kernel
theorem dX10_rest_90 : decode cX10_rest 90 = .ok (.ireturn, 1) := by decide +kernel
set_option maxHeartbeats 4000000 in
set_option maxRecDepth 100000 in
theorem c_X10_restG (l : Launch) (D : va_G) (cI : ClassId) (aK aV : Nat → Nat) (k k0 k1 k2 k3 k4 k5 k6 k7 k8 k9 ka kb k00 k01 k02 k03 k04 k05 k050 : Nat) (sz : Nat) (cc : Int32) (c06 : Int32) (c07 : Int32) (c08 : Int32) (cb : Nat → Int32) (c051 : Int32) (c050 : Nat → Int32) (a0 : Int32) (a1 : Int32) : Met l yX10_rest (gW yX10_rest cX10_rest 5 (some .int)) ({ frames := 3, cells := 0, slots := 0, locals := 64 } : Room) (kPreX D cI aK aV [.ref k, .int a0, .int a1] [(k, .inr (10, [.ref k0, .ref k1, .ref k2, .ref k3, .ref k4, .ref k5, .ref k6, .ref k7, .ref k8, .ref k9, .ref ka, .ref kb, .int cc])), (k0, .inr (9, [.ref k00, .ref k01, .ref k02, .ref k03, .ref k04, .ref k05, .int c06, .int c07, .int c08])), (kb, .inl (cI, 6, .inl cb)), (k05, .inr (3, [.ref k050, .int c051])), (k050, .inl (cI, 36, .inl c050))] sz) (va_Qi (fun (r : Int32) (u : (Nat → Int32) × (Nat → Int32)) => True) (fun u t => kWd D cI (va_A [(k, .inr (10, [.ref k0, .ref k1, .ref k2, .ref k3, .ref k4, .ref k5, .ref k6, .ref k7, .ref k8, .ref k9, .ref ka, .ref kb, .int cc])), (k0, .inr (9, [.ref k00, .ref k01, .ref k02, .ref k03, .ref k04, .ref k05, .int c06, .int c07, .int c08])), (kb, .inl (cI, 6, .inl cb)), (k05, .inr (3, [.ref k050, .int c051])), (k050, .inl (cI, 36, .inl c050))] sz) [(k, .inr (10, [.ref k0, .ref k1, .ref k2, .ref k3, .ref k4, .ref k5, .ref k6, .ref k7, .ref k8, .ref k9, .ref ka, .ref kb, .int cc])), (k0, .inr (9, [.ref k00, .ref k01, .ref k02, .ref k03, .ref k04, .ref k05, .int c06, .int c07, .int c08])), (kb, .inl (cI, 6, .inl u.1)), (k05, .inr (3, [.ref k050, .int c051])), (k050, .inl (cI, 36, .inl u.2))] t) (va_A [(k, .inr (10, [.ref k0, .ref k1, .ref k2, .ref k3, .ref k4, .ref k5, .ref k6, .ref k7, .ref k8, .ref k9, .ref ka, .ref kb, .int cc])), (k0, .inr (9, [.ref k00, .ref k01, .ref k02, .ref k03, .ref k04, .ref k05, .int c06, .int c07, .int c08])), (kb, .inl (cI, 6, .inl cb)), (k05, .inr (3, [.ref k050, .int c051])), (k050, .inl (cI, 36, .inl c050))] sz)) 0 0 (va_A [(k, .inr (10, [.ref k0, .ref k1, .ref k2, .ref k3, .ref k4, .ref k5, .ref k6, .ref k7, .ref k8, .ref k9, .ref ka, .ref kb, .int cc])), (k0, .inr (9, [.ref k00, .ref k01, .ref k02, .ref k03, .ref k04, .ref k05, .int c06, .int c07, .int c08])), (kb, .inl (cI, 6, .inl cb)), (k05, .inr (3, [.ref k050, .int c051])), (k050, .inl (cI, 36, .inl c050))] sz) := by
  refine kMetIX (own := RX10) (by decide) rfl (Nat.le_of_ble_eq_true rfl) ?_
  intro p e s m args below meth c hx hb hT hown hname hml A Q hK hP hD hS hA hN hXS hRet ls hl
  have hl : lv_has ls 5 [(0, .ref k), (1, .int a0), (2, .int a1)] := hl
  have lo_a0 := k_lo a0
  have hi_a0 := k_hi a0
  have lo_a1 := k_lo a1
  have hi_a1 := k_hi a1
  have lo_c051 := k_lo c051
  have hi_c051 := k_hi c051
  refine lv_aload_n hx hb dX10_rest_0 rfl (lv_at hl 0 rfl) ?_
  refine va_get (D := D) (ci := 10) (v := .ref k0) (C := RX10) (T := TX10) (N := 13) hx hb hT giX10 hown hK hP 0 rfl rfl 0 (by decide) (hT (Cond.fieldLink RX10 12 "DesertWire" "now" "LDesertWire$World;") mw_291) (fun _ h9 => h9) rfl dX10_rest_1 ?_
  refine va_get (D := D) (ci := 9) (v := .ref k05) (C := RX9) (T := TX9) (N := 9) hx hb hT giX9 hown hK hP 1 rfl rfl 5 (by decide) (hT (Cond.fieldLink RX10 193 "DesertWire$World" "parties" "LDesertWire$Parties;") mw_102) (fun _ h9 => h9) rfl dX10_rest_4 ?_
  refine lv_iload_n hx hb dX10_rest_7 rfl (lv_at hl 1 rfl) ?_
  refine kJi (wr := [(k, .inr (10, [.ref k0, .ref k1, .ref k2, .ref k3, .ref k4, .ref k5, .ref k6, .ref k7, .ref k8, .ref k9, .ref ka, .ref kb, .int cc])), (k0, .inr (9, [.ref k00, .ref k01, .ref k02, .ref k03, .ref k04, .ref k05, .int c06, .int c07, .int c08])), (kb, .inl (cI, 6, .inl cb)), (k050, .inl (cI, 36, .inl c050))]) (va_runV (As := [.int a0]) (rest := []) ⟨hx, hb, hml, hown, hT⟩ (c_X3_hasG l D cI aK aV k05 k050 s.heap.size c051 a0) (cwV 1 hT (gV_in mw_717 mw_722 mw_715 mw_716 mw_4) rfl rfl rfl (by decide +kernel) ⟨Nat.le_of_ble_eq_true rfl, Nat.le_of_ble_eq_true rfl⟩) (kRecvX (q0 := 3) (ci := 3) hK hP hD hN hXS hS hA rfl rfl [3] rfl (by decide)) rfl rfl hl.1 rfl (lv_room (Nat.le_of_ble_eq_true rfl)) dX10_rest_8 ⟨Nat.le_of_ble_eq_true rfl, Nat.le_of_ble_eq_true rfl⟩) hP hD hS hA [3] [0, 1, 2, 4] rfl rfl (by decide) (by decide) ?_
  clear hP hD hS
  intro r_1 u_3 H locs w_2 hP hD hS
  replace hP : va_P D vwCl [(k, .inr (10, [.ref k0, .ref k1, .ref k2, .ref k3, .ref k4, .ref k5, .ref k6, .ref k7, .ref k8, .ref k9, .ref ka, .ref kb, .int cc])), (k0, .inr (9, [.ref k00, .ref k01, .ref k02, .ref k03, .ref k04, .ref k05, .int c06, .int c07, .int c08])), (kb, .inl (cI, 6, .inl cb)), (k050, .inl (cI, 36, .inl c050)), (k05, .inr (3, [.ref k050, .int c051]))] H := hP
  replace hD : va_D A [(k, .inr (10, [.ref k0, .ref k1, .ref k2, .ref k3, .ref k4, .ref k5, .ref k6, .ref k7, .ref k8, .ref k9, .ref ka, .ref kb, .int cc])), (k0, .inr (9, [.ref k00, .ref k01, .ref k02, .ref k03, .ref k04, .ref k05, .int c06, .int c07, .int c08])), (kb, .inl (cI, 6, .inl cb)), (k050, .inl (cI, 36, .inl c050)), (k05, .inr (3, [.ref k050, .int c051]))] := hD
  rcases w_2 with ⟨hr_1, h_4, h_5, h_6⟩ | ⟨hr_1, h_7⟩
  · have h_4 : 0 ≤ a0.toInt := h_4
    have h_5 : a0.toInt < c051.toInt := h_5
    have h_6 : a0.toInt < 4 := h_6
    obtain rfl : r_1 = 1 := hr_1.trans (by decide)
    refine b_if_ne hx hb zl_1 (tgt := 20) dX10_rest_11 (by decide) (fun c_8 => ?_) (fun c_8 => by exfalso; omega)
    refine lv_aload_n hx hb dX10_rest_20 rfl (lv_at hl 0 rfl) ?_
    refine va_get (D := D) (ci := 10) (v := .ref k0) (C := RX10) (T := TX10) (N := 13) hx hb hT giX10 hown hK hP 0 rfl rfl 0 (by decide) (hT (Cond.fieldLink RX10 12 "DesertWire" "now" "LDesertWire$World;") mw_291) (fun _ h9 => h9) rfl dX10_rest_21 ?_
    refine va_get (D := D) (ci := 9) (v := .ref k05) (C := RX9) (T := TX9) (N := 9) hx hb hT giX9 hown hK hP 1 rfl rfl 5 (by decide) (hT (Cond.fieldLink RX10 193 "DesertWire$World" "parties" "LDesertWire$Parties;") mw_102) (fun _ h9 => h9) rfl dX10_rest_24 ?_
    refine lv_iload_n hx hb dX10_rest_27 rfl (lv_at hl 1 rfl) ?_
    refine kJi (wr := [(k, .inr (10, [.ref k0, .ref k1, .ref k2, .ref k3, .ref k4, .ref k5, .ref k6, .ref k7, .ref k8, .ref k9, .ref ka, .ref kb, .int cc])), (k0, .inr (9, [.ref k00, .ref k01, .ref k02, .ref k03, .ref k04, .ref k05, .int c06, .int c07, .int c08])), (kb, .inl (cI, 6, .inl cb))]) (va_runV (As := [.int a0]) (rest := []) ⟨hx, hb, hml, hown, hT⟩ (c_X3_isLostG l D cI aK aV k05 k050 H.size c051 c050 a0) (cwV 1 hT (gV_in mw_734 mw_731 mw_732 mw_733 mw_4) rfl rfl rfl (by decide +kernel) ⟨Nat.le_of_ble_eq_true rfl, Nat.le_of_ble_eq_true rfl⟩) (kRecvX (q0 := 4) (ci := 3) hK hP hD hN hXS hS hA rfl rfl [4, 3] rfl (by decide)) rfl rfl hl.1 rfl (lv_room (Nat.le_of_ble_eq_true rfl)) dX10_rest_28 ⟨Nat.le_of_ble_eq_true rfl, Nat.le_of_ble_eq_true rfl⟩) hP hD hS hA [4, 3] [0, 1, 2] rfl rfl (by decide) (by decide) ?_
    clear hP hD hS
    intro r_9 u_11 H locs w_10 hP hD hS
    replace hP : va_P D vwCl [(k, .inr (10, [.ref k0, .ref k1, .ref k2, .ref k3, .ref k4, .ref k5, .ref k6, .ref k7, .ref k8, .ref k9, .ref ka, .ref kb, .int cc])), (k0, .inr (9, [.ref k00, .ref k01, .ref k02, .ref k03, .ref k04, .ref k05, .int c06, .int c07, .int c08])), (kb, .inl (cI, 6, .inl cb)), (k05, .inr (3, [.ref k050, .int c051])), (k050, .inl (cI, 36, .inl c050))] H := hP
    replace hD : va_D A [(k, .inr (10, [.ref k0, .ref k1, .ref k2, .ref k3, .ref k4, .ref k5, .ref k6, .ref k7, .ref k8, .ref k9, .ref ka, .ref kb, .int cc])), (k0, .inr (9, [.ref k00, .ref k01, .ref k02, .ref k03, .ref k04, .ref k05, .int c06, .int c07, .int c08])), (kb, .inl (cI, 6, .inl cb)), (k05, .inr (3, [.ref k050, .int c051])), (k050, .inl (cI, 36, .inl c050))] := hD
    have lo_r_9 := k_lo r_9
    have hi_r_9 := k_hi r_9
    refine b_if_eq hx hb rfl (tgt := 40) dX10_rest_31 (by decide) (fun c_12 => ?_) (fun c_12 => ?_)
    · refine lv_iload_n hx hb dX10_rest_40 rfl (lv_at hl 2 rfl) ?_
      refine b_if_eq hx hb rfl (tgt := 48) dX10_rest_41 (by decide) (fun c_13 => ?_) (fun c_13 => ?_)
      · refine lv_iconst (v := 0) hx hb dX10_rest_48 (by decide) ?_
        refine lv_istore_n (lv' := [(3, .int 0), (0, .ref k), (1, .int a0), (2, .int a1)]) hx hb dX10_rest_49 rfl hl (by decide) rfl ?_
        clear hl
        intro ls hl
        refine lv_aload_n hx hb dX10_rest_50 rfl (lv_at hl 1 rfl) ?_
        refine va_get (D := D) (ci := 10) (v := .ref k0) (C := RX10) (T := TX10) (N := 13) hx hb hT giX10 hown hK hP 0 rfl rfl 0 (by decide) (hT (Cond.fieldLink RX10 12 "DesertWire" "now" "LDesertWire$World;") mw_291) (fun _ h9 => h9) rfl dX10_rest_51 ?_
        refine va_get (D := D) (ci := 9) (v := .ref k05) (C := RX9) (T := TX9) (N := 9) hx hb hT giX9 hown hK hP 1 rfl rfl 5 (by decide) (hT (Cond.fieldLink RX10 193 "DesertWire$World" "parties" "LDesertWire$Parties;") mw_102) (fun _ h9 => h9) rfl dX10_rest_54 ?_
        refine lv_iload_n hx hb dX10_rest_57 rfl (lv_at hl 2 rfl) ?_
        refine lv_bipush (v := 8) hx hb dX10_rest_58 (by decide) ?_
        refine kJi (wr := [(k, .inr (10, [.ref k0, .ref k1, .ref k2, .ref k3, .ref k4, .ref k5, .ref k6, .ref k7, .ref k8, .ref k9, .ref ka, .ref kb, .int cc])), (k0, .inr (9, [.ref k00, .ref k01, .ref k02, .ref k03, .ref k04, .ref k05, .int c06, .int c07, .int c08])), (kb, .inl (cI, 6, .inl cb))]) (va_runV (As := [.int a0, .int 8]) (rest := []) ⟨hx, hb, hml, hown, hT⟩ (c_X3_getG l D cI aK aV k05 k050 H.size c051 c050 a0 8) (cwV 2 hT (gV_in mw_726 mw_723 mw_724 mw_725 mw_4) rfl rfl rfl (by decide +kernel) ⟨Nat.le_of_ble_eq_true rfl, Nat.le_of_ble_eq_true rfl⟩) (kRecvX (q0 := 3) (ci := 3) hK hP hD hN hXS hS hA rfl rfl [3, 4] rfl (by decide)) rfl rfl hl.1 rfl (lv_room (Nat.le_of_ble_eq_true rfl)) dX10_rest_60 ⟨Nat.le_of_ble_eq_true rfl, Nat.le_of_ble_eq_true rfl⟩) hP hD hS hA [3, 4] [0, 1, 2] rfl rfl (by decide) (by decide) ?_
        clear hP hD hS
        intro r_14 u_16 H locs w_15 hP hD hS
        replace hP : va_P D vwCl [(k, .inr (10, [.ref k0, .ref k1, .ref k2, .ref k3, .ref k4, .ref k5, .ref k6, .ref k7, .ref k8, .ref k9, .ref ka, .ref kb, .int cc])), (k0, .inr (9, [.ref k00, .ref k01, .ref k02, .ref k03, .ref k04, .ref k05, .int c06, .int c07, .int c08])), (kb, .inl (cI, 6, .inl cb)), (k05, .inr (3, [.ref k050, .int c051])), (k050, .inl (cI, 36, .inl c050))] H := hP
        replace hD : va_D A [(k, .inr (10, [.ref k0, .ref k1, .ref k2, .ref k3, .ref k4, .ref k5, .ref k6, .ref k7, .ref k8, .ref k9, .ref ka, .ref kb, .int cc])), (k0, .inr (9, [.ref k00, .ref k01, .ref k02, .ref k03, .ref k04, .ref k05, .int c06, .int c07, .int c08])), (kb, .inl (cI, 6, .inl cb)), (k05, .inr (3, [.ref k050, .int c051])), (k050, .inl (cI, 36, .inl c050))] := hD
        have lo_r_14 := k_lo r_14
        have hi_r_14 := k_hi r_14
        refine lv_istore (lv' := [(4, .int r_14), (3, .int 0), (0, .ref k), (1, .int a0), (2, .int a1)]) hx hb dX10_rest_63 hl (by decide) rfl ?_
        clear hl
        intro ls hl
        refine lv_aload_n hx hb dX10_rest_65 rfl (lv_at hl 2 rfl) ?_
        refine va_get (D := D) (ci := 10) (v := .ref k0) (C := RX10) (T := TX10) (N := 13) hx hb hT giX10 hown hK hP 0 rfl rfl 0 (by decide) (hT (Cond.fieldLink RX10 12 "DesertWire" "now" "LDesertWire$World;") mw_291) (fun _ h9 => h9) rfl dX10_rest_66 ?_
        refine va_get (D := D) (ci := 9) (v := .ref k05) (C := RX9) (T := TX9) (N := 9) hx hb hT giX9 hown hK hP 1 rfl rfl 5 (by decide) (hT (Cond.fieldLink RX10 193 "DesertWire$World" "parties" "LDesertWire$Parties;") mw_102) (fun _ h9 => h9) rfl dX10_rest_69 ?_
        refine lv_iload_n hx hb dX10_rest_72 rfl (lv_at hl 3 rfl) ?_
        refine lv_bipush (v := 8) hx hb dX10_rest_73 (by decide) ?_
        refine lv_iload_n hx hb dX10_rest_75 rfl (lv_at hl 1 rfl) ?_
        refine kJv (wr := [(k, .inr (10, [.ref k0, .ref k1, .ref k2, .ref k3, .ref k4, .ref k5, .ref k6, .ref k7, .ref k8, .ref k9, .ref ka, .ref kb, .int cc])), (k0, .inr (9, [.ref k00, .ref k01, .ref k02, .ref k03, .ref k04, .ref k05, .int c06, .int c07, .int c08])), (kb, .inl (cI, 6, .inl cb))]) (va_runV (As := [.int a0, .int 8, .int 0]) (rest := []) ⟨hx, hb, hml, hown, hT⟩ (c_X3_setG l D cI aK aV k05 k050 H.size c051 c050 a0 8 0) (cwV 3 hT (gV_in mw_713 mw_710 mw_711 mw_712 mw_4) rfl rfl rfl (by decide +kernel) ⟨Nat.le_of_ble_eq_true rfl, Nat.le_of_ble_eq_true rfl⟩) (kRecvX (q0 := 3) (ci := 3) hK hP hD hN hXS hS hA rfl rfl [3, 4] rfl (by decide)) rfl rfl hl.1 rfl (lv_room (Nat.le_of_ble_eq_true rfl)) dX10_rest_76 ⟨Nat.le_of_ble_eq_true rfl, Nat.le_of_ble_eq_true rfl⟩) hP hD hS hA [3, 4] [0, 1, 2] rfl rfl (by decide) (by decide) ?_
        clear hP hD hS
        intro sc0_19 H locs w_18 hP hD hS
        replace hP : va_P D vwCl [(k, .inr (10, [.ref k0, .ref k1, .ref k2, .ref k3, .ref k4, .ref k5, .ref k6, .ref k7, .ref k8, .ref k9, .ref ka, .ref kb, .int cc])), (k0, .inr (9, [.ref k00, .ref k01, .ref k02, .ref k03, .ref k04, .ref k05, .int c06, .int c07, .int c08])), (kb, .inl (cI, 6, .inl cb)), (k05, .inr (3, [.ref k050, .int c051])), (k050, .inl (cI, 36, .inl sc0_19))] H := hP
        replace hD : va_D A [(k, .inr (10, [.ref k0, .ref k1, .ref k2, .ref k3, .ref k4, .ref k5, .ref k6, .ref k7, .ref k8, .ref k9, .ref ka, .ref kb, .int cc])), (k0, .inr (9, [.ref k00, .ref k01, .ref k02, .ref k03, .ref k04, .ref k05, .int c06, .int c07, .int c08])), (kb, .inl (cI, 6, .inl cb)), (k05, .inr (3, [.ref k050, .int c051])), (k050, .inl (cI, 36, .inl sc0_19))] := hD
        refine lv_iload hx hb dX10_rest_79 (lv_at hl 0 rfl) ?_
        refine lv_iload_n hx hb dX10_rest_81 rfl (lv_at hl 1 rfl) ?_
        refine b_icmp_ne hx hb rfl zl_0 (tgt := 89) dX10_rest_82 (by decide) (fun c_20 => ?_) (fun c_20 => ?_)
        · refine lv_iconst (v := 1) hx hb dX10_rest_89 (by decide) ?_
          exact hRet (cb, sc0_19) [0, 1, 2, 3, 4] trivial hP hD (by decide) rfl hS rfl dX10_rest_90
        · refine lv_iconst (v := 0) hx hb dX10_rest_85 (by decide) ?_
          refine lv_goto (tgt := 90) hx hb dX10_rest_86 (by decide) ?_
          exact hRet (cb, sc0_19) [0, 1, 2, 3, 4] trivial hP hD (by decide) rfl hS rfl dX10_rest_90
      · refine lv_iconst (v := 1) hx hb dX10_rest_44 (by decide) ?_
        refine lv_goto (tgt := 49) hx hb dX10_rest_45 (by decide) ?_
        refine lv_istore_n (lv' := [(3, .int 1), (0, .ref k), (1, .int a0), (2, .int a1)]) hx hb dX10_rest_49 rfl hl (by decide) rfl ?_
        clear hl
        intro ls hl
        refine lv_aload_n hx hb dX10_rest_50 rfl (lv_at hl 1 rfl) ?_
        refine va_get (D := D) (ci := 10) (v := .ref k0) (C := RX10) (T := TX10) (N := 13) hx hb hT giX10 hown hK hP 0 rfl rfl 0 (by decide) (hT (Cond.fieldLink RX10 12 "DesertWire" "now" "LDesertWire$World;") mw_291) (fun _ h9 => h9) rfl dX10_rest_51 ?_
        refine va_get (D := D) (ci := 9) (v := .ref k05) (C := RX9) (T := TX9) (N := 9) hx hb hT giX9 hown hK hP 1 rfl rfl 5 (by decide) (hT (Cond.fieldLink RX10 193 "DesertWire$World" "parties" "LDesertWire$Parties;") mw_102) (fun _ h9 => h9) rfl dX10_rest_54 ?_
        refine lv_iload_n hx hb dX10_rest_57 rfl (lv_at hl 2 rfl) ?_
        refine lv_bipush (v := 8) hx hb dX10_rest_58 (by decide) ?_
        refine kJi (wr := [(k, .inr (10, [.ref k0, .ref k1, .ref k2, .ref k3, .ref k4, .ref k5, .ref k6, .ref k7, .ref k8, .ref k9, .ref ka, .ref kb, .int cc])), (k0, .inr (9, [.ref k00, .ref k01, .ref k02, .ref k03, .ref k04, .ref k05, .int c06, .int c07, .int c08])), (kb, .inl (cI, 6, .inl cb))]) (va_runV (As := [.int a0, .int 8]) (rest := []) ⟨hx, hb, hml, hown, hT⟩ (c_X3_getG l D cI aK aV k05 k050 H.size c051 c050 a0 8) (cwV 2 hT (gV_in mw_726 mw_723 mw_724 mw_725 mw_4) rfl rfl rfl (by decide +kernel) ⟨Nat.le_of_ble_eq_true rfl, Nat.le_of_ble_eq_true rfl⟩) (kRecvX (q0 := 3) (ci := 3) hK hP hD hN hXS hS hA rfl rfl [3, 4] rfl (by decide)) rfl rfl hl.1 rfl (lv_room (Nat.le_of_ble_eq_true rfl)) dX10_rest_60 ⟨Nat.le_of_ble_eq_true rfl, Nat.le_of_ble_eq_true rfl⟩) hP hD hS hA [3, 4] [0, 1, 2] rfl rfl (by decide) (by decide) ?_
        clear hP hD hS
        intro r_21 u_23 H locs w_22 hP hD hS
        replace hP : va_P D vwCl [(k, .inr (10, [.ref k0, .ref k1, .ref k2, .ref k3, .ref k4, .ref k5, .ref k6, .ref k7, .ref k8, .ref k9, .ref ka, .ref kb, .int cc])), (k0, .inr (9, [.ref k00, .ref k01, .ref k02, .ref k03, .ref k04, .ref k05, .int c06, .int c07, .int c08])), (kb, .inl (cI, 6, .inl cb)), (k05, .inr (3, [.ref k050, .int c051])), (k050, .inl (cI, 36, .inl c050))] H := hP
        replace hD : va_D A [(k, .inr (10, [.ref k0, .ref k1, .ref k2, .ref k3, .ref k4, .ref k5, .ref k6, .ref k7, .ref k8, .ref k9, .ref ka, .ref kb, .int cc])), (k0, .inr (9, [.ref k00, .ref k01, .ref k02, .ref k03, .ref k04, .ref k05, .int c06, .int c07, .int c08])), (kb, .inl (cI, 6, .inl cb)), (k05, .inr (3, [.ref k050, .int c051])), (k050, .inl (cI, 36, .inl c050))] := hD
        have lo_r_21 := k_lo r_21
        have hi_r_21 := k_hi r_21
        refine lv_istore (lv' := [(4, .int r_21), (3, .int 1), (0, .ref k), (1, .int a0), (2, .int a1)]) hx hb dX10_rest_63 hl (by decide) rfl ?_
        clear hl
        intro ls hl
        refine lv_aload_n hx hb dX10_rest_65 rfl (lv_at hl 2 rfl) ?_
        refine va_get (D := D) (ci := 10) (v := .ref k0) (C := RX10) (T := TX10) (N := 13) hx hb hT giX10 hown hK hP 0 rfl rfl 0 (by decide) (hT (Cond.fieldLink RX10 12 "DesertWire" "now" "LDesertWire$World;") mw_291) (fun _ h9 => h9) rfl dX10_rest_66 ?_
        refine va_get (D := D) (ci := 9) (v := .ref k05) (C := RX9) (T := TX9) (N := 9) hx hb hT giX9 hown hK hP 1 rfl rfl 5 (by decide) (hT (Cond.fieldLink RX10 193 "DesertWire$World" "parties" "LDesertWire$Parties;") mw_102) (fun _ h9 => h9) rfl dX10_rest_69 ?_
        refine lv_iload_n hx hb dX10_rest_72 rfl (lv_at hl 3 rfl) ?_
        refine lv_bipush (v := 8) hx hb dX10_rest_73 (by decide) ?_
        refine lv_iload_n hx hb dX10_rest_75 rfl (lv_at hl 1 rfl) ?_
        refine kJv (wr := [(k, .inr (10, [.ref k0, .ref k1, .ref k2, .ref k3, .ref k4, .ref k5, .ref k6, .ref k7, .ref k8, .ref k9, .ref ka, .ref kb, .int cc])), (k0, .inr (9, [.ref k00, .ref k01, .ref k02, .ref k03, .ref k04, .ref k05, .int c06, .int c07, .int c08])), (kb, .inl (cI, 6, .inl cb))]) (va_runV (As := [.int a0, .int 8, .int 1]) (rest := []) ⟨hx, hb, hml, hown, hT⟩ (c_X3_setG l D cI aK aV k05 k050 H.size c051 c050 a0 8 1) (cwV 3 hT (gV_in mw_713 mw_710 mw_711 mw_712 mw_4) rfl rfl rfl (by decide +kernel) ⟨Nat.le_of_ble_eq_true rfl, Nat.le_of_ble_eq_true rfl⟩) (kRecvX (q0 := 3) (ci := 3) hK hP hD hN hXS hS hA rfl rfl [3, 4] rfl (by decide)) rfl rfl hl.1 rfl (lv_room (Nat.le_of_ble_eq_true rfl)) dX10_rest_76 ⟨Nat.le_of_ble_eq_true rfl, Nat.le_of_ble_eq_true rfl⟩) hP hD hS hA [3, 4] [0, 1, 2] rfl rfl (by decide) (by decide) ?_
        clear hP hD hS
        intro sc0_26 H locs w_25 hP hD hS
        replace hP : va_P D vwCl [(k, .inr (10, [.ref k0, .ref k1, .ref k2, .ref k3, .ref k4, .ref k5, .ref k6, .ref k7, .ref k8, .ref k9, .ref ka, .ref kb, .int cc])), (k0, .inr (9, [.ref k00, .ref k01, .ref k02, .ref k03, .ref k04, .ref k05, .int c06, .int c07, .int c08])), (kb, .inl (cI, 6, .inl cb)), (k05, .inr (3, [.ref k050, .int c051])), (k050, .inl (cI, 36, .inl sc0_26))] H := hP
        replace hD : va_D A [(k, .inr (10, [.ref k0, .ref k1, .ref k2, .ref k3, .ref k4, .ref k5, .ref k6, .ref k7, .ref k8, .ref k9, .ref ka, .ref kb, .int cc])), (k0, .inr (9, [.ref k00, .ref k01, .ref k02, .ref k03, .ref k04, .ref k05, .int c06, .int c07, .int c08])), (kb, .inl (cI, 6, .inl cb)), (k05, .inr (3, [.ref k050, .int c051])), (k050, .inl (cI, 36, .inl sc0_26))] := hD
        refine lv_iload hx hb dX10_rest_79 (lv_at hl 0 rfl) ?_
        refine lv_iload_n hx hb dX10_rest_81 rfl (lv_at hl 1 rfl) ?_
        refine b_icmp_ne hx hb rfl zl_1 (tgt := 89) dX10_rest_82 (by decide) (fun c_27 => ?_) (fun c_27 => ?_)
        · refine lv_iconst (v := 1) hx hb dX10_rest_89 (by decide) ?_
          exact hRet (cb, sc0_26) [0, 1, 2, 3, 4] trivial hP hD (by decide) rfl hS rfl dX10_rest_90
        · refine lv_iconst (v := 0) hx hb dX10_rest_85 (by decide) ?_
          refine lv_goto (tgt := 90) hx hb dX10_rest_86 (by decide) ?_
          exact hRet (cb, sc0_26) [0, 1, 2, 3, 4] trivial hP hD (by decide) rfl hS rfl dX10_rest_90
    · refine lv_aload_n hx hb dX10_rest_34 rfl (lv_at hl 0 rfl) ?_
      refine lv_iconst (v := 3) hx hb dX10_rest_35 (by decide) ?_
      refine kJi (wr := [(k0, .inr (9, [.ref k00, .ref k01, .ref k02, .ref k03, .ref k04, .ref k05, .int c06, .int c07, .int c08])), (k05, .inr (3, [.ref k050, .int c051])), (k050, .inl (cI, 36, .inl c050))]) (va_runV (As := [.int 3]) (rest := []) ⟨hx, hb, hml, hown, hT⟩ (c_X10_findingG l D cI aK aV k k0 k1 k2 k3 k4 k5 k6 k7 k8 k9 ka kb H.size cc cb 3) (cwV 1 hT (gV_in mw_338 mw_335 mw_337 mw_p1_0 mw_1) rfl rfl rfl (by decide +kernel) ⟨Nat.le_of_ble_eq_true rfl, Nat.le_of_ble_eq_true rfl⟩) (kRecvX (q0 := 0) (ci := 10) hK hP hD hN hXS hS hA rfl rfl [0, 2] rfl (by decide)) rfl rfl hl.1 rfl (lv_room (Nat.le_of_ble_eq_true rfl)) dX10_rest_36 ⟨Nat.le_of_ble_eq_true rfl, Nat.le_of_ble_eq_true rfl⟩) hP hD hS hA [0, 2] [1, 3, 4] rfl rfl (by decide) (by decide) ?_
      clear hP hD hS
      intro r_28 scb_30 H locs w_29 hP hD hS
      replace hP : va_P D vwCl [(k0, .inr (9, [.ref k00, .ref k01, .ref k02, .ref k03, .ref k04, .ref k05, .int c06, .int c07, .int c08])), (k05, .inr (3, [.ref k050, .int c051])), (k050, .inl (cI, 36, .inl c050)), (k, .inr (10, [.ref k0, .ref k1, .ref k2, .ref k3, .ref k4, .ref k5, .ref k6, .ref k7, .ref k8, .ref k9, .ref ka, .ref kb, .int cc])), (kb, .inl (cI, 6, .inl scb_30))] H := hP
      replace hD : va_D A [(k0, .inr (9, [.ref k00, .ref k01, .ref k02, .ref k03, .ref k04, .ref k05, .int c06, .int c07, .int c08])), (k05, .inr (3, [.ref k050, .int c051])), (k050, .inl (cI, 36, .inl c050)), (k, .inr (10, [.ref k0, .ref k1, .ref k2, .ref k3, .ref k4, .ref k5, .ref k6, .ref k7, .ref k8, .ref k9, .ref ka, .ref kb, .int cc])), (kb, .inl (cI, 6, .inl scb_30))] := hD
      have hr_28 := w_29
      obtain rfl : r_28 = (-1000003) := hr_28.trans (by decide)
      exact hRet (scb_30, c050) [3, 0, 4, 1, 2] trivial hP hD (by decide) rfl hS rfl dX10_rest_39
  · have h_7 : a0.toInt < 0 ∨ c051.toInt ≤ a0.toInt ∨ 4 ≤ a0.toInt := h_7
    obtain rfl : r_1 = 0 := hr_1.trans (by decide)
    refine b_if_ne hx hb zl_0 (tgt := 20) dX10_rest_11 (by decide) (fun c_31 => by exfalso; omega) (fun c_31 => ?_)
    refine lv_aload_n hx hb dX10_rest_14 rfl (lv_at hl 0 rfl) ?_
    refine lv_iconst (v := 1) hx hb dX10_rest_15 (by decide) ?_
    refine kJi (wr := [(k0, .inr (9, [.ref k00, .ref k01, .ref k02, .ref k03, .ref k04, .ref k05, .int c06, .int c07, .int c08])), (k050, .inl (cI, 36, .inl c050)), (k05, .inr (3, [.ref k050, .int c051]))]) (va_runV (As := [.int 1]) (rest := []) ⟨hx, hb, hml, hown, hT⟩ (c_X10_findingG l D cI aK aV k k0 k1 k2 k3 k4 k5 k6 k7 k8 k9 ka kb H.size cc cb 1) (cwV 1 hT (gV_in mw_338 mw_335 mw_337 mw_p1_0 mw_1) rfl rfl rfl (by decide +kernel) ⟨Nat.le_of_ble_eq_true rfl, Nat.le_of_ble_eq_true rfl⟩) (kRecvX (q0 := 0) (ci := 10) hK hP hD hN hXS hS hA rfl rfl [0, 2] rfl (by decide)) rfl rfl hl.1 rfl (lv_room (Nat.le_of_ble_eq_true rfl)) dX10_rest_16 ⟨Nat.le_of_ble_eq_true rfl, Nat.le_of_ble_eq_true rfl⟩) hP hD hS hA [0, 2] [1, 3, 4] rfl rfl (by decide) (by decide) ?_
    clear hP hD hS
    intro r_32 scb_34 H locs w_33 hP hD hS
    replace hP : va_P D vwCl [(k0, .inr (9, [.ref k00, .ref k01, .ref k02, .ref k03, .ref k04, .ref k05, .int c06, .int c07, .int c08])), (k050, .inl (cI, 36, .inl c050)), (k05, .inr (3, [.ref k050, .int c051])), (k, .inr (10, [.ref k0, .ref k1, .ref k2, .ref k3, .ref k4, .ref k5, .ref k6, .ref k7, .ref k8, .ref k9, .ref ka, .ref kb, .int cc])), (kb, .inl (cI, 6, .inl scb_34))] H := hP
    replace hD : va_D A [(k0, .inr (9, [.ref k00, .ref k01, .ref k02, .ref k03, .ref k04, .ref k05, .int c06, .int c07, .int c08])), (k050, .inl (cI, 36, .inl c050)), (k05, .inr (3, [.ref k050, .int c051])), (k, .inr (10, [.ref k0, .ref k1, .ref k2, .ref k3, .ref k4, .ref k5, .ref k6, .ref k7, .ref k8, .ref k9, .ref ka, .ref kb, .int cc])), (kb, .inl (cI, 6, .inl scb_34))] := hD
    have hr_32 := w_33
    obtain rfl : r_32 = (-1000001) := hr_32.trans (by decide)
    exact hRet (scb_34, c050) [3, 0, 4, 2, 1] trivial hP hD (by decide) rfl hS rfl dX10_rest_19
theorem dX10_turn_0 : decode cX10_turn 0 = .ok (.aload_n 0, 1) := by decide +kernel
theorem dX10_turn_1 : decode cX10_turn 1 = .ok (.getfield 12, 3) := by decide +kernel
theorem dX10_turn_4 : decode cX10_turn 4 = .ok (.getfield 193, 3) := by decide +kernel
theorem dX10_turn_7 : decode cX10_turn 7 = .ok (.iload_n 1, 1) := by decide +kernel
theorem dX10_turn_8 : decode cX10_turn 8 = .ok (.invokevirtual 207, 3) := by decide +kernel
theorem dX10_turn_11 : decode cX10_turn 11 = .ok (.ifCond .ne 9, 3) := by decide +kernel
theorem dX10_turn_14 : decode cX10_turn 14 = .ok (.aload_n 0, 1) := by decide +kernel
theorem dX10_turn_15 : decode cX10_turn 15 = .ok (.iconst 1, 1) := by decide +kernel
theorem dX10_turn_16 : decode cX10_turn 16 = .ok (.invokevirtual 82, 3) := by decide +kernel
theorem dX10_turn_19 : decode cX10_turn 19 = .ok (.ireturn, 1) := by decide +kernel
theorem dX10_turn_20 : decode cX10_turn 20 = .ok (.aload_n 0, 1) := by decide +kernel
theorem dX10_turn_21 : decode cX10_turn 21 = .ok (.getfield 12, 3) := by decide +kernel
theorem dX10_turn_24 : decode cX10_turn 24 = .ok (.getfield 193, 3) := by decide +kernel
theorem dX10_turn_27 : decode cX10_turn 27 = .ok (.iload_n 1, 1) := by decide +kernel
theorem dX10_turn_28 : decode cX10_turn 28 = .ok (.invokevirtual 211, 3) := by decide +kernel
theorem dX10_turn_31 : decode cX10_turn 31 = .ok (.ifCond .eq 9, 3) := by decide +kernel
theorem dX10_turn_34 : decode cX10_turn 34 = .ok (.aload_n 0, 1) := by decide +kernel
theorem dX10_turn_35 : decode cX10_turn 35 = .ok (.iconst 3, 1) := by decide +kernel
theorem dX10_turn_36 : decode cX10_turn 36 = .ok (.invokevirtual 82, 3) := by decide +kernel
theorem dX10_turn_39 : decode cX10_turn 39 = .ok (.ireturn, 1) := by decide +kernel
theorem dX10_turn_40 : decode cX10_turn 40 = .ok (.aload_n 0, 1) := by decide +kernel
theorem dX10_turn_41 : decode cX10_turn 41 = .ok (.getfield 12, 3) := by decide +kernel
theorem dX10_turn_44 : decode cX10_turn 44 = .ok (.getfield 193, 3) := by decide +kernel
theorem dX10_turn_47 : decode cX10_turn 47 = .ok (.iload_n 1, 1) := by decide +kernel
theorem dX10_turn_48 : decode cX10_turn 48 = .ok (.iconst 1, 1) := by decide +kernel
theorem dX10_turn_49 : decode cX10_turn 49 = .ok (.invokevirtual 208, 3) := by decide +kernel
theorem dX10_turn_52 : decode cX10_turn 52 = .ok (.ineg, 1) := by decide +kernel
theorem dX10_turn_53 : decode cX10_turn 53 = .ok (.istore_n 2, 1) := by decide +kernel
theorem dX10_turn_54 : decode cX10_turn 54 = .ok (.aload_n 0, 1) := by decide +kernel
theorem dX10_turn_55 : decode cX10_turn 55 = .ok (.getfield 12, 3) := by decide +kernel
theorem dX10_turn_58 : decode cX10_turn 58 = .ok (.getfield 193, 3) := by decide +kernel
theorem dX10_turn_61 : decode cX10_turn 61 = .ok (.iload_n 1, 1) := by decide +kernel
theorem dX10_turn_62 : decode cX10_turn 62 = .ok (.iconst 1, 1) := by decide +kernel
theorem dX10_turn_63 : decode cX10_turn 63 = .ok (.iload_n 2, 1) := by decide +kernel
theorem dX10_turn_64 : decode cX10_turn 64 = .ok (.invokevirtual 203, 3) := by decide +kernel
theorem dX10_turn_67 : decode cX10_turn 67 = .ok (.iload_n 2, 1) := by decide +kernel
theorem dX10_turn_68 : decode cX10_turn 68 = .ok (.ireturn, 1) := by decide +kernel
set_option maxHeartbeats 4000000 in
set_option maxRecDepth 100000 in
theorem c_X10_turnG (l : Launch) (D : va_G) (cI : ClassId) (aK aV : Nat → Nat) (k k0 k1 k2 k3 k4 k5 k6 k7 k8 k9 ka kb k00 k01 k02 k03 k04 k05 k050 : Nat) (sz : Nat) (cc : Int32) (c06 : Int32) (c07 : Int32) (c08 : Int32) (cb : Nat → Int32) (c051 : Int32) (c050 : Nat → Int32) (a0 : Int32) : Met l yX10_turn (gW yX10_turn cX10_turn 3 (some .int)) ({ frames := 3, cells := 0, slots := 0, locals := 64 } : Room) (kPreX D cI aK aV [.ref k, .int a0] [(k, .inr (10, [.ref k0, .ref k1, .ref k2, .ref k3, .ref k4, .ref k5, .ref k6, .ref k7, .ref k8, .ref k9, .ref ka, .ref kb, .int cc])), (k0, .inr (9, [.ref k00, .ref k01, .ref k02, .ref k03, .ref k04, .ref k05, .int c06, .int c07, .int c08])), (kb, .inl (cI, 6, .inl cb)), (k05, .inr (3, [.ref k050, .int c051])), (k050, .inl (cI, 36, .inl c050))] sz) (va_Qi (fun (r : Int32) (u : (Nat → Int32) × (Nat → Int32)) => True) (fun u t => kWd D cI (va_A [(k, .inr (10, [.ref k0, .ref k1, .ref k2, .ref k3, .ref k4, .ref k5, .ref k6, .ref k7, .ref k8, .ref k9, .ref ka, .ref kb, .int cc])), (k0, .inr (9, [.ref k00, .ref k01, .ref k02, .ref k03, .ref k04, .ref k05, .int c06, .int c07, .int c08])), (kb, .inl (cI, 6, .inl cb)), (k05, .inr (3, [.ref k050, .int c051])), (k050, .inl (cI, 36, .inl c050))] sz) [(k, .inr (10, [.ref k0, .ref k1, .ref k2, .ref k3, .ref k4, .ref k5, .ref k6, .ref k7, .ref k8, .ref k9, .ref ka, .ref kb, .int cc])), (k0, .inr (9, [.ref k00, .ref k01, .ref k02, .ref k03, .ref k04, .ref k05, .int c06, .int c07, .int c08])), (kb, .inl (cI, 6, .inl u.1)), (k05, .inr (3, [.ref k050, .int c051])), (k050, .inl (cI, 36, .inl u.2))] t) (va_A [(k, .inr (10, [.ref k0, .ref k1, .ref k2, .ref k3, .ref k4, .ref k5, .ref k6, .ref k7, .ref k8, .ref k9, .ref ka, .ref kb, .int cc])), (k0, .inr (9, [.ref k00, .ref k01, .ref k02, .ref k03, .ref k04, .ref k05, .int c06, .int c07, .int c08])), (kb, .inl (cI, 6, .inl cb)), (k05, .inr (3, [.ref k050, .int c051])), (k050, .inl (cI, 36, .inl c050))] sz)) 0 0 (va_A [(k, .inr (10, [.ref k0, .ref k1, .ref k2, .ref k3, .ref k4, .ref k5, .ref k6, .ref k7, .ref k8, .ref k9, .ref ka, .ref kb, .int cc])), (k0, .inr (9, [.ref k00, .ref k01, .ref k02, .ref k03, .ref k04, .ref k05, .int c06, .int c07, .int c08])), (kb, .inl (cI, 6, .inl cb)), (k05, .inr (3, [.ref k050, .int c051])), (k050, .inl (cI, 36, .inl c050))] sz) := by
  refine kMetIX (own := RX10) (by decide) rfl (Nat.le_of_ble_eq_true rfl) ?_
  intro p e s m args below meth c hx hb hT hown hname hml A Q hK hP hD hS hA hN hXS hRet ls hl
  have hl : lv_has ls 3 [(0, .ref k), (1, .int a0)] := hl
  have lo_a0 := k_lo a0
  have hi_a0 := k_hi a0
  have lo_c051 := k_lo c051
  have hi_c051 := k_hi c051
  refine lv_aload_n hx hb dX10_turn_0 rfl (lv_at hl 0 rfl) ?_
  refine va_get (D := D) (ci := 10) (v := .ref k0) (C := RX10) (T := TX10) (N := 13) hx hb hT giX10 hown hK hP 0 rfl rfl 0 (by decide) (hT (Cond.fieldLink RX10 12 "DesertWire" "now" "LDesertWire$World;") mw_291) (fun _ h9 => h9) rfl dX10_turn_1 ?_
  refine va_get (D := D) (ci := 9) (v := .ref k05) (C := RX9) (T := TX9) (N := 9) hx hb hT giX9 hown hK hP 1 rfl rfl 5 (by decide) (hT (Cond.fieldLink RX10 193 "DesertWire$World" "parties" "LDesertWire$Parties;") mw_102) (fun _ h9 => h9) rfl dX10_turn_4 ?_
  refine lv_iload_n hx hb dX10_turn_7 rfl (lv_at hl 1 rfl) ?_
  refine kJi (wr := [(k, .inr (10, [.ref k0, .ref k1, .ref k2, .ref k3, .ref k4, .ref k5, .ref k6, .ref k7, .ref k8, .ref k9, .ref ka, .ref kb, .int cc])), (k0, .inr (9, [.ref k00, .ref k01, .ref k02, .ref k03, .ref k04, .ref k05, .int c06, .int c07, .int c08])), (kb, .inl (cI, 6, .inl cb)), (k050, .inl (cI, 36, .inl c050))]) (va_runV (As := [.int a0]) (rest := []) ⟨hx, hb, hml, hown, hT⟩ (c_X3_hasG l D cI aK aV k05 k050 s.heap.size c051 a0) (cwV 1 hT (gV_in mw_717 mw_722 mw_715 mw_716 mw_4) rfl rfl rfl (by decide +kernel) ⟨Nat.le_of_ble_eq_true rfl, Nat.le_of_ble_eq_true rfl⟩) (kRecvX (q0 := 3) (ci := 3) hK hP hD hN hXS hS hA rfl rfl [3] rfl (by decide)) rfl rfl hl.1 rfl (lv_room (Nat.le_of_ble_eq_true rfl)) dX10_turn_8 ⟨Nat.le_of_ble_eq_true rfl, Nat.le_of_ble_eq_true rfl⟩) hP hD hS hA [3] [0, 1, 2, 4] rfl rfl (by decide) (by decide) ?_
  clear hP hD hS
  intro r_1 u_3 H locs w_2 hP hD hS
  replace hP : va_P D vwCl [(k, .inr (10, [.ref k0, .ref k1, .ref k2, .ref k3, .ref k4, .ref k5, .ref k6, .ref k7, .ref k8, .ref k9, .ref ka, .ref kb, .int cc])), (k0, .inr (9, [.ref k00, .ref k01, .ref k02, .ref k03, .ref k04, .ref k05, .int c06, .int c07, .int c08])), (kb, .inl (cI, 6, .inl cb)), (k050, .inl (cI, 36, .inl c050)), (k05, .inr (3, [.ref k050, .int c051]))] H := hP
  replace hD : va_D A [(k, .inr (10, [.ref k0, .ref k1, .ref k2, .ref k3, .ref k4, .ref k5, .ref k6, .ref k7, .ref k8, .ref k9, .ref ka, .ref kb, .int cc])), (k0, .inr (9, [.ref k00, .ref k01, .ref k02, .ref k03, .ref k04, .ref k05, .int c06, .int c07, .int c08])), (kb, .inl (cI, 6, .inl cb)), (k050, .inl (cI, 36, .inl c050)), (k05, .inr (3, [.ref k050, .int c051]))] := hD
  rcases w_2 with ⟨hr_1, h_4, h_5, h_6⟩ | ⟨hr_1, h_7⟩
  · have h_4 : 0 ≤ a0.toInt := h_4
    have h_5 : a0.toInt < c051.toInt := h_5
    have h_6 : a0.toInt < 4 := h_6
    obtain rfl : r_1 = 1 := hr_1.trans (by decide)
    refine b_if_ne hx hb zl_1 (tgt := 20) dX10_turn_11 (by decide) (fun c_8 => ?_) (fun c_8 => by exfalso; omega)
    refine lv_aload_n hx hb dX10_turn_20 rfl (lv_at hl 0 rfl) ?_
    refine va_get (D := D) (ci := 10) (v := .ref k0) (C := RX10) (T := TX10) (N := 13) hx hb hT giX10 hown hK hP 0 rfl rfl 0 (by decide) (hT (Cond.fieldLink RX10 12 "DesertWire" "now" "LDesertWire$World;") mw_291) (fun _ h9 => h9) rfl dX10_turn_21 ?_
    refine va_get (D := D) (ci := 9) (v := .ref k05) (C := RX9) (T := TX9) (N := 9) hx hb hT giX9 hown hK hP 1 rfl rfl 5 (by decide) (hT (Cond.fieldLink RX10 193 "DesertWire$World" "parties" "LDesertWire$Parties;") mw_102) (fun _ h9 => h9) rfl dX10_turn_24 ?_
    refine lv_iload_n hx hb dX10_turn_27 rfl (lv_at hl 1 rfl) ?_
    refine kJi (wr := [(k, .inr (10, [.ref k0, .ref k1, .ref k2, .ref k3, .ref k4, .ref k5, .ref k6, .ref k7, .ref k8, .ref k9, .ref ka, .ref kb, .int cc])), (k0, .inr (9, [.ref k00, .ref k01, .ref k02, .ref k03, .ref k04, .ref k05, .int c06, .int c07, .int c08])), (kb, .inl (cI, 6, .inl cb))]) (va_runV (As := [.int a0]) (rest := []) ⟨hx, hb, hml, hown, hT⟩ (c_X3_isLostG l D cI aK aV k05 k050 H.size c051 c050 a0) (cwV 1 hT (gV_in mw_734 mw_731 mw_732 mw_733 mw_4) rfl rfl rfl (by decide +kernel) ⟨Nat.le_of_ble_eq_true rfl, Nat.le_of_ble_eq_true rfl⟩) (kRecvX (q0 := 4) (ci := 3) hK hP hD hN hXS hS hA rfl rfl [4, 3] rfl (by decide)) rfl rfl hl.1 rfl (lv_room (Nat.le_of_ble_eq_true rfl)) dX10_turn_28 ⟨Nat.le_of_ble_eq_true rfl, Nat.le_of_ble_eq_true rfl⟩) hP hD hS hA [4, 3] [0, 1, 2] rfl rfl (by decide) (by decide) ?_
    clear hP hD hS
    intro r_9 u_11 H locs w_10 hP hD hS
    replace hP : va_P D vwCl [(k, .inr (10, [.ref k0, .ref k1, .ref k2, .ref k3, .ref k4, .ref k5, .ref k6, .ref k7, .ref k8, .ref k9, .ref ka, .ref kb, .int cc])), (k0, .inr (9, [.ref k00, .ref k01, .ref k02, .ref k03, .ref k04, .ref k05, .int c06, .int c07, .int c08])), (kb, .inl (cI, 6, .inl cb)), (k05, .inr (3, [.ref k050, .int c051])), (k050, .inl (cI, 36, .inl c050))] H := hP
    replace hD : va_D A [(k, .inr (10, [.ref k0, .ref k1, .ref k2, .ref k3, .ref k4, .ref k5, .ref k6, .ref k7, .ref k8, .ref k9, .ref ka, .ref kb, .int cc])), (k0, .inr (9, [.ref k00, .ref k01, .ref k02, .ref k03, .ref k04, .ref k05, .int c06, .int c07, .int c08])), (kb, .inl (cI, 6, .inl cb)), (k05, .inr (3, [.ref k050, .int c051])), (k050, .inl (cI, 36, .inl c050))] := hD
    have lo_r_9 := k_lo r_9
    have hi_r_9 := k_hi r_9
    refine b_if_eq hx hb rfl (tgt := 40) dX10_turn_31 (by decide) (fun c_12 => ?_) (fun c_12 => ?_)
    · refine lv_aload_n hx hb dX10_turn_40 rfl (lv_at hl 0 rfl) ?_
      refine va_get (D := D) (ci := 10) (v := .ref k0) (C := RX10) (T := TX10) (N := 13) hx hb hT giX10 hown hK hP 0 rfl rfl 0 (by decide) (hT (Cond.fieldLink RX10 12 "DesertWire" "now" "LDesertWire$World;") mw_291) (fun _ h9 => h9) rfl dX10_turn_41 ?_
      refine va_get (D := D) (ci := 9) (v := .ref k05) (C := RX9) (T := TX9) (N := 9) hx hb hT giX9 hown hK hP 1 rfl rfl 5 (by decide) (hT (Cond.fieldLink RX10 193 "DesertWire$World" "parties" "LDesertWire$Parties;") mw_102) (fun _ h9 => h9) rfl dX10_turn_44 ?_
      refine lv_iload_n hx hb dX10_turn_47 rfl (lv_at hl 1 rfl) ?_
      refine lv_iconst (v := 1) hx hb dX10_turn_48 (by decide) ?_
      refine kJi (wr := [(k, .inr (10, [.ref k0, .ref k1, .ref k2, .ref k3, .ref k4, .ref k5, .ref k6, .ref k7, .ref k8, .ref k9, .ref ka, .ref kb, .int cc])), (k0, .inr (9, [.ref k00, .ref k01, .ref k02, .ref k03, .ref k04, .ref k05, .int c06, .int c07, .int c08])), (kb, .inl (cI, 6, .inl cb))]) (va_runV (As := [.int a0, .int 1]) (rest := []) ⟨hx, hb, hml, hown, hT⟩ (c_X3_getG l D cI aK aV k05 k050 H.size c051 c050 a0 1) (cwV 2 hT (gV_in mw_726 mw_723 mw_724 mw_725 mw_4) rfl rfl rfl (by decide +kernel) ⟨Nat.le_of_ble_eq_true rfl, Nat.le_of_ble_eq_true rfl⟩) (kRecvX (q0 := 3) (ci := 3) hK hP hD hN hXS hS hA rfl rfl [3, 4] rfl (by decide)) rfl rfl hl.1 rfl (lv_room (Nat.le_of_ble_eq_true rfl)) dX10_turn_49 ⟨Nat.le_of_ble_eq_true rfl, Nat.le_of_ble_eq_true rfl⟩) hP hD hS hA [3, 4] [0, 1, 2] rfl rfl (by decide) (by decide) ?_
      clear hP hD hS
      intro r_13 u_15 H locs w_14 hP hD hS
      replace hP : va_P D vwCl [(k, .inr (10, [.ref k0, .ref k1, .ref k2, .ref k3, .ref k4, .ref k5, .ref k6, .ref k7, .ref k8, .ref k9, .ref ka, .ref kb, .int cc])), (k0, .inr (9, [.ref k00, .ref k01, .ref k02, .ref k03, .ref k04, .ref k05, .int c06, .int c07, .int c08])), (kb, .inl (cI, 6, .inl cb)), (k05, .inr (3, [.ref k050, .int c051])), (k050, .inl (cI, 36, .inl c050))] H := hP
      replace hD : va_D A [(k, .inr (10, [.ref k0, .ref k1, .ref k2, .ref k3, .ref k4, .ref k5, .ref k6, .ref k7, .ref k8, .ref k9, .ref ka, .ref kb, .int cc])), (k0, .inr (9, [.ref k00, .ref k01, .ref k02, .ref k03, .ref k04, .ref k05, .int c06, .int c07, .int c08])), (kb, .inl (cI, 6, .inl cb)), (k05, .inr (3, [.ref k050, .int c051])), (k050, .inl (cI, 36, .inl c050))] := hD
      have lo_r_13 := k_lo r_13
      have hi_r_13 := k_hi r_13
      refine lv_ineg hx hb dX10_turn_52 ?_
      refine lv_topi (fun v_16 ev_16 => ?_)
      have lo_v_16 := k_lo v_16
      have hi_v_16 := k_hi v_16
      refine lv_istore_n (lv' := [(2, .int v_16), (0, .ref k), (1, .int a0)]) hx hb dX10_turn_53 rfl hl (by decide) rfl ?_
      clear hl
      intro ls hl
      refine lv_aload_n hx hb dX10_turn_54 rfl (lv_at hl 1 rfl) ?_
      refine va_get (D := D) (ci := 10) (v := .ref k0) (C := RX10) (T := TX10) (N := 13) hx hb hT giX10 hown hK hP 0 rfl rfl 0 (by decide) (hT (Cond.fieldLink RX10 12 "DesertWire" "now" "LDesertWire$World;") mw_291) (fun _ h9 => h9) rfl dX10_turn_55 ?_
      refine va_get (D := D) (ci := 9) (v := .ref k05) (C := RX9) (T := TX9) (N := 9) hx hb hT giX9 hown hK hP 1 rfl rfl 5 (by decide) (hT (Cond.fieldLink RX10 193 "DesertWire$World" "parties" "LDesertWire$Parties;") mw_102) (fun _ h9 => h9) rfl dX10_turn_58 ?_
      refine lv_iload_n hx hb dX10_turn_61 rfl (lv_at hl 2 rfl) ?_
      refine lv_iconst (v := 1) hx hb dX10_turn_62 (by decide) ?_
      refine lv_iload_n hx hb dX10_turn_63 rfl (lv_at hl 0 rfl) ?_
      refine kJv (wr := [(k, .inr (10, [.ref k0, .ref k1, .ref k2, .ref k3, .ref k4, .ref k5, .ref k6, .ref k7, .ref k8, .ref k9, .ref ka, .ref kb, .int cc])), (k0, .inr (9, [.ref k00, .ref k01, .ref k02, .ref k03, .ref k04, .ref k05, .int c06, .int c07, .int c08])), (kb, .inl (cI, 6, .inl cb))]) (va_runV (As := [.int a0, .int 1, .int v_16]) (rest := []) ⟨hx, hb, hml, hown, hT⟩ (c_X3_setG l D cI aK aV k05 k050 H.size c051 c050 a0 1 v_16) (cwV 3 hT (gV_in mw_713 mw_710 mw_711 mw_712 mw_4) rfl rfl rfl (by decide +kernel) ⟨Nat.le_of_ble_eq_true rfl, Nat.le_of_ble_eq_true rfl⟩) (kRecvX (q0 := 3) (ci := 3) hK hP hD hN hXS hS hA rfl rfl [3, 4] rfl (by decide)) rfl rfl hl.1 rfl (lv_room (Nat.le_of_ble_eq_true rfl)) dX10_turn_64 ⟨Nat.le_of_ble_eq_true rfl, Nat.le_of_ble_eq_true rfl⟩) hP hD hS hA [3, 4] [0, 1, 2] rfl rfl (by decide) (by decide) ?_
      clear hP hD hS
      intro sc0_19 H locs w_18 hP hD hS
      replace hP : va_P D vwCl [(k, .inr (10, [.ref k0, .ref k1, .ref k2, .ref k3, .ref k4, .ref k5, .ref k6, .ref k7, .ref k8, .ref k9, .ref ka, .ref kb, .int cc])), (k0, .inr (9, [.ref k00, .ref k01, .ref k02, .ref k03, .ref k04, .ref k05, .int c06, .int c07, .int c08])), (kb, .inl (cI, 6, .inl cb)), (k05, .inr (3, [.ref k050, .int c051])), (k050, .inl (cI, 36, .inl sc0_19))] H := hP
      replace hD : va_D A [(k, .inr (10, [.ref k0, .ref k1, .ref k2, .ref k3, .ref k4, .ref k5, .ref k6, .ref k7, .ref k8, .ref k9, .ref ka, .ref kb, .int cc])), (k0, .inr (9, [.ref k00, .ref k01, .ref k02, .ref k03, .ref k04, .ref k05, .int c06, .int c07, .int c08])), (kb, .inl (cI, 6, .inl cb)), (k05, .inr (3, [.ref k050, .int c051])), (k050, .inl (cI, 36, .inl sc0_19))] := hD
      refine lv_iload_n hx hb dX10_turn_67 rfl (lv_at hl 0 rfl) ?_
      exact hRet (cb, sc0_19) [0, 1, 2, 3, 4] trivial hP hD (by decide) rfl hS rfl dX10_turn_68
    · refine lv_aload_n hx hb dX10_turn_34 rfl (lv_at hl 0 rfl) ?_
      refine lv_iconst (v := 3) hx hb dX10_turn_35 (by decide) ?_
      refine kJi (wr := [(k0, .inr (9, [.ref k00, .ref k01, .ref k02, .ref k03, .ref k04, .ref k05, .int c06, .int c07, .int c08])), (k05, .inr (3, [.ref k050, .int c051])), (k050, .inl (cI, 36, .inl c050))]) (va_runV (As := [.int 3]) (rest := []) ⟨hx, hb, hml, hown, hT⟩ (c_X10_findingG l D cI aK aV k k0 k1 k2 k3 k4 k5 k6 k7 k8 k9 ka kb H.size cc cb 3) (cwV 1 hT (gV_in mw_338 mw_335 mw_337 mw_p1_0 mw_1) rfl rfl rfl (by decide +kernel) ⟨Nat.le_of_ble_eq_true rfl, Nat.le_of_ble_eq_true rfl⟩) (kRecvX (q0 := 0) (ci := 10) hK hP hD hN hXS hS hA rfl rfl [0, 2] rfl (by decide)) rfl rfl hl.1 rfl (lv_room (Nat.le_of_ble_eq_true rfl)) dX10_turn_36 ⟨Nat.le_of_ble_eq_true rfl, Nat.le_of_ble_eq_true rfl⟩) hP hD hS hA [0, 2] [1, 3, 4] rfl rfl (by decide) (by decide) ?_
      clear hP hD hS
      intro r_20 scb_22 H locs w_21 hP hD hS
      replace hP : va_P D vwCl [(k0, .inr (9, [.ref k00, .ref k01, .ref k02, .ref k03, .ref k04, .ref k05, .int c06, .int c07, .int c08])), (k05, .inr (3, [.ref k050, .int c051])), (k050, .inl (cI, 36, .inl c050)), (k, .inr (10, [.ref k0, .ref k1, .ref k2, .ref k3, .ref k4, .ref k5, .ref k6, .ref k7, .ref k8, .ref k9, .ref ka, .ref kb, .int cc])), (kb, .inl (cI, 6, .inl scb_22))] H := hP
      replace hD : va_D A [(k0, .inr (9, [.ref k00, .ref k01, .ref k02, .ref k03, .ref k04, .ref k05, .int c06, .int c07, .int c08])), (k05, .inr (3, [.ref k050, .int c051])), (k050, .inl (cI, 36, .inl c050)), (k, .inr (10, [.ref k0, .ref k1, .ref k2, .ref k3, .ref k4, .ref k5, .ref k6, .ref k7, .ref k8, .ref k9, .ref ka, .ref kb, .int cc])), (kb, .inl (cI, 6, .inl scb_22))] := hD
      have hr_20 := w_21
      obtain rfl : r_20 = (-1000003) := hr_20.trans (by decide)
      exact hRet (scb_22, c050) [3, 0, 4, 1, 2] trivial hP hD (by decide) rfl hS rfl dX10_turn_39
  · have h_7 : a0.toInt < 0 ∨ c051.toInt ≤ a0.toInt ∨ 4 ≤ a0.toInt := h_7
    obtain rfl : r_1 = 0 := hr_1.trans (by decide)
    refine b_if_ne hx hb zl_0 (tgt := 20) dX10_turn_11 (by decide) (fun c_23 => by exfalso; omega) (fun c_23 => ?_)
    refine lv_aload_n hx hb dX10_turn_14 rfl (lv_at hl 0 rfl) ?_
    refine lv_iconst (v := 1) hx hb dX10_turn_15 (by decide) ?_
    refine kJi (wr := [(k0, .inr (9, [.ref k00, .ref k01, .ref k02, .ref k03, .ref k04, .ref k05, .int c06, .int c07, .int c08])), (k050, .inl (cI, 36, .inl c050)), (k05, .inr (3, [.ref k050, .int c051]))]) (va_runV (As := [.int 1]) (rest := []) ⟨hx, hb, hml, hown, hT⟩ (c_X10_findingG l D cI aK aV k k0 k1 k2 k3 k4 k5 k6 k7 k8 k9 ka kb H.size cc cb 1) (cwV 1 hT (gV_in mw_338 mw_335 mw_337 mw_p1_0 mw_1) rfl rfl rfl (by decide +kernel) ⟨Nat.le_of_ble_eq_true rfl, Nat.le_of_ble_eq_true rfl⟩) (kRecvX (q0 := 0) (ci := 10) hK hP hD hN hXS hS hA rfl rfl [0, 2] rfl (by decide)) rfl rfl hl.1 rfl (lv_room (Nat.le_of_ble_eq_true rfl)) dX10_turn_16 ⟨Nat.le_of_ble_eq_true rfl, Nat.le_of_ble_eq_true rfl⟩) hP hD hS hA [0, 2] [1, 3, 4] rfl rfl (by decide) (by decide) ?_
    clear hP hD hS
    intro r_24 scb_26 H locs w_25 hP hD hS
    replace hP : va_P D vwCl [(k0, .inr (9, [.ref k00, .ref k01, .ref k02, .ref k03, .ref k04, .ref k05, .int c06, .int c07, .int c08])), (k050, .inl (cI, 36, .inl c050)), (k05, .inr (3, [.ref k050, .int c051])), (k, .inr (10, [.ref k0, .ref k1, .ref k2, .ref k3, .ref k4, .ref k5, .ref k6, .ref k7, .ref k8, .ref k9, .ref ka, .ref kb, .int cc])), (kb, .inl (cI, 6, .inl scb_26))] H := hP
    replace hD : va_D A [(k0, .inr (9, [.ref k00, .ref k01, .ref k02, .ref k03, .ref k04, .ref k05, .int c06, .int c07, .int c08])), (k050, .inl (cI, 36, .inl c050)), (k05, .inr (3, [.ref k050, .int c051])), (k, .inr (10, [.ref k0, .ref k1, .ref k2, .ref k3, .ref k4, .ref k5, .ref k6, .ref k7, .ref k8, .ref k9, .ref ka, .ref kb, .int cc])), (kb, .inl (cI, 6, .inl scb_26))] := hD
    have hr_24 := w_25
    obtain rfl : r_24 = (-1000001) := hr_24.trans (by decide)
    exact hRet (scb_26, c050) [3, 0, 4, 2, 1] trivial hP hD (by decide) rfl hS rfl dX10_turn_19
theorem dX10_hand_0 : decode cX10_hand 0 = .ok (.aload_n 0, 1) := by decide +kernel
theorem dX10_hand_1 : decode cX10_hand 1 = .ok (.getfield 12, 3) := by decide +kernel
theorem dX10_hand_4 : decode cX10_hand 4 = .ok (.getfield 193, 3) := by decide +kernel
theorem dX10_hand_7 : decode cX10_hand 7 = .ok (.astore 4, 2) := by decide +kernel
theorem dX10_hand_9 : decode cX10_hand 9 = .ok (.aload 4, 2) := by decide +kernel
theorem dX10_hand_11 : decode cX10_hand 11 = .ok (.iload_n 1, 1) := by decide +kernel
theorem dX10_hand_12 : decode cX10_hand 12 = .ok (.invokevirtual 207, 3) := by decide +kernel
theorem dX10_hand_15 : decode cX10_hand 15 = .ok (.ifCond .eq 28, 3) := by decide +kernel
theorem dX10_hand_18 : decode cX10_hand 18 = .ok (.aload 4, 2) := by decide +kernel
theorem dX10_hand_20 : decode cX10_hand 20 = .ok (.iload_n 2, 1) := by decide +kernel
theorem dX10_hand_21 : decode cX10_hand 21 = .ok (.invokevirtual 207, 3) := by decide +kernel
theorem dX10_hand_24 : decode cX10_hand 24 = .ok (.ifCond .eq 19, 3) := by decide +kernel
theorem dX10_hand_27 : decode cX10_hand 27 = .ok (.iload_n 1, 1) := by decide +kernel
theorem dX10_hand_28 : decode cX10_hand 28 = .ok (.iload_n 2, 1) := by decide +kernel
theorem dX10_hand_29 : decode cX10_hand 29 = .ok (.if_icmp .eq 14, 3) := by decide +kernel
theorem dX10_hand_32 : decode cX10_hand 32 = .ok (.iload_n 3, 1) := by decide +kernel
theorem dX10_hand_33 : decode cX10_hand 33 = .ok (.iconst 1, 1) := by decide +kernel
theorem dX10_hand_34 : decode cX10_hand 34 = .ok (.if_icmp .lt 9, 3) := by decide +kernel
theorem dX10_hand_37 : decode cX10_hand 37 = .ok (.iload_n 3, 1) := by decide +kernel
theorem dX10_hand_38 : decode cX10_hand 38 = .ok (.bipush 50, 2) := by decide +kernel
theorem dX10_hand_40 : decode cX10_hand 40 = .ok (.if_icmp .le 9, 3) := by decide +kernel
theorem dX10_hand_43 : decode cX10_hand 43 = .ok (.aload_n 0, 1) := by decide +kernel
theorem dX10_hand_44 : decode cX10_hand 44 = .ok (.iconst 1, 1) := by decide +kernel
theorem dX10_hand_45 : decode cX10_hand 45 = .ok (.invokevirtual 82, 3) := by decide +kernel
theorem dX10_hand_48 : decode cX10_hand 48 = .ok (.ireturn, 1) := by decide +kernel
theorem dX10_hand_49 : decode cX10_hand 49 = .ok (.aload 4, 2) := by decide +kernel
theorem dX10_hand_51 : decode cX10_hand 51 = .ok (.iload_n 1, 1) := by decide +kernel
theorem dX10_hand_52 : decode cX10_hand 52 = .ok (.invokevirtual 211, 3) := by decide +kernel
theorem dX10_hand_55 : decode cX10_hand 55 = .ok (.ifCond .ne 12, 3) := by decide +kernel
theorem dX10_hand_58 : decode cX10_hand 58 = .ok (.aload 4, 2) := by decide +kernel
theorem dX10_hand_60 : decode cX10_hand 60 = .ok (.iload_n 2, 1) := by decide +kernel
theorem dX10_hand_61 : decode cX10_hand 61 = .ok (.invokevirtual 211, 3) := by decide +kernel
theorem dX10_hand_64 : decode cX10_hand 64 = .ok (.ifCond .eq 7, 3) := by decide +kernel
theorem dX10_hand_67 : decode cX10_hand 67 = .ok (.iconst 1, 1) := by decide +kernel
theorem dX10_hand_68 : decode cX10_hand 68 = .ok (.goto 4, 3) := by decide +kernel
theorem dX10_hand_71 : decode cX10_hand 71 = .ok (.iconst 0, 1) := by decide +kernel
theorem dX10_hand_72 : decode cX10_hand 72 = .ok (.istore 5, 2) := by decide +kernel
theorem dX10_hand_74 : decode cX10_hand 74 = .ok (.aload 4, 2) := by decide +kernel
theorem dX10_hand_76 : decode cX10_hand 76 = .ok (.iload_n 1, 1) := by decide +kernel
theorem dX10_hand_77 : decode cX10_hand 77 = .ok (.iconst 0, 1) := by decide +kernel
theorem dX10_hand_78 : decode cX10_hand 78 = .ok (.invokevirtual 208, 3) := by decide +kernel
theorem dX10_hand_81 : decode cX10_hand 81 = .ok (.aload 4, 2) := by decide +kernel
theorem dX10_hand_83 : decode cX10_hand 83 = .ok (.iload_n 2, 1) := by decide +kernel
theorem dX10_hand_84 : decode cX10_hand 84 = .ok (.iconst 0, 1) := by decide +kernel
theorem dX10_hand_85 : decode cX10_hand 85 = .ok (.invokevirtual 208, 3) := by decide +kernel
theorem dX10_hand_88 : decode cX10_hand 88 = .ok (.if_icmp .eq 7, 3) := by decide +kernel
theorem dX10_hand_91 : decode cX10_hand 91 = .ok (.iconst 1, 1) := by decide +kernel
theorem dX10_hand_92 : decode cX10_hand 92 = .ok (.goto 4, 3) := by decide +kernel
theorem dX10_hand_95 : decode cX10_hand 95 = .ok (.iconst 0, 1) := by decide +kernel
theorem dX10_hand_96 : decode cX10_hand 96 = .ok (.istore 6, 2) := by decide +kernel
theorem dX10_hand_98 : decode cX10_hand 98 = .ok (.iload 5, 2) := by decide +kernel
theorem dX10_hand_100 : decode cX10_hand 100 = .ok (.ifCond .ne 21, 3) := by decide +kernel
theorem dX10_hand_103 : decode cX10_hand 103 = .ok (.iload 6, 2) := by decide +kernel
theorem dX10_hand_105 : decode cX10_hand 105 = .ok (.ifCond .ne 16, 3) := by decide +kernel
theorem dX10_hand_108 : decode cX10_hand 108 = .ok (.aload 4, 2) := by decide +kernel
theorem dX10_hand_110 : decode cX10_hand 110 = .ok (.iload_n 1, 1) := by decide +kernel
theorem dX10_hand_111 : decode cX10_hand 111 = .ok (.iconst 2, 1) := by decide +kernel
theorem dX10_hand_112 : decode cX10_hand 112 = .ok (.invokevirtual 208, 3) := by decide +kernel
theorem dX10_hand_115 : decode cX10_hand 115 = .ok (.iload_n 3, 1) := by decide +kernel
theorem dX10_hand_116 : decode cX10_hand 116 = .ok (.iconst 1, 1) := by decide +kernel
theorem dX10_hand_117 : decode cX10_hand 117 = .ok (.iadd, 1) := by decide +kernel
theorem dX10_hand_118 : decode cX10_hand 118 = .ok (.if_icmp .ge 9, 3) := by decide +kernel
theorem dX10_hand_121 : decode cX10_hand 121 = .ok (.aload_n 0, 1) := by decide +kernel
theorem dX10_hand_122 : decode cX10_hand 122 = .ok (.iconst 3, 1) := by decide +kernel
theorem dX10_hand_123 : decode cX10_hand 123 = .ok (.invokevirtual 82, 3) := by decide +kernel
theorem dX10_hand_126 : decode cX10_hand 126 = .ok (.ireturn, 1) := by decide +kernel
theorem dX10_hand_127 : decode cX10_hand 127 = .ok (.aload 4, 2) := by decide +kernel
theorem dX10_hand_129 : decode cX10_hand 129 = .ok (.iload_n 2, 1) := by decide +kernel
theorem dX10_hand_130 : decode cX10_hand 130 = .ok (.iconst 2, 1) := by decide +kernel
theorem dX10_hand_131 : decode cX10_hand 131 = .ok (.invokevirtual 208, 3) := by decide +kernel
theorem dX10_hand_134 : decode cX10_hand 134 = .ok (.iload_n 3, 1) := by decide +kernel
theorem dX10_hand_135 : decode cX10_hand 135 = .ok (.iadd, 1) := by decide +kernel
theorem dX10_hand_136 : decode cX10_hand 136 = .ok (.bipush 50, 2) := by decide +kernel
theorem dX10_hand_138 : decode cX10_hand 138 = .ok (.if_icmp .le 9, 3) := by decide +kernel
theorem dX10_hand_141 : decode cX10_hand 141 = .ok (.aload_n 0, 1) := by decide +kernel
theorem dX10_hand_142 : decode cX10_hand 142 = .ok (.iconst 4, 1) := by decide +kernel
theorem dX10_hand_143 : decode cX10_hand 143 = .ok (.invokevirtual 82, 3) := by decide +kernel
theorem dX10_hand_146 : decode cX10_hand 146 = .ok (.ireturn, 1) := by decide +kernel
theorem dX10_hand_147 : decode cX10_hand 147 = .ok (.aload 4, 2) := by decide +kernel
theorem dX10_hand_149 : decode cX10_hand 149 = .ok (.iload_n 1, 1) := by decide +kernel
theorem dX10_hand_150 : decode cX10_hand 150 = .ok (.iconst 2, 1) := by decide +kernel
theorem dX10_hand_151 : decode cX10_hand 151 = .ok (.iload_n 3, 1) := by decide +kernel
theorem dX10_hand_152 : decode cX10_hand 152 = .ok (.ineg, 1) := by decide +kernel
theorem dX10_hand_153 : decode cX10_hand 153 = .ok (.invokevirtual 214, 3) := by decide +kernel
theorem dX10_hand_156 : decode cX10_hand 156 = .ok (.aload 4, 2) := by decide +kernel
theorem dX10_hand_158 : decode cX10_hand 158 = .ok (.iload_n 2, 1) := by decide +kernel
theorem dX10_hand_159 : decode cX10_hand 159 = .ok (.iconst 2, 1) := by decide +kernel
theorem dX10_hand_160 : decode cX10_hand 160 = .ok (.iload_n 3, 1) := by decide +kernel
theorem dX10_hand_161 : decode cX10_hand 161 = .ok (.invokevirtual 214, 3) := by decide +kernel
theorem dX10_hand_164 : decode cX10_hand 164 = .ok (.aload 4, 2) := by decide +kernel
theorem dX10_hand_166 : decode cX10_hand 166 = .ok (.iload_n 2, 1) := by decide +kernel
theorem dX10_hand_167 : decode cX10_hand 167 = .ok (.iconst 2, 1) := by decide +kernel
theorem dX10_hand_168 : decode cX10_hand 168 = .ok (.invokevirtual 208, 3) := by decide +kernel
theorem dX10_hand_171 : decode cX10_hand 171 = .ok (.ireturn, 1) := by decide +kernel
set_option maxHeartbeats 4000000 in
set_option maxRecDepth 100000 in
theorem c_X10_handG (l : Launch) (D : va_G) (cI : ClassId) (aK aV : Nat → Nat) (k k0 k1 k2 k3 k4 k5 k6 k7 k8 k9 ka kb k00 k01 k02 k03 k04 k05 k050 : Nat) (sz : Nat) (cc : Int32) (c06 : Int32) (c07 : Int32) (c08 : Int32) (cb : Nat → Int32) (c051 : Int32) (c050 : Nat → Int32) (a0 : Int32) (a1 : Int32) (a2 : Int32) : Met l yX10_hand (gW yX10_hand cX10_hand 7 (some .int)) ({ frames := 3, cells := 0, slots := 0, locals := 67 } : Room) (kPreX D cI aK aV [.ref k, .int a0, .int a1, .int a2] [(k, .inr (10, [.ref k0, .ref k1, .ref k2, .ref k3, .ref k4, .ref k5, .ref k6, .ref k7, .ref k8, .ref k9, .ref ka, .ref kb, .int cc])), (k0, .inr (9, [.ref k00, .ref k01, .ref k02, .ref k03, .ref k04, .ref k05, .int c06, .int c07, .int c08])), (kb, .inl (cI, 6, .inl cb)), (k05, .inr (3, [.ref k050, .int c051])), (k050, .inl (cI, 36, .inl c050))] sz) (va_Qi (fun (r : Int32) (u : (Nat → Int32) × (Nat → Int32)) => True) (fun u t => kWd D cI (va_A [(k, .inr (10, [.ref k0, .ref k1, .ref k2, .ref k3, .ref k4, .ref k5, .ref k6, .ref k7, .ref k8, .ref k9, .ref ka, .ref kb, .int cc])), (k0, .inr (9, [.ref k00, .ref k01, .ref k02, .ref k03, .ref k04, .ref k05, .int c06, .int c07, .int c08])), (kb, .inl (cI, 6, .inl cb)), (k05, .inr (3, [.ref k050, .int c051])), (k050, .inl (cI, 36, .inl c050))] sz) [(k, .inr (10, [.ref k0, .ref k1, .ref k2, .ref k3, .ref k4, .ref k5, .ref k6, .ref k7, .ref k8, .ref k9, .ref ka, .ref kb, .int cc])), (k0, .inr (9, [.ref k00, .ref k01, .ref k02, .ref k03, .ref k04, .ref k05, .int c06, .int c07, .int c08])), (kb, .inl (cI, 6, .inl u.1)), (k05, .inr (3, [.ref k050, .int c051])), (k050, .inl (cI, 36, .inl u.2))] t) (va_A [(k, .inr (10, [.ref k0, .ref k1, .ref k2, .ref k3, .ref k4, .ref k5, .ref k6, .ref k7, .ref k8, .ref k9, .ref ka, .ref kb, .int cc])), (k0, .inr (9, [.ref k00, .ref k01, .ref k02, .ref k03, .ref k04, .ref k05, .int c06, .int c07, .int c08])), (kb, .inl (cI, 6, .inl cb)), (k05, .inr (3, [.ref k050, .int c051])), (k050, .inl (cI, 36, .inl c050))] sz)) 0 0 (va_A [(k, .inr (10, [.ref k0, .ref k1, .ref k2, .ref k3, .ref k4, .ref k5, .ref k6, .ref k7, .ref k8, .ref k9, .ref ka, .ref kb, .int cc])), (k0, .inr (9, [.ref k00, .ref k01, .ref k02, .ref k03, .ref k04, .ref k05, .int c06, .int c07, .int c08])), (kb, .inl (cI, 6, .inl cb)), (k05, .inr (3, [.ref k050, .int c051])), (k050, .inl (cI, 36, .inl c050))] sz) := by
  refine kMetIX (own := RX10) (by decide) rfl (Nat.le_of_ble_eq_true rfl) ?_
  intro p e s m args below meth c hx hb hT hown hname hml A Q hK hP hD hS hA hN hXS hRet ls hl
  have hl : lv_has ls 7 [(0, .ref k), (1, .int a0), (2, .int a1), (3, .int a2)] := hl
  have lo_a0 := k_lo a0
  have hi_a0 := k_hi a0
  have lo_a1 := k_lo a1
  have hi_a1 := k_hi a1
  have lo_a2 := k_lo a2
  have hi_a2 := k_hi a2
  have lo_c051 := k_lo c051
  have hi_c051 := k_hi c051
  refine lv_aload_n hx hb dX10_hand_0 rfl (lv_at hl 0 rfl) ?_
  refine va_get (D := D) (ci := 10) (v := .ref k0) (C := RX10) (T := TX10) (N := 13) hx hb hT giX10 hown hK hP 0 rfl rfl 0 (by decide) (hT (Cond.fieldLink RX10 12 "DesertWire" "now" "LDesertWire$World;") mw_291) (fun _ h9 => h9) rfl dX10_hand_1 ?_
  refine va_get (D := D) (ci := 9) (v := .ref k05) (C := RX9) (T := TX9) (N := 9) hx hb hT giX9 hown hK hP 1 rfl rfl 5 (by decide) (hT (Cond.fieldLink RX10 193 "DesertWire$World" "parties" "LDesertWire$Parties;") mw_102) (fun _ h9 => h9) rfl dX10_hand_4 ?_
  refine lv_astore (lv' := [(4, .ref k05), (0, .ref k), (1, .int a0), (2, .int a1), (3, .int a2)]) hx hb dX10_hand_7 hl (by decide) rfl ?_
  clear hl
  intro ls hl
  refine lv_aload hx hb dX10_hand_9 (lv_at hl 0 rfl) ?_
  refine lv_iload_n hx hb dX10_hand_11 rfl (lv_at hl 2 rfl) ?_
  refine kJi (wr := [(k, .inr (10, [.ref k0, .ref k1, .ref k2, .ref k3, .ref k4, .ref k5, .ref k6, .ref k7, .ref k8, .ref k9, .ref ka, .ref kb, .int cc])), (k0, .inr (9, [.ref k00, .ref k01, .ref k02, .ref k03, .ref k04, .ref k05, .int c06, .int c07, .int c08])), (kb, .inl (cI, 6, .inl cb)), (k050, .inl (cI, 36, .inl c050))]) (va_runV (As := [.int a0]) (rest := []) ⟨hx, hb, hml, hown, hT⟩ (c_X3_hasG l D cI aK aV k05 k050 s.heap.size c051 a0) (cwV 1 hT (gV_in mw_717 mw_722 mw_715 mw_716 mw_4) rfl rfl rfl (by decide +kernel) ⟨Nat.le_of_ble_eq_true rfl, Nat.le_of_ble_eq_true rfl⟩) (kRecvX (q0 := 3) (ci := 3) hK hP hD hN hXS hS hA rfl rfl [3] rfl (by decide)) rfl rfl hl.1 rfl (lv_room (Nat.le_of_ble_eq_true rfl)) dX10_hand_12 ⟨Nat.le_of_ble_eq_true rfl, Nat.le_of_ble_eq_true rfl⟩) hP hD hS hA [3] [0, 1, 2, 4] rfl rfl (by decide) (by decide) ?_
  clear hP hD hS
  intro r_1 u_3 H locs w_2 hP hD hS
  replace hP : va_P D vwCl [(k, .inr (10, [.ref k0, .ref k1, .ref k2, .ref k3, .ref k4, .ref k5, .ref k6, .ref k7, .ref k8, .ref k9, .ref ka, .ref kb, .int cc])), (k0, .inr (9, [.ref k00, .ref k01, .ref k02, .ref k03, .ref k04, .ref k05, .int c06, .int c07, .int c08])), (kb, .inl (cI, 6, .inl cb)), (k050, .inl (cI, 36, .inl c050)), (k05, .inr (3, [.ref k050, .int c051]))] H := hP
  replace hD : va_D A [(k, .inr (10, [.ref k0, .ref k1, .ref k2, .ref k3, .ref k4, .ref k5, .ref k6, .ref k7, .ref k8, .ref k9, .ref ka, .ref kb, .int cc])), (k0, .inr (9, [.ref k00, .ref k01, .ref k02, .ref k03, .ref k04, .ref k05, .int c06, .int c07, .int c08])), (kb, .inl (cI, 6, .inl cb)), (k050, .inl (cI, 36, .inl c050)), (k05, .inr (3, [.ref k050, .int c051]))] := hD
  rcases w_2 with ⟨hr_1, h_4, h_5, h_6⟩ | ⟨hr_1, h_7⟩
  · have h_4 : 0 ≤ a0.toInt := h_4
    have h_5 : a0.toInt < c051.toInt := h_5
    have h_6 : a0.toInt < 4 := h_6
    obtain rfl : r_1 = 1 := hr_1.trans (by decide)
    refine b_if_eq hx hb zl_1 (tgt := 43) dX10_hand_15 (by decide) (fun c_8 => by exfalso; omega) (fun c_8 => ?_)
    refine lv_aload hx hb dX10_hand_18 (lv_at hl 0 rfl) ?_
    refine lv_iload_n hx hb dX10_hand_20 rfl (lv_at hl 3 rfl) ?_
    refine kJi (wr := [(k, .inr (10, [.ref k0, .ref k1, .ref k2, .ref k3, .ref k4, .ref k5, .ref k6, .ref k7, .ref k8, .ref k9, .ref ka, .ref kb, .int cc])), (k0, .inr (9, [.ref k00, .ref k01, .ref k02, .ref k03, .ref k04, .ref k05, .int c06, .int c07, .int c08])), (kb, .inl (cI, 6, .inl cb)), (k050, .inl (cI, 36, .inl c050))]) (va_runV (As := [.int a1]) (rest := []) ⟨hx, hb, hml, hown, hT⟩ (c_X3_hasG l D cI aK aV k05 k050 H.size c051 a1) (cwV 1 hT (gV_in mw_717 mw_722 mw_715 mw_716 mw_4) rfl rfl rfl (by decide +kernel) ⟨Nat.le_of_ble_eq_true rfl, Nat.le_of_ble_eq_true rfl⟩) (kRecvX (q0 := 4) (ci := 3) hK hP hD hN hXS hS hA rfl rfl [4] rfl (by decide)) rfl rfl hl.1 rfl (lv_room (Nat.le_of_ble_eq_true rfl)) dX10_hand_21 ⟨Nat.le_of_ble_eq_true rfl, Nat.le_of_ble_eq_true rfl⟩) hP hD hS hA [4] [0, 1, 2, 3] rfl rfl (by decide) (by decide) ?_
    clear hP hD hS
    intro r_9 u_11 H locs w_10 hP hD hS
    replace hP : va_P D vwCl [(k, .inr (10, [.ref k0, .ref k1, .ref k2, .ref k3, .ref k4, .ref k5, .ref k6, .ref k7, .ref k8, .ref k9, .ref ka, .ref kb, .int cc])), (k0, .inr (9, [.ref k00, .ref k01, .ref k02, .ref k03, .ref k04, .ref k05, .int c06, .int c07, .int c08])), (kb, .inl (cI, 6, .inl cb)), (k050, .inl (cI, 36, .inl c050)), (k05, .inr (3, [.ref k050, .int c051]))] H := hP
    replace hD : va_D A [(k, .inr (10, [.ref k0, .ref k1, .ref k2, .ref k3, .ref k4, .ref k5, .ref k6, .ref k7, .ref k8, .ref k9, .ref ka, .ref kb, .int cc])), (k0, .inr (9, [.ref k00, .ref k01, .ref k02, .ref k03, .ref k04, .ref k05, .int c06, .int c07, .int c08])), (kb, .inl (cI, 6, .inl cb)), (k050, .inl (cI, 36, .inl c050)), (k05, .inr (3, [.ref k050, .int c051]))] := hD
    rcases w_10 with ⟨hr_9, h_12, h_13, h_14⟩ | ⟨hr_9, h_15⟩
    · have h_12 : 0 ≤ a1.toInt := h_12
      have h_13 : a1.toInt < c051.toInt := h_13
      have h_14 : a1.toInt < 4 := h_14
      obtain rfl : r_9 = 1 := hr_9.trans (by decide)
      refine b_if_eq hx hb zl_1 (tgt := 43) dX10_hand_24 (by decide) (fun c_16 => by exfalso; omega) (fun c_16 => ?_)
      refine lv_iload_n hx hb dX10_hand_27 rfl (lv_at hl 2 rfl) ?_
      refine lv_iload_n hx hb dX10_hand_28 rfl (lv_at hl 3 rfl) ?_
      refine b_icmp_eq hx hb rfl rfl (tgt := 43) dX10_hand_29 (by decide) (fun c_17 => ?_) (fun c_17 => ?_)
      · refine lv_aload_n hx hb dX10_hand_43 rfl (lv_at hl 1 rfl) ?_
        refine lv_iconst (v := 1) hx hb dX10_hand_44 (by decide) ?_
        refine kJi (wr := [(k0, .inr (9, [.ref k00, .ref k01, .ref k02, .ref k03, .ref k04, .ref k05, .int c06, .int c07, .int c08])), (k050, .inl (cI, 36, .inl c050)), (k05, .inr (3, [.ref k050, .int c051]))]) (va_runV (As := [.int 1]) (rest := []) ⟨hx, hb, hml, hown, hT⟩ (c_X10_findingG l D cI aK aV k k0 k1 k2 k3 k4 k5 k6 k7 k8 k9 ka kb H.size cc cb 1) (cwV 1 hT (gV_in mw_338 mw_335 mw_337 mw_p1_0 mw_1) rfl rfl rfl (by decide +kernel) ⟨Nat.le_of_ble_eq_true rfl, Nat.le_of_ble_eq_true rfl⟩) (kRecvX (q0 := 0) (ci := 10) hK hP hD hN hXS hS hA rfl rfl [0, 2] rfl (by decide)) rfl rfl hl.1 rfl (lv_room (Nat.le_of_ble_eq_true rfl)) dX10_hand_45 ⟨Nat.le_of_ble_eq_true rfl, Nat.le_of_ble_eq_true rfl⟩) hP hD hS hA [0, 2] [1, 3, 4] rfl rfl (by decide) (by decide) ?_
        clear hP hD hS
        intro r_18 scb_20 H locs w_19 hP hD hS
        replace hP : va_P D vwCl [(k0, .inr (9, [.ref k00, .ref k01, .ref k02, .ref k03, .ref k04, .ref k05, .int c06, .int c07, .int c08])), (k050, .inl (cI, 36, .inl c050)), (k05, .inr (3, [.ref k050, .int c051])), (k, .inr (10, [.ref k0, .ref k1, .ref k2, .ref k3, .ref k4, .ref k5, .ref k6, .ref k7, .ref k8, .ref k9, .ref ka, .ref kb, .int cc])), (kb, .inl (cI, 6, .inl scb_20))] H := hP
        replace hD : va_D A [(k0, .inr (9, [.ref k00, .ref k01, .ref k02, .ref k03, .ref k04, .ref k05, .int c06, .int c07, .int c08])), (k050, .inl (cI, 36, .inl c050)), (k05, .inr (3, [.ref k050, .int c051])), (k, .inr (10, [.ref k0, .ref k1, .ref k2, .ref k3, .ref k4, .ref k5, .ref k6, .ref k7, .ref k8, .ref k9, .ref ka, .ref kb, .int cc])), (kb, .inl (cI, 6, .inl scb_20))] := hD
        have hr_18 := w_19
        obtain rfl : r_18 = (-1000001) := hr_18.trans (by decide)
        exact hRet (scb_20, c050) [3, 0, 4, 2, 1] trivial hP hD (by decide) rfl hS rfl dX10_hand_48
      · refine lv_iload_n hx hb dX10_hand_32 rfl (lv_at hl 4 rfl) ?_
        refine lv_iconst (v := 1) hx hb dX10_hand_33 (by decide) ?_
        refine b_icmp_lt hx hb rfl zl_1 (tgt := 43) dX10_hand_34 (by decide) (fun c_21 => ?_) (fun c_21 => ?_)
        · refine lv_aload_n hx hb dX10_hand_43 rfl (lv_at hl 1 rfl) ?_
          refine lv_iconst (v := 1) hx hb dX10_hand_44 (by decide) ?_
          refine kJi (wr := [(k0, .inr (9, [.ref k00, .ref k01, .ref k02, .ref k03, .ref k04, .ref k05, .int c06, .int c07, .int c08])), (k050, .inl (cI, 36, .inl c050)), (k05, .inr (3, [.ref k050, .int c051]))]) (va_runV (As := [.int 1]) (rest := []) ⟨hx, hb, hml, hown, hT⟩ (c_X10_findingG l D cI aK aV k k0 k1 k2 k3 k4 k5 k6 k7 k8 k9 ka kb H.size cc cb 1) (cwV 1 hT (gV_in mw_338 mw_335 mw_337 mw_p1_0 mw_1) rfl rfl rfl (by decide +kernel) ⟨Nat.le_of_ble_eq_true rfl, Nat.le_of_ble_eq_true rfl⟩) (kRecvX (q0 := 0) (ci := 10) hK hP hD hN hXS hS hA rfl rfl [0, 2] rfl (by decide)) rfl rfl hl.1 rfl (lv_room (Nat.le_of_ble_eq_true rfl)) dX10_hand_45 ⟨Nat.le_of_ble_eq_true rfl, Nat.le_of_ble_eq_true rfl⟩) hP hD hS hA [0, 2] [1, 3, 4] rfl rfl (by decide) (by decide) ?_
          clear hP hD hS
          intro r_22 scb_24 H locs w_23 hP hD hS
          replace hP : va_P D vwCl [(k0, .inr (9, [.ref k00, .ref k01, .ref k02, .ref k03, .ref k04, .ref k05, .int c06, .int c07, .int c08])), (k050, .inl (cI, 36, .inl c050)), (k05, .inr (3, [.ref k050, .int c051])), (k, .inr (10, [.ref k0, .ref k1, .ref k2, .ref k3, .ref k4, .ref k5, .ref k6, .ref k7, .ref k8, .ref k9, .ref ka, .ref kb, .int cc])), (kb, .inl (cI, 6, .inl scb_24))] H := hP
          replace hD : va_D A [(k0, .inr (9, [.ref k00, .ref k01, .ref k02, .ref k03, .ref k04, .ref k05, .int c06, .int c07, .int c08])), (k050, .inl (cI, 36, .inl c050)), (k05, .inr (3, [.ref k050, .int c051])), (k, .inr (10, [.ref k0, .ref k1, .ref k2, .ref k3, .ref k4, .ref k5, .ref k6, .ref k7, .ref k8, .ref k9, .ref ka, .ref kb, .int cc])), (kb, .inl (cI, 6, .inl scb_24))] := hD
          have hr_22 := w_23
          obtain rfl : r_22 = (-1000001) := hr_22.trans (by decide)
          exact hRet (scb_24, c050) [3, 0, 4, 2, 1] trivial hP hD (by decide) rfl hS rfl dX10_hand_48
        · refine lv_iload_n hx hb dX10_hand_37 rfl (lv_at hl 4 rfl) ?_
          refine lv_bipush (v := 50) hx hb dX10_hand_38 (by decide) ?_
          refine b_icmp_le hx hb rfl zl_50 (tgt := 49) dX10_hand_40 (by decide) (fun c_25 => ?_) (fun c_25 => ?_)
          · refine lv_aload hx hb dX10_hand_49 (lv_at hl 0 rfl) ?_
            refine lv_iload_n hx hb dX10_hand_51 rfl (lv_at hl 2 rfl) ?_
            refine kJi (wr := [(k, .inr (10, [.ref k0, .ref k1, .ref k2, .ref k3, .ref k4, .ref k5, .ref k6, .ref k7, .ref k8, .ref k9, .ref ka, .ref kb, .int cc])), (k0, .inr (9, [.ref k00, .ref k01, .ref k02, .ref k03, .ref k04, .ref k05, .int c06, .int c07, .int c08])), (kb, .inl (cI, 6, .inl cb))]) (va_runV (As := [.int a0]) (rest := []) ⟨hx, hb, hml, hown, hT⟩ (c_X3_isLostG l D cI aK aV k05 k050 H.size c051 c050 a0) (cwV 1 hT (gV_in mw_734 mw_731 mw_732 mw_733 mw_4) rfl rfl rfl (by decide +kernel) ⟨Nat.le_of_ble_eq_true rfl, Nat.le_of_ble_eq_true rfl⟩) (kRecvX (q0 := 4) (ci := 3) hK hP hD hN hXS hS hA rfl rfl [4, 3] rfl (by decide)) rfl rfl hl.1 rfl (lv_room (Nat.le_of_ble_eq_true rfl)) dX10_hand_52 ⟨Nat.le_of_ble_eq_true rfl, Nat.le_of_ble_eq_true rfl⟩) hP hD hS hA [4, 3] [0, 1, 2] rfl rfl (by decide) (by decide) ?_
            clear hP hD hS
            intro r_26 u_28 H locs w_27 hP hD hS
            replace hP : va_P D vwCl [(k, .inr (10, [.ref k0, .ref k1, .ref k2, .ref k3, .ref k4, .ref k5, .ref k6, .ref k7, .ref k8, .ref k9, .ref ka, .ref kb, .int cc])), (k0, .inr (9, [.ref k00, .ref k01, .ref k02, .ref k03, .ref k04, .ref k05, .int c06, .int c07, .int c08])), (kb, .inl (cI, 6, .inl cb)), (k05, .inr (3, [.ref k050, .int c051])), (k050, .inl (cI, 36, .inl c050))] H := hP
            replace hD : va_D A [(k, .inr (10, [.ref k0, .ref k1, .ref k2, .ref k3, .ref k4, .ref k5, .ref k6, .ref k7, .ref k8, .ref k9, .ref ka, .ref kb, .int cc])), (k0, .inr (9, [.ref k00, .ref k01, .ref k02, .ref k03, .ref k04, .ref k05, .int c06, .int c07, .int c08])), (kb, .inl (cI, 6, .inl cb)), (k05, .inr (3, [.ref k050, .int c051])), (k050, .inl (cI, 36, .inl c050))] := hD
            have lo_r_26 := k_lo r_26
            have hi_r_26 := k_hi r_26
            refine b_if_ne hx hb rfl (tgt := 67) dX10_hand_55 (by decide) (fun c_29 => ?_) (fun c_29 => ?_)
            · refine lv_iconst (v := 1) hx hb dX10_hand_67 (by decide) ?_
              refine lv_goto (tgt := 72) hx hb dX10_hand_68 (by decide) ?_
              refine lv_istore (lv' := [(5, .int 1), (4, .ref k05), (0, .ref k), (1, .int a0), (2, .int a1), (3, .int a2)]) hx hb dX10_hand_72 hl (by decide) rfl ?_
              clear hl
              intro ls hl
              refine lv_aload hx hb dX10_hand_74 (lv_at hl 1 rfl) ?_
              refine lv_iload_n hx hb dX10_hand_76 rfl (lv_at hl 3 rfl) ?_
              refine lv_iconst (v := 0) hx hb dX10_hand_77 (by decide) ?_
              refine kJi (wr := [(k, .inr (10, [.ref k0, .ref k1, .ref k2, .ref k3, .ref k4, .ref k5, .ref k6, .ref k7, .ref k8, .ref k9, .ref ka, .ref kb, .int cc])), (k0, .inr (9, [.ref k00, .ref k01, .ref k02, .ref k03, .ref k04, .ref k05, .int c06, .int c07, .int c08])), (kb, .inl (cI, 6, .inl cb))]) (va_runV (As := [.int a0, .int 0]) (rest := []) ⟨hx, hb, hml, hown, hT⟩ (c_X3_getG l D cI aK aV k05 k050 H.size c051 c050 a0 0) (cwV 2 hT (gV_in mw_726 mw_723 mw_724 mw_725 mw_4) rfl rfl rfl (by decide +kernel) ⟨Nat.le_of_ble_eq_true rfl, Nat.le_of_ble_eq_true rfl⟩) (kRecvX (q0 := 3) (ci := 3) hK hP hD hN hXS hS hA rfl rfl [3, 4] rfl (by decide)) rfl rfl hl.1 rfl (lv_room (Nat.le_of_ble_eq_true rfl)) dX10_hand_78 ⟨Nat.le_of_ble_eq_true rfl, Nat.le_of_ble_eq_true rfl⟩) hP hD hS hA [3, 4] [0, 1, 2] rfl rfl (by decide) (by decide) ?_
              clear hP hD hS
              intro r_30 u_32 H locs w_31 hP hD hS
              replace hP : va_P D vwCl [(k, .inr (10, [.ref k0, .ref k1, .ref k2, .ref k3, .ref k4, .ref k5, .ref k6, .ref k7, .ref k8, .ref k9, .ref ka, .ref kb, .int cc])), (k0, .inr (9, [.ref k00, .ref k01, .ref k02, .ref k03, .ref k04, .ref k05, .int c06, .int c07, .int c08])), (kb, .inl (cI, 6, .inl cb)), (k05, .inr (3, [.ref k050, .int c051])), (k050, .inl (cI, 36, .inl c050))] H := hP
              replace hD : va_D A [(k, .inr (10, [.ref k0, .ref k1, .ref k2, .ref k3, .ref k4, .ref k5, .ref k6, .ref k7, .ref k8, .ref k9, .ref ka, .ref kb, .int cc])), (k0, .inr (9, [.ref k00, .ref k01, .ref k02, .ref k03, .ref k04, .ref k05, .int c06, .int c07, .int c08])), (kb, .inl (cI, 6, .inl cb)), (k05, .inr (3, [.ref k050, .int c051])), (k050, .inl (cI, 36, .inl c050))] := hD
              have lo_r_30 := k_lo r_30
              have hi_r_30 := k_hi r_30
              refine lv_aload hx hb dX10_hand_81 (lv_at hl 1 rfl) ?_
              refine lv_iload_n hx hb dX10_hand_83 rfl (lv_at hl 4 rfl) ?_
              refine lv_iconst (v := 0) hx hb dX10_hand_84 (by decide) ?_
              refine kJi (wr := [(k, .inr (10, [.ref k0, .ref k1, .ref k2, .ref k3, .ref k4, .ref k5, .ref k6, .ref k7, .ref k8, .ref k9, .ref ka, .ref kb, .int cc])), (k0, .inr (9, [.ref k00, .ref k01, .ref k02, .ref k03, .ref k04, .ref k05, .int c06, .int c07, .int c08])), (kb, .inl (cI, 6, .inl cb))]) (va_runV (As := [.int a1, .int 0]) (rest := [.int r_30]) ⟨hx, hb, hml, hown, hT⟩ (c_X3_getG l D cI aK aV k05 k050 H.size c051 c050 a1 0) (cwV 2 hT (gV_in mw_726 mw_723 mw_724 mw_725 mw_4) rfl rfl rfl (by decide +kernel) ⟨Nat.le_of_ble_eq_true rfl, Nat.le_of_ble_eq_true rfl⟩) (kRecvX (q0 := 3) (ci := 3) hK hP hD hN hXS hS hA rfl rfl [3, 4] rfl (by decide)) rfl rfl hl.1 rfl (lv_room (Nat.le_of_ble_eq_true rfl)) dX10_hand_85 ⟨Nat.le_of_ble_eq_true rfl, Nat.le_of_ble_eq_true rfl⟩) hP hD hS hA [3, 4] [0, 1, 2] rfl rfl (by decide) (by decide) ?_
              clear hP hD hS
              intro r_33 u_35 H locs w_34 hP hD hS
              replace hP : va_P D vwCl [(k, .inr (10, [.ref k0, .ref k1, .ref k2, .ref k3, .ref k4, .ref k5, .ref k6, .ref k7, .ref k8, .ref k9, .ref ka, .ref kb, .int cc])), (k0, .inr (9, [.ref k00, .ref k01, .ref k02, .ref k03, .ref k04, .ref k05, .int c06, .int c07, .int c08])), (kb, .inl (cI, 6, .inl cb)), (k05, .inr (3, [.ref k050, .int c051])), (k050, .inl (cI, 36, .inl c050))] H := hP
              replace hD : va_D A [(k, .inr (10, [.ref k0, .ref k1, .ref k2, .ref k3, .ref k4, .ref k5, .ref k6, .ref k7, .ref k8, .ref k9, .ref ka, .ref kb, .int cc])), (k0, .inr (9, [.ref k00, .ref k01, .ref k02, .ref k03, .ref k04, .ref k05, .int c06, .int c07, .int c08])), (kb, .inl (cI, 6, .inl cb)), (k05, .inr (3, [.ref k050, .int c051])), (k050, .inl (cI, 36, .inl c050))] := hD
              have lo_r_33 := k_lo r_33
              have hi_r_33 := k_hi r_33
              refine b_icmp_eq hx hb rfl rfl (tgt := 95) dX10_hand_88 (by decide) (fun c_36 => ?_) (fun c_36 => ?_)
              · refine lv_iconst (v := 0) hx hb dX10_hand_95 (by decide) ?_
                refine lv_istore (lv' := [(6, .int 0), (5, .int 1), (4, .ref k05), (0, .ref k), (1, .int a0), (2, .int a1), (3, .int a2)]) hx hb dX10_hand_96 hl (by decide) rfl ?_
                clear hl
                intro ls hl
                refine lv_iload hx hb dX10_hand_98 (lv_at hl 1 rfl) ?_
                refine b_if_ne hx hb zl_1 (tgt := 121) dX10_hand_100 (by decide) (fun c_37 => ?_) (fun c_37 => by exfalso; omega)
                refine lv_aload_n hx hb dX10_hand_121 rfl (lv_at hl 3 rfl) ?_
                refine lv_iconst (v := 3) hx hb dX10_hand_122 (by decide) ?_
                refine kJi (wr := [(k0, .inr (9, [.ref k00, .ref k01, .ref k02, .ref k03, .ref k04, .ref k05, .int c06, .int c07, .int c08])), (k05, .inr (3, [.ref k050, .int c051])), (k050, .inl (cI, 36, .inl c050))]) (va_runV (As := [.int 3]) (rest := []) ⟨hx, hb, hml, hown, hT⟩ (c_X10_findingG l D cI aK aV k k0 k1 k2 k3 k4 k5 k6 k7 k8 k9 ka kb H.size cc cb 3) (cwV 1 hT (gV_in mw_338 mw_335 mw_337 mw_p1_0 mw_1) rfl rfl rfl (by decide +kernel) ⟨Nat.le_of_ble_eq_true rfl, Nat.le_of_ble_eq_true rfl⟩) (kRecvX (q0 := 0) (ci := 10) hK hP hD hN hXS hS hA rfl rfl [0, 2] rfl (by decide)) rfl rfl hl.1 rfl (lv_room (Nat.le_of_ble_eq_true rfl)) dX10_hand_123 ⟨Nat.le_of_ble_eq_true rfl, Nat.le_of_ble_eq_true rfl⟩) hP hD hS hA [0, 2] [1, 3, 4] rfl rfl (by decide) (by decide) ?_
                clear hP hD hS
                intro r_38 scb_40 H locs w_39 hP hD hS
                replace hP : va_P D vwCl [(k0, .inr (9, [.ref k00, .ref k01, .ref k02, .ref k03, .ref k04, .ref k05, .int c06, .int c07, .int c08])), (k05, .inr (3, [.ref k050, .int c051])), (k050, .inl (cI, 36, .inl c050)), (k, .inr (10, [.ref k0, .ref k1, .ref k2, .ref k3, .ref k4, .ref k5, .ref k6, .ref k7, .ref k8, .ref k9, .ref ka, .ref kb, .int cc])), (kb, .inl (cI, 6, .inl scb_40))] H := hP
                replace hD : va_D A [(k0, .inr (9, [.ref k00, .ref k01, .ref k02, .ref k03, .ref k04, .ref k05, .int c06, .int c07, .int c08])), (k05, .inr (3, [.ref k050, .int c051])), (k050, .inl (cI, 36, .inl c050)), (k, .inr (10, [.ref k0, .ref k1, .ref k2, .ref k3, .ref k4, .ref k5, .ref k6, .ref k7, .ref k8, .ref k9, .ref ka, .ref kb, .int cc])), (kb, .inl (cI, 6, .inl scb_40))] := hD
                have hr_38 := w_39
                obtain rfl : r_38 = (-1000003) := hr_38.trans (by decide)
                exact hRet (scb_40, c050) [3, 0, 4, 1, 2] trivial hP hD (by decide) rfl hS rfl dX10_hand_126
              · refine lv_iconst (v := 1) hx hb dX10_hand_91 (by decide) ?_
                refine lv_goto (tgt := 96) hx hb dX10_hand_92 (by decide) ?_
                refine lv_istore (lv' := [(6, .int 1), (5, .int 1), (4, .ref k05), (0, .ref k), (1, .int a0), (2, .int a1), (3, .int a2)]) hx hb dX10_hand_96 hl (by decide) rfl ?_
                clear hl
                intro ls hl
                refine lv_iload hx hb dX10_hand_98 (lv_at hl 1 rfl) ?_
                refine b_if_ne hx hb zl_1 (tgt := 121) dX10_hand_100 (by decide) (fun c_41 => ?_) (fun c_41 => by exfalso; omega)
                refine lv_aload_n hx hb dX10_hand_121 rfl (lv_at hl 3 rfl) ?_
                refine lv_iconst (v := 3) hx hb dX10_hand_122 (by decide) ?_
                refine kJi (wr := [(k0, .inr (9, [.ref k00, .ref k01, .ref k02, .ref k03, .ref k04, .ref k05, .int c06, .int c07, .int c08])), (k05, .inr (3, [.ref k050, .int c051])), (k050, .inl (cI, 36, .inl c050))]) (va_runV (As := [.int 3]) (rest := []) ⟨hx, hb, hml, hown, hT⟩ (c_X10_findingG l D cI aK aV k k0 k1 k2 k3 k4 k5 k6 k7 k8 k9 ka kb H.size cc cb 3) (cwV 1 hT (gV_in mw_338 mw_335 mw_337 mw_p1_0 mw_1) rfl rfl rfl (by decide +kernel) ⟨Nat.le_of_ble_eq_true rfl, Nat.le_of_ble_eq_true rfl⟩) (kRecvX (q0 := 0) (ci := 10) hK hP hD hN hXS hS hA rfl rfl [0, 2] rfl (by decide)) rfl rfl hl.1 rfl (lv_room (Nat.le_of_ble_eq_true rfl)) dX10_hand_123 ⟨Nat.le_of_ble_eq_true rfl, Nat.le_of_ble_eq_true rfl⟩) hP hD hS hA [0, 2] [1, 3, 4] rfl rfl (by decide) (by decide) ?_
                clear hP hD hS
                intro r_42 scb_44 H locs w_43 hP hD hS
                replace hP : va_P D vwCl [(k0, .inr (9, [.ref k00, .ref k01, .ref k02, .ref k03, .ref k04, .ref k05, .int c06, .int c07, .int c08])), (k05, .inr (3, [.ref k050, .int c051])), (k050, .inl (cI, 36, .inl c050)), (k, .inr (10, [.ref k0, .ref k1, .ref k2, .ref k3, .ref k4, .ref k5, .ref k6, .ref k7, .ref k8, .ref k9, .ref ka, .ref kb, .int cc])), (kb, .inl (cI, 6, .inl scb_44))] H := hP
                replace hD : va_D A [(k0, .inr (9, [.ref k00, .ref k01, .ref k02, .ref k03, .ref k04, .ref k05, .int c06, .int c07, .int c08])), (k05, .inr (3, [.ref k050, .int c051])), (k050, .inl (cI, 36, .inl c050)), (k, .inr (10, [.ref k0, .ref k1, .ref k2, .ref k3, .ref k4, .ref k5, .ref k6, .ref k7, .ref k8, .ref k9, .ref ka, .ref kb, .int cc])), (kb, .inl (cI, 6, .inl scb_44))] := hD
                have hr_42 := w_43
                obtain rfl : r_42 = (-1000003) := hr_42.trans (by decide)
                exact hRet (scb_44, c050) [3, 0, 4, 1, 2] trivial hP hD (by decide) rfl hS rfl dX10_hand_126
            · refine lv_aload hx hb dX10_hand_58 (lv_at hl 0 rfl) ?_
              refine lv_iload_n hx hb dX10_hand_60 rfl (lv_at hl 3 rfl) ?_
              refine kJi (wr := [(k, .inr (10, [.ref k0, .ref k1, .ref k2, .ref k3, .ref k4, .ref k5, .ref k6, .ref k7, .ref k8, .ref k9, .ref ka, .ref kb, .int cc])), (k0, .inr (9, [.ref k00, .ref k01, .ref k02, .ref k03, .ref k04, .ref k05, .int c06, .int c07, .int c08])), (kb, .inl (cI, 6, .inl cb))]) (va_runV (As := [.int a1]) (rest := []) ⟨hx, hb, hml, hown, hT⟩ (c_X3_isLostG l D cI aK aV k05 k050 H.size c051 c050 a1) (cwV 1 hT (gV_in mw_734 mw_731 mw_732 mw_733 mw_4) rfl rfl rfl (by decide +kernel) ⟨Nat.le_of_ble_eq_true rfl, Nat.le_of_ble_eq_true rfl⟩) (kRecvX (q0 := 3) (ci := 3) hK hP hD hN hXS hS hA rfl rfl [3, 4] rfl (by decide)) rfl rfl hl.1 rfl (lv_room (Nat.le_of_ble_eq_true rfl)) dX10_hand_61 ⟨Nat.le_of_ble_eq_true rfl, Nat.le_of_ble_eq_true rfl⟩) hP hD hS hA [3, 4] [0, 1, 2] rfl rfl (by decide) (by decide) ?_
              clear hP hD hS
              intro r_45 u_47 H locs w_46 hP hD hS
              replace hP : va_P D vwCl [(k, .inr (10, [.ref k0, .ref k1, .ref k2, .ref k3, .ref k4, .ref k5, .ref k6, .ref k7, .ref k8, .ref k9, .ref ka, .ref kb, .int cc])), (k0, .inr (9, [.ref k00, .ref k01, .ref k02, .ref k03, .ref k04, .ref k05, .int c06, .int c07, .int c08])), (kb, .inl (cI, 6, .inl cb)), (k05, .inr (3, [.ref k050, .int c051])), (k050, .inl (cI, 36, .inl c050))] H := hP
              replace hD : va_D A [(k, .inr (10, [.ref k0, .ref k1, .ref k2, .ref k3, .ref k4, .ref k5, .ref k6, .ref k7, .ref k8, .ref k9, .ref ka, .ref kb, .int cc])), (k0, .inr (9, [.ref k00, .ref k01, .ref k02, .ref k03, .ref k04, .ref k05, .int c06, .int c07, .int c08])), (kb, .inl (cI, 6, .inl cb)), (k05, .inr (3, [.ref k050, .int c051])), (k050, .inl (cI, 36, .inl c050))] := hD
              have lo_r_45 := k_lo r_45
              have hi_r_45 := k_hi r_45
              refine b_if_eq hx hb rfl (tgt := 71) dX10_hand_64 (by decide) (fun c_48 => ?_) (fun c_48 => ?_)
              · refine lv_iconst (v := 0) hx hb dX10_hand_71 (by decide) ?_
                refine lv_istore (lv' := [(5, .int 0), (4, .ref k05), (0, .ref k), (1, .int a0), (2, .int a1), (3, .int a2)]) hx hb dX10_hand_72 hl (by decide) rfl ?_
                clear hl
                intro ls hl
                refine lv_aload hx hb dX10_hand_74 (lv_at hl 1 rfl) ?_
                refine lv_iload_n hx hb dX10_hand_76 rfl (lv_at hl 3 rfl) ?_
                refine lv_iconst (v := 0) hx hb dX10_hand_77 (by decide) ?_
                refine kJi (wr := [(k, .inr (10, [.ref k0, .ref k1, .ref k2, .ref k3, .ref k4, .ref k5, .ref k6, .ref k7, .ref k8, .ref k9, .ref ka, .ref kb, .int cc])), (k0, .inr (9, [.ref k00, .ref k01, .ref k02, .ref k03, .ref k04, .ref k05, .int c06, .int c07, .int c08])), (kb, .inl (cI, 6, .inl cb))]) (va_runV (As := [.int a0, .int 0]) (rest := []) ⟨hx, hb, hml, hown, hT⟩ (c_X3_getG l D cI aK aV k05 k050 H.size c051 c050 a0 0) (cwV 2 hT (gV_in mw_726 mw_723 mw_724 mw_725 mw_4) rfl rfl rfl (by decide +kernel) ⟨Nat.le_of_ble_eq_true rfl, Nat.le_of_ble_eq_true rfl⟩) (kRecvX (q0 := 3) (ci := 3) hK hP hD hN hXS hS hA rfl rfl [3, 4] rfl (by decide)) rfl rfl hl.1 rfl (lv_room (Nat.le_of_ble_eq_true rfl)) dX10_hand_78 ⟨Nat.le_of_ble_eq_true rfl, Nat.le_of_ble_eq_true rfl⟩) hP hD hS hA [3, 4] [0, 1, 2] rfl rfl (by decide) (by decide) ?_
                clear hP hD hS
                intro r_49 u_51 H locs w_50 hP hD hS
                replace hP : va_P D vwCl [(k, .inr (10, [.ref k0, .ref k1, .ref k2, .ref k3, .ref k4, .ref k5, .ref k6, .ref k7, .ref k8, .ref k9, .ref ka, .ref kb, .int cc])), (k0, .inr (9, [.ref k00, .ref k01, .ref k02, .ref k03, .ref k04, .ref k05, .int c06, .int c07, .int c08])), (kb, .inl (cI, 6, .inl cb)), (k05, .inr (3, [.ref k050, .int c051])), (k050, .inl (cI, 36, .inl c050))] H := hP
                replace hD : va_D A [(k, .inr (10, [.ref k0, .ref k1, .ref k2, .ref k3, .ref k4, .ref k5, .ref k6, .ref k7, .ref k8, .ref k9, .ref ka, .ref kb, .int cc])), (k0, .inr (9, [.ref k00, .ref k01, .ref k02, .ref k03, .ref k04, .ref k05, .int c06, .int c07, .int c08])), (kb, .inl (cI, 6, .inl cb)), (k05, .inr (3, [.ref k050, .int c051])), (k050, .inl (cI, 36, .inl c050))] := hD
                have lo_r_49 := k_lo r_49
                have hi_r_49 := k_hi r_49
                refine lv_aload hx hb dX10_hand_81 (lv_at hl 1 rfl) ?_
                refine lv_iload_n hx hb dX10_hand_83 rfl (lv_at hl 4 rfl) ?_
                refine lv_iconst (v := 0) hx hb dX10_hand_84 (by decide) ?_
                refine kJi (wr := [(k, .inr (10, [.ref k0, .ref k1, .ref k2, .ref k3, .ref k4, .ref k5, .ref k6, .ref k7, .ref k8, .ref k9, .ref ka, .ref kb, .int cc])), (k0, .inr (9, [.ref k00, .ref k01, .ref k02, .ref k03, .ref k04, .ref k05, .int c06, .int c07, .int c08])), (kb, .inl (cI, 6, .inl cb))]) (va_runV (As := [.int a1, .int 0]) (rest := [.int r_49]) ⟨hx, hb, hml, hown, hT⟩ (c_X3_getG l D cI aK aV k05 k050 H.size c051 c050 a1 0) (cwV 2 hT (gV_in mw_726 mw_723 mw_724 mw_725 mw_4) rfl rfl rfl (by decide +kernel) ⟨Nat.le_of_ble_eq_true rfl, Nat.le_of_ble_eq_true rfl⟩) (kRecvX (q0 := 3) (ci := 3) hK hP hD hN hXS hS hA rfl rfl [3, 4] rfl (by decide)) rfl rfl hl.1 rfl (lv_room (Nat.le_of_ble_eq_true rfl)) dX10_hand_85 ⟨Nat.le_of_ble_eq_true rfl, Nat.le_of_ble_eq_true rfl⟩) hP hD hS hA [3, 4] [0, 1, 2] rfl rfl (by decide) (by decide) ?_
                clear hP hD hS
                intro r_52 u_54 H locs w_53 hP hD hS
                replace hP : va_P D vwCl [(k, .inr (10, [.ref k0, .ref k1, .ref k2, .ref k3, .ref k4, .ref k5, .ref k6, .ref k7, .ref k8, .ref k9, .ref ka, .ref kb, .int cc])), (k0, .inr (9, [.ref k00, .ref k01, .ref k02, .ref k03, .ref k04, .ref k05, .int c06, .int c07, .int c08])), (kb, .inl (cI, 6, .inl cb)), (k05, .inr (3, [.ref k050, .int c051])), (k050, .inl (cI, 36, .inl c050))] H := hP
                replace hD : va_D A [(k, .inr (10, [.ref k0, .ref k1, .ref k2, .ref k3, .ref k4, .ref k5, .ref k6, .ref k7, .ref k8, .ref k9, .ref ka, .ref kb, .int cc])), (k0, .inr (9, [.ref k00, .ref k01, .ref k02, .ref k03, .ref k04, .ref k05, .int c06, .int c07, .int c08])), (kb, .inl (cI, 6, .inl cb)), (k05, .inr (3, [.ref k050, .int c051])), (k050, .inl (cI, 36, .inl c050))] := hD
                have lo_r_52 := k_lo r_52
                have hi_r_52 := k_hi r_52
                refine b_icmp_eq hx hb rfl rfl (tgt := 95) dX10_hand_88 (by decide) (fun c_55 => ?_) (fun c_55 => ?_)
                · refine lv_iconst (v := 0) hx hb dX10_hand_95 (by decide) ?_
                  refine lv_istore (lv' := [(6, .int 0), (5, .int 0), (4, .ref k05), (0, .ref k), (1, .int a0), (2, .int a1), (3, .int a2)]) hx hb dX10_hand_96 hl (by decide) rfl ?_
                  clear hl
                  intro ls hl
                  refine lv_iload hx hb dX10_hand_98 (lv_at hl 1 rfl) ?_
                  refine b_if_ne hx hb zl_0 (tgt := 121) dX10_hand_100 (by decide) (fun c_56 => by exfalso; omega) (fun c_56 => ?_)
                  refine lv_iload hx hb dX10_hand_103 (lv_at hl 0 rfl) ?_
                  refine b_if_ne hx hb zl_0 (tgt := 121) dX10_hand_105 (by decide) (fun c_57 => by exfalso; omega) (fun c_57 => ?_)
                  refine lv_aload hx hb dX10_hand_108 (lv_at hl 2 rfl) ?_
                  refine lv_iload_n hx hb dX10_hand_110 rfl (lv_at hl 4 rfl) ?_
                  refine lv_iconst (v := 2) hx hb dX10_hand_111 (by decide) ?_
                  refine kJi (wr := [(k, .inr (10, [.ref k0, .ref k1, .ref k2, .ref k3, .ref k4, .ref k5, .ref k6, .ref k7, .ref k8, .ref k9, .ref ka, .ref kb, .int cc])), (k0, .inr (9, [.ref k00, .ref k01, .ref k02, .ref k03, .ref k04, .ref k05, .int c06, .int c07, .int c08])), (kb, .inl (cI, 6, .inl cb))]) (va_runV (As := [.int a0, .int 2]) (rest := []) ⟨hx, hb, hml, hown, hT⟩ (c_X3_getG l D cI aK aV k05 k050 H.size c051 c050 a0 2) (cwV 2 hT (gV_in mw_726 mw_723 mw_724 mw_725 mw_4) rfl rfl rfl (by decide +kernel) ⟨Nat.le_of_ble_eq_true rfl, Nat.le_of_ble_eq_true rfl⟩) (kRecvX (q0 := 3) (ci := 3) hK hP hD hN hXS hS hA rfl rfl [3, 4] rfl (by decide)) rfl rfl hl.1 rfl (lv_room (Nat.le_of_ble_eq_true rfl)) dX10_hand_112 ⟨Nat.le_of_ble_eq_true rfl, Nat.le_of_ble_eq_true rfl⟩) hP hD hS hA [3, 4] [0, 1, 2] rfl rfl (by decide) (by decide) ?_
                  clear hP hD hS
                  intro r_58 u_60 H locs w_59 hP hD hS
                  replace hP : va_P D vwCl [(k, .inr (10, [.ref k0, .ref k1, .ref k2, .ref k3, .ref k4, .ref k5, .ref k6, .ref k7, .ref k8, .ref k9, .ref ka, .ref kb, .int cc])), (k0, .inr (9, [.ref k00, .ref k01, .ref k02, .ref k03, .ref k04, .ref k05, .int c06, .int c07, .int c08])), (kb, .inl (cI, 6, .inl cb)), (k05, .inr (3, [.ref k050, .int c051])), (k050, .inl (cI, 36, .inl c050))] H := hP
                  replace hD : va_D A [(k, .inr (10, [.ref k0, .ref k1, .ref k2, .ref k3, .ref k4, .ref k5, .ref k6, .ref k7, .ref k8, .ref k9, .ref ka, .ref kb, .int cc])), (k0, .inr (9, [.ref k00, .ref k01, .ref k02, .ref k03, .ref k04, .ref k05, .int c06, .int c07, .int c08])), (kb, .inl (cI, 6, .inl cb)), (k05, .inr (3, [.ref k050, .int c051])), (k050, .inl (cI, 36, .inl c050))] := hD
                  have lo_r_58 := k_lo r_58
                  have hi_r_58 := k_hi r_58
                  refine lv_iload_n hx hb dX10_hand_115 rfl (lv_at hl 6 rfl) ?_
                  refine lv_iconst (v := 1) hx hb dX10_hand_116 (by decide) ?_
                  refine lv_iadd hx hb dX10_hand_117 ?_
                  refine lv_topi (fun v_61 ev_61 => ?_)
                  have tv_61 : v_61.toInt = a2.toInt + 1 := by rw [ev_61]; exact k_addv rfl zl_1 (by omega) (by omega)
                  refine b_icmp_ge hx hb rfl rfl (tgt := 127) dX10_hand_118 (by decide) (fun c_62 => ?_) (fun c_62 => ?_)
                  · refine lv_aload hx hb dX10_hand_127 (lv_at hl 2 rfl) ?_
                    refine lv_iload_n hx hb dX10_hand_129 rfl (lv_at hl 5 rfl) ?_
                    refine lv_iconst (v := 2) hx hb dX10_hand_130 (by decide) ?_
                    refine kJi (wr := [(k, .inr (10, [.ref k0, .ref k1, .ref k2, .ref k3, .ref k4, .ref k5, .ref k6, .ref k7, .ref k8, .ref k9, .ref ka, .ref kb, .int cc])), (k0, .inr (9, [.ref k00, .ref k01, .ref k02, .ref k03, .ref k04, .ref k05, .int c06, .int c07, .int c08])), (kb, .inl (cI, 6, .inl cb))]) (va_runV (As := [.int a1, .int 2]) (rest := []) ⟨hx, hb, hml, hown, hT⟩ (c_X3_getG l D cI aK aV k05 k050 H.size c051 c050 a1 2) (cwV 2 hT (gV_in mw_726 mw_723 mw_724 mw_725 mw_4) rfl rfl rfl (by decide +kernel) ⟨Nat.le_of_ble_eq_true rfl, Nat.le_of_ble_eq_true rfl⟩) (kRecvX (q0 := 3) (ci := 3) hK hP hD hN hXS hS hA rfl rfl [3, 4] rfl (by decide)) rfl rfl hl.1 rfl (lv_room (Nat.le_of_ble_eq_true rfl)) dX10_hand_131 ⟨Nat.le_of_ble_eq_true rfl, Nat.le_of_ble_eq_true rfl⟩) hP hD hS hA [3, 4] [0, 1, 2] rfl rfl (by decide) (by decide) ?_
                    clear hP hD hS
                    intro r_63 u_65 H locs w_64 hP hD hS
                    replace hP : va_P D vwCl [(k, .inr (10, [.ref k0, .ref k1, .ref k2, .ref k3, .ref k4, .ref k5, .ref k6, .ref k7, .ref k8, .ref k9, .ref ka, .ref kb, .int cc])), (k0, .inr (9, [.ref k00, .ref k01, .ref k02, .ref k03, .ref k04, .ref k05, .int c06, .int c07, .int c08])), (kb, .inl (cI, 6, .inl cb)), (k05, .inr (3, [.ref k050, .int c051])), (k050, .inl (cI, 36, .inl c050))] H := hP
                    replace hD : va_D A [(k, .inr (10, [.ref k0, .ref k1, .ref k2, .ref k3, .ref k4, .ref k5, .ref k6, .ref k7, .ref k8, .ref k9, .ref ka, .ref kb, .int cc])), (k0, .inr (9, [.ref k00, .ref k01, .ref k02, .ref k03, .ref k04, .ref k05, .int c06, .int c07, .int c08])), (kb, .inl (cI, 6, .inl cb)), (k05, .inr (3, [.ref k050, .int c051])), (k050, .inl (cI, 36, .inl c050))] := hD
                    have lo_r_63 := k_lo r_63
                    have hi_r_63 := k_hi r_63
                    refine lv_iload_n hx hb dX10_hand_134 rfl (lv_at hl 6 rfl) ?_
                    refine lv_iadd hx hb dX10_hand_135 ?_
                    refine lv_topi (fun v_66 ev_66 => ?_)
                    have lo_v_66 := k_lo v_66
                    have hi_v_66 := k_hi v_66
                    refine lv_bipush (v := 50) hx hb dX10_hand_136 (by decide) ?_
                    refine b_icmp_le hx hb rfl zl_50 (tgt := 147) dX10_hand_138 (by decide) (fun c_67 => ?_) (fun c_67 => ?_)
                    · refine lv_aload hx hb dX10_hand_147 (lv_at hl 2 rfl) ?_
                      refine lv_iload_n hx hb dX10_hand_149 rfl (lv_at hl 4 rfl) ?_
                      refine lv_iconst (v := 2) hx hb dX10_hand_150 (by decide) ?_
                      refine lv_iload_n hx hb dX10_hand_151 rfl (lv_at hl 6 rfl) ?_
                      refine lv_ineg hx hb dX10_hand_152 ?_
                      refine lv_topi (fun v_68 ev_68 => ?_)
                      have lo_v_68 := k_lo v_68
                      have hi_v_68 := k_hi v_68
                      refine kJv (wr := [(k, .inr (10, [.ref k0, .ref k1, .ref k2, .ref k3, .ref k4, .ref k5, .ref k6, .ref k7, .ref k8, .ref k9, .ref ka, .ref kb, .int cc])), (k0, .inr (9, [.ref k00, .ref k01, .ref k02, .ref k03, .ref k04, .ref k05, .int c06, .int c07, .int c08])), (kb, .inl (cI, 6, .inl cb))]) (va_runV (As := [.int a0, .int 2, .int v_68]) (rest := []) ⟨hx, hb, hml, hown, hT⟩ (c_X3_moreG l D cI aK aV k05 k050 H.size c051 c050 a0 2 v_68) (cwV 3 hT (gV_in mw_751 mw_748 mw_749 mw_750 mw_4) rfl rfl rfl (by decide +kernel) ⟨Nat.le_of_ble_eq_true rfl, Nat.le_of_ble_eq_true rfl⟩) (kRecvX (q0 := 3) (ci := 3) hK hP hD hN hXS hS hA rfl rfl [3, 4] rfl (by decide)) rfl rfl hl.1 rfl (lv_room (Nat.le_of_ble_eq_true rfl)) dX10_hand_153 ⟨Nat.le_of_ble_eq_true rfl, Nat.le_of_ble_eq_true rfl⟩) hP hD hS hA [3, 4] [0, 1, 2] rfl rfl (by decide) (by decide) ?_
                      clear hP hD hS
                      intro sc0_71 H locs w_70 hP hD hS
                      replace hP : va_P D vwCl [(k, .inr (10, [.ref k0, .ref k1, .ref k2, .ref k3, .ref k4, .ref k5, .ref k6, .ref k7, .ref k8, .ref k9, .ref ka, .ref kb, .int cc])), (k0, .inr (9, [.ref k00, .ref k01, .ref k02, .ref k03, .ref k04, .ref k05, .int c06, .int c07, .int c08])), (kb, .inl (cI, 6, .inl cb)), (k05, .inr (3, [.ref k050, .int c051])), (k050, .inl (cI, 36, .inl sc0_71))] H := hP
                      replace hD : va_D A [(k, .inr (10, [.ref k0, .ref k1, .ref k2, .ref k3, .ref k4, .ref k5, .ref k6, .ref k7, .ref k8, .ref k9, .ref ka, .ref kb, .int cc])), (k0, .inr (9, [.ref k00, .ref k01, .ref k02, .ref k03, .ref k04, .ref k05, .int c06, .int c07, .int c08])), (kb, .inl (cI, 6, .inl cb)), (k05, .inr (3, [.ref k050, .int c051])), (k050, .inl (cI, 36, .inl sc0_71))] := hD
                      refine lv_aload hx hb dX10_hand_156 (lv_at hl 2 rfl) ?_
                      refine lv_iload_n hx hb dX10_hand_158 rfl (lv_at hl 5 rfl) ?_
                      refine lv_iconst (v := 2) hx hb dX10_hand_159 (by decide) ?_
                      refine lv_iload_n hx hb dX10_hand_160 rfl (lv_at hl 6 rfl) ?_
                      refine kJv (wr := [(k, .inr (10, [.ref k0, .ref k1, .ref k2, .ref k3, .ref k4, .ref k5, .ref k6, .ref k7, .ref k8, .ref k9, .ref ka, .ref kb, .int cc])), (k0, .inr (9, [.ref k00, .ref k01, .ref k02, .ref k03, .ref k04, .ref k05, .int c06, .int c07, .int c08])), (kb, .inl (cI, 6, .inl cb))]) (va_runV (As := [.int a1, .int 2, .int a2]) (rest := []) ⟨hx, hb, hml, hown, hT⟩ (c_X3_moreG l D cI aK aV k05 k050 H.size c051 sc0_71 a1 2 a2) (cwV 3 hT (gV_in mw_751 mw_748 mw_749 mw_750 mw_4) rfl rfl rfl (by decide +kernel) ⟨Nat.le_of_ble_eq_true rfl, Nat.le_of_ble_eq_true rfl⟩) (kRecvX (q0 := 3) (ci := 3) hK hP hD hN hXS hS hA rfl rfl [3, 4] rfl (by decide)) rfl rfl hl.1 rfl (lv_room (Nat.le_of_ble_eq_true rfl)) dX10_hand_161 ⟨Nat.le_of_ble_eq_true rfl, Nat.le_of_ble_eq_true rfl⟩) hP hD hS hA [3, 4] [0, 1, 2] rfl rfl (by decide) (by decide) ?_
                      clear hP hD hS
                      intro sc0_74 H locs w_73 hP hD hS
                      replace hP : va_P D vwCl [(k, .inr (10, [.ref k0, .ref k1, .ref k2, .ref k3, .ref k4, .ref k5, .ref k6, .ref k7, .ref k8, .ref k9, .ref ka, .ref kb, .int cc])), (k0, .inr (9, [.ref k00, .ref k01, .ref k02, .ref k03, .ref k04, .ref k05, .int c06, .int c07, .int c08])), (kb, .inl (cI, 6, .inl cb)), (k05, .inr (3, [.ref k050, .int c051])), (k050, .inl (cI, 36, .inl sc0_74))] H := hP
                      replace hD : va_D A [(k, .inr (10, [.ref k0, .ref k1, .ref k2, .ref k3, .ref k4, .ref k5, .ref k6, .ref k7, .ref k8, .ref k9, .ref ka, .ref kb, .int cc])), (k0, .inr (9, [.ref k00, .ref k01, .ref k02, .ref k03, .ref k04, .ref k05, .int c06, .int c07, .int c08])), (kb, .inl (cI, 6, .inl cb)), (k05, .inr (3, [.ref k050, .int c051])), (k050, .inl (cI, 36, .inl sc0_74))] := hD
                      refine lv_aload hx hb dX10_hand_164 (lv_at hl 2 rfl) ?_
                      refine lv_iload_n hx hb dX10_hand_166 rfl (lv_at hl 5 rfl) ?_
                      refine lv_iconst (v := 2) hx hb dX10_hand_167 (by decide) ?_
                      refine kJi (wr := [(k, .inr (10, [.ref k0, .ref k1, .ref k2, .ref k3, .ref k4, .ref k5, .ref k6, .ref k7, .ref k8, .ref k9, .ref ka, .ref kb, .int cc])), (k0, .inr (9, [.ref k00, .ref k01, .ref k02, .ref k03, .ref k04, .ref k05, .int c06, .int c07, .int c08])), (kb, .inl (cI, 6, .inl cb))]) (va_runV (As := [.int a1, .int 2]) (rest := []) ⟨hx, hb, hml, hown, hT⟩ (c_X3_getG l D cI aK aV k05 k050 H.size c051 sc0_74 a1 2) (cwV 2 hT (gV_in mw_726 mw_723 mw_724 mw_725 mw_4) rfl rfl rfl (by decide +kernel) ⟨Nat.le_of_ble_eq_true rfl, Nat.le_of_ble_eq_true rfl⟩) (kRecvX (q0 := 3) (ci := 3) hK hP hD hN hXS hS hA rfl rfl [3, 4] rfl (by decide)) rfl rfl hl.1 rfl (lv_room (Nat.le_of_ble_eq_true rfl)) dX10_hand_168 ⟨Nat.le_of_ble_eq_true rfl, Nat.le_of_ble_eq_true rfl⟩) hP hD hS hA [3, 4] [0, 1, 2] rfl rfl (by decide) (by decide) ?_
                      clear hP hD hS
                      intro r_75 u_77 H locs w_76 hP hD hS
                      replace hP : va_P D vwCl [(k, .inr (10, [.ref k0, .ref k1, .ref k2, .ref k3, .ref k4, .ref k5, .ref k6, .ref k7, .ref k8, .ref k9, .ref ka, .ref kb, .int cc])), (k0, .inr (9, [.ref k00, .ref k01, .ref k02, .ref k03, .ref k04, .ref k05, .int c06, .int c07, .int c08])), (kb, .inl (cI, 6, .inl cb)), (k05, .inr (3, [.ref k050, .int c051])), (k050, .inl (cI, 36, .inl sc0_74))] H := hP
                      replace hD : va_D A [(k, .inr (10, [.ref k0, .ref k1, .ref k2, .ref k3, .ref k4, .ref k5, .ref k6, .ref k7, .ref k8, .ref k9, .ref ka, .ref kb, .int cc])), (k0, .inr (9, [.ref k00, .ref k01, .ref k02, .ref k03, .ref k04, .ref k05, .int c06, .int c07, .int c08])), (kb, .inl (cI, 6, .inl cb)), (k05, .inr (3, [.ref k050, .int c051])), (k050, .inl (cI, 36, .inl sc0_74))] := hD
                      have lo_r_75 := k_lo r_75
                      have hi_r_75 := k_hi r_75
                      exact hRet (cb, sc0_74) [0, 1, 2, 3, 4] trivial hP hD (by decide) rfl hS rfl dX10_hand_171
                    · refine lv_aload_n hx hb dX10_hand_141 rfl (lv_at hl 3 rfl) ?_
                      refine lv_iconst (v := 4) hx hb dX10_hand_142 (by decide) ?_
                      refine kJi (wr := [(k0, .inr (9, [.ref k00, .ref k01, .ref k02, .ref k03, .ref k04, .ref k05, .int c06, .int c07, .int c08])), (k05, .inr (3, [.ref k050, .int c051])), (k050, .inl (cI, 36, .inl c050))]) (va_runV (As := [.int 4]) (rest := []) ⟨hx, hb, hml, hown, hT⟩ (c_X10_findingG l D cI aK aV k k0 k1 k2 k3 k4 k5 k6 k7 k8 k9 ka kb H.size cc cb 4) (cwV 1 hT (gV_in mw_338 mw_335 mw_337 mw_p1_0 mw_1) rfl rfl rfl (by decide +kernel) ⟨Nat.le_of_ble_eq_true rfl, Nat.le_of_ble_eq_true rfl⟩) (kRecvX (q0 := 0) (ci := 10) hK hP hD hN hXS hS hA rfl rfl [0, 2] rfl (by decide)) rfl rfl hl.1 rfl (lv_room (Nat.le_of_ble_eq_true rfl)) dX10_hand_143 ⟨Nat.le_of_ble_eq_true rfl, Nat.le_of_ble_eq_true rfl⟩) hP hD hS hA [0, 2] [1, 3, 4] rfl rfl (by decide) (by decide) ?_
                      clear hP hD hS
                      intro r_78 scb_80 H locs w_79 hP hD hS
                      replace hP : va_P D vwCl [(k0, .inr (9, [.ref k00, .ref k01, .ref k02, .ref k03, .ref k04, .ref k05, .int c06, .int c07, .int c08])), (k05, .inr (3, [.ref k050, .int c051])), (k050, .inl (cI, 36, .inl c050)), (k, .inr (10, [.ref k0, .ref k1, .ref k2, .ref k3, .ref k4, .ref k5, .ref k6, .ref k7, .ref k8, .ref k9, .ref ka, .ref kb, .int cc])), (kb, .inl (cI, 6, .inl scb_80))] H := hP
                      replace hD : va_D A [(k0, .inr (9, [.ref k00, .ref k01, .ref k02, .ref k03, .ref k04, .ref k05, .int c06, .int c07, .int c08])), (k05, .inr (3, [.ref k050, .int c051])), (k050, .inl (cI, 36, .inl c050)), (k, .inr (10, [.ref k0, .ref k1, .ref k2, .ref k3, .ref k4, .ref k5, .ref k6, .ref k7, .ref k8, .ref k9, .ref ka, .ref kb, .int cc])), (kb, .inl (cI, 6, .inl scb_80))] := hD
                      have hr_78 := w_79
                      obtain rfl : r_78 = (-1000004) := hr_78.trans (by decide)
                      exact hRet (scb_80, c050) [3, 0, 4, 1, 2] trivial hP hD (by decide) rfl hS rfl dX10_hand_146
                  · refine lv_aload_n hx hb dX10_hand_121 rfl (lv_at hl 3 rfl) ?_
                    refine lv_iconst (v := 3) hx hb dX10_hand_122 (by decide) ?_
                    refine kJi (wr := [(k0, .inr (9, [.ref k00, .ref k01, .ref k02, .ref k03, .ref k04, .ref k05, .int c06, .int c07, .int c08])), (k05, .inr (3, [.ref k050, .int c051])), (k050, .inl (cI, 36, .inl c050))]) (va_runV (As := [.int 3]) (rest := []) ⟨hx, hb, hml, hown, hT⟩ (c_X10_findingG l D cI aK aV k k0 k1 k2 k3 k4 k5 k6 k7 k8 k9 ka kb H.size cc cb 3) (cwV 1 hT (gV_in mw_338 mw_335 mw_337 mw_p1_0 mw_1) rfl rfl rfl (by decide +kernel) ⟨Nat.le_of_ble_eq_true rfl, Nat.le_of_ble_eq_true rfl⟩) (kRecvX (q0 := 0) (ci := 10) hK hP hD hN hXS hS hA rfl rfl [0, 2] rfl (by decide)) rfl rfl hl.1 rfl (lv_room (Nat.le_of_ble_eq_true rfl)) dX10_hand_123 ⟨Nat.le_of_ble_eq_true rfl, Nat.le_of_ble_eq_true rfl⟩) hP hD hS hA [0, 2] [1, 3, 4] rfl rfl (by decide) (by decide) ?_
                    clear hP hD hS
                    intro r_81 scb_83 H locs w_82 hP hD hS
                    replace hP : va_P D vwCl [(k0, .inr (9, [.ref k00, .ref k01, .ref k02, .ref k03, .ref k04, .ref k05, .int c06, .int c07, .int c08])), (k05, .inr (3, [.ref k050, .int c051])), (k050, .inl (cI, 36, .inl c050)), (k, .inr (10, [.ref k0, .ref k1, .ref k2, .ref k3, .ref k4, .ref k5, .ref k6, .ref k7, .ref k8, .ref k9, .ref ka, .ref kb, .int cc])), (kb, .inl (cI, 6, .inl scb_83))] H := hP
                    replace hD : va_D A [(k0, .inr (9, [.ref k00, .ref k01, .ref k02, .ref k03, .ref k04, .ref k05, .int c06, .int c07, .int c08])), (k05, .inr (3, [.ref k050, .int c051])), (k050, .inl (cI, 36, .inl c050)), (k, .inr (10, [.ref k0, .ref k1, .ref k2, .ref k3, .ref k4, .ref k5, .ref k6, .ref k7, .ref k8, .ref k9, .ref ka, .ref kb, .int cc])), (kb, .inl (cI, 6, .inl scb_83))] := hD
                    have hr_81 := w_82
                    obtain rfl : r_81 = (-1000003) := hr_81.trans (by decide)
                    exact hRet (scb_83, c050) [3, 0, 4, 1, 2] trivial hP hD (by decide) rfl hS rfl dX10_hand_126
                · refine lv_iconst (v := 1) hx hb dX10_hand_91 (by decide) ?_
                  refine lv_goto (tgt := 96) hx hb dX10_hand_92 (by decide) ?_
                  refine lv_istore (lv' := [(6, .int 1), (5, .int 0), (4, .ref k05), (0, .ref k), (1, .int a0), (2, .int a1), (3, .int a2)]) hx hb dX10_hand_96 hl (by decide) rfl ?_
                  clear hl
                  intro ls hl
                  refine lv_iload hx hb dX10_hand_98 (lv_at hl 1 rfl) ?_
                  refine b_if_ne hx hb zl_0 (tgt := 121) dX10_hand_100 (by decide) (fun c_84 => by exfalso; omega) (fun c_84 => ?_)
                  refine lv_iload hx hb dX10_hand_103 (lv_at hl 0 rfl) ?_
                  refine b_if_ne hx hb zl_1 (tgt := 121) dX10_hand_105 (by decide) (fun c_85 => ?_) (fun c_85 => by exfalso; omega)
                  refine lv_aload_n hx hb dX10_hand_121 rfl (lv_at hl 3 rfl) ?_
                  refine lv_iconst (v := 3) hx hb dX10_hand_122 (by decide) ?_
                  refine kJi (wr := [(k0, .inr (9, [.ref k00, .ref k01, .ref k02, .ref k03, .ref k04, .ref k05, .int c06, .int c07, .int c08])), (k05, .inr (3, [.ref k050, .int c051])), (k050, .inl (cI, 36, .inl c050))]) (va_runV (As := [.int 3]) (rest := []) ⟨hx, hb, hml, hown, hT⟩ (c_X10_findingG l D cI aK aV k k0 k1 k2 k3 k4 k5 k6 k7 k8 k9 ka kb H.size cc cb 3) (cwV 1 hT (gV_in mw_338 mw_335 mw_337 mw_p1_0 mw_1) rfl rfl rfl (by decide +kernel) ⟨Nat.le_of_ble_eq_true rfl, Nat.le_of_ble_eq_true rfl⟩) (kRecvX (q0 := 0) (ci := 10) hK hP hD hN hXS hS hA rfl rfl [0, 2] rfl (by decide)) rfl rfl hl.1 rfl (lv_room (Nat.le_of_ble_eq_true rfl)) dX10_hand_123 ⟨Nat.le_of_ble_eq_true rfl, Nat.le_of_ble_eq_true rfl⟩) hP hD hS hA [0, 2] [1, 3, 4] rfl rfl (by decide) (by decide) ?_
                  clear hP hD hS
                  intro r_86 scb_88 H locs w_87 hP hD hS
                  replace hP : va_P D vwCl [(k0, .inr (9, [.ref k00, .ref k01, .ref k02, .ref k03, .ref k04, .ref k05, .int c06, .int c07, .int c08])), (k05, .inr (3, [.ref k050, .int c051])), (k050, .inl (cI, 36, .inl c050)), (k, .inr (10, [.ref k0, .ref k1, .ref k2, .ref k3, .ref k4, .ref k5, .ref k6, .ref k7, .ref k8, .ref k9, .ref ka, .ref kb, .int cc])), (kb, .inl (cI, 6, .inl scb_88))] H := hP
                  replace hD : va_D A [(k0, .inr (9, [.ref k00, .ref k01, .ref k02, .ref k03, .ref k04, .ref k05, .int c06, .int c07, .int c08])), (k05, .inr (3, [.ref k050, .int c051])), (k050, .inl (cI, 36, .inl c050)), (k, .inr (10, [.ref k0, .ref k1, .ref k2, .ref k3, .ref k4, .ref k5, .ref k6, .ref k7, .ref k8, .ref k9, .ref ka, .ref kb, .int cc])), (kb, .inl (cI, 6, .inl scb_88))] := hD
                  have hr_86 := w_87
                  obtain rfl : r_86 = (-1000003) := hr_86.trans (by decide)
                  exact hRet (scb_88, c050) [3, 0, 4, 1, 2] trivial hP hD (by decide) rfl hS rfl dX10_hand_126
              · refine lv_iconst (v := 1) hx hb dX10_hand_67 (by decide) ?_
                refine lv_goto (tgt := 72) hx hb dX10_hand_68 (by decide) ?_
                refine lv_istore (lv' := [(5, .int 1), (4, .ref k05), (0, .ref k), (1, .int a0), (2, .int a1), (3, .int a2)]) hx hb dX10_hand_72 hl (by decide) rfl ?_
                clear hl
                intro ls hl
                refine lv_aload hx hb dX10_hand_74 (lv_at hl 1 rfl) ?_
                refine lv_iload_n hx hb dX10_hand_76 rfl (lv_at hl 3 rfl) ?_
                refine lv_iconst (v := 0) hx hb dX10_hand_77 (by decide) ?_
                refine kJi (wr := [(k, .inr (10, [.ref k0, .ref k1, .ref k2, .ref k3, .ref k4, .ref k5, .ref k6, .ref k7, .ref k8, .ref k9, .ref ka, .ref kb, .int cc])), (k0, .inr (9, [.ref k00, .ref k01, .ref k02, .ref k03, .ref k04, .ref k05, .int c06, .int c07, .int c08])), (kb, .inl (cI, 6, .inl cb))]) (va_runV (As := [.int a0, .int 0]) (rest := []) ⟨hx, hb, hml, hown, hT⟩ (c_X3_getG l D cI aK aV k05 k050 H.size c051 c050 a0 0) (cwV 2 hT (gV_in mw_726 mw_723 mw_724 mw_725 mw_4) rfl rfl rfl (by decide +kernel) ⟨Nat.le_of_ble_eq_true rfl, Nat.le_of_ble_eq_true rfl⟩) (kRecvX (q0 := 3) (ci := 3) hK hP hD hN hXS hS hA rfl rfl [3, 4] rfl (by decide)) rfl rfl hl.1 rfl (lv_room (Nat.le_of_ble_eq_true rfl)) dX10_hand_78 ⟨Nat.le_of_ble_eq_true rfl, Nat.le_of_ble_eq_true rfl⟩) hP hD hS hA [3, 4] [0, 1, 2] rfl rfl (by decide) (by decide) ?_
                clear hP hD hS
                intro r_89 u_91 H locs w_90 hP hD hS
                replace hP : va_P D vwCl [(k, .inr (10, [.ref k0, .ref k1, .ref k2, .ref k3, .ref k4, .ref k5, .ref k6, .ref k7, .ref k8, .ref k9, .ref ka, .ref kb, .int cc])), (k0, .inr (9, [.ref k00, .ref k01, .ref k02, .ref k03, .ref k04, .ref k05, .int c06, .int c07, .int c08])), (kb, .inl (cI, 6, .inl cb)), (k05, .inr (3, [.ref k050, .int c051])), (k050, .inl (cI, 36, .inl c050))] H := hP
                replace hD : va_D A [(k, .inr (10, [.ref k0, .ref k1, .ref k2, .ref k3, .ref k4, .ref k5, .ref k6, .ref k7, .ref k8, .ref k9, .ref ka, .ref kb, .int cc])), (k0, .inr (9, [.ref k00, .ref k01, .ref k02, .ref k03, .ref k04, .ref k05, .int c06, .int c07, .int c08])), (kb, .inl (cI, 6, .inl cb)), (k05, .inr (3, [.ref k050, .int c051])), (k050, .inl (cI, 36, .inl c050))] := hD
                have lo_r_89 := k_lo r_89
                have hi_r_89 := k_hi r_89
                refine lv_aload hx hb dX10_hand_81 (lv_at hl 1 rfl) ?_
                refine lv_iload_n hx hb dX10_hand_83 rfl (lv_at hl 4 rfl) ?_
                refine lv_iconst (v := 0) hx hb dX10_hand_84 (by decide) ?_
                refine kJi (wr := [(k, .inr (10, [.ref k0, .ref k1, .ref k2, .ref k3, .ref k4, .ref k5, .ref k6, .ref k7, .ref k8, .ref k9, .ref ka, .ref kb, .int cc])), (k0, .inr (9, [.ref k00, .ref k01, .ref k02, .ref k03, .ref k04, .ref k05, .int c06, .int c07, .int c08])), (kb, .inl (cI, 6, .inl cb))]) (va_runV (As := [.int a1, .int 0]) (rest := [.int r_89]) ⟨hx, hb, hml, hown, hT⟩ (c_X3_getG l D cI aK aV k05 k050 H.size c051 c050 a1 0) (cwV 2 hT (gV_in mw_726 mw_723 mw_724 mw_725 mw_4) rfl rfl rfl (by decide +kernel) ⟨Nat.le_of_ble_eq_true rfl, Nat.le_of_ble_eq_true rfl⟩) (kRecvX (q0 := 3) (ci := 3) hK hP hD hN hXS hS hA rfl rfl [3, 4] rfl (by decide)) rfl rfl hl.1 rfl (lv_room (Nat.le_of_ble_eq_true rfl)) dX10_hand_85 ⟨Nat.le_of_ble_eq_true rfl, Nat.le_of_ble_eq_true rfl⟩) hP hD hS hA [3, 4] [0, 1, 2] rfl rfl (by decide) (by decide) ?_
                clear hP hD hS
                intro r_92 u_94 H locs w_93 hP hD hS
                replace hP : va_P D vwCl [(k, .inr (10, [.ref k0, .ref k1, .ref k2, .ref k3, .ref k4, .ref k5, .ref k6, .ref k7, .ref k8, .ref k9, .ref ka, .ref kb, .int cc])), (k0, .inr (9, [.ref k00, .ref k01, .ref k02, .ref k03, .ref k04, .ref k05, .int c06, .int c07, .int c08])), (kb, .inl (cI, 6, .inl cb)), (k05, .inr (3, [.ref k050, .int c051])), (k050, .inl (cI, 36, .inl c050))] H := hP
                replace hD : va_D A [(k, .inr (10, [.ref k0, .ref k1, .ref k2, .ref k3, .ref k4, .ref k5, .ref k6, .ref k7, .ref k8, .ref k9, .ref ka, .ref kb, .int cc])), (k0, .inr (9, [.ref k00, .ref k01, .ref k02, .ref k03, .ref k04, .ref k05, .int c06, .int c07, .int c08])), (kb, .inl (cI, 6, .inl cb)), (k05, .inr (3, [.ref k050, .int c051])), (k050, .inl (cI, 36, .inl c050))] := hD
                have lo_r_92 := k_lo r_92
                have hi_r_92 := k_hi r_92
                refine b_icmp_eq hx hb rfl rfl (tgt := 95) dX10_hand_88 (by decide) (fun c_95 => ?_) (fun c_95 => ?_)
                · refine lv_iconst (v := 0) hx hb dX10_hand_95 (by decide) ?_
                  refine lv_istore (lv' := [(6, .int 0), (5, .int 1), (4, .ref k05), (0, .ref k), (1, .int a0), (2, .int a1), (3, .int a2)]) hx hb dX10_hand_96 hl (by decide) rfl ?_
                  clear hl
                  intro ls hl
                  refine lv_iload hx hb dX10_hand_98 (lv_at hl 1 rfl) ?_
                  refine b_if_ne hx hb zl_1 (tgt := 121) dX10_hand_100 (by decide) (fun c_96 => ?_) (fun c_96 => by exfalso; omega)
                  refine lv_aload_n hx hb dX10_hand_121 rfl (lv_at hl 3 rfl) ?_
                  refine lv_iconst (v := 3) hx hb dX10_hand_122 (by decide) ?_
                  refine kJi (wr := [(k0, .inr (9, [.ref k00, .ref k01, .ref k02, .ref k03, .ref k04, .ref k05, .int c06, .int c07, .int c08])), (k05, .inr (3, [.ref k050, .int c051])), (k050, .inl (cI, 36, .inl c050))]) (va_runV (As := [.int 3]) (rest := []) ⟨hx, hb, hml, hown, hT⟩ (c_X10_findingG l D cI aK aV k k0 k1 k2 k3 k4 k5 k6 k7 k8 k9 ka kb H.size cc cb 3) (cwV 1 hT (gV_in mw_338 mw_335 mw_337 mw_p1_0 mw_1) rfl rfl rfl (by decide +kernel) ⟨Nat.le_of_ble_eq_true rfl, Nat.le_of_ble_eq_true rfl⟩) (kRecvX (q0 := 0) (ci := 10) hK hP hD hN hXS hS hA rfl rfl [0, 2] rfl (by decide)) rfl rfl hl.1 rfl (lv_room (Nat.le_of_ble_eq_true rfl)) dX10_hand_123 ⟨Nat.le_of_ble_eq_true rfl, Nat.le_of_ble_eq_true rfl⟩) hP hD hS hA [0, 2] [1, 3, 4] rfl rfl (by decide) (by decide) ?_
                  clear hP hD hS
                  intro r_97 scb_99 H locs w_98 hP hD hS
                  replace hP : va_P D vwCl [(k0, .inr (9, [.ref k00, .ref k01, .ref k02, .ref k03, .ref k04, .ref k05, .int c06, .int c07, .int c08])), (k05, .inr (3, [.ref k050, .int c051])), (k050, .inl (cI, 36, .inl c050)), (k, .inr (10, [.ref k0, .ref k1, .ref k2, .ref k3, .ref k4, .ref k5, .ref k6, .ref k7, .ref k8, .ref k9, .ref ka, .ref kb, .int cc])), (kb, .inl (cI, 6, .inl scb_99))] H := hP
                  replace hD : va_D A [(k0, .inr (9, [.ref k00, .ref k01, .ref k02, .ref k03, .ref k04, .ref k05, .int c06, .int c07, .int c08])), (k05, .inr (3, [.ref k050, .int c051])), (k050, .inl (cI, 36, .inl c050)), (k, .inr (10, [.ref k0, .ref k1, .ref k2, .ref k3, .ref k4, .ref k5, .ref k6, .ref k7, .ref k8, .ref k9, .ref ka, .ref kb, .int cc])), (kb, .inl (cI, 6, .inl scb_99))] := hD
                  have hr_97 := w_98
                  obtain rfl : r_97 = (-1000003) := hr_97.trans (by decide)
                  exact hRet (scb_99, c050) [3, 0, 4, 1, 2] trivial hP hD (by decide) rfl hS rfl dX10_hand_126
                · refine lv_iconst (v := 1) hx hb dX10_hand_91 (by decide) ?_
                  refine lv_goto (tgt := 96) hx hb dX10_hand_92 (by decide) ?_
                  refine lv_istore (lv' := [(6, .int 1), (5, .int 1), (4, .ref k05), (0, .ref k), (1, .int a0), (2, .int a1), (3, .int a2)]) hx hb dX10_hand_96 hl (by decide) rfl ?_
                  clear hl
                  intro ls hl
                  refine lv_iload hx hb dX10_hand_98 (lv_at hl 1 rfl) ?_
                  refine b_if_ne hx hb zl_1 (tgt := 121) dX10_hand_100 (by decide) (fun c_100 => ?_) (fun c_100 => by exfalso; omega)
                  refine lv_aload_n hx hb dX10_hand_121 rfl (lv_at hl 3 rfl) ?_
                  refine lv_iconst (v := 3) hx hb dX10_hand_122 (by decide) ?_
                  refine kJi (wr := [(k0, .inr (9, [.ref k00, .ref k01, .ref k02, .ref k03, .ref k04, .ref k05, .int c06, .int c07, .int c08])), (k05, .inr (3, [.ref k050, .int c051])), (k050, .inl (cI, 36, .inl c050))]) (va_runV (As := [.int 3]) (rest := []) ⟨hx, hb, hml, hown, hT⟩ (c_X10_findingG l D cI aK aV k k0 k1 k2 k3 k4 k5 k6 k7 k8 k9 ka kb H.size cc cb 3) (cwV 1 hT (gV_in mw_338 mw_335 mw_337 mw_p1_0 mw_1) rfl rfl rfl (by decide +kernel) ⟨Nat.le_of_ble_eq_true rfl, Nat.le_of_ble_eq_true rfl⟩) (kRecvX (q0 := 0) (ci := 10) hK hP hD hN hXS hS hA rfl rfl [0, 2] rfl (by decide)) rfl rfl hl.1 rfl (lv_room (Nat.le_of_ble_eq_true rfl)) dX10_hand_123 ⟨Nat.le_of_ble_eq_true rfl, Nat.le_of_ble_eq_true rfl⟩) hP hD hS hA [0, 2] [1, 3, 4] rfl rfl (by decide) (by decide) ?_
                  clear hP hD hS
                  intro r_101 scb_103 H locs w_102 hP hD hS
                  replace hP : va_P D vwCl [(k0, .inr (9, [.ref k00, .ref k01, .ref k02, .ref k03, .ref k04, .ref k05, .int c06, .int c07, .int c08])), (k05, .inr (3, [.ref k050, .int c051])), (k050, .inl (cI, 36, .inl c050)), (k, .inr (10, [.ref k0, .ref k1, .ref k2, .ref k3, .ref k4, .ref k5, .ref k6, .ref k7, .ref k8, .ref k9, .ref ka, .ref kb, .int cc])), (kb, .inl (cI, 6, .inl scb_103))] H := hP
                  replace hD : va_D A [(k0, .inr (9, [.ref k00, .ref k01, .ref k02, .ref k03, .ref k04, .ref k05, .int c06, .int c07, .int c08])), (k05, .inr (3, [.ref k050, .int c051])), (k050, .inl (cI, 36, .inl c050)), (k, .inr (10, [.ref k0, .ref k1, .ref k2, .ref k3, .ref k4, .ref k5, .ref k6, .ref k7, .ref k8, .ref k9, .ref ka, .ref kb, .int cc])), (kb, .inl (cI, 6, .inl scb_103))] := hD
                  have hr_101 := w_102
                  obtain rfl : r_101 = (-1000003) := hr_101.trans (by decide)
                  exact hRet (scb_103, c050) [3, 0, 4, 1, 2] trivial hP hD (by decide) rfl hS rfl dX10_hand_126
          · refine lv_aload_n hx hb dX10_hand_43 rfl (lv_at hl 1 rfl) ?_
            refine lv_iconst (v := 1) hx hb dX10_hand_44 (by decide) ?_
            refine kJi (wr := [(k0, .inr (9, [.ref k00, .ref k01, .ref k02, .ref k03, .ref k04, .ref k05, .int c06, .int c07, .int c08])), (k050, .inl (cI, 36, .inl c050)), (k05, .inr (3, [.ref k050, .int c051]))]) (va_runV (As := [.int 1]) (rest := []) ⟨hx, hb, hml, hown, hT⟩ (c_X10_findingG l D cI aK aV k k0 k1 k2 k3 k4 k5 k6 k7 k8 k9 ka kb H.size cc cb 1) (cwV 1 hT (gV_in mw_338 mw_335 mw_337 mw_p1_0 mw_1) rfl rfl rfl (by decide +kernel) ⟨Nat.le_of_ble_eq_true rfl, Nat.le_of_ble_eq_true rfl⟩) (kRecvX (q0 := 0) (ci := 10) hK hP hD hN hXS hS hA rfl rfl [0, 2] rfl (by decide)) rfl rfl hl.1 rfl (lv_room (Nat.le_of_ble_eq_true rfl)) dX10_hand_45 ⟨Nat.le_of_ble_eq_true rfl, Nat.le_of_ble_eq_true rfl⟩) hP hD hS hA [0, 2] [1, 3, 4] rfl rfl (by decide) (by decide) ?_
            clear hP hD hS
            intro r_104 scb_106 H locs w_105 hP hD hS
            replace hP : va_P D vwCl [(k0, .inr (9, [.ref k00, .ref k01, .ref k02, .ref k03, .ref k04, .ref k05, .int c06, .int c07, .int c08])), (k050, .inl (cI, 36, .inl c050)), (k05, .inr (3, [.ref k050, .int c051])), (k, .inr (10, [.ref k0, .ref k1, .ref k2, .ref k3, .ref k4, .ref k5, .ref k6, .ref k7, .ref k8, .ref k9, .ref ka, .ref kb, .int cc])), (kb, .inl (cI, 6, .inl scb_106))] H := hP
            replace hD : va_D A [(k0, .inr (9, [.ref k00, .ref k01, .ref k02, .ref k03, .ref k04, .ref k05, .int c06, .int c07, .int c08])), (k050, .inl (cI, 36, .inl c050)), (k05, .inr (3, [.ref k050, .int c051])), (k, .inr (10, [.ref k0, .ref k1, .ref k2, .ref k3, .ref k4, .ref k5, .ref k6, .ref k7, .ref k8, .ref k9, .ref ka, .ref kb, .int cc])), (kb, .inl (cI, 6, .inl scb_106))] := hD
            have hr_104 := w_105
            obtain rfl : r_104 = (-1000001) := hr_104.trans (by decide)
            exact hRet (scb_106, c050) [3, 0, 4, 2, 1] trivial hP hD (by decide) rfl hS rfl dX10_hand_48
    · have h_15 : a1.toInt < 0 ∨ c051.toInt ≤ a1.toInt ∨ 4 ≤ a1.toInt := h_15
      obtain rfl : r_9 = 0 := hr_9.trans (by decide)
      refine b_if_eq hx hb zl_0 (tgt := 43) dX10_hand_24 (by decide) (fun c_107 => ?_) (fun c_107 => by exfalso; omega)
      refine lv_aload_n hx hb dX10_hand_43 rfl (lv_at hl 1 rfl) ?_
      refine lv_iconst (v := 1) hx hb dX10_hand_44 (by decide) ?_
      refine kJi (wr := [(k0, .inr (9, [.ref k00, .ref k01, .ref k02, .ref k03, .ref k04, .ref k05, .int c06, .int c07, .int c08])), (k050, .inl (cI, 36, .inl c050)), (k05, .inr (3, [.ref k050, .int c051]))]) (va_runV (As := [.int 1]) (rest := []) ⟨hx, hb, hml, hown, hT⟩ (c_X10_findingG l D cI aK aV k k0 k1 k2 k3 k4 k5 k6 k7 k8 k9 ka kb H.size cc cb 1) (cwV 1 hT (gV_in mw_338 mw_335 mw_337 mw_p1_0 mw_1) rfl rfl rfl (by decide +kernel) ⟨Nat.le_of_ble_eq_true rfl, Nat.le_of_ble_eq_true rfl⟩) (kRecvX (q0 := 0) (ci := 10) hK hP hD hN hXS hS hA rfl rfl [0, 2] rfl (by decide)) rfl rfl hl.1 rfl (lv_room (Nat.le_of_ble_eq_true rfl)) dX10_hand_45 ⟨Nat.le_of_ble_eq_true rfl, Nat.le_of_ble_eq_true rfl⟩) hP hD hS hA [0, 2] [1, 3, 4] rfl rfl (by decide) (by decide) ?_
      clear hP hD hS
      intro r_108 scb_110 H locs w_109 hP hD hS
      replace hP : va_P D vwCl [(k0, .inr (9, [.ref k00, .ref k01, .ref k02, .ref k03, .ref k04, .ref k05, .int c06, .int c07, .int c08])), (k050, .inl (cI, 36, .inl c050)), (k05, .inr (3, [.ref k050, .int c051])), (k, .inr (10, [.ref k0, .ref k1, .ref k2, .ref k3, .ref k4, .ref k5, .ref k6, .ref k7, .ref k8, .ref k9, .ref ka, .ref kb, .int cc])), (kb, .inl (cI, 6, .inl scb_110))] H := hP
      replace hD : va_D A [(k0, .inr (9, [.ref k00, .ref k01, .ref k02, .ref k03, .ref k04, .ref k05, .int c06, .int c07, .int c08])), (k050, .inl (cI, 36, .inl c050)), (k05, .inr (3, [.ref k050, .int c051])), (k, .inr (10, [.ref k0, .ref k1, .ref k2, .ref k3, .ref k4, .ref k5, .ref k6, .ref k7, .ref k8, .ref k9, .ref ka, .ref kb, .int cc])), (kb, .inl (cI, 6, .inl scb_110))] := hD
      have hr_108 := w_109
      obtain rfl : r_108 = (-1000001) := hr_108.trans (by decide)
      exact hRet (scb_110, c050) [3, 0, 4, 2, 1] trivial hP hD (by decide) rfl hS rfl dX10_hand_48
  · have h_7 : a0.toInt < 0 ∨ c051.toInt ≤ a0.toInt ∨ 4 ≤ a0.toInt := h_7
    obtain rfl : r_1 = 0 := hr_1.trans (by decide)
    refine b_if_eq hx hb zl_0 (tgt := 43) dX10_hand_15 (by decide) (fun c_111 => ?_) (fun c_111 => by exfalso; omega)
    refine lv_aload_n hx hb dX10_hand_43 rfl (lv_at hl 1 rfl) ?_
    refine lv_iconst (v := 1) hx hb dX10_hand_44 (by decide) ?_
    refine kJi (wr := [(k0, .inr (9, [.ref k00, .ref k01, .ref k02, .ref k03, .ref k04, .ref k05, .int c06, .int c07, .int c08])), (k050, .inl (cI, 36, .inl c050)), (k05, .inr (3, [.ref k050, .int c051]))]) (va_runV (As := [.int 1]) (rest := []) ⟨hx, hb, hml, hown, hT⟩ (c_X10_findingG l D cI aK aV k k0 k1 k2 k3 k4 k5 k6 k7 k8 k9 ka kb H.size cc cb 1) (cwV 1 hT (gV_in mw_338 mw_335 mw_337 mw_p1_0 mw_1) rfl rfl rfl (by decide +kernel) ⟨Nat.le_of_ble_eq_true rfl, Nat.le_of_ble_eq_true rfl⟩) (kRecvX (q0 := 0) (ci := 10) hK hP hD hN hXS hS hA rfl rfl [0, 2] rfl (by decide)) rfl rfl hl.1 rfl (lv_room (Nat.le_of_ble_eq_true rfl)) dX10_hand_45 ⟨Nat.le_of_ble_eq_true rfl, Nat.le_of_ble_eq_true rfl⟩) hP hD hS hA [0, 2] [1, 3, 4] rfl rfl (by decide) (by decide) ?_
    clear hP hD hS
    intro r_112 scb_114 H locs w_113 hP hD hS
    replace hP : va_P D vwCl [(k0, .inr (9, [.ref k00, .ref k01, .ref k02, .ref k03, .ref k04, .ref k05, .int c06, .int c07, .int c08])), (k050, .inl (cI, 36, .inl c050)), (k05, .inr (3, [.ref k050, .int c051])), (k, .inr (10, [.ref k0, .ref k1, .ref k2, .ref k3, .ref k4, .ref k5, .ref k6, .ref k7, .ref k8, .ref k9, .ref ka, .ref kb, .int cc])), (kb, .inl (cI, 6, .inl scb_114))] H := hP
    replace hD : va_D A [(k0, .inr (9, [.ref k00, .ref k01, .ref k02, .ref k03, .ref k04, .ref k05, .int c06, .int c07, .int c08])), (k050, .inl (cI, 36, .inl c050)), (k05, .inr (3, [.ref k050, .int c051])), (k, .inr (10, [.ref k0, .ref k1, .ref k2, .ref k3, .ref k4, .ref k5, .ref k6, .ref k7, .ref k8, .ref k9, .ref ka, .ref kb, .int cc])), (kb, .inl (cI, 6, .inl scb_114))] := hD
    have hr_112 := w_113
    obtain rfl : r_112 = (-1000001) := hr_112.trans (by decide)
    exact hRet (scb_114, c050) [3, 0, 4, 2, 1] trivial hP hD (by decide) rfl hS rfl dX10_hand_48
theorem dX10_reach_0 : decode cX10_reach 0 = .ok (.iload_n 1, 1) := by decide +kernel
theorem dX10_reach_1 : decode cX10_reach 1 = .ok (.iconst 1, 1) := by decide +kernel
theorem dX10_reach_2 : decode cX10_reach 2 = .ok (.if_icmp .lt 10, 3) := by decide +kernel
theorem dX10_reach_5 : decode cX10_reach 5 = .ok (.iload_n 1, 1) := by decide +kernel
theorem dX10_reach_6 : decode cX10_reach 6 = .ok (.sipush 200, 3) := by decide +kernel
theorem dX10_reach_9 : decode cX10_reach 9 = .ok (.if_icmp .le 9, 3) := by decide +kernel
theorem dX10_reach_12 : decode cX10_reach 12 = .ok (.aload_n 0, 1) := by decide +kernel
theorem dX10_reach_13 : decode cX10_reach 13 = .ok (.iconst 1, 1) := by decide +kernel
theorem dX10_reach_14 : decode cX10_reach 14 = .ok (.invokevirtual 82, 3) := by decide +kernel
theorem dX10_reach_17 : decode cX10_reach 17 = .ok (.ireturn, 1) := by decide +kernel
theorem dX10_reach_18 : decode cX10_reach 18 = .ok (.aload_n 0, 1) := by decide +kernel
theorem dX10_reach_19 : decode cX10_reach 19 = .ok (.getfield 12, 3) := by decide +kernel
theorem dX10_reach_22 : decode cX10_reach 22 = .ok (.getfield 217, 3) := by decide +kernel
theorem dX10_reach_25 : decode cX10_reach 25 = .ok (.istore_n 2, 1) := by decide +kernel
theorem dX10_reach_26 : decode cX10_reach 26 = .ok (.aload_n 0, 1) := by decide +kernel
theorem dX10_reach_27 : decode cX10_reach 27 = .ok (.getfield 12, 3) := by decide +kernel
theorem dX10_reach_30 : decode cX10_reach 30 = .ok (.iload_n 1, 1) := by decide +kernel
theorem dX10_reach_31 : decode cX10_reach 31 = .ok (.putfield 217, 3) := by decide +kernel
theorem dX10_reach_34 : decode cX10_reach 34 = .ok (.iload_n 2, 1) := by decide +kernel
theorem dX10_reach_35 : decode cX10_reach 35 = .ok (.ireturn, 1) := by decide +kernel
set_option maxHeartbeats 4000000 in
set_option maxRecDepth 100000 in
theorem c_X10_reachG (l : Launch) (D : va_G) (cI : ClassId) (aK aV : Nat → Nat) (k k0 k1 k2 k3 k4 k5 k6 k7 k8 k9 ka kb k00 k01 k02 k03 k04 k05 : Nat) (sz : Nat) (cc : Int32) (c06 : Int32) (c07 : Int32) (c08 : Int32) (cb : Nat → Int32) (a0 : Int32) : Met l yX10_reach (gW yX10_reach cX10_reach 3 (some .int)) ({ frames := 1, cells := 0, slots := 0, locals := 21 } : Room) (kPreX D cI aK aV [.ref k, .int a0] [(k, .inr (10, [.ref k0, .ref k1, .ref k2, .ref k3, .ref k4, .ref k5, .ref k6, .ref k7, .ref k8, .ref k9, .ref ka, .ref kb, .int cc])), (k0, .inr (9, [.ref k00, .ref k01, .ref k02, .ref k03, .ref k04, .ref k05, .int c06, .int c07, .int c08])), (kb, .inl (cI, 6, .inl cb))] sz) (va_Qi (fun (r : Int32) (u : Int32 × (Nat → Int32)) => r = reachR c07 a0 ∧ u.1 = reachN c07 a0) (fun u t => kWd D cI (va_A [(k, .inr (10, [.ref k0, .ref k1, .ref k2, .ref k3, .ref k4, .ref k5, .ref k6, .ref k7, .ref k8, .ref k9, .ref ka, .ref kb, .int cc])), (k0, .inr (9, [.ref k00, .ref k01, .ref k02, .ref k03, .ref k04, .ref k05, .int c06, .int c07, .int c08])), (kb, .inl (cI, 6, .inl cb))] sz) [(k, .inr (10, [.ref k0, .ref k1, .ref k2, .ref k3, .ref k4, .ref k5, .ref k6, .ref k7, .ref k8, .ref k9, .ref ka, .ref kb, .int cc])), (k0, .inr (9, [.ref k00, .ref k01, .ref k02, .ref k03, .ref k04, .ref k05, .int c06, .int u.1, .int c08])), (kb, .inl (cI, 6, .inl u.2))] t) (va_A [(k, .inr (10, [.ref k0, .ref k1, .ref k2, .ref k3, .ref k4, .ref k5, .ref k6, .ref k7, .ref k8, .ref k9, .ref ka, .ref kb, .int cc])), (k0, .inr (9, [.ref k00, .ref k01, .ref k02, .ref k03, .ref k04, .ref k05, .int c06, .int c07, .int c08])), (kb, .inl (cI, 6, .inl cb))] sz)) 0 0 (va_A [(k, .inr (10, [.ref k0, .ref k1, .ref k2, .ref k3, .ref k4, .ref k5, .ref k6, .ref k7, .ref k8, .ref k9, .ref ka, .ref kb, .int cc])), (k0, .inr (9, [.ref k00, .ref k01, .ref k02, .ref k03, .ref k04, .ref k05, .int c06, .int c07, .int c08])), (kb, .inl (cI, 6, .inl cb))] sz) := by
  refine kMetIX (own := RX10) (by decide) rfl (Nat.le_of_ble_eq_true rfl) ?_
  intro p e s m args below meth c hx hb hT hown hname hml A Q hK hP hD hS hA hN hXS hRet ls hl
  have hl : lv_has ls 3 [(0, .ref k), (1, .int a0)] := hl
  have lo_a0 := k_lo a0
  have hi_a0 := k_hi a0
  have lo_c07 := k_lo c07
  have hi_c07 := k_hi c07
  refine lv_iload_n hx hb dX10_reach_0 rfl (lv_at hl 1 rfl) ?_
  refine lv_iconst (v := 1) hx hb dX10_reach_1 (by decide) ?_
  refine b_icmp_lt hx hb rfl zl_1 (tgt := 12) dX10_reach_2 (by decide) (fun c_1 => ?_) (fun c_1 => ?_)
  · refine lv_aload_n hx hb dX10_reach_12 rfl (lv_at hl 0 rfl) ?_
    refine lv_iconst (v := 1) hx hb dX10_reach_13 (by decide) ?_
    refine kJi (wr := [(k0, .inr (9, [.ref k00, .ref k01, .ref k02, .ref k03, .ref k04, .ref k05, .int c06, .int c07, .int c08]))]) (va_runV (As := [.int 1]) (rest := []) ⟨hx, hb, hml, hown, hT⟩ (c_X10_findingG l D cI aK aV k k0 k1 k2 k3 k4 k5 k6 k7 k8 k9 ka kb s.heap.size cc cb 1) (cwV 1 hT (gV_in mw_338 mw_335 mw_337 mw_p1_0 mw_1) rfl rfl rfl (by decide +kernel) ⟨Nat.le_of_ble_eq_true rfl, Nat.le_of_ble_eq_true rfl⟩) (kRecvX (q0 := 0) (ci := 10) hK hP hD hN hXS hS hA rfl rfl [0, 2] rfl (by decide)) rfl rfl hl.1 rfl (lv_room (Nat.le_of_ble_eq_true rfl)) dX10_reach_14 ⟨Nat.le_of_ble_eq_true rfl, Nat.le_of_ble_eq_true rfl⟩) hP hD hS hA [0, 2] [1] rfl rfl (by decide) (by decide) ?_
    clear hP hD hS
    intro r_2 scb_4 H locs w_3 hP hD hS
    replace hP : va_P D vwCl [(k0, .inr (9, [.ref k00, .ref k01, .ref k02, .ref k03, .ref k04, .ref k05, .int c06, .int c07, .int c08])), (k, .inr (10, [.ref k0, .ref k1, .ref k2, .ref k3, .ref k4, .ref k5, .ref k6, .ref k7, .ref k8, .ref k9, .ref ka, .ref kb, .int cc])), (kb, .inl (cI, 6, .inl scb_4))] H := hP
    replace hD : va_D A [(k0, .inr (9, [.ref k00, .ref k01, .ref k02, .ref k03, .ref k04, .ref k05, .int c06, .int c07, .int c08])), (k, .inr (10, [.ref k0, .ref k1, .ref k2, .ref k3, .ref k4, .ref k5, .ref k6, .ref k7, .ref k8, .ref k9, .ref ka, .ref kb, .int cc])), (kb, .inl (cI, 6, .inl scb_4))] := hD
    have hr_2 := w_3
    obtain rfl : r_2 = (-1000001) := hr_2.trans (by decide)
    exact hRet (c07, scb_4) [1, 0, 2] ⟨(by (try dsimp only); unfold reachR; (repeat (first | rw [if_pos (by omega)] | rw [if_neg (by omega)]))), (by (try dsimp only); unfold reachN; (repeat (first | rw [if_pos (by omega)] | rw [if_neg (by omega)])))⟩ hP hD (by decide) rfl hS rfl dX10_reach_17
  · refine lv_iload_n hx hb dX10_reach_5 rfl (lv_at hl 1 rfl) ?_
    refine lv_sipush (v := 200) hx hb dX10_reach_6 (by decide) ?_
    refine b_icmp_le hx hb rfl zl_200 (tgt := 18) dX10_reach_9 (by decide) (fun c_5 => ?_) (fun c_5 => ?_)
    · refine lv_aload_n hx hb dX10_reach_18 rfl (lv_at hl 0 rfl) ?_
      refine va_get (D := D) (ci := 10) (v := .ref k0) (C := RX10) (T := TX10) (N := 13) hx hb hT giX10 hown hK hP 0 rfl rfl 0 (by decide) (hT (Cond.fieldLink RX10 12 "DesertWire" "now" "LDesertWire$World;") mw_291) (fun _ h9 => h9) rfl dX10_reach_19 ?_
      refine va_get (D := D) (ci := 9) (v := .int c07) (C := RX9) (T := TX9) (N := 9) hx hb hT giX9 hown hK hP 1 rfl rfl 7 (by decide) (hT (Cond.fieldLink RX10 217 "DesertWire$World" "reach" "I") mw_107) (fun _ h9 => h9) rfl dX10_reach_22 ?_
      refine lv_istore_n (lv' := [(2, .int c07), (0, .ref k), (1, .int a0)]) hx hb dX10_reach_25 rfl hl (by decide) rfl ?_
      clear hl
      intro ls hl
      refine lv_aload_n hx hb dX10_reach_26 rfl (lv_at hl 1 rfl) ?_
      refine va_get (D := D) (ci := 10) (v := .ref k0) (C := RX10) (T := TX10) (N := 13) hx hb hT giX10 hown hK hP 0 rfl rfl 0 (by decide) (hT (Cond.fieldLink RX10 12 "DesertWire" "now" "LDesertWire$World;") mw_291) (fun _ h9 => h9) rfl dX10_reach_27 ?_
      refine lv_iload_n hx hb dX10_reach_30 rfl (lv_at hl 2 rfl) ?_
      refine va_put (D := D) (ci := 9) (v := .int a0) (ty := .int) (C := RX9) (T := TX9) (N := 9) hx hb hT giX9 tyX9 tyX9_ok nmX9 hown hK hP hD hS 1 rfl rfl 7 (by decide) (hT (Cond.fieldLink RX10 217 "DesertWire$World" "reach" "I") mw_107) (fun _ h9 => h9) rfl (by decide +kernel) rfl rfl (Nat.le_of_ble_eq_true rfl) dX10_reach_31 ?_
      clear hP hD hS
      intro H locs hP hD hS
      replace hP : va_P D vwCl [(k, .inr (10, [.ref k0, .ref k1, .ref k2, .ref k3, .ref k4, .ref k5, .ref k6, .ref k7, .ref k8, .ref k9, .ref ka, .ref kb, .int cc])), (k0, .inr (9, [.ref k00, .ref k01, .ref k02, .ref k03, .ref k04, .ref k05, .int c06, .int a0, .int c08])), (kb, .inl (cI, 6, .inl cb))] H := hP
      replace hD : va_D A [(k, .inr (10, [.ref k0, .ref k1, .ref k2, .ref k3, .ref k4, .ref k5, .ref k6, .ref k7, .ref k8, .ref k9, .ref ka, .ref kb, .int cc])), (k0, .inr (9, [.ref k00, .ref k01, .ref k02, .ref k03, .ref k04, .ref k05, .int c06, .int a0, .int c08])), (kb, .inl (cI, 6, .inl cb))] := hD
      refine lv_iload_n hx hb dX10_reach_34 rfl (lv_at hl 0 rfl) ?_
      exact hRet (a0, cb) [0, 1, 2] ⟨(by (try dsimp only); unfold reachR; (repeat (first | rw [if_pos (by omega)] | rw [if_neg (by omega)]))), (by (try dsimp only); unfold reachN; (repeat (first | rw [if_pos (by omega)] | rw [if_neg (by omega)])))⟩ hP hD (by decide) rfl hS rfl dX10_reach_35
    · refine lv_aload_n hx hb dX10_reach_12 rfl (lv_at hl 0 rfl) ?_
      refine lv_iconst (v := 1) hx hb dX10_reach_13 (by decide) ?_
      refine kJi (wr := [(k0, .inr (9, [.ref k00, .ref k01, .ref k02, .ref k03, .ref k04, .ref k05, .int c06, .int c07, .int c08]))]) (va_runV (As := [.int 1]) (rest := []) ⟨hx, hb, hml, hown, hT⟩ (c_X10_findingG l D cI aK aV k k0 k1 k2 k3 k4 k5 k6 k7 k8 k9 ka kb s.heap.size cc cb 1) (cwV 1 hT (gV_in mw_338 mw_335 mw_337 mw_p1_0 mw_1) rfl rfl rfl (by decide +kernel) ⟨Nat.le_of_ble_eq_true rfl, Nat.le_of_ble_eq_true rfl⟩) (kRecvX (q0 := 0) (ci := 10) hK hP hD hN hXS hS hA rfl rfl [0, 2] rfl (by decide)) rfl rfl hl.1 rfl (lv_room (Nat.le_of_ble_eq_true rfl)) dX10_reach_14 ⟨Nat.le_of_ble_eq_true rfl, Nat.le_of_ble_eq_true rfl⟩) hP hD hS hA [0, 2] [1] rfl rfl (by decide) (by decide) ?_
      clear hP hD hS
      intro r_6 scb_8 H locs w_7 hP hD hS
      replace hP : va_P D vwCl [(k0, .inr (9, [.ref k00, .ref k01, .ref k02, .ref k03, .ref k04, .ref k05, .int c06, .int c07, .int c08])), (k, .inr (10, [.ref k0, .ref k1, .ref k2, .ref k3, .ref k4, .ref k5, .ref k6, .ref k7, .ref k8, .ref k9, .ref ka, .ref kb, .int cc])), (kb, .inl (cI, 6, .inl scb_8))] H := hP
      replace hD : va_D A [(k0, .inr (9, [.ref k00, .ref k01, .ref k02, .ref k03, .ref k04, .ref k05, .int c06, .int c07, .int c08])), (k, .inr (10, [.ref k0, .ref k1, .ref k2, .ref k3, .ref k4, .ref k5, .ref k6, .ref k7, .ref k8, .ref k9, .ref ka, .ref kb, .int cc])), (kb, .inl (cI, 6, .inl scb_8))] := hD
      have hr_6 := w_7
      obtain rfl : r_6 = (-1000001) := hr_6.trans (by decide)
      exact hRet (c07, scb_8) [1, 0, 2] ⟨(by (try dsimp only); unfold reachR; (repeat (first | rw [if_pos (by omega)] | rw [if_neg (by omega)]))), (by (try dsimp only); unfold reachN; (repeat (first | rw [if_pos (by omega)] | rw [if_neg (by omega)])))⟩ hP hD (by decide) rfl hS rfl dX10_reach_17
