
set_option maxHeartbeats 4000000 in
set_option maxRecDepth 100000 in
theorem c_X10_judgeD (l : Launch) (D : va_G) (cI : ClassId) (aK aV : Nat → Nat) (k k0 k1 k2 k3 k4 k5 k6 k7 k8 k9 ka kb k00 k01 k02 k03 k04 k05 k80 k81 ka0 ka1 ka2 k050 : Nat) (sz : Nat) (cc : Int32) (c06 : Int32) (c07 : Int32) (c08 : Int32) (cb : Nat → Int32) (c01 : Nat → Int32) (c051 : Int32) (c80 : Nat → Int32) (c81 : Nat → Int32) (ca0 : Nat → Int32) (ca1 : Nat → Int32) (ca2 : Nat → Int32) (c050 : Nat → Int32) (c00 : Nat → Int32) (c02 : Nat → Int32) (c03 : Nat → Int32) (c040 : Nat → Int32) (c041 : Nat → Int32) (c042 : Nat → Int32) (c043 : Nat → Int32) (c044 : Nat → Int32) (c045 : Nat → Int32) (c046 : Nat → Int32) (c047 : Nat → Int32) (c048 : Nat → Int32) (c049 : Int32) (gx : Nat → Int32) (a0 : Int32) (a1 : Int32) (a2 : Int32) (a3 : Int32) (a4 : Int32) (pre0 : WR c00 c01 c02 c03 c040 c041 c042 c043 c044 c045 c046 c047 c048 c049 c050 c051 c06 c07 c08 gx) (pre1 : SIX gx (-1)) (pre2 : ∀ k : Nat, k < 4 → 0 ≤ (ca1 k).toInt ∧ (ca1 k).toInt ≤ 36) : Met l yX10_judge (gW yX10_judge cX10_judge 8 (some .int)) ({ frames := 6, cells := 0, slots := 0, locals := 143 } : Room) (kPreX D cI aK aV [.ref k, .int a0, .int a1, .int a2, .int a3, .int a4] [(k, .inr (10, [.ref k0, .ref k1, .ref k2, .ref k3, .ref k4, .ref k5, .ref k6, .ref k7, .ref k8, .ref k9, .ref ka, .ref kb, .int cc])), (k0, .inr (9, [.ref k00, .ref k01, .ref k02, .ref k03, .ref k04, .ref k05, .int c06, .int c07, .int c08])), (k8, .inr (2, [.ref k80, .ref k81])), (ka, .inr (6, [.ref ka0, .ref ka1, .ref ka2])), (kb, .inl (cI, 6, .inl cb)), (k01, .inl (cI, 40, .inl c01)), (k05, .inr (3, [.ref k050, .int c051])), (k80, .inl (cI, 40, .inl c80)), (k81, .inl (cI, 40, .inl c81)), (ka0, .inl (cI, 4, .inl ca0)), (ka1, .inl (cI, 4, .inl ca1)), (ka2, .inl (cI, 144, .inl ca2)), (k050, .inl (cI, 36, .inl c050))] sz) (va_Qi (fun (r : Int32) (u : (Nat → Int32) × (Nat → Int32) × (Nat → Int32)) => JUD gx ca0 ca1 ca2 a0 a1 a2 a3 a4 r) (fun u t => kWd D cI (va_A [(k, .inr (10, [.ref k0, .ref k1, .ref k2, .ref k3, .ref k4, .ref k5, .ref k6, .ref k7, .ref k8, .ref k9, .ref ka, .ref kb, .int cc])), (k0, .inr (9, [.ref k00, .ref k01, .ref k02, .ref k03, .ref k04, .ref k05, .int c06, .int c07, .int c08])), (k8, .inr (2, [.ref k80, .ref k81])), (ka, .inr (6, [.ref ka0, .ref ka1, .ref ka2])), (kb, .inl (cI, 6, .inl cb)), (k01, .inl (cI, 40, .inl c01)), (k05, .inr (3, [.ref k050, .int c051])), (k80, .inl (cI, 40, .inl c80)), (k81, .inl (cI, 40, .inl c81)), (ka0, .inl (cI, 4, .inl ca0)), (ka1, .inl (cI, 4, .inl ca1)), (ka2, .inl (cI, 144, .inl ca2)), (k050, .inl (cI, 36, .inl c050))] sz) [(k, .inr (10, [.ref k0, .ref k1, .ref k2, .ref k3, .ref k4, .ref k5, .ref k6, .ref k7, .ref k8, .ref k9, .ref ka, .ref kb, .int cc])), (k0, .inr (9, [.ref k00, .ref k01, .ref k02, .ref k03, .ref k04, .ref k05, .int c06, .int c07, .int c08])), (k8, .inr (2, [.ref k80, .ref k81])), (ka, .inr (6, [.ref ka0, .ref ka1, .ref ka2])), (kb, .inl (cI, 6, .inl u.1)), (k01, .inl (cI, 40, .inl c01)), (k05, .inr (3, [.ref k050, .int c051])), (k80, .inl (cI, 40, .inl u.2.1)), (k81, .inl (cI, 40, .inl u.2.2)), (ka0, .inl (cI, 4, .inl ca0)), (ka1, .inl (cI, 4, .inl ca1)), (ka2, .inl (cI, 144, .inl ca2)), (k050, .inl (cI, 36, .inl c050))] t) (va_A [(k, .inr (10, [.ref k0, .ref k1, .ref k2, .ref k3, .ref k4, .ref k5, .ref k6, .ref k7, .ref k8, .ref k9, .ref ka, .ref kb, .int cc])), (k0, .inr (9, [.ref k00, .ref k01, .ref k02, .ref k03, .ref k04, .ref k05, .int c06, .int c07, .int c08])), (k8, .inr (2, [.ref k80, .ref k81])), (ka, .inr (6, [.ref ka0, .ref ka1, .ref ka2])), (kb, .inl (cI, 6, .inl cb)), (k01, .inl (cI, 40, .inl c01)), (k05, .inr (3, [.ref k050, .int c051])), (k80, .inl (cI, 40, .inl c80)), (k81, .inl (cI, 40, .inl c81)), (ka0, .inl (cI, 4, .inl ca0)), (ka1, .inl (cI, 4, .inl ca1)), (ka2, .inl (cI, 144, .inl ca2)), (k050, .inl (cI, 36, .inl c050))] sz)) 0 0 (va_A [(k, .inr (10, [.ref k0, .ref k1, .ref k2, .ref k3, .ref k4, .ref k5, .ref k6, .ref k7, .ref k8, .ref k9, .ref ka, .ref kb, .int cc])), (k0, .inr (9, [.ref k00, .ref k01, .ref k02, .ref k03, .ref k04, .ref k05, .int c06, .int c07, .int c08])), (k8, .inr (2, [.ref k80, .ref k81])), (ka, .inr (6, [.ref ka0, .ref ka1, .ref ka2])), (kb, .inl (cI, 6, .inl cb)), (k01, .inl (cI, 40, .inl c01)), (k05, .inr (3, [.ref k050, .int c051])), (k80, .inl (cI, 40, .inl c80)), (k81, .inl (cI, 40, .inl c81)), (ka0, .inl (cI, 4, .inl ca0)), (ka1, .inl (cI, 4, .inl ca1)), (ka2, .inl (cI, 144, .inl ca2)), (k050, .inl (cI, 36, .inl c050))] sz) := by
  refine kMetIX (own := RX10) (by decide) rfl (Nat.le_of_ble_eq_true rfl) ?_
  intro p e s m args below meth c hx hb hT hown hname hml A Q hK hP hD hS hA hN hXS hRet ls hl
  have hl : lv_has ls 8 [(0, .ref k), (1, .int a0), (2, .int a1), (3, .int a2), (4, .int a3), (5, .int a4)] := hl
  have lo_a0 := k_lo a0
  have hi_a0 := k_hi a0
  have lo_a1 := k_lo a1
  have hi_a1 := k_hi a1
  have lo_a2 := k_lo a2
  have hi_a2 := k_hi a2
  have lo_a3 := k_lo a3
  have hi_a3 := k_hi a3
  have lo_a4 := k_lo a4
  have hi_a4 := k_hi a4
  have lo_c06 := k_lo c06
  have hi_c06 := k_hi c06
  have lo_c07 := k_lo c07
  have hi_c07 := k_hi c07
  have lo_c08 := k_lo c08
  have hi_c08 := k_hi c08
  have lo_c051 := k_lo c051
  have hi_c051 := k_hi c051
  have lo_c049 := k_lo c049
  have hi_c049 := k_hi c049
  have hln : 0 ≤ a2.toInt → a2.toInt ≤ 3 → 0 ≤ (ca1 a2.toNatClampNeg).toInt ∧ (ca1 a2.toNatClampNeg).toInt ≤ 36 := fun z0 z1 => pre2 a2.toNatClampNeg (by rw [k_clamp]; omega)
  have pre0 : WR c00 c01 c02 c03 c040 c041 c042 c043 c044 c045 c046 c047 c048 c049 c050 c051 c06 c07 c08 gx := pre0
  have b_1 : 0 ≤ c049.toInt ∧ c049.toInt ≤ 60 := WKR.n0 (WR.kw pre0)
  have t_2 : c049.toInt = (gx 1).toInt := WKR.nt (WR.kw pre0)
  have b_3 : 0 ≤ c051.toInt ∧ c051.toInt ≤ 4 := ((WR.kp pre0)).2.1
  have t_4 : c051.toInt = (gx 2).toInt := PTR.nt (WR.kp pre0)
  have t_5 : c08.toInt = (gx 0).toInt := by rw [WR.dd pre0]
  have pre1 : SIX gx (-1) := pre1
  refine lv_aload_n hx hb dX10_judge_0 rfl (lv_at hl 0 rfl) ?_
  refine lv_iload_n hx hb dX10_judge_1 rfl (lv_at hl 1 rfl) ?_
  refine lv_iload_n hx hb dX10_judge_2 rfl (lv_at hl 2 rfl) ?_
  refine kJi (wr := [(k8, .inr (2, [.ref k80, .ref k81])), (ka, .inr (6, [.ref ka0, .ref ka1, .ref ka2])), (kb, .inl (cI, 6, .inl cb)), (k01, .inl (cI, 40, .inl c01)), (k80, .inl (cI, 40, .inl c80)), (k81, .inl (cI, 40, .inl c81)), (ka0, .inl (cI, 4, .inl ca0)), (ka1, .inl (cI, 4, .inl ca1)), (ka2, .inl (cI, 144, .inl ca2)), (k050, .inl (cI, 36, .inl c050))]) (va_runV (As := [.int a0, .int a1]) (rest := []) ⟨hx, hb, hml, hown, hT⟩ (c_X10_arePartiesD l D cI aK aV k k0 k1 k2 k3 k4 k5 k6 k7 k8 k9 ka kb k00 k01 k02 k03 k04 k05 k050 s.heap.size cc c06 c07 c08 c051 c00 c01 c02 c03 c040 c041 c042 c043 c044 c045 c046 c047 c048 c049 c050 gx a0 a1 pre0) (cwV 2 hT (gV_in mw_923 mw_920 mw_922 mw_p2_13 mw_1) rfl rfl rfl (by decide +kernel) ⟨Nat.le_of_ble_eq_true rfl, Nat.le_of_ble_eq_true rfl⟩) (kRecvX (q0 := 0) (ci := 10) hK hP hD hN hXS hS hA rfl rfl [0, 1, 6] rfl (by decide)) rfl rfl hl.1 rfl (lv_room (Nat.le_of_ble_eq_true rfl)) dX10_judge_3 ⟨Nat.le_of_ble_eq_true rfl, Nat.le_of_ble_eq_true rfl⟩) hP hD hS hA [0, 1, 6] [2, 3, 4, 5, 7, 8, 9, 10, 11, 12] rfl rfl (by decide) (by decide) ?_
  clear hP hD hS
  intro r_6 u_8 H locs w_7 hP hD hS
  replace hP : va_P D vwCl [(k8, .inr (2, [.ref k80, .ref k81])), (ka, .inr (6, [.ref ka0, .ref ka1, .ref ka2])), (kb, .inl (cI, 6, .inl cb)), (k01, .inl (cI, 40, .inl c01)), (k80, .inl (cI, 40, .inl c80)), (k81, .inl (cI, 40, .inl c81)), (ka0, .inl (cI, 4, .inl ca0)), (ka1, .inl (cI, 4, .inl ca1)), (ka2, .inl (cI, 144, .inl ca2)), (k050, .inl (cI, 36, .inl c050)), (k, .inr (10, [.ref k0, .ref k1, .ref k2, .ref k3, .ref k4, .ref k5, .ref k6, .ref k7, .ref k8, .ref k9, .ref ka, .ref kb, .int cc])), (k0, .inr (9, [.ref k00, .ref k01, .ref k02, .ref k03, .ref k04, .ref k05, .int c06, .int c07, .int c08])), (k05, .inr (3, [.ref k050, .int c051]))] H := hP
  replace hD : va_D A [(k8, .inr (2, [.ref k80, .ref k81])), (ka, .inr (6, [.ref ka0, .ref ka1, .ref ka2])), (kb, .inl (cI, 6, .inl cb)), (k01, .inl (cI, 40, .inl c01)), (k80, .inl (cI, 40, .inl c80)), (k81, .inl (cI, 40, .inl c81)), (ka0, .inl (cI, 4, .inl ca0)), (ka1, .inl (cI, 4, .inl ca1)), (ka2, .inl (cI, 144, .inl ca2)), (k050, .inl (cI, 36, .inl c050)), (k, .inr (10, [.ref k0, .ref k1, .ref k2, .ref k3, .ref k4, .ref k5, .ref k6, .ref k7, .ref k8, .ref k9, .ref ka, .ref kb, .int cc])), (k0, .inr (9, [.ref k00, .ref k01, .ref k02, .ref k03, .ref k04, .ref k05, .int c06, .int c07, .int c08])), (k05, .inr (3, [.ref k050, .int c051]))] := hD
  rcases w_7 with ⟨hr_6, h_9, h_10, h_11, h_12⟩ | ⟨hr_6, h_13⟩
  · have h_9 : 0 ≤ a0.toInt := h_9
    have h_10 : a0.toInt < (gx 2).toInt := h_10
    have h_11 : 0 ≤ a1.toInt := h_11
    have h_12 : a1.toInt < (gx 2).toInt := h_12
    obtain rfl : r_6 = 1 := hr_6.trans (by decide)
    refine b_if_eq hx hb zl_1 (tgt := 29) dX10_judge_6 (by decide) (fun c_14 => by exfalso; omega) (fun c_14 => ?_)
    refine lv_iload_n hx hb dX10_judge_9 rfl (lv_at hl 3 rfl) ?_
    refine kJi (wr := [(k8, .inr (2, [.ref k80, .ref k81])), (ka, .inr (6, [.ref ka0, .ref ka1, .ref ka2])), (kb, .inl (cI, 6, .inl cb)), (k01, .inl (cI, 40, .inl c01)), (k80, .inl (cI, 40, .inl c80)), (k81, .inl (cI, 40, .inl c81)), (ka0, .inl (cI, 4, .inl ca0)), (ka1, .inl (cI, 4, .inl ca1)), (ka2, .inl (cI, 144, .inl ca2)), (k050, .inl (cI, 36, .inl c050)), (k, .inr (10, [.ref k0, .ref k1, .ref k2, .ref k3, .ref k4, .ref k5, .ref k6, .ref k7, .ref k8, .ref k9, .ref ka, .ref kb, .int cc])), (k0, .inr (9, [.ref k00, .ref k01, .ref k02, .ref k03, .ref k04, .ref k05, .int c06, .int c07, .int c08])), (k05, .inr (3, [.ref k050, .int c051]))]) (va_runS (As := [.int a2]) (rest := []) ⟨hx, hb, hml, hown, hT⟩ (c_X10_isSheetG l D cI aK aV H.size a2) (cwS 1 hT (gS_in mw_662 mw_660 mw_661 mw_1) rfl rfl rfl (by decide +kernel) ⟨Nat.le_of_ble_eq_true rfl, Nat.le_of_ble_eq_true rfl⟩) (kStatX hK hP hD hN hXS hS hA [] rfl (by decide)) rfl rfl hl.1 rfl (lv_room (Nat.le_of_ble_eq_true rfl)) dX10_judge_10 ⟨Nat.le_of_ble_eq_true rfl, Nat.le_of_ble_eq_true rfl⟩) hP hD hS hA [] [0, 1, 2, 3, 4, 5, 6, 7, 8, 9, 10, 11, 12] rfl rfl (by decide) (by decide) ?_
    clear hP hD hS
    intro r_15 u_17 H locs w_16 hP hD hS
    replace hP : va_P D vwCl [(k8, .inr (2, [.ref k80, .ref k81])), (ka, .inr (6, [.ref ka0, .ref ka1, .ref ka2])), (kb, .inl (cI, 6, .inl cb)), (k01, .inl (cI, 40, .inl c01)), (k80, .inl (cI, 40, .inl c80)), (k81, .inl (cI, 40, .inl c81)), (ka0, .inl (cI, 4, .inl ca0)), (ka1, .inl (cI, 4, .inl ca1)), (ka2, .inl (cI, 144, .inl ca2)), (k050, .inl (cI, 36, .inl c050)), (k, .inr (10, [.ref k0, .ref k1, .ref k2, .ref k3, .ref k4, .ref k5, .ref k6, .ref k7, .ref k8, .ref k9, .ref ka, .ref kb, .int cc])), (k0, .inr (9, [.ref k00, .ref k01, .ref k02, .ref k03, .ref k04, .ref k05, .int c06, .int c07, .int c08])), (k05, .inr (3, [.ref k050, .int c051]))] H := hP
    replace hD : va_D A [(k8, .inr (2, [.ref k80, .ref k81])), (ka, .inr (6, [.ref ka0, .ref ka1, .ref ka2])), (kb, .inl (cI, 6, .inl cb)), (k01, .inl (cI, 40, .inl c01)), (k80, .inl (cI, 40, .inl c80)), (k81, .inl (cI, 40, .inl c81)), (ka0, .inl (cI, 4, .inl ca0)), (ka1, .inl (cI, 4, .inl ca1)), (ka2, .inl (cI, 144, .inl ca2)), (k050, .inl (cI, 36, .inl c050)), (k, .inr (10, [.ref k0, .ref k1, .ref k2, .ref k3, .ref k4, .ref k5, .ref k6, .ref k7, .ref k8, .ref k9, .ref ka, .ref kb, .int cc])), (k0, .inr (9, [.ref k00, .ref k01, .ref k02, .ref k03, .ref k04, .ref k05, .int c06, .int c07, .int c08])), (k05, .inr (3, [.ref k050, .int c051]))] := hD
    rcases w_16 with ⟨hr_15, h_18, h_19⟩ | ⟨hr_15, h_20⟩
    · have h_18 : 0 ≤ a2.toInt := h_18
      have h_19 : a2.toInt ≤ 3 := h_19
      obtain rfl : r_15 = 1 := hr_15.trans (by decide)
      refine b_if_eq hx hb zl_1 (tgt := 29) dX10_judge_13 (by decide) (fun c_21 => by exfalso; omega) (fun c_21 => ?_)
      refine lv_iload hx hb dX10_judge_16 (lv_at hl 5 rfl) ?_
      refine b_if_lt hx hb rfl (tgt := 29) dX10_judge_18 (by decide) (fun c_22 => ?_) (fun c_22 => ?_)
      · refine lv_aload_n hx hb dX10_judge_29 rfl (lv_at hl 0 rfl) ?_
        refine lv_iconst (v := 1) hx hb dX10_judge_30 (by decide) ?_
        refine kJi (wr := [(k8, .inr (2, [.ref k80, .ref k81])), (ka, .inr (6, [.ref ka0, .ref ka1, .ref ka2])), (k01, .inl (cI, 40, .inl c01)), (k80, .inl (cI, 40, .inl c80)), (k81, .inl (cI, 40, .inl c81)), (ka0, .inl (cI, 4, .inl ca0)), (ka1, .inl (cI, 4, .inl ca1)), (ka2, .inl (cI, 144, .inl ca2)), (k050, .inl (cI, 36, .inl c050)), (k0, .inr (9, [.ref k00, .ref k01, .ref k02, .ref k03, .ref k04, .ref k05, .int c06, .int c07, .int c08])), (k05, .inr (3, [.ref k050, .int c051]))]) (va_runV (As := [.int 1]) (rest := []) ⟨hx, hb, hml, hown, hT⟩ (c_X10_findingG l D cI aK aV k k0 k1 k2 k3 k4 k5 k6 k7 k8 k9 ka kb H.size cc cb 1) (cwV 1 hT (gV_in mw_338 mw_335 mw_337 mw_p1_0 mw_1) rfl rfl rfl (by decide +kernel) ⟨Nat.le_of_ble_eq_true rfl, Nat.le_of_ble_eq_true rfl⟩) (kRecvX (q0 := 10) (ci := 10) hK hP hD hN hXS hS hA rfl rfl [10, 2] rfl (by decide)) rfl rfl hl.1 rfl (lv_room (Nat.le_of_ble_eq_true rfl)) dX10_judge_31 ⟨Nat.le_of_ble_eq_true rfl, Nat.le_of_ble_eq_true rfl⟩) hP hD hS hA [10, 2] [0, 1, 3, 4, 5, 6, 7, 8, 9, 11, 12] rfl rfl (by decide) (by decide) ?_
        clear hP hD hS
        intro r_23 scb_25 H locs w_24 hP hD hS
        replace hP : va_P D vwCl [(k8, .inr (2, [.ref k80, .ref k81])), (ka, .inr (6, [.ref ka0, .ref ka1, .ref ka2])), (k01, .inl (cI, 40, .inl c01)), (k80, .inl (cI, 40, .inl c80)), (k81, .inl (cI, 40, .inl c81)), (ka0, .inl (cI, 4, .inl ca0)), (ka1, .inl (cI, 4, .inl ca1)), (ka2, .inl (cI, 144, .inl ca2)), (k050, .inl (cI, 36, .inl c050)), (k0, .inr (9, [.ref k00, .ref k01, .ref k02, .ref k03, .ref k04, .ref k05, .int c06, .int c07, .int c08])), (k05, .inr (3, [.ref k050, .int c051])), (k, .inr (10, [.ref k0, .ref k1, .ref k2, .ref k3, .ref k4, .ref k5, .ref k6, .ref k7, .ref k8, .ref k9, .ref ka, .ref kb, .int cc])), (kb, .inl (cI, 6, .inl scb_25))] H := hP
        replace hD : va_D A [(k8, .inr (2, [.ref k80, .ref k81])), (ka, .inr (6, [.ref ka0, .ref ka1, .ref ka2])), (k01, .inl (cI, 40, .inl c01)), (k80, .inl (cI, 40, .inl c80)), (k81, .inl (cI, 40, .inl c81)), (ka0, .inl (cI, 4, .inl ca0)), (ka1, .inl (cI, 4, .inl ca1)), (ka2, .inl (cI, 144, .inl ca2)), (k050, .inl (cI, 36, .inl c050)), (k0, .inr (9, [.ref k00, .ref k01, .ref k02, .ref k03, .ref k04, .ref k05, .int c06, .int c07, .int c08])), (k05, .inr (3, [.ref k050, .int c051])), (k, .inr (10, [.ref k0, .ref k1, .ref k2, .ref k3, .ref k4, .ref k5, .ref k6, .ref k7, .ref k8, .ref k9, .ref ka, .ref kb, .int cc])), (kb, .inl (cI, 6, .inl scb_25))] := hD
        have hr_23 := w_24
        obtain rfl : r_23 = (-1000001) := hr_23.trans (by decide)
        exact hRet (scb_25, c80, c81) [11, 9, 0, 1, 12, 2, 10, 3, 4, 5, 6, 7, 8] (MTC.b (by omega)) hP hD (by decide) rfl hS rfl dX10_judge_34
      · refine lv_iload hx hb dX10_judge_21 (lv_at hl 5 rfl) ?_
        refine lv_sipush (v := 9999) hx hb dX10_judge_23 (by decide) ?_
        refine b_icmp_le hx hb rfl zl_9999 (tgt := 35) dX10_judge_26 (by decide) (fun c_26 => ?_) (fun c_26 => ?_)
        · refine lv_aload_n hx hb dX10_judge_35 rfl (lv_at hl 0 rfl) ?_
          refine lv_iload_n hx hb dX10_judge_36 rfl (lv_at hl 1 rfl) ?_
          refine lv_iload_n hx hb dX10_judge_37 rfl (lv_at hl 2 rfl) ?_
          refine lv_iload_n hx hb dX10_judge_38 rfl (lv_at hl 3 rfl) ?_
          refine kJi (wr := [(k8, .inr (2, [.ref k80, .ref k81])), (kb, .inl (cI, 6, .inl cb)), (k01, .inl (cI, 40, .inl c01)), (k80, .inl (cI, 40, .inl c80)), (k81, .inl (cI, 40, .inl c81))]) (va_runV (As := [.int a0, .int a1, .int a2]) (rest := []) ⟨hx, hb, hml, hown, hT⟩ (c_X10_whyNoMeetingD l D cI aK aV k k0 k1 k2 k3 k4 k5 k6 k7 k8 k9 ka kb k00 k01 k02 k03 k04 k05 ka0 ka1 ka2 k050 H.size cc c06 c07 c08 c051 ca0 ca1 ca2 c050 c00 c01 c02 c03 c040 c041 c042 c043 c044 c045 c046 c047 c048 c049 gx a0 a1 a2 pre0 pre1 (by first | omega | decide | assumption | rfl) (by first | omega | decide | assumption | rfl) (by first | omega | decide | assumption | rfl) (by first | omega | decide | assumption | rfl) (by first | omega | decide | assumption | rfl) (by first | omega | decide | assumption | rfl) (by first | omega | decide | assumption | rfl)) (cwV 3 hT (gV_in mw_927 mw_924 mw_926 mw_p2_14 mw_1) rfl rfl rfl (by decide +kernel) ⟨Nat.le_of_ble_eq_true rfl, Nat.le_of_ble_eq_true rfl⟩) (kRecvX (q0 := 10) (ci := 10) hK hP hD hN hXS hS hA rfl rfl [10, 11, 1, 12, 6, 7, 8, 9] rfl (by decide)) rfl rfl hl.1 rfl (lv_room (Nat.le_of_ble_eq_true rfl)) dX10_judge_39 ⟨Nat.le_of_ble_eq_true rfl, Nat.le_of_ble_eq_true rfl⟩) hP hD hS hA [10, 11, 1, 12, 6, 7, 8, 9] [0, 2, 3, 4, 5] rfl rfl (by decide) (by decide) ?_
          clear hP hD hS
          intro r_27 u_29 H locs w_28 hP hD hS
          replace hP : va_P D vwCl [(k8, .inr (2, [.ref k80, .ref k81])), (kb, .inl (cI, 6, .inl cb)), (k01, .inl (cI, 40, .inl c01)), (k80, .inl (cI, 40, .inl c80)), (k81, .inl (cI, 40, .inl c81)), (k, .inr (10, [.ref k0, .ref k1, .ref k2, .ref k3, .ref k4, .ref k5, .ref k6, .ref k7, .ref k8, .ref k9, .ref ka, .ref kb, .int cc])), (k0, .inr (9, [.ref k00, .ref k01, .ref k02, .ref k03, .ref k04, .ref k05, .int c06, .int c07, .int c08])), (ka, .inr (6, [.ref ka0, .ref ka1, .ref ka2])), (k05, .inr (3, [.ref k050, .int c051])), (ka0, .inl (cI, 4, .inl ca0)), (ka1, .inl (cI, 4, .inl ca1)), (ka2, .inl (cI, 144, .inl ca2)), (k050, .inl (cI, 36, .inl c050))] H := hP
          replace hD : va_D A [(k8, .inr (2, [.ref k80, .ref k81])), (kb, .inl (cI, 6, .inl cb)), (k01, .inl (cI, 40, .inl c01)), (k80, .inl (cI, 40, .inl c80)), (k81, .inl (cI, 40, .inl c81)), (k, .inr (10, [.ref k0, .ref k1, .ref k2, .ref k3, .ref k4, .ref k5, .ref k6, .ref k7, .ref k8, .ref k9, .ref ka, .ref kb, .int cc])), (k0, .inr (9, [.ref k00, .ref k01, .ref k02, .ref k03, .ref k04, .ref k05, .int c06, .int c07, .int c08])), (ka, .inr (6, [.ref ka0, .ref ka1, .ref ka2])), (k05, .inr (3, [.ref k050, .int c051])), (ka0, .inl (cI, 4, .inl ca0)), (ka1, .inl (cI, 4, .inl ca1)), (ka2, .inl (cI, 144, .inl ca2)), (k050, .inl (cI, 36, .inl c050))] := hD
          rcases w_28 with ⟨hr_27, h_30⟩ | ⟨hr_27, h_31, h_32⟩ | ⟨hr_27, h_33, h_34, h_35⟩ | ⟨hr_27, h_36, h_37, h_38, h_39, h_40, h_41, h_42, h_43, h_44, h_45, h_46, h_47, h_48⟩
          · have h_30 : (ca0 a2.toNatClampNeg).toInt = 0 := h_30
            obtain rfl : r_27 = 2 := hr_27.trans (by decide)
            refine lv_istore (lv' := [(6, .int 2), (0, .ref k), (1, .int a0), (2, .int a1), (3, .int a2), (4, .int a3), (5, .int a4)]) hx hb dX10_judge_42 hl (by decide) rfl ?_
            clear hl
            intro ls hl
            refine lv_iload hx hb dX10_judge_44 (lv_at hl 0 rfl) ?_
            refine b_if_eq hx hb zl_2 (tgt := 56) dX10_judge_46 (by decide) (fun c_49 => by exfalso; omega) (fun c_49 => ?_)
            refine lv_aload_n hx hb dX10_judge_49 rfl (lv_at hl 1 rfl) ?_
            refine lv_iload hx hb dX10_judge_50 (lv_at hl 0 rfl) ?_
            refine kJi (wr := [(k8, .inr (2, [.ref k80, .ref k81])), (k01, .inl (cI, 40, .inl c01)), (k80, .inl (cI, 40, .inl c80)), (k81, .inl (cI, 40, .inl c81)), (k0, .inr (9, [.ref k00, .ref k01, .ref k02, .ref k03, .ref k04, .ref k05, .int c06, .int c07, .int c08])), (ka, .inr (6, [.ref ka0, .ref ka1, .ref ka2])), (k05, .inr (3, [.ref k050, .int c051])), (ka0, .inl (cI, 4, .inl ca0)), (ka1, .inl (cI, 4, .inl ca1)), (ka2, .inl (cI, 144, .inl ca2)), (k050, .inl (cI, 36, .inl c050))]) (va_runV (As := [.int 2]) (rest := []) ⟨hx, hb, hml, hown, hT⟩ (c_X10_findingG l D cI aK aV k k0 k1 k2 k3 k4 k5 k6 k7 k8 k9 ka kb H.size cc cb 2) (cwV 1 hT (gV_in mw_338 mw_335 mw_337 mw_p1_0 mw_1) rfl rfl rfl (by decide +kernel) ⟨Nat.le_of_ble_eq_true rfl, Nat.le_of_ble_eq_true rfl⟩) (kRecvX (q0 := 5) (ci := 10) hK hP hD hN hXS hS hA rfl rfl [5, 1] rfl (by decide)) rfl rfl hl.1 rfl (lv_room (Nat.le_of_ble_eq_true rfl)) dX10_judge_52 ⟨Nat.le_of_ble_eq_true rfl, Nat.le_of_ble_eq_true rfl⟩) hP hD hS hA [5, 1] [0, 2, 3, 4, 6, 7, 8, 9, 10, 11, 12] rfl rfl (by decide) (by decide) ?_
            clear hP hD hS
            intro r_50 scb_52 H locs w_51 hP hD hS
            replace hP : va_P D vwCl [(k8, .inr (2, [.ref k80, .ref k81])), (k01, .inl (cI, 40, .inl c01)), (k80, .inl (cI, 40, .inl c80)), (k81, .inl (cI, 40, .inl c81)), (k0, .inr (9, [.ref k00, .ref k01, .ref k02, .ref k03, .ref k04, .ref k05, .int c06, .int c07, .int c08])), (ka, .inr (6, [.ref ka0, .ref ka1, .ref ka2])), (k05, .inr (3, [.ref k050, .int c051])), (ka0, .inl (cI, 4, .inl ca0)), (ka1, .inl (cI, 4, .inl ca1)), (ka2, .inl (cI, 144, .inl ca2)), (k050, .inl (cI, 36, .inl c050)), (k, .inr (10, [.ref k0, .ref k1, .ref k2, .ref k3, .ref k4, .ref k5, .ref k6, .ref k7, .ref k8, .ref k9, .ref ka, .ref kb, .int cc])), (kb, .inl (cI, 6, .inl scb_52))] H := hP
            replace hD : va_D A [(k8, .inr (2, [.ref k80, .ref k81])), (k01, .inl (cI, 40, .inl c01)), (k80, .inl (cI, 40, .inl c80)), (k81, .inl (cI, 40, .inl c81)), (k0, .inr (9, [.ref k00, .ref k01, .ref k02, .ref k03, .ref k04, .ref k05, .int c06, .int c07, .int c08])), (ka, .inr (6, [.ref ka0, .ref ka1, .ref ka2])), (k05, .inr (3, [.ref k050, .int c051])), (ka0, .inl (cI, 4, .inl ca0)), (ka1, .inl (cI, 4, .inl ca1)), (ka2, .inl (cI, 144, .inl ca2)), (k050, .inl (cI, 36, .inl c050)), (k, .inr (10, [.ref k0, .ref k1, .ref k2, .ref k3, .ref k4, .ref k5, .ref k6, .ref k7, .ref k8, .ref k9, .ref ka, .ref kb, .int cc])), (kb, .inl (cI, 6, .inl scb_52))] := hD
            have hr_50 := w_51
            obtain rfl : r_50 = (-1000002) := hr_50.trans (by decide)
            exact hRet (scb_52, c80, c81) [11, 4, 0, 5, 12, 1, 6, 2, 3, 7, 8, 9, 10] (MTC.n (by omega) (by omega)) hP hD (by decide) rfl hS rfl dX10_judge_55
          · have h_31 : (ca0 a2.toNatClampNeg).toInt ≠ 0 := h_31
            have h_32 : ¬ MTK ca1 ca2 a2 := h_32
            obtain rfl : r_27 = 5 := hr_27.trans (by decide)
            refine lv_istore (lv' := [(6, .int 5), (0, .ref k), (1, .int a0), (2, .int a1), (3, .int a2), (4, .int a3), (5, .int a4)]) hx hb dX10_judge_42 hl (by decide) rfl ?_
            clear hl
            intro ls hl
            refine lv_iload hx hb dX10_judge_44 (lv_at hl 0 rfl) ?_
            refine b_if_eq hx hb zl_5 (tgt := 56) dX10_judge_46 (by decide) (fun c_53 => by exfalso; omega) (fun c_53 => ?_)
            refine lv_aload_n hx hb dX10_judge_49 rfl (lv_at hl 1 rfl) ?_
            refine lv_iload hx hb dX10_judge_50 (lv_at hl 0 rfl) ?_
            refine kJi (wr := [(k8, .inr (2, [.ref k80, .ref k81])), (k01, .inl (cI, 40, .inl c01)), (k80, .inl (cI, 40, .inl c80)), (k81, .inl (cI, 40, .inl c81)), (k0, .inr (9, [.ref k00, .ref k01, .ref k02, .ref k03, .ref k04, .ref k05, .int c06, .int c07, .int c08])), (ka, .inr (6, [.ref ka0, .ref ka1, .ref ka2])), (k05, .inr (3, [.ref k050, .int c051])), (ka0, .inl (cI, 4, .inl ca0)), (ka1, .inl (cI, 4, .inl ca1)), (ka2, .inl (cI, 144, .inl ca2)), (k050, .inl (cI, 36, .inl c050))]) (va_runV (As := [.int 5]) (rest := []) ⟨hx, hb, hml, hown, hT⟩ (c_X10_findingG l D cI aK aV k k0 k1 k2 k3 k4 k5 k6 k7 k8 k9 ka kb H.size cc cb 5) (cwV 1 hT (gV_in mw_338 mw_335 mw_337 mw_p1_0 mw_1) rfl rfl rfl (by decide +kernel) ⟨Nat.le_of_ble_eq_true rfl, Nat.le_of_ble_eq_true rfl⟩) (kRecvX (q0 := 5) (ci := 10) hK hP hD hN hXS hS hA rfl rfl [5, 1] rfl (by decide)) rfl rfl hl.1 rfl (lv_room (Nat.le_of_ble_eq_true rfl)) dX10_judge_52 ⟨Nat.le_of_ble_eq_true rfl, Nat.le_of_ble_eq_true rfl⟩) hP hD hS hA [5, 1] [0, 2, 3, 4, 6, 7, 8, 9, 10, 11, 12] rfl rfl (by decide) (by decide) ?_
            clear hP hD hS
            intro r_54 scb_56 H locs w_55 hP hD hS
            replace hP : va_P D vwCl [(k8, .inr (2, [.ref k80, .ref k81])), (k01, .inl (cI, 40, .inl c01)), (k80, .inl (cI, 40, .inl c80)), (k81, .inl (cI, 40, .inl c81)), (k0, .inr (9, [.ref k00, .ref k01, .ref k02, .ref k03, .ref k04, .ref k05, .int c06, .int c07, .int c08])), (ka, .inr (6, [.ref ka0, .ref ka1, .ref ka2])), (k05, .inr (3, [.ref k050, .int c051])), (ka0, .inl (cI, 4, .inl ca0)), (ka1, .inl (cI, 4, .inl ca1)), (ka2, .inl (cI, 144, .inl ca2)), (k050, .inl (cI, 36, .inl c050)), (k, .inr (10, [.ref k0, .ref k1, .ref k2, .ref k3, .ref k4, .ref k5, .ref k6, .ref k7, .ref k8, .ref k9, .ref ka, .ref kb, .int cc])), (kb, .inl (cI, 6, .inl scb_56))] H := hP
            replace hD : va_D A [(k8, .inr (2, [.ref k80, .ref k81])), (k01, .inl (cI, 40, .inl c01)), (k80, .inl (cI, 40, .inl c80)), (k81, .inl (cI, 40, .inl c81)), (k0, .inr (9, [.ref k00, .ref k01, .ref k02, .ref k03, .ref k04, .ref k05, .int c06, .int c07, .int c08])), (ka, .inr (6, [.ref ka0, .ref ka1, .ref ka2])), (k05, .inr (3, [.ref k050, .int c051])), (ka0, .inl (cI, 4, .inl ca0)), (ka1, .inl (cI, 4, .inl ca1)), (ka2, .inl (cI, 144, .inl ca2)), (k050, .inl (cI, 36, .inl c050)), (k, .inr (10, [.ref k0, .ref k1, .ref k2, .ref k3, .ref k4, .ref k5, .ref k6, .ref k7, .ref k8, .ref k9, .ref ka, .ref kb, .int cc])), (kb, .inl (cI, 6, .inl scb_56))] := hD
            have hr_54 := w_55
            obtain rfl : r_54 = (-1000005) := hr_54.trans (by decide)
            exact hRet (scb_56, c80, c81) [11, 4, 0, 5, 12, 1, 6, 2, 3, 7, 8, 9, 10] (MTC.k (by omega) (by omega) h_32) hP hD (by decide) rfl hS rfl dX10_judge_55
          · have h_33 : (ca0 a2.toNatClampNeg).toInt ≠ 0 := h_33
            have h_34 : MTK ca1 ca2 a2 := h_34
            have h_35 : (pW gx a0 8).toInt = 2 ∨ (pW gx a1 8).toInt = 2 ∨ (pW gx a0 1).toInt ≠ 1 ∨ (pW gx a1 1).toInt ≠ (-1) ∨ (pW gx a1 0).toInt ≤ (pW gx a0 0).toInt := h_35
            obtain rfl : r_27 = 3 := hr_27.trans (by decide)
            refine lv_istore (lv' := [(6, .int 3), (0, .ref k), (1, .int a0), (2, .int a1), (3, .int a2), (4, .int a3), (5, .int a4)]) hx hb dX10_judge_42 hl (by decide) rfl ?_
            clear hl
            intro ls hl
            refine lv_iload hx hb dX10_judge_44 (lv_at hl 0 rfl) ?_
            refine b_if_eq hx hb zl_3 (tgt := 56) dX10_judge_46 (by decide) (fun c_57 => by exfalso; omega) (fun c_57 => ?_)
            refine lv_aload_n hx hb dX10_judge_49 rfl (lv_at hl 1 rfl) ?_
            refine lv_iload hx hb dX10_judge_50 (lv_at hl 0 rfl) ?_
            refine kJi (wr := [(k8, .inr (2, [.ref k80, .ref k81])), (k01, .inl (cI, 40, .inl c01)), (k80, .inl (cI, 40, .inl c80)), (k81, .inl (cI, 40, .inl c81)), (k0, .inr (9, [.ref k00, .ref k01, .ref k02, .ref k03, .ref k04, .ref k05, .int c06, .int c07, .int c08])), (ka, .inr (6, [.ref ka0, .ref ka1, .ref ka2])), (k05, .inr (3, [.ref k050, .int c051])), (ka0, .inl (cI, 4, .inl ca0)), (ka1, .inl (cI, 4, .inl ca1)), (ka2, .inl (cI, 144, .inl ca2)), (k050, .inl (cI, 36, .inl c050))]) (va_runV (As := [.int 3]) (rest := []) ⟨hx, hb, hml, hown, hT⟩ (c_X10_findingG l D cI aK aV k k0 k1 k2 k3 k4 k5 k6 k7 k8 k9 ka kb H.size cc cb 3) (cwV 1 hT (gV_in mw_338 mw_335 mw_337 mw_p1_0 mw_1) rfl rfl rfl (by decide +kernel) ⟨Nat.le_of_ble_eq_true rfl, Nat.le_of_ble_eq_true rfl⟩) (kRecvX (q0 := 5) (ci := 10) hK hP hD hN hXS hS hA rfl rfl [5, 1] rfl (by decide)) rfl rfl hl.1 rfl (lv_room (Nat.le_of_ble_eq_true rfl)) dX10_judge_52 ⟨Nat.le_of_ble_eq_true rfl, Nat.le_of_ble_eq_true rfl⟩) hP hD hS hA [5, 1] [0, 2, 3, 4, 6, 7, 8, 9, 10, 11, 12] rfl rfl (by decide) (by decide) ?_
            clear hP hD hS
            intro r_58 scb_60 H locs w_59 hP hD hS
            replace hP : va_P D vwCl [(k8, .inr (2, [.ref k80, .ref k81])), (k01, .inl (cI, 40, .inl c01)), (k80, .inl (cI, 40, .inl c80)), (k81, .inl (cI, 40, .inl c81)), (k0, .inr (9, [.ref k00, .ref k01, .ref k02, .ref k03, .ref k04, .ref k05, .int c06, .int c07, .int c08])), (ka, .inr (6, [.ref ka0, .ref ka1, .ref ka2])), (k05, .inr (3, [.ref k050, .int c051])), (ka0, .inl (cI, 4, .inl ca0)), (ka1, .inl (cI, 4, .inl ca1)), (ka2, .inl (cI, 144, .inl ca2)), (k050, .inl (cI, 36, .inl c050)), (k, .inr (10, [.ref k0, .ref k1, .ref k2, .ref k3, .ref k4, .ref k5, .ref k6, .ref k7, .ref k8, .ref k9, .ref ka, .ref kb, .int cc])), (kb, .inl (cI, 6, .inl scb_60))] H := hP
            replace hD : va_D A [(k8, .inr (2, [.ref k80, .ref k81])), (k01, .inl (cI, 40, .inl c01)), (k80, .inl (cI, 40, .inl c80)), (k81, .inl (cI, 40, .inl c81)), (k0, .inr (9, [.ref k00, .ref k01, .ref k02, .ref k03, .ref k04, .ref k05, .int c06, .int c07, .int c08])), (ka, .inr (6, [.ref ka0, .ref ka1, .ref ka2])), (k05, .inr (3, [.ref k050, .int c051])), (ka0, .inl (cI, 4, .inl ca0)), (ka1, .inl (cI, 4, .inl ca1)), (ka2, .inl (cI, 144, .inl ca2)), (k050, .inl (cI, 36, .inl c050)), (k, .inr (10, [.ref k0, .ref k1, .ref k2, .ref k3, .ref k4, .ref k5, .ref k6, .ref k7, .ref k8, .ref k9, .ref ka, .ref kb, .int cc])), (kb, .inl (cI, 6, .inl scb_60))] := hD
            have hr_58 := w_59
            obtain rfl : r_58 = (-1000003) := hr_58.trans (by decide)
            exact hRet (scb_60, c80, c81) [11, 4, 0, 5, 12, 1, 6, 2, 3, 7, 8, 9, 10] (MTC.s (by omega) (by omega) h_34 (by omega)) hP hD (by decide) rfl hS rfl dX10_judge_55
          · have h_36 : (ca0 a2.toNatClampNeg).toInt ≠ 0 := h_36
            have h_37 : MTK ca1 ca2 a2 := h_37
            have h_38 : (pW gx a0 8).toInt ≠ 2 := h_38
            have h_39 : (pW gx a1 8).toInt ≠ 2 := h_39
            have h_40 : (pW gx a0 1).toInt = 1 := h_40
            have h_41 : (pW gx a1 1).toInt = (-1) := h_41
            have h_42 : (pW gx a0 0).toInt < (pW gx a1 0).toInt := h_42
            have h_43 : 1 ≤ (pW gx a0 2).toInt := h_43
            have h_44 : 1 ≤ (pW gx a1 2).toInt := h_44
            have h_45 : (pW gx a0 2).toInt ≤ 50 := h_45
            have h_46 : (pW gx a1 2).toInt ≤ 50 := h_46
            have h_47 : 0 ≤ (pW gx a0 0).toInt := h_47
            have h_48 : (pW gx a1 0).toInt ≤ 39 := h_48
            obtain rfl : r_27 = 0 := hr_27.trans (by decide)
            refine lv_istore (lv' := [(6, .int 0), (0, .ref k), (1, .int a0), (2, .int a1), (3, .int a2), (4, .int a3), (5, .int a4)]) hx hb dX10_judge_42 hl (by decide) rfl ?_
            clear hl
            intro ls hl
            refine lv_iload hx hb dX10_judge_44 (lv_at hl 0 rfl) ?_
            refine b_if_eq hx hb zl_0 (tgt := 56) dX10_judge_46 (by decide) (fun c_61 => ?_) (fun c_61 => by exfalso; omega)
            refine lv_iload hx hb dX10_judge_56 (lv_at hl 5 rfl) ?_
            refine lv_aload_n hx hb dX10_judge_58 rfl (lv_at hl 1 rfl) ?_
            refine va_get (D := D) (ci := 10) (v := .ref k0) (C := RX10) (T := TX10) (N := 13) hx hb hT giX10 hown hK hP 5 rfl rfl 0 (by decide) (hT (Cond.fieldLink RX10 12 "DesertWire" "now" "LDesertWire$World;") mw_291) (fun _ h9 => h9) rfl dX10_judge_59 ?_
            refine va_get (D := D) (ci := 9) (v := .ref k05) (C := RX9) (T := TX9) (N := 9) hx hb hT giX9 hown hK hP 6 rfl rfl 5 (by decide) (hT (Cond.fieldLink RX10 193 "DesertWire$World" "parties" "LDesertWire$Parties;") mw_102) (fun _ h9 => h9) rfl dX10_judge_62 ?_
            refine lv_iload_n hx hb dX10_judge_65 rfl (lv_at hl 2 rfl) ?_
            refine lv_iconst (v := 0) hx hb dX10_judge_66 (by decide) ?_
            refine kJi (wr := [(k8, .inr (2, [.ref k80, .ref k81])), (kb, .inl (cI, 6, .inl cb)), (k01, .inl (cI, 40, .inl c01)), (k80, .inl (cI, 40, .inl c80)), (k81, .inl (cI, 40, .inl c81)), (k, .inr (10, [.ref k0, .ref k1, .ref k2, .ref k3, .ref k4, .ref k5, .ref k6, .ref k7, .ref k8, .ref k9, .ref ka, .ref kb, .int cc])), (k0, .inr (9, [.ref k00, .ref k01, .ref k02, .ref k03, .ref k04, .ref k05, .int c06, .int c07, .int c08])), (ka, .inr (6, [.ref ka0, .ref ka1, .ref ka2])), (ka0, .inl (cI, 4, .inl ca0)), (ka1, .inl (cI, 4, .inl ca1)), (ka2, .inl (cI, 144, .inl ca2))]) (va_runV (As := [.int a0, .int 0]) (rest := [.int a3]) ⟨hx, hb, hml, hown, hT⟩ (c_X3_getD0 l D cI aK aV k05 k050 H.size c051 c050 gx a0 0 (WR.kp pre0) (by first | omega | (simp only [zl_0]; first | done | omega) | decide | assumption | rfl) (by first | omega | (simp only [zl_0]; first | done | omega) | decide | assumption | rfl) (by first | omega | (simp only [zl_0]; first | done | omega) | decide | assumption | rfl)) (cwV 2 hT (gV_in mw_726 mw_723 mw_724 mw_725 mw_4) rfl rfl rfl (by decide +kernel) ⟨Nat.le_of_ble_eq_true rfl, Nat.le_of_ble_eq_true rfl⟩) (kRecvX (q0 := 8) (ci := 3) hK hP hD hN hXS hS hA rfl rfl [8, 12] rfl (by decide)) rfl rfl hl.1 rfl (lv_room (Nat.le_of_ble_eq_true rfl)) dX10_judge_67 ⟨Nat.le_of_ble_eq_true rfl, Nat.le_of_ble_eq_true rfl⟩) hP hD hS hA [8, 12] [0, 1, 2, 3, 4, 5, 6, 7, 9, 10, 11] rfl rfl (by decide) (by decide) ?_
            clear hP hD hS
            intro r_62 u_64 H locs w_63 hP hD hS
            replace hP : va_P D vwCl [(k8, .inr (2, [.ref k80, .ref k81])), (kb, .inl (cI, 6, .inl cb)), (k01, .inl (cI, 40, .inl c01)), (k80, .inl (cI, 40, .inl c80)), (k81, .inl (cI, 40, .inl c81)), (k, .inr (10, [.ref k0, .ref k1, .ref k2, .ref k3, .ref k4, .ref k5, .ref k6, .ref k7, .ref k8, .ref k9, .ref ka, .ref kb, .int cc])), (k0, .inr (9, [.ref k00, .ref k01, .ref k02, .ref k03, .ref k04, .ref k05, .int c06, .int c07, .int c08])), (ka, .inr (6, [.ref ka0, .ref ka1, .ref ka2])), (ka0, .inl (cI, 4, .inl ca0)), (ka1, .inl (cI, 4, .inl ca1)), (ka2, .inl (cI, 144, .inl ca2)), (k05, .inr (3, [.ref k050, .int c051])), (k050, .inl (cI, 36, .inl c050))] H := hP
            replace hD : va_D A [(k8, .inr (2, [.ref k80, .ref k81])), (kb, .inl (cI, 6, .inl cb)), (k01, .inl (cI, 40, .inl c01)), (k80, .inl (cI, 40, .inl c80)), (k81, .inl (cI, 40, .inl c81)), (k, .inr (10, [.ref k0, .ref k1, .ref k2, .ref k3, .ref k4, .ref k5, .ref k6, .ref k7, .ref k8, .ref k9, .ref ka, .ref kb, .int cc])), (k0, .inr (9, [.ref k00, .ref k01, .ref k02, .ref k03, .ref k04, .ref k05, .int c06, .int c07, .int c08])), (ka, .inr (6, [.ref ka0, .ref ka1, .ref ka2])), (ka0, .inl (cI, 4, .inl ca0)), (ka1, .inl (cI, 4, .inl ca1)), (ka2, .inl (cI, 144, .inl ca2)), (k05, .inr (3, [.ref k050, .int c051])), (k050, .inl (cI, 36, .inl c050))] := hD
            have h_65 := w_63
            have h_65 : r_62 = pW gx a0 0 := h_65
            have t_66 : r_62.toInt = (pW gx a0 0).toInt := by rw [h_65]
            have b_67 : 0 ≤ r_62.toInt ∧ r_62.toInt ≤ 39 := by rw [h_65]; exact SB.p0 (And.left pre1) (by omega) (by omega)
            have lo_r_62 := k_lo r_62
            have hi_r_62 := k_hi r_62
            refine b_icmp_lt hx hb rfl rfl (tgt := 90) dX10_judge_70 (by decide) (fun c_68 => ?_) (fun c_68 => ?_)
            · refine lv_aload_n hx hb dX10_judge_90 rfl (lv_at hl 1 rfl) ?_
              refine lv_iconst (v := 1) hx hb dX10_judge_91 (by decide) ?_
              refine kJi (wr := [(k8, .inr (2, [.ref k80, .ref k81])), (k01, .inl (cI, 40, .inl c01)), (k80, .inl (cI, 40, .inl c80)), (k81, .inl (cI, 40, .inl c81)), (k0, .inr (9, [.ref k00, .ref k01, .ref k02, .ref k03, .ref k04, .ref k05, .int c06, .int c07, .int c08])), (ka, .inr (6, [.ref ka0, .ref ka1, .ref ka2])), (ka0, .inl (cI, 4, .inl ca0)), (ka1, .inl (cI, 4, .inl ca1)), (ka2, .inl (cI, 144, .inl ca2)), (k05, .inr (3, [.ref k050, .int c051])), (k050, .inl (cI, 36, .inl c050))]) (va_runV (As := [.int 1]) (rest := []) ⟨hx, hb, hml, hown, hT⟩ (c_X10_findingG l D cI aK aV k k0 k1 k2 k3 k4 k5 k6 k7 k8 k9 ka kb H.size cc cb 1) (cwV 1 hT (gV_in mw_338 mw_335 mw_337 mw_p1_0 mw_1) rfl rfl rfl (by decide +kernel) ⟨Nat.le_of_ble_eq_true rfl, Nat.le_of_ble_eq_true rfl⟩) (kRecvX (q0 := 5) (ci := 10) hK hP hD hN hXS hS hA rfl rfl [5, 1] rfl (by decide)) rfl rfl hl.1 rfl (lv_room (Nat.le_of_ble_eq_true rfl)) dX10_judge_92 ⟨Nat.le_of_ble_eq_true rfl, Nat.le_of_ble_eq_true rfl⟩) hP hD hS hA [5, 1] [0, 2, 3, 4, 6, 7, 8, 9, 10, 11, 12] rfl rfl (by decide) (by decide) ?_
              clear hP hD hS
              intro r_69 scb_71 H locs w_70 hP hD hS
              replace hP : va_P D vwCl [(k8, .inr (2, [.ref k80, .ref k81])), (k01, .inl (cI, 40, .inl c01)), (k80, .inl (cI, 40, .inl c80)), (k81, .inl (cI, 40, .inl c81)), (k0, .inr (9, [.ref k00, .ref k01, .ref k02, .ref k03, .ref k04, .ref k05, .int c06, .int c07, .int c08])), (ka, .inr (6, [.ref ka0, .ref ka1, .ref ka2])), (ka0, .inl (cI, 4, .inl ca0)), (ka1, .inl (cI, 4, .inl ca1)), (ka2, .inl (cI, 144, .inl ca2)), (k05, .inr (3, [.ref k050, .int c051])), (k050, .inl (cI, 36, .inl c050)), (k, .inr (10, [.ref k0, .ref k1, .ref k2, .ref k3, .ref k4, .ref k5, .ref k6, .ref k7, .ref k8, .ref k9, .ref ka, .ref kb, .int cc])), (kb, .inl (cI, 6, .inl scb_71))] H := hP
              replace hD : va_D A [(k8, .inr (2, [.ref k80, .ref k81])), (k01, .inl (cI, 40, .inl c01)), (k80, .inl (cI, 40, .inl c80)), (k81, .inl (cI, 40, .inl c81)), (k0, .inr (9, [.ref k00, .ref k01, .ref k02, .ref k03, .ref k04, .ref k05, .int c06, .int c07, .int c08])), (ka, .inr (6, [.ref ka0, .ref ka1, .ref ka2])), (ka0, .inl (cI, 4, .inl ca0)), (ka1, .inl (cI, 4, .inl ca1)), (ka2, .inl (cI, 144, .inl ca2)), (k05, .inr (3, [.ref k050, .int c051])), (k050, .inl (cI, 36, .inl c050)), (k, .inr (10, [.ref k0, .ref k1, .ref k2, .ref k3, .ref k4, .ref k5, .ref k6, .ref k7, .ref k8, .ref k9, .ref ka, .ref kb, .int cc])), (kb, .inl (cI, 6, .inl scb_71))] := hD
              have hr_69 := w_70
              obtain rfl : r_69 = (-1000001) := hr_69.trans (by decide)
              exact hRet (scb_71, c80, c81) [11, 4, 0, 5, 12, 1, 9, 2, 3, 6, 7, 8, 10] (MTC.v (by omega) (by omega) h_37 (by omega) (jud_o (by omega))) hP hD (by decide) rfl hS rfl dX10_judge_95
            · refine lv_iload hx hb dX10_judge_73 (lv_at hl 5 rfl) ?_
              refine lv_aload_n hx hb dX10_judge_75 rfl (lv_at hl 1 rfl) ?_
              refine va_get (D := D) (ci := 10) (v := .ref k0) (C := RX10) (T := TX10) (N := 13) hx hb hT giX10 hown hK hP 5 rfl rfl 0 (by decide) (hT (Cond.fieldLink RX10 12 "DesertWire" "now" "LDesertWire$World;") mw_291) (fun _ h9 => h9) rfl dX10_judge_76 ?_
              refine va_get (D := D) (ci := 9) (v := .ref k05) (C := RX9) (T := TX9) (N := 9) hx hb hT giX9 hown hK hP 6 rfl rfl 5 (by decide) (hT (Cond.fieldLink RX10 193 "DesertWire$World" "parties" "LDesertWire$Parties;") mw_102) (fun _ h9 => h9) rfl dX10_judge_79 ?_
              refine lv_iload_n hx hb dX10_judge_82 rfl (lv_at hl 3 rfl) ?_
              refine lv_iconst (v := 0) hx hb dX10_judge_83 (by decide) ?_
              refine kJi (wr := [(k8, .inr (2, [.ref k80, .ref k81])), (kb, .inl (cI, 6, .inl cb)), (k01, .inl (cI, 40, .inl c01)), (k80, .inl (cI, 40, .inl c80)), (k81, .inl (cI, 40, .inl c81)), (k, .inr (10, [.ref k0, .ref k1, .ref k2, .ref k3, .ref k4, .ref k5, .ref k6, .ref k7, .ref k8, .ref k9, .ref ka, .ref kb, .int cc])), (k0, .inr (9, [.ref k00, .ref k01, .ref k02, .ref k03, .ref k04, .ref k05, .int c06, .int c07, .int c08])), (ka, .inr (6, [.ref ka0, .ref ka1, .ref ka2])), (ka0, .inl (cI, 4, .inl ca0)), (ka1, .inl (cI, 4, .inl ca1)), (ka2, .inl (cI, 144, .inl ca2))]) (va_runV (As := [.int a1, .int 0]) (rest := [.int a3]) ⟨hx, hb, hml, hown, hT⟩ (c_X3_getD0 l D cI aK aV k05 k050 H.size c051 c050 gx a1 0 (WR.kp pre0) (by first | omega | (simp only [zl_0]; first | done | omega) | decide | assumption | rfl) (by first | omega | (simp only [zl_0]; first | done | omega) | decide | assumption | rfl) (by first | omega | (simp only [zl_0]; first | done | omega) | decide | assumption | rfl)) (cwV 2 hT (gV_in mw_726 mw_723 mw_724 mw_725 mw_4) rfl rfl rfl (by decide +kernel) ⟨Nat.le_of_ble_eq_true rfl, Nat.le_of_ble_eq_true rfl⟩) (kRecvX (q0 := 11) (ci := 3) hK hP hD hN hXS hS hA rfl rfl [11, 12] rfl (by decide)) rfl rfl hl.1 rfl (lv_room (Nat.le_of_ble_eq_true rfl)) dX10_judge_84 ⟨Nat.le_of_ble_eq_true rfl, Nat.le_of_ble_eq_true rfl⟩) hP hD hS hA [11, 12] [0, 1, 2, 3, 4, 5, 6, 7, 8, 9, 10] rfl rfl (by decide) (by decide) ?_
              clear hP hD hS
              intro r_72 u_74 H locs w_73 hP hD hS
              replace hP : va_P D vwCl [(k8, .inr (2, [.ref k80, .ref k81])), (kb, .inl (cI, 6, .inl cb)), (k01, .inl (cI, 40, .inl c01)), (k80, .inl (cI, 40, .inl c80)), (k81, .inl (cI, 40, .inl c81)), (k, .inr (10, [.ref k0, .ref k1, .ref k2, .ref k3, .ref k4, .ref k5, .ref k6, .ref k7, .ref k8, .ref k9, .ref ka, .ref kb, .int cc])), (k0, .inr (9, [.ref k00, .ref k01, .ref k02, .ref k03, .ref k04, .ref k05, .int c06, .int c07, .int c08])), (ka, .inr (6, [.ref ka0, .ref ka1, .ref ka2])), (ka0, .inl (cI, 4, .inl ca0)), (ka1, .inl (cI, 4, .inl ca1)), (ka2, .inl (cI, 144, .inl ca2)), (k05, .inr (3, [.ref k050, .int c051])), (k050, .inl (cI, 36, .inl c050))] H := hP
              replace hD : va_D A [(k8, .inr (2, [.ref k80, .ref k81])), (kb, .inl (cI, 6, .inl cb)), (k01, .inl (cI, 40, .inl c01)), (k80, .inl (cI, 40, .inl c80)), (k81, .inl (cI, 40, .inl c81)), (k, .inr (10, [.ref k0, .ref k1, .ref k2, .ref k3, .ref k4, .ref k5, .ref k6, .ref k7, .ref k8, .ref k9, .ref ka, .ref kb, .int cc])), (k0, .inr (9, [.ref k00, .ref k01, .ref k02, .ref k03, .ref k04, .ref k05, .int c06, .int c07, .int c08])), (ka, .inr (6, [.ref ka0, .ref ka1, .ref ka2])), (ka0, .inl (cI, 4, .inl ca0)), (ka1, .inl (cI, 4, .inl ca1)), (ka2, .inl (cI, 144, .inl ca2)), (k05, .inr (3, [.ref k050, .int c051])), (k050, .inl (cI, 36, .inl c050))] := hD
              have h_75 := w_73
              have h_75 : r_72 = pW gx a1 0 := h_75
              have t_76 : r_72.toInt = (pW gx a1 0).toInt := by rw [h_75]
              have b_77 : 0 ≤ r_72.toInt ∧ r_72.toInt ≤ 39 := by rw [h_75]; exact SB.p0 (And.left pre1) (by omega) (by omega)
              have lo_r_72 := k_lo r_72
              have hi_r_72 := k_hi r_72
              refine b_icmp_lt hx hb rfl rfl (tgt := 96) dX10_judge_87 (by decide) (fun c_78 => ?_) (fun c_78 => ?_)
              · refine lv_aload_n hx hb dX10_judge_96 rfl (lv_at hl 1 rfl) ?_
                refine va_get (D := D) (ci := 10) (v := .ref k8) (C := RX10) (T := TX10) (N := 13) hx hb hT giX10 hown hK hP 5 rfl rfl 8 (by decide) (hT (Cond.fieldLink RX10 56 "DesertWire" "meetings" "LDesertWire$Meetings;") mw_299) (fun _ h9 => h9) rfl dX10_judge_97 ?_
                refine lv_aload_n hx hb dX10_judge_100 rfl (lv_at hl 1 rfl) ?_
                refine va_get (D := D) (ci := 10) (v := .ref k0) (C := RX10) (T := TX10) (N := 13) hx hb hT giX10 hown hK hP 5 rfl rfl 0 (by decide) (hT (Cond.fieldLink RX10 12 "DesertWire" "now" "LDesertWire$World;") mw_291) (fun _ h9 => h9) rfl dX10_judge_101 ?_
                refine lv_aload_n hx hb dX10_judge_104 rfl (lv_at hl 1 rfl) ?_
                refine va_get (D := D) (ci := 10) (v := .ref ka) (C := RX10) (T := TX10) (N := 13) hx hb hT giX10 hown hK hP 5 rfl rfl 10 (by decide) (hT (Cond.fieldLink RX10 70 "DesertWire" "sheets" "LDesertWire$Sheets;") mw_301) (fun _ h9 => h9) rfl dX10_judge_105 ?_
                refine lv_iload_n hx hb dX10_judge_108 rfl (lv_at hl 4 rfl) ?_
                refine lv_iload_n hx hb dX10_judge_109 rfl (lv_at hl 2 rfl) ?_
                refine lv_iload_n hx hb dX10_judge_110 rfl (lv_at hl 3 rfl) ?_
                refine kJv (wr := [(kb, .inl (cI, 6, .inl cb)), (k, .inr (10, [.ref k0, .ref k1, .ref k2, .ref k3, .ref k4, .ref k5, .ref k6, .ref k7, .ref k8, .ref k9, .ref ka, .ref kb, .int cc])), (ka0, .inl (cI, 4, .inl ca0))]) (va_runV (As := [.ref k0, .ref ka, .int a2, .int a0, .int a1]) (rest := []) ⟨hx, hb, hml, hown, hT⟩ (c_X2_weighD l D cI aK aV k8 k0 ka k80 k81 k00 k01 k02 k03 k04 k05 k050 ka0 ka1 ka2 H.size c80 c81 c06 c07 c08 c01 c051 c050 ca1 ca2 c00 c02 c03 c040 c041 c042 c043 c044 c045 c046 c047 c048 c049 gx a2 a0 a1 pre0 (And.left pre1) (by first | omega | decide | assumption | rfl) (by first | omega | decide | assumption | rfl) (by first | omega | decide | assumption | rfl) (by first | omega | decide | assumption | rfl) (by first | omega | decide | assumption | rfl) (by first | omega | decide | assumption | rfl) (by first | omega | decide | assumption | rfl) (by first | omega | decide | assumption | rfl) (by first | omega | decide | assumption | rfl) (by first | omega | decide | assumption | rfl) (by first | omega | decide | assumption | rfl) (by first | omega | decide | assumption | rfl) (by first | omega | decide | assumption | rfl) h_37.2.2 (by first | omega | decide | assumption | rfl) (by first | omega | decide | assumption | rfl) h_37.1 h_37.2.1) (cwV 5 hT (gV_in mw_931 mw_928 mw_929 mw_930 mw_9) rfl rfl rfl (by decide +kernel) ⟨Nat.le_of_ble_eq_true rfl, Nat.le_of_ble_eq_true rfl⟩) (kRecvX (q0 := 0) (ci := 2) hK hP hD hN hXS hS hA rfl rfl [0, 3, 4, 6, 2, 11, 12, 7, 9, 10] rfl (by decide)) rfl rfl hl.1 rfl (lv_room (Nat.le_of_ble_eq_true rfl)) dX10_judge_111 ⟨Nat.le_of_ble_eq_true rfl, Nat.le_of_ble_eq_true rfl⟩) hP hD hS hA [0, 3, 4, 6, 2, 11, 12, 7, 9, 10] [1, 5, 8] rfl rfl (by decide) (by decide) ?_
                clear hP hD hS
                intro u_83 H locs w_80 hP hD hS
                obtain ⟨sc0_81, sc1_82⟩ := u_83
                replace hP : va_P D vwCl [(kb, .inl (cI, 6, .inl cb)), (k, .inr (10, [.ref k0, .ref k1, .ref k2, .ref k3, .ref k4, .ref k5, .ref k6, .ref k7, .ref k8, .ref k9, .ref ka, .ref kb, .int cc])), (ka0, .inl (cI, 4, .inl ca0)), (k8, .inr (2, [.ref k80, .ref k81])), (k80, .inl (cI, 40, .inl sc0_81)), (k81, .inl (cI, 40, .inl sc1_82)), (k0, .inr (9, [.ref k00, .ref k01, .ref k02, .ref k03, .ref k04, .ref k05, .int c06, .int c07, .int c08])), (k01, .inl (cI, 40, .inl c01)), (k05, .inr (3, [.ref k050, .int c051])), (k050, .inl (cI, 36, .inl c050)), (ka, .inr (6, [.ref ka0, .ref ka1, .ref ka2])), (ka1, .inl (cI, 4, .inl ca1)), (ka2, .inl (cI, 144, .inl ca2))] H := hP
                replace hD : va_D A [(kb, .inl (cI, 6, .inl cb)), (k, .inr (10, [.ref k0, .ref k1, .ref k2, .ref k3, .ref k4, .ref k5, .ref k6, .ref k7, .ref k8, .ref k9, .ref ka, .ref kb, .int cc])), (ka0, .inl (cI, 4, .inl ca0)), (k8, .inr (2, [.ref k80, .ref k81])), (k80, .inl (cI, 40, .inl sc0_81)), (k81, .inl (cI, 40, .inl sc1_82)), (k0, .inr (9, [.ref k00, .ref k01, .ref k02, .ref k03, .ref k04, .ref k05, .int c06, .int c07, .int c08])), (k01, .inl (cI, 40, .inl c01)), (k05, .inr (3, [.ref k050, .int c051])), (k050, .inl (cI, 36, .inl c050)), (ka, .inr (6, [.ref ka0, .ref ka1, .ref ka2])), (ka1, .inl (cI, 4, .inl ca1)), (ka2, .inl (cI, 144, .inl ca2))] := hD
                have h_84 := w_80
                have h_84 : MWF gx ca1 ca2 a2 a0 a1 sc1_82 := h_84
                refine lv_aload_n hx hb dX10_judge_114 rfl (lv_at hl 1 rfl) ?_
                refine va_get (D := D) (ci := 10) (v := .ref k8) (C := RX10) (T := TX10) (N := 13) hx hb hT giX10 hown hK hP 1 rfl rfl 8 (by decide) (hT (Cond.fieldLink RX10 56 "DesertWire" "meetings" "LDesertWire$Meetings;") mw_299) (fun _ h9 => h9) rfl dX10_judge_115 ?_
                refine lv_iload hx hb dX10_judge_118 (lv_at hl 5 rfl) ?_
                refine kJi (wr := [(kb, .inl (cI, 6, .inl cb)), (k, .inr (10, [.ref k0, .ref k1, .ref k2, .ref k3, .ref k4, .ref k5, .ref k6, .ref k7, .ref k8, .ref k9, .ref ka, .ref kb, .int cc])), (ka0, .inl (cI, 4, .inl ca0)), (k80, .inl (cI, 40, .inl sc0_81)), (k0, .inr (9, [.ref k00, .ref k01, .ref k02, .ref k03, .ref k04, .ref k05, .int c06, .int c07, .int c08])), (k01, .inl (cI, 40, .inl c01)), (k05, .inr (3, [.ref k050, .int c051])), (k050, .inl (cI, 36, .inl c050)), (ka, .inr (6, [.ref ka0, .ref ka1, .ref ka2])), (ka1, .inl (cI, 4, .inl ca1)), (ka2, .inl (cI, 144, .inl ca2))]) (va_runV (As := [.int a3]) (rest := []) ⟨hx, hb, hml, hown, hT⟩ (c_X2_worstAtD l D cI aK aV k8 k80 k81 H.size sc1_82 a3) (cwV 1 hT (gV_in mw_954 mw_955 mw_952 mw_953 mw_9) rfl rfl rfl (by decide +kernel) ⟨Nat.le_of_ble_eq_true rfl, Nat.le_of_ble_eq_true rfl⟩) (kRecvX (q0 := 3) (ci := 2) hK hP hD hN hXS hS hA rfl rfl [3, 5] rfl (by decide)) rfl rfl hl.1 rfl (lv_room (Nat.le_of_ble_eq_true rfl)) dX10_judge_120 ⟨Nat.le_of_ble_eq_true rfl, Nat.le_of_ble_eq_true rfl⟩) hP hD hS hA [3, 5] [0, 1, 2, 4, 6, 7, 8, 9, 10, 11, 12] rfl rfl (by decide) (by decide) ?_
                clear hP hD hS
                intro r_85 u_87 H locs w_86 hP hD hS
                replace hP : va_P D vwCl [(kb, .inl (cI, 6, .inl cb)), (k, .inr (10, [.ref k0, .ref k1, .ref k2, .ref k3, .ref k4, .ref k5, .ref k6, .ref k7, .ref k8, .ref k9, .ref ka, .ref kb, .int cc])), (ka0, .inl (cI, 4, .inl ca0)), (k80, .inl (cI, 40, .inl sc0_81)), (k0, .inr (9, [.ref k00, .ref k01, .ref k02, .ref k03, .ref k04, .ref k05, .int c06, .int c07, .int c08])), (k01, .inl (cI, 40, .inl c01)), (k05, .inr (3, [.ref k050, .int c051])), (k050, .inl (cI, 36, .inl c050)), (ka, .inr (6, [.ref ka0, .ref ka1, .ref ka2])), (ka1, .inl (cI, 4, .inl ca1)), (ka2, .inl (cI, 144, .inl ca2)), (k8, .inr (2, [.ref k80, .ref k81])), (k81, .inl (cI, 40, .inl sc1_82))] H := hP
                replace hD : va_D A [(kb, .inl (cI, 6, .inl cb)), (k, .inr (10, [.ref k0, .ref k1, .ref k2, .ref k3, .ref k4, .ref k5, .ref k6, .ref k7, .ref k8, .ref k9, .ref ka, .ref kb, .int cc])), (ka0, .inl (cI, 4, .inl ca0)), (k80, .inl (cI, 40, .inl sc0_81)), (k0, .inr (9, [.ref k00, .ref k01, .ref k02, .ref k03, .ref k04, .ref k05, .int c06, .int c07, .int c08])), (k01, .inl (cI, 40, .inl c01)), (k05, .inr (3, [.ref k050, .int c051])), (k050, .inl (cI, 36, .inl c050)), (ka, .inr (6, [.ref ka0, .ref ka1, .ref ka2])), (ka1, .inl (cI, 4, .inl ca1)), (ka2, .inl (cI, 144, .inl ca2)), (k8, .inr (2, [.ref k80, .ref k81])), (k81, .inl (cI, 40, .inl sc1_82))] := hD
                rcases w_86 with ⟨h_88, h_89, h_90⟩ | ⟨hr_85, h_91⟩
                · have h_88 : 0 ≤ a3.toInt := h_88
                  have h_89 : a3.toInt ≤ 39 := h_89
                  have h_90 : r_85 = sc1_82 a3.toNatClampNeg := h_90
                  have t_92 : r_85.toInt = (sc1_82 a3.toNatClampNeg).toInt := by rw [h_90]
                  have lo_r_85 := k_lo r_85
                  have hi_r_85 := k_hi r_85
                  refine lv_istore (lv' := [(7, .int r_85), (6, .int 0), (0, .ref k), (1, .int a0), (2, .int a1), (3, .int a2), (4, .int a3), (5, .int a4)]) hx hb dX10_judge_123 hl (by decide) rfl ?_
                  clear hl
                  intro ls hl
                  refine lv_iload hx hb dX10_judge_125 (lv_at hl 0 rfl) ?_
                  refine lv_iload hx hb dX10_judge_127 (lv_at hl 7 rfl) ?_
                  refine b_icmp_le hx hb rfl rfl (tgt := 136) dX10_judge_129 (by decide) (fun c_93 => ?_) (fun c_93 => ?_)
                  · refine lv_iload hx hb dX10_judge_136 (lv_at hl 0 rfl) ?_
                    exact hRet (cb, sc0_81, sc1_82) [1, 4, 11, 8, 0, 5, 6, 3, 12, 2, 9, 10, 7] (MTC.v (by omega) (by omega) h_37 (by omega) (jud_y ⟨by omega, by omega⟩ (h_90.trans (h_84 a3.toInt (by omega) (by omega))) (by omega))) hP hD (by decide) rfl hS rfl dX10_judge_138
                  · refine lv_iconst (v := (-1)) hx hb dX10_judge_132 (by decide) ?_
                    refine lv_goto (tgt := 138) hx hb dX10_judge_133 (by decide) ?_
                    exact hRet (cb, sc0_81, sc1_82) [1, 4, 11, 8, 0, 5, 6, 3, 12, 2, 9, 10, 7] (MTC.v (by omega) (by omega) h_37 (by omega) (jud_n ⟨by omega, by omega⟩ (h_90.trans (h_84 a3.toInt (by omega) (by omega))) (by omega))) hP hD (by decide) rfl hS rfl dX10_judge_138
                · exfalso; omega
              · refine lv_aload_n hx hb dX10_judge_90 rfl (lv_at hl 1 rfl) ?_
                refine lv_iconst (v := 1) hx hb dX10_judge_91 (by decide) ?_
                refine kJi (wr := [(k8, .inr (2, [.ref k80, .ref k81])), (k01, .inl (cI, 40, .inl c01)), (k80, .inl (cI, 40, .inl c80)), (k81, .inl (cI, 40, .inl c81)), (k0, .inr (9, [.ref k00, .ref k01, .ref k02, .ref k03, .ref k04, .ref k05, .int c06, .int c07, .int c08])), (ka, .inr (6, [.ref ka0, .ref ka1, .ref ka2])), (ka0, .inl (cI, 4, .inl ca0)), (ka1, .inl (cI, 4, .inl ca1)), (ka2, .inl (cI, 144, .inl ca2)), (k05, .inr (3, [.ref k050, .int c051])), (k050, .inl (cI, 36, .inl c050))]) (va_runV (As := [.int 1]) (rest := []) ⟨hx, hb, hml, hown, hT⟩ (c_X10_findingG l D cI aK aV k k0 k1 k2 k3 k4 k5 k6 k7 k8 k9 ka kb H.size cc cb 1) (cwV 1 hT (gV_in mw_338 mw_335 mw_337 mw_p1_0 mw_1) rfl rfl rfl (by decide +kernel) ⟨Nat.le_of_ble_eq_true rfl, Nat.le_of_ble_eq_true rfl⟩) (kRecvX (q0 := 5) (ci := 10) hK hP hD hN hXS hS hA rfl rfl [5, 1] rfl (by decide)) rfl rfl hl.1 rfl (lv_room (Nat.le_of_ble_eq_true rfl)) dX10_judge_92 ⟨Nat.le_of_ble_eq_true rfl, Nat.le_of_ble_eq_true rfl⟩) hP hD hS hA [5, 1] [0, 2, 3, 4, 6, 7, 8, 9, 10, 11, 12] rfl rfl (by decide) (by decide) ?_
                clear hP hD hS
                intro r_94 scb_96 H locs w_95 hP hD hS
                replace hP : va_P D vwCl [(k8, .inr (2, [.ref k80, .ref k81])), (k01, .inl (cI, 40, .inl c01)), (k80, .inl (cI, 40, .inl c80)), (k81, .inl (cI, 40, .inl c81)), (k0, .inr (9, [.ref k00, .ref k01, .ref k02, .ref k03, .ref k04, .ref k05, .int c06, .int c07, .int c08])), (ka, .inr (6, [.ref ka0, .ref ka1, .ref ka2])), (ka0, .inl (cI, 4, .inl ca0)), (ka1, .inl (cI, 4, .inl ca1)), (ka2, .inl (cI, 144, .inl ca2)), (k05, .inr (3, [.ref k050, .int c051])), (k050, .inl (cI, 36, .inl c050)), (k, .inr (10, [.ref k0, .ref k1, .ref k2, .ref k3, .ref k4, .ref k5, .ref k6, .ref k7, .ref k8, .ref k9, .ref ka, .ref kb, .int cc])), (kb, .inl (cI, 6, .inl scb_96))] H := hP
                replace hD : va_D A [(k8, .inr (2, [.ref k80, .ref k81])), (k01, .inl (cI, 40, .inl c01)), (k80, .inl (cI, 40, .inl c80)), (k81, .inl (cI, 40, .inl c81)), (k0, .inr (9, [.ref k00, .ref k01, .ref k02, .ref k03, .ref k04, .ref k05, .int c06, .int c07, .int c08])), (ka, .inr (6, [.ref ka0, .ref ka1, .ref ka2])), (ka0, .inl (cI, 4, .inl ca0)), (ka1, .inl (cI, 4, .inl ca1)), (ka2, .inl (cI, 144, .inl ca2)), (k05, .inr (3, [.ref k050, .int c051])), (k050, .inl (cI, 36, .inl c050)), (k, .inr (10, [.ref k0, .ref k1, .ref k2, .ref k3, .ref k4, .ref k5, .ref k6, .ref k7, .ref k8, .ref k9, .ref ka, .ref kb, .int cc])), (kb, .inl (cI, 6, .inl scb_96))] := hD
                have hr_94 := w_95
                obtain rfl : r_94 = (-1000001) := hr_94.trans (by decide)
                exact hRet (scb_96, c80, c81) [11, 4, 0, 5, 12, 1, 9, 2, 3, 6, 7, 8, 10] (MTC.v (by omega) (by omega) h_37 (by omega) (jud_o (by omega))) hP hD (by decide) rfl hS rfl dX10_judge_95
        · refine lv_aload_n hx hb dX10_judge_29 rfl (lv_at hl 0 rfl) ?_
          refine lv_iconst (v := 1) hx hb dX10_judge_30 (by decide) ?_
          refine kJi (wr := [(k8, .inr (2, [.ref k80, .ref k81])), (ka, .inr (6, [.ref ka0, .ref ka1, .ref ka2])), (k01, .inl (cI, 40, .inl c01)), (k80, .inl (cI, 40, .inl c80)), (k81, .inl (cI, 40, .inl c81)), (ka0, .inl (cI, 4, .inl ca0)), (ka1, .inl (cI, 4, .inl ca1)), (ka2, .inl (cI, 144, .inl ca2)), (k050, .inl (cI, 36, .inl c050)), (k0, .inr (9, [.ref k00, .ref k01, .ref k02, .ref k03, .ref k04, .ref k05, .int c06, .int c07, .int c08])), (k05, .inr (3, [.ref k050, .int c051]))]) (va_runV (As := [.int 1]) (rest := []) ⟨hx, hb, hml, hown, hT⟩ (c_X10_findingG l D cI aK aV k k0 k1 k2 k3 k4 k5 k6 k7 k8 k9 ka kb H.size cc cb 1) (cwV 1 hT (gV_in mw_338 mw_335 mw_337 mw_p1_0 mw_1) rfl rfl rfl (by decide +kernel) ⟨Nat.le_of_ble_eq_true rfl, Nat.le_of_ble_eq_true rfl⟩) (kRecvX (q0 := 10) (ci := 10) hK hP hD hN hXS hS hA rfl rfl [10, 2] rfl (by decide)) rfl rfl hl.1 rfl (lv_room (Nat.le_of_ble_eq_true rfl)) dX10_judge_31 ⟨Nat.le_of_ble_eq_true rfl, Nat.le_of_ble_eq_true rfl⟩) hP hD hS hA [10, 2] [0, 1, 3, 4, 5, 6, 7, 8, 9, 11, 12] rfl rfl (by decide) (by decide) ?_
          clear hP hD hS
          intro r_97 scb_99 H locs w_98 hP hD hS
          replace hP : va_P D vwCl [(k8, .inr (2, [.ref k80, .ref k81])), (ka, .inr (6, [.ref ka0, .ref ka1, .ref ka2])), (k01, .inl (cI, 40, .inl c01)), (k80, .inl (cI, 40, .inl c80)), (k81, .inl (cI, 40, .inl c81)), (ka0, .inl (cI, 4, .inl ca0)), (ka1, .inl (cI, 4, .inl ca1)), (ka2, .inl (cI, 144, .inl ca2)), (k050, .inl (cI, 36, .inl c050)), (k0, .inr (9, [.ref k00, .ref k01, .ref k02, .ref k03, .ref k04, .ref k05, .int c06, .int c07, .int c08])), (k05, .inr (3, [.ref k050, .int c051])), (k, .inr (10, [.ref k0, .ref k1, .ref k2, .ref k3, .ref k4, .ref k5, .ref k6, .ref k7, .ref k8, .ref k9, .ref ka, .ref kb, .int cc])), (kb, .inl (cI, 6, .inl scb_99))] H := hP
          replace hD : va_D A [(k8, .inr (2, [.ref k80, .ref k81])), (ka, .inr (6, [.ref ka0, .ref ka1, .ref ka2])), (k01, .inl (cI, 40, .inl c01)), (k80, .inl (cI, 40, .inl c80)), (k81, .inl (cI, 40, .inl c81)), (ka0, .inl (cI, 4, .inl ca0)), (ka1, .inl (cI, 4, .inl ca1)), (ka2, .inl (cI, 144, .inl ca2)), (k050, .inl (cI, 36, .inl c050)), (k0, .inr (9, [.ref k00, .ref k01, .ref k02, .ref k03, .ref k04, .ref k05, .int c06, .int c07, .int c08])), (k05, .inr (3, [.ref k050, .int c051])), (k, .inr (10, [.ref k0, .ref k1, .ref k2, .ref k3, .ref k4, .ref k5, .ref k6, .ref k7, .ref k8, .ref k9, .ref ka, .ref kb, .int cc])), (kb, .inl (cI, 6, .inl scb_99))] := hD
          have hr_97 := w_98
          obtain rfl : r_97 = (-1000001) := hr_97.trans (by decide)
          exact hRet (scb_99, c80, c81) [11, 9, 0, 1, 12, 2, 10, 3, 4, 5, 6, 7, 8] (MTC.b (by omega)) hP hD (by decide) rfl hS rfl dX10_judge_34
    · have h_20 : a2.toInt < 0 ∨ 3 < a2.toInt := h_20
      obtain rfl : r_15 = 0 := hr_15.trans (by decide)
      refine b_if_eq hx hb zl_0 (tgt := 29) dX10_judge_13 (by decide) (fun c_100 => ?_) (fun c_100 => by exfalso; omega)
      refine lv_aload_n hx hb dX10_judge_29 rfl (lv_at hl 0 rfl) ?_
      refine lv_iconst (v := 1) hx hb dX10_judge_30 (by decide) ?_
      refine kJi (wr := [(k8, .inr (2, [.ref k80, .ref k81])), (ka, .inr (6, [.ref ka0, .ref ka1, .ref ka2])), (k01, .inl (cI, 40, .inl c01)), (k80, .inl (cI, 40, .inl c80)), (k81, .inl (cI, 40, .inl c81)), (ka0, .inl (cI, 4, .inl ca0)), (ka1, .inl (cI, 4, .inl ca1)), (ka2, .inl (cI, 144, .inl ca2)), (k050, .inl (cI, 36, .inl c050)), (k0, .inr (9, [.ref k00, .ref k01, .ref k02, .ref k03, .ref k04, .ref k05, .int c06, .int c07, .int c08])), (k05, .inr (3, [.ref k050, .int c051]))]) (va_runV (As := [.int 1]) (rest := []) ⟨hx, hb, hml, hown, hT⟩ (c_X10_findingG l D cI aK aV k k0 k1 k2 k3 k4 k5 k6 k7 k8 k9 ka kb H.size cc cb 1) (cwV 1 hT (gV_in mw_338 mw_335 mw_337 mw_p1_0 mw_1) rfl rfl rfl (by decide +kernel) ⟨Nat.le_of_ble_eq_true rfl, Nat.le_of_ble_eq_true rfl⟩) (kRecvX (q0 := 10) (ci := 10) hK hP hD hN hXS hS hA rfl rfl [10, 2] rfl (by decide)) rfl rfl hl.1 rfl (lv_room (Nat.le_of_ble_eq_true rfl)) dX10_judge_31 ⟨Nat.le_of_ble_eq_true rfl, Nat.le_of_ble_eq_true rfl⟩) hP hD hS hA [10, 2] [0, 1, 3, 4, 5, 6, 7, 8, 9, 11, 12] rfl rfl (by decide) (by decide) ?_
      clear hP hD hS
      intro r_101 scb_103 H locs w_102 hP hD hS
      replace hP : va_P D vwCl [(k8, .inr (2, [.ref k80, .ref k81])), (ka, .inr (6, [.ref ka0, .ref ka1, .ref ka2])), (k01, .inl (cI, 40, .inl c01)), (k80, .inl (cI, 40, .inl c80)), (k81, .inl (cI, 40, .inl c81)), (ka0, .inl (cI, 4, .inl ca0)), (ka1, .inl (cI, 4, .inl ca1)), (ka2, .inl (cI, 144, .inl ca2)), (k050, .inl (cI, 36, .inl c050)), (k0, .inr (9, [.ref k00, .ref k01, .ref k02, .ref k03, .ref k04, .ref k05, .int c06, .int c07, .int c08])), (k05, .inr (3, [.ref k050, .int c051])), (k, .inr (10, [.ref k0, .ref k1, .ref k2, .ref k3, .ref k4, .ref k5, .ref k6, .ref k7, .ref k8, .ref k9, .ref ka, .ref kb, .int cc])), (kb, .inl (cI, 6, .inl scb_103))] H := hP
      replace hD : va_D A [(k8, .inr (2, [.ref k80, .ref k81])), (ka, .inr (6, [.ref ka0, .ref ka1, .ref ka2])), (k01, .inl (cI, 40, .inl c01)), (k80, .inl (cI, 40, .inl c80)), (k81, .inl (cI, 40, .inl c81)), (ka0, .inl (cI, 4, .inl ca0)), (ka1, .inl (cI, 4, .inl ca1)), (ka2, .inl (cI, 144, .inl ca2)), (k050, .inl (cI, 36, .inl c050)), (k0, .inr (9, [.ref k00, .ref k01, .ref k02, .ref k03, .ref k04, .ref k05, .int c06, .int c07, .int c08])), (k05, .inr (3, [.ref k050, .int c051])), (k, .inr (10, [.ref k0, .ref k1, .ref k2, .ref k3, .ref k4, .ref k5, .ref k6, .ref k7, .ref k8, .ref k9, .ref ka, .ref kb, .int cc])), (kb, .inl (cI, 6, .inl scb_103))] := hD
      have hr_101 := w_102
      obtain rfl : r_101 = (-1000001) := hr_101.trans (by decide)
      exact hRet (scb_103, c80, c81) [11, 9, 0, 1, 12, 2, 10, 3, 4, 5, 6, 7, 8] (MTC.b (by omega)) hP hD (by decide) rfl hS rfl dX10_judge_34
  · have h_13 : a0.toInt < 0 ∨ (gx 2).toInt ≤ a0.toInt ∨ a1.toInt < 0 ∨ (gx 2).toInt ≤ a1.toInt := h_13
    obtain rfl : r_6 = 0 := hr_6.trans (by decide)
    refine b_if_eq hx hb zl_0 (tgt := 29) dX10_judge_6 (by decide) (fun c_104 => ?_) (fun c_104 => by exfalso; omega)
    refine lv_aload_n hx hb dX10_judge_29 rfl (lv_at hl 0 rfl) ?_
    refine lv_iconst (v := 1) hx hb dX10_judge_30 (by decide) ?_
    refine kJi (wr := [(k8, .inr (2, [.ref k80, .ref k81])), (ka, .inr (6, [.ref ka0, .ref ka1, .ref ka2])), (k01, .inl (cI, 40, .inl c01)), (k80, .inl (cI, 40, .inl c80)), (k81, .inl (cI, 40, .inl c81)), (ka0, .inl (cI, 4, .inl ca0)), (ka1, .inl (cI, 4, .inl ca1)), (ka2, .inl (cI, 144, .inl ca2)), (k050, .inl (cI, 36, .inl c050)), (k0, .inr (9, [.ref k00, .ref k01, .ref k02, .ref k03, .ref k04, .ref k05, .int c06, .int c07, .int c08])), (k05, .inr (3, [.ref k050, .int c051]))]) (va_runV (As := [.int 1]) (rest := []) ⟨hx, hb, hml, hown, hT⟩ (c_X10_findingG l D cI aK aV k k0 k1 k2 k3 k4 k5 k6 k7 k8 k9 ka kb H.size cc cb 1) (cwV 1 hT (gV_in mw_338 mw_335 mw_337 mw_p1_0 mw_1) rfl rfl rfl (by decide +kernel) ⟨Nat.le_of_ble_eq_true rfl, Nat.le_of_ble_eq_true rfl⟩) (kRecvX (q0 := 10) (ci := 10) hK hP hD hN hXS hS hA rfl rfl [10, 2] rfl (by decide)) rfl rfl hl.1 rfl (lv_room (Nat.le_of_ble_eq_true rfl)) dX10_judge_31 ⟨Nat.le_of_ble_eq_true rfl, Nat.le_of_ble_eq_true rfl⟩) hP hD hS hA [10, 2] [0, 1, 3, 4, 5, 6, 7, 8, 9, 11, 12] rfl rfl (by decide) (by decide) ?_
    clear hP hD hS
    intro r_105 scb_107 H locs w_106 hP hD hS
    replace hP : va_P D vwCl [(k8, .inr (2, [.ref k80, .ref k81])), (ka, .inr (6, [.ref ka0, .ref ka1, .ref ka2])), (k01, .inl (cI, 40, .inl c01)), (k80, .inl (cI, 40, .inl c80)), (k81, .inl (cI, 40, .inl c81)), (ka0, .inl (cI, 4, .inl ca0)), (ka1, .inl (cI, 4, .inl ca1)), (ka2, .inl (cI, 144, .inl ca2)), (k050, .inl (cI, 36, .inl c050)), (k0, .inr (9, [.ref k00, .ref k01, .ref k02, .ref k03, .ref k04, .ref k05, .int c06, .int c07, .int c08])), (k05, .inr (3, [.ref k050, .int c051])), (k, .inr (10, [.ref k0, .ref k1, .ref k2, .ref k3, .ref k4, .ref k5, .ref k6, .ref k7, .ref k8, .ref k9, .ref ka, .ref kb, .int cc])), (kb, .inl (cI, 6, .inl scb_107))] H := hP
    replace hD : va_D A [(k8, .inr (2, [.ref k80, .ref k81])), (ka, .inr (6, [.ref ka0, .ref ka1, .ref ka2])), (k01, .inl (cI, 40, .inl c01)), (k80, .inl (cI, 40, .inl c80)), (k81, .inl (cI, 40, .inl c81)), (ka0, .inl (cI, 4, .inl ca0)), (ka1, .inl (cI, 4, .inl ca1)), (ka2, .inl (cI, 144, .inl ca2)), (k050, .inl (cI, 36, .inl c050)), (k0, .inr (9, [.ref k00, .ref k01, .ref k02, .ref k03, .ref k04, .ref k05, .int c06, .int c07, .int c08])), (k05, .inr (3, [.ref k050, .int c051])), (k, .inr (10, [.ref k0, .ref k1, .ref k2, .ref k3, .ref k4, .ref k5, .ref k6, .ref k7, .ref k8, .ref k9, .ref ka, .ref kb, .int cc])), (kb, .inl (cI, 6, .inl scb_107))] := hD
    have hr_105 := w_106
    obtain rfl : r_105 = (-1000001) := hr_105.trans (by decide)
    exact hRet (scb_107, c80, c81) [11, 9, 0, 1, 12, 2, 10, 3, 4, 5, 6, 7, 8] (MTC.b (by omega)) hP hD (by decide) rfl hS rfl dX10_judge_34

set_option maxHeartbeats 4000000 in
set_option maxRecDepth 100000 in
theorem c_X1_bestFromD (l : Launch) (D : va_G) (cI : ClassId) (aK aV : Nat → Nat) (k k0 k1 : Nat) (sz : Nat) (c2 : Int32) (c3 : Int32) (c0 : Nat → Int32) (a0 : Int32) (a1 : Int32) (pre0 : 0 ≤ a0.toInt) (pre1 : a0.toInt ≤ 8) (pre2 : 0 ≤ a1.toInt) (pre3 : a1.toInt ≤ 600) : Met l yX1_bestFrom (gW yX1_bestFrom cX1_bestFrom 4 (some .int)) ({ frames := 1, cells := 0, slots := 0, locals := 22 } : Room) (kPreX D cI aK aV [.ref k, .int a0, .int a1] [(k, .inr (1, [.ref k0, .ref k1, .int c2, .int c3])), (k0, .inl (cI, 5409, .inl c0))] sz) (va_Qi (fun (r : Int32) (u : Unit) => r = c0 (601 * a0.toInt.toNat + a1.toInt.toNat)) (fun u t => kWd D cI (va_A [(k, .inr (1, [.ref k0, .ref k1, .int c2, .int c3])), (k0, .inl (cI, 5409, .inl c0))] sz) [(k, .inr (1, [.ref k0, .ref k1, .int c2, .int c3])), (k0, .inl (cI, 5409, .inl c0))] t) (va_A [(k, .inr (1, [.ref k0, .ref k1, .int c2, .int c3])), (k0, .inl (cI, 5409, .inl c0))] sz)) 0 0 (va_A [(k, .inr (1, [.ref k0, .ref k1, .int c2, .int c3])), (k0, .inl (cI, 5409, .inl c0))] sz) := by
  refine kMetIX (own := RX1) (by decide) rfl (Nat.le_of_ble_eq_true rfl) ?_
  intro p e s m args below meth c hx hb hT hown hname hml A Q hK hP hD hS hA hN hXS hRet ls hl
  have hl : lv_has ls 4 [(0, .ref k), (1, .int a0), (2, .int a1)] := hl
  have lo_a0 := k_lo a0
  have hi_a0 := k_hi a0
  have lo_a1 := k_lo a1
  have hi_a1 := k_hi a1
  refine lv_iload_n hx hb dX1_bestFrom_0 rfl (lv_at hl 1 rfl) ?_
  refine lv_iconst (v := 0) hx hb dX1_bestFrom_1 (by decide) ?_
  refine lv_bipush (v := 8) hx hb dX1_bestFrom_2 (by decide) ?_
  refine kJi (wr := [(k, .inr (1, [.ref k0, .ref k1, .int c2, .int c3])), (k0, .inl (cI, 5409, .inl c0))]) (va_runSN (As := [.int a0, .int 0, .int 8]) (rest := []) ⟨hx, hb, hml, hown, hT⟩ (c_X10_isWithinG l D cI aK aV s.heap.size a0 0 8) ⟨va_cnB 3 hT (gW_in mw_691) rfl rfl rfl (hN _ mw_902) (hT _ mw_1) (by decide +kernel) ⟨Nat.le_of_ble_eq_true rfl, Nat.le_of_ble_eq_true rfl⟩, hT _ mw_690, trivial⟩ (kStatX hK hP hD hN hXS hS hA [] rfl (by decide)) rfl rfl hl.1 rfl (lv_room (Nat.le_of_ble_eq_true rfl)) dX1_bestFrom_4 ⟨Nat.le_of_ble_eq_true rfl, Nat.le_of_ble_eq_true rfl⟩) hP hD hS hA [] [0, 1] rfl rfl (by decide) (by decide) ?_
  clear hP hD hS
  intro r_1 u_3 H locs w_2 hP hD hS
  replace hP : va_P D vwCl [(k, .inr (1, [.ref k0, .ref k1, .int c2, .int c3])), (k0, .inl (cI, 5409, .inl c0))] H := hP
  replace hD : va_D A [(k, .inr (1, [.ref k0, .ref k1, .int c2, .int c3])), (k0, .inl (cI, 5409, .inl c0))] := hD
  rcases w_2 with ⟨hr_1, h_4, h_5⟩ | ⟨hr_1, h_6⟩
  · try simp only [zl_0, zl_8] at h_4
    have h_4 : 0 ≤ a0.toInt := h_4
    try simp only [zl_0, zl_8] at h_5
    have h_5 : a0.toInt ≤ 8 := h_5
    obtain rfl : r_1 = 1 := hr_1.trans (by decide)
    refine b_if_eq hx hb zl_1 (tgt := 25) dX1_bestFrom_7 (by decide) (fun c_7 => by exfalso; omega) (fun c_7 => ?_)
    refine lv_iload_n hx hb dX1_bestFrom_10 rfl (lv_at hl 2 rfl) ?_
    refine lv_iconst (v := 0) hx hb dX1_bestFrom_11 (by decide) ?_
    refine lv_sipush (v := 600) hx hb dX1_bestFrom_12 (by decide) ?_
    refine kJi (wr := [(k, .inr (1, [.ref k0, .ref k1, .int c2, .int c3])), (k0, .inl (cI, 5409, .inl c0))]) (va_runSN (As := [.int a1, .int 0, .int 600]) (rest := []) ⟨hx, hb, hml, hown, hT⟩ (c_X10_isWithinG l D cI aK aV H.size a1 0 600) ⟨va_cnB 3 hT (gW_in mw_691) rfl rfl rfl (hN _ mw_902) (hT _ mw_1) (by decide +kernel) ⟨Nat.le_of_ble_eq_true rfl, Nat.le_of_ble_eq_true rfl⟩, hT _ mw_690, trivial⟩ (kStatX hK hP hD hN hXS hS hA [] rfl (by decide)) rfl rfl hl.1 rfl (lv_room (Nat.le_of_ble_eq_true rfl)) dX1_bestFrom_15 ⟨Nat.le_of_ble_eq_true rfl, Nat.le_of_ble_eq_true rfl⟩) hP hD hS hA [] [0, 1] rfl rfl (by decide) (by decide) ?_
    clear hP hD hS
    intro r_8 u_10 H locs w_9 hP hD hS
    replace hP : va_P D vwCl [(k, .inr (1, [.ref k0, .ref k1, .int c2, .int c3])), (k0, .inl (cI, 5409, .inl c0))] H := hP
    replace hD : va_D A [(k, .inr (1, [.ref k0, .ref k1, .int c2, .int c3])), (k0, .inl (cI, 5409, .inl c0))] := hD
    rcases w_9 with ⟨hr_8, h_11, h_12⟩ | ⟨hr_8, h_13⟩
    · try simp only [zl_0, zl_600] at h_11
      have h_11 : 0 ≤ a1.toInt := h_11
      try simp only [zl_0, zl_600] at h_12
      have h_12 : a1.toInt ≤ 600 := h_12
      obtain rfl : r_8 = 1 := hr_8.trans (by decide)
      refine b_if_eq hx hb zl_1 (tgt := 25) dX1_bestFrom_18 (by decide) (fun c_14 => by exfalso; omega) (fun c_14 => ?_)
      refine lv_iconst (v := 1) hx hb dX1_bestFrom_21 (by decide) ?_
      refine lv_goto (tgt := 26) hx hb dX1_bestFrom_22 (by decide) ?_
      refine lv_istore_n (lv' := [(3, .int 1), (0, .ref k), (1, .int a0), (2, .int a1)]) hx hb dX1_bestFrom_26 rfl hl (by decide) rfl ?_
      clear hl
      intro ls hl
      refine lv_iload_n hx hb dX1_bestFrom_27 rfl (lv_at hl 0 rfl) ?_
      refine b_if_eq hx hb zl_1 (tgt := 46) dX1_bestFrom_28 (by decide) (fun c_15 => by exfalso; omega) (fun c_15 => ?_)
      refine lv_aload_n hx hb dX1_bestFrom_31 rfl (lv_at hl 1 rfl) ?_
      refine va_get (D := D) (ci := 1) (v := .ref k0) (C := RX1) (T := TX1) (N := 4) hx hb hT giX1 hown hK hP 0 rfl rfl 0 (by decide) (hT (Cond.fieldLink RX1 9 "DesertWire$Loads" "best" "[I") mw_224) (fun _ h9 => h9) rfl dX1_bestFrom_32 ?_
      refine lv_iload_n hx hb dX1_bestFrom_35 rfl (lv_at hl 2 rfl) ?_
      refine lv_sipush (v := 601) hx hb dX1_bestFrom_36 (by decide) ?_
      refine lv_imul hx hb dX1_bestFrom_39 ?_
      refine lv_topi (fun v_16 ev_16 => ?_)
      have tv_16 : v_16.toInt = a0.toInt * 601 := by rw [ev_16]; exact k_mulv rfl zl_601 (by omega) (by omega)
      refine lv_iload_n hx hb dX1_bestFrom_40 rfl (lv_at hl 3 rfl) ?_
      refine lv_iadd hx hb dX1_bestFrom_41 ?_
      refine lv_topi (fun v_17 ev_17 => ?_)
      have tv_17 : v_17.toInt = v_16.toInt + a1.toInt := by rw [ev_17]; exact k_addv rfl rfl (by omega) (by omega)
      refine k_iald (v := (c0 v_17.toNatClampNeg)) hx hb hK hP 1 0 rfl rfl (k_in (by omega) (by omega)) rfl dX1_bestFrom_42 ?_
      refine lv_topi (fun v_18 ev_18 => ?_)
      have lo_v_18 := k_lo v_18
      have hi_v_18 := k_hi v_18
      have tv_18 : v_18.toInt = (c0 v_17.toNatClampNeg).toInt := by rw [ev_18]
      refine lv_goto (tgt := 47) hx hb dX1_bestFrom_43 (by decide) ?_
      exact hRet () [0, 1] (rd_in ev_18 (by omega)) hP hD (by decide) rfl hS rfl dX1_bestFrom_47
    · (try simp only [zl_0, zl_600] at h_13); exfalso; omega
  · (try simp only [zl_0, zl_8] at h_6); exfalso; omega

set_option maxHeartbeats 4000000 in
set_option maxRecDepth 100000 in
theorem c_X1_bestWithD (l : Launch) (D : va_G) (cI : ClassId) (aK aV : Nat → Nat) (k k0 k1 : Nat) (sz : Nat) (c2 : Int32) (c3 : Int32) (c0 : Nat → Int32) (a0 : Int32) (a1 : Int32) (a2 : Int32) (a3 : Int32) (a4 : Int32) (pre0 : 0 ≤ a0.toInt) (pre1 : a0.toInt ≤ 7) (pre2 : 0 ≤ a1.toInt) (pre3 : a1.toInt ≤ 600) (pre4 : 1 ≤ a2.toInt) (pre5 : a2.toInt ≤ 40) (pre6 : 0 ≤ a3.toInt) (pre7 : a3.toInt ≤ 999) (pre8 : 1 ≤ a4.toInt) (pre9 : a4.toInt ≤ 3) (pre10 : BDR c0 a0 a1) : Met l yX1_bestWith (gW yX1_bestWith cX1_bestWith 9 (some .int)) ({ frames := 2, cells := 0, slots := 0, locals := 45 } : Room) (kPreX D cI aK aV [.ref k, .int a0, .int a1, .int a2, .int a3, .int a4] [(k, .inr (1, [.ref k0, .ref k1, .int c2, .int c3])), (k0, .inl (cI, 5409, .inl c0))] sz) (va_Qi (fun (r : Int32) (u : Unit) => MXW c0 a0 a1 a2 a3 (a4.toInt + 1) r) (fun u t => kWd D cI (va_A [(k, .inr (1, [.ref k0, .ref k1, .int c2, .int c3])), (k0, .inl (cI, 5409, .inl c0))] sz) [(k, .inr (1, [.ref k0, .ref k1, .int c2, .int c3])), (k0, .inl (cI, 5409, .inl c0))] t) (va_A [(k, .inr (1, [.ref k0, .ref k1, .int c2, .int c3])), (k0, .inl (cI, 5409, .inl c0))] sz)) 0 0 (va_A [(k, .inr (1, [.ref k0, .ref k1, .int c2, .int c3])), (k0, .inl (cI, 5409, .inl c0))] sz) := by
  refine kMetIX (own := RX1) (by decide) rfl (Nat.le_of_ble_eq_true rfl) ?_
  intro p e s m args below meth c hx hb hT hown hname hml A Q hK hP hD hS hA hN hXS hRet ls hl
  have hl : lv_has ls 9 [(0, .ref k), (1, .int a0), (2, .int a1), (3, .int a2), (4, .int a3), (5, .int a4)] := hl
  have lo_a0 := k_lo a0
  have hi_a0 := k_hi a0
  have lo_a1 := k_lo a1
  have hi_a1 := k_hi a1
  have lo_a2 := k_lo a2
  have hi_a2 := k_hi a2
  have lo_a3 := k_lo a3
  have hi_a3 := k_hi a3
  have lo_a4 := k_lo a4
  have hi_a4 := k_hi a4
  have pre10 : BDR c0 a0 a1 := pre10
  refine lv_aload_n hx hb dX1_bestWith_0 rfl (lv_at hl 0 rfl) ?_
  refine lv_iload_n hx hb dX1_bestWith_1 rfl (lv_at hl 1 rfl) ?_
  refine lv_iconst (v := 1) hx hb dX1_bestWith_2 (by decide) ?_
  refine lv_iadd hx hb dX1_bestWith_3 ?_
  refine lv_topi (fun v_1 ev_1 => ?_)
  have tv_1 : v_1.toInt = a0.toInt + 1 := by rw [ev_1]; exact k_addv rfl zl_1 (by omega) (by omega)
  refine lv_iload_n hx hb dX1_bestWith_4 rfl (lv_at hl 2 rfl) ?_
  refine kJi (wr := []) (va_runV (As := [.int v_1, .int a1]) (rest := []) ⟨hx, hb, hml, hown, hT⟩ (c_X1_bestFromD l D cI aK aV k k0 k1 s.heap.size c2 c3 c0 v_1 a1 (by first | omega | decide | assumption | rfl) (by first | omega | decide | assumption | rfl) (by first | omega | decide | assumption | rfl) (by first | omega | decide | assumption | rfl)) (cwV 2 hT (gV_in mw_901 mw_898 mw_900 mw_p2_10 mw_8) rfl rfl rfl (by decide +kernel) ⟨Nat.le_of_ble_eq_true rfl, Nat.le_of_ble_eq_true rfl⟩) (kRecvX (q0 := 0) (ci := 1) hK hP hD hN hXS hS hA rfl rfl [0, 1] rfl (by decide)) rfl rfl hl.1 rfl (lv_room (Nat.le_of_ble_eq_true rfl)) dX1_bestWith_5 ⟨Nat.le_of_ble_eq_true rfl, Nat.le_of_ble_eq_true rfl⟩) hP hD hS hA [0, 1] [] rfl rfl (by decide) (by decide) ?_
  clear hP hD hS
  intro r_2 u_4 H locs w_3 hP hD hS
  replace hP : va_P D vwCl [(k, .inr (1, [.ref k0, .ref k1, .int c2, .int c3])), (k0, .inl (cI, 5409, .inl c0))] H := hP
  replace hD : va_D A [(k, .inr (1, [.ref k0, .ref k1, .int c2, .int c3])), (k0, .inl (cI, 5409, .inl c0))] := hD
  have h_5 := w_3
  have h_5 : r_2 = c0 (601 * v_1.toInt.toNat + a1.toInt.toNat) := h_5
  have h_5 : r_2 = c0 (601 * v_1.toInt.toNat + a1.toInt.toNat) := h_5
  have b_6 : r_2.toInt = bat c0 (a0.toInt.toNat + 1) a1.toInt ∧ 0 ≤ r_2.toInt ∧ r_2.toInt ≤ 24551424 := BDR.r pre10 h_5 (by omega) (by omega) (by omega) (by omega)
  have lo_r_2 := k_lo r_2
  have hi_r_2 := k_hi r_2
  refine lv_istore (lv' := [(6, .int r_2), (0, .ref k), (1, .int a0), (2, .int a1), (3, .int a2), (4, .int a3), (5, .int a4)]) hx hb dX1_bestWith_8 hl (by decide) rfl ?_
  clear hl
  intro ls hl
  refine lv_iconst (v := 1) hx hb dX1_bestWith_10 (by decide) ?_
  refine lv_istore (lv' := [(7, .int 1), (6, .int r_2), (0, .ref k), (1, .int a0), (2, .int a1), (3, .int a2), (4, .int a3), (5, .int a4)]) hx hb dX1_bestWith_11 hl (by decide) rfl ?_
  clear hl
  intro ls hl
  have hloop_13 : ∀ (fu_ : Nat) (l13_6 : Int32) (l13_7 : Int32), r_2.toInt ≤ l13_6.toInt → 1 ≤ l13_7.toInt → 1 ≤ l13_7.toInt → l13_7.toInt ≤ a4.toInt + 1 → MXW c0 a0 a1 a2 a3 l13_7.toInt l13_6 → (4 - l13_7.toInt).toNat < fu_ → ∀ (ls : Array Slot) (H : Heap) (locs : List Loc), lv_has ls 9 [(7, .int l13_7), (6, .int l13_6), (0, .ref k), (1, .int a0), (2, .int a1), (3, .int a2), (4, .int a3), (5, .int a4)] → va_P D vwCl [(k, .inr (1, [.ref k0, .ref k1, .int c2, .int c3])), (k0, .inl (cI, 5409, .inl c0))] H → va_D A [(k, .inr (1, [.ref k0, .ref k1, .int c2, .int c3])), (k0, .inl (cI, 5409, .inl c0))] → va_S A s.heap H locs → W p l e ({ frames := 2, cells := 0, slots := 0, locals := 45 } : Room) s m args below meth c H locs 0 0 Q (F0 m 13 ls []) := by
    intro fu_; induction fu_ with
    | zero => intro l13_6 l13_7 i13_0 i13_1 i13_2 i13_3 i13_4 hm; exact absurd hm (by omega)
    | succ fu_ ih13 =>
        intro l13_6 l13_7 i13_0 i13_1 i13_2 i13_3 i13_4 hm ls H locs hl hP hD hS
        have lo_l13_6 := k_lo l13_6
        have hi_l13_6 := k_hi l13_6
        have lo_l13_7 := k_lo l13_7
        have hi_l13_7 := k_hi l13_7
        have i13_4 : MXW c0 a0 a1 a2 a3 l13_7.toInt l13_6 := i13_4
        refine lv_iload hx hb dX1_bestWith_13 (lv_at hl 0 rfl) ?_
        refine lv_iload hx hb dX1_bestWith_15 (lv_at hl 7 rfl) ?_
        refine b_icmp_gt hx hb rfl rfl (tgt := 70) dX1_bestWith_17 (by decide) (fun c_7 => ?_) (fun c_7 => ?_)
        · refine lv_iload hx hb dX1_bestWith_70 (lv_at hl 1 rfl) ?_
          exact hRet () [0, 1] (MXW.e i13_4 (by omega) (by omega) (by omega)) hP hD (by decide) rfl hS rfl dX1_bestWith_72
        · refine lv_iload hx hb dX1_bestWith_20 (lv_at hl 0 rfl) ?_
          refine lv_iload_n hx hb dX1_bestWith_22 rfl (lv_at hl 5 rfl) ?_
          refine lv_imul hx hb dX1_bestWith_23 ?_
          refine lv_topi (fun v_8 ev_8 => ?_)
          have lo_v_8 := k_lo v_8
          have hi_v_8 := k_hi v_8
          have m_9 := k_m3 (lo := 0) (hi := 40) ev_8 (by omega) (by omega) (by omega) (by omega) (by omega) (by omega) (by omega) (by omega)
          refine lv_iload_n hx hb dX1_bestWith_24 rfl (lv_at hl 4 rfl) ?_
          refine b_icmp_gt hx hb rfl rfl (tgt := 70) dX1_bestWith_25 (by decide) (fun c_10 => ?_) (fun c_10 => ?_)
          · refine lv_iload hx hb dX1_bestWith_70 (lv_at hl 1 rfl) ?_
            exact hRet () [0, 1] (MXW.e i13_4 (by omega) (by omega) (by omega)) hP hD (by decide) rfl hS rfl dX1_bestWith_72
          · refine lv_iload hx hb dX1_bestWith_28 (lv_at hl 0 rfl) ?_
            refine lv_sipush (v := 1024) hx hb dX1_bestWith_30 (by decide) ?_
            refine lv_iload hx hb dX1_bestWith_33 (lv_at hl 6 rfl) ?_
            refine lv_imul hx hb dX1_bestWith_35 ?_
            refine lv_topi (fun v_11 ev_11 => ?_)
            have tv_11 : v_11.toInt = 1024 * a3.toInt := by rw [ev_11]; exact k_mulv zl_1024 rfl (by omega) (by omega)
            refine lv_iload_n hx hb dX1_bestWith_36 rfl (lv_at hl 5 rfl) ?_
            refine lv_isub hx hb dX1_bestWith_37 ?_
            refine lv_topi (fun v_12 ev_12 => ?_)
            have tv_12 : v_12.toInt = v_11.toInt - a2.toInt := by rw [ev_12]; exact k_subv rfl rfl (by omega) (by omega)
            refine lv_imul hx hb dX1_bestWith_38 ?_
            refine lv_topi (fun v_13 ev_13 => ?_)
            have lo_v_13 := k_lo v_13
            have hi_v_13 := k_hi v_13
            have m_14 := k_m3 (lo := -40) (hi := 1022976) ev_13 (by omega) (by omega) (by omega) (by omega) (by omega) (by omega) (by omega) (by omega)
            refine lv_aload_n hx hb dX1_bestWith_39 rfl (lv_at hl 2 rfl) ?_
            refine lv_iload_n hx hb dX1_bestWith_40 rfl (lv_at hl 3 rfl) ?_
            refine lv_iconst (v := 1) hx hb dX1_bestWith_41 (by decide) ?_
            refine lv_iadd hx hb dX1_bestWith_42 ?_
            refine lv_topi (fun v_15 ev_15 => ?_)
            have tv_15 : v_15.toInt = a0.toInt + 1 := by rw [ev_15]; exact k_addv rfl zl_1 (by omega) (by omega)
            refine lv_iload_n hx hb dX1_bestWith_43 rfl (lv_at hl 4 rfl) ?_
            refine lv_iload hx hb dX1_bestWith_44 (lv_at hl 0 rfl) ?_
            refine lv_iload_n hx hb dX1_bestWith_46 rfl (lv_at hl 5 rfl) ?_
            refine lv_imul hx hb dX1_bestWith_47 ?_
            refine lv_topi (fun v_16 ev_16 => ?_)
            have lo_v_16 := k_lo v_16
            have hi_v_16 := k_hi v_16
            have m_17 := k_m3 (lo := 0) (hi := 40) ev_16 (by omega) (by omega) (by omega) (by omega) (by omega) (by omega) (by omega) (by omega)
            refine lv_isub hx hb dX1_bestWith_48 ?_
            refine lv_topi (fun v_18 ev_18 => ?_)
            have tv_18 : v_18.toInt = a1.toInt - v_16.toInt := by rw [ev_18]; exact k_subv rfl rfl (by omega) (by omega)
            refine kJi (wr := []) (va_runV (As := [.int v_15, .int v_18]) (rest := [.int v_13]) ⟨hx, hb, hml, hown, hT⟩ (c_X1_bestFromD l D cI aK aV k k0 k1 H.size c2 c3 c0 v_15 v_18 (by first | omega | decide | assumption | rfl) (by first | omega | decide | assumption | rfl) (by first | omega | decide | assumption | rfl) (by first | omega | decide | assumption | rfl)) (cwV 2 hT (gV_in mw_901 mw_898 mw_900 mw_p2_10 mw_8) rfl rfl rfl (by decide +kernel) ⟨Nat.le_of_ble_eq_true rfl, Nat.le_of_ble_eq_true rfl⟩) (kRecvX (q0 := 0) (ci := 1) hK hP hD hN hXS hS hA rfl rfl [0, 1] rfl (by decide)) rfl rfl hl.1 rfl (lv_room (Nat.le_of_ble_eq_true rfl)) dX1_bestWith_49 ⟨Nat.le_of_ble_eq_true rfl, Nat.le_of_ble_eq_true rfl⟩) hP hD hS hA [0, 1] [] rfl rfl (by decide) (by decide) ?_
            clear hP hD hS
            intro r_19 u_21 H locs w_20 hP hD hS
            replace hP : va_P D vwCl [(k, .inr (1, [.ref k0, .ref k1, .int c2, .int c3])), (k0, .inl (cI, 5409, .inl c0))] H := hP
            replace hD : va_D A [(k, .inr (1, [.ref k0, .ref k1, .int c2, .int c3])), (k0, .inl (cI, 5409, .inl c0))] := hD
            have h_22 := w_20
            have h_22 : r_19 = c0 (601 * v_15.toInt.toNat + v_18.toInt.toNat) := h_22
            have h_22 : r_19 = c0 (601 * v_15.toInt.toNat + v_18.toInt.toNat) := h_22
            have b_23 : r_19.toInt = bat c0 (a0.toInt.toNat + 1) v_18.toInt ∧ 0 ≤ r_19.toInt ∧ r_19.toInt ≤ 24551424 := BDR.r pre10 h_22 (by omega) (by omega) (by omega) (by omega)
            have lo_r_19 := k_lo r_19
            have hi_r_19 := k_hi r_19
            refine lv_iadd hx hb dX1_bestWith_52 ?_
            refine lv_topi (fun v_24 ev_24 => ?_)
            have tv_24 : v_24.toInt = v_13.toInt + r_19.toInt := by rw [ev_24]; exact k_addv rfl rfl (by omega) (by omega)
            refine lv_istore (lv' := [(8, .int v_24), (7, .int l13_7), (6, .int l13_6), (0, .ref k), (1, .int a0), (2, .int a1), (3, .int a2), (4, .int a3), (5, .int a4)]) hx hb dX1_bestWith_53 hl (by decide) rfl ?_
            clear hl
            intro ls hl
            refine lv_iload hx hb dX1_bestWith_55 (lv_at hl 2 rfl) ?_
            refine lv_iload hx hb dX1_bestWith_57 (lv_at hl 0 rfl) ?_
            refine va_mmax hx hb (hml.trans hl.1.symm) hown (hT _ mw_903) (hT _ mw_426) (hT _ mw_13) (hT _ mw_427) (Nat.le_of_ble_eq_true rfl) (Nat.le_of_ble_eq_true rfl) (Nat.le_of_ble_eq_true rfl) (Nat.le_of_ble_eq_true rfl) dX1_bestWith_59 ?_
            refine lv_topi (fun v_25 ev_25 => ?_)
            have lo_v_25 := k_lo v_25
            have hi_v_25 := k_hi v_25
            have tv_25 : v_25.toInt = k_max l13_6.toInt v_24.toInt := by rw [ev_25]; exact k_mmax rfl rfl
            try rw [tv_24] at tv_25
            have sv_25 := k_max_spec (l13_6.toInt) (v_24.toInt)
            try rw [tv_24] at sv_25
            refine lv_istore (lv' := [(6, .int v_25), (8, .int v_24), (7, .int l13_7), (0, .ref k), (1, .int a0), (2, .int a1), (3, .int a2), (4, .int a3), (5, .int a4)]) hx hb dX1_bestWith_62 hl (by decide) rfl ?_
            clear hl
            intro ls hl
            obtain ⟨v_26, ev_26⟩ : ∃ y : Int32, y = l13_7 + 1 := ⟨_, rfl⟩
            have tv_26 : v_26.toInt = l13_7.toInt + 1 := by rw [ev_26]; exact k_addv rfl zl_1 (by omega) (by omega)
            refine lv_iinc (v := v_26) (lv' := [(7, .int v_26), (6, .int v_25), (8, .int v_24), (0, .ref k), (1, .int a0), (2, .int a1), (3, .int a2), (4, .int a3), (5, .int a4)]) hx hb dX1_bestWith_64 hl (k := 2) rfl (by rw [ev_26]; rfl) (by decide) rfl ?_
            clear hl
            intro ls hl
            refine lv_goto (tgt := 13) hx hb dX1_bestWith_67 (by decide) ?_
            exact ih13 v_25 v_26 (by first | omega | decide | assumption | rfl) (by first | omega | decide | assumption | rfl) (by first | omega | decide | assumption | rfl) (by first | omega | decide | assumption | rfl) (MXW.s (v := v_24) i13_4 (by omega) (by omega) (MXW.v m_14.1 (by omega) b_23.1 m_17.1 (by omega) (by omega)) (by omega) (by omega)) (by omega) ls _ _ (lv_sub hl [0, 1, 3, 4, 5, 6, 7, 8] rfl) (hP.sub [0, 1] rfl) (hD.sub [0, 1] (by decide) rfl) hS
  exact hloop_13 _ r_2 1 (by first | omega | (simp only [zl_1]; first | done | omega) | decide | assumption | rfl) (by first | omega | (simp only [zl_1]; first | done | omega) | decide | assumption | rfl) (by first | omega | (simp only [zl_1]; first | done | omega) | decide | assumption | rfl) (by first | omega | (simp only [zl_1]; first | done | omega) | decide | assumption | rfl) (MXW.z zl_1 (by omega) b_6.1) (Nat.lt_succ_self _) ls _ _ (lv_sub hl [0, 1, 2, 3, 4, 5, 6, 7] rfl) hP hD hS

set_option maxHeartbeats 4000000 in
set_option maxRecDepth 100000 in
theorem c_X1_isBestD (l : Launch) (D : va_G) (cI : ClassId) (aK aV : Nat → Nat) (k k0 k1 : Nat) (sz : Nat) (c2 : Int32) (c3 : Int32) (c0 : Nat → Int32) (a0 : Int32) (a1 : Int32) (a2 : Int32) (a3 : Int32) (a4 : Int32) (pre0 : 0 ≤ a0.toInt) (pre1 : a0.toInt ≤ 7) (pre2 : 0 ≤ a1.toInt) (pre3 : a1.toInt ≤ 600) (pre4 : 1 ≤ a2.toInt) (pre5 : a2.toInt ≤ 3) (pre6 : 1 ≤ a3.toInt) (pre7 : a3.toInt ≤ 40) (pre8 : 0 ≤ a4.toInt) (pre9 : a4.toInt ≤ 999) (pre10 : BDR c0 a0 a1) : Met l yX1_isBest (gW yX1_isBest cX1_isBest 7 (some .boolean)) ({ frames := 2, cells := 0, slots := 0, locals := 45 } : Room) (kPreX D cI aK aV [.ref k, .int a0, .int a1, .int a2, .int a3, .int a4] [(k, .inr (1, [.ref k0, .ref k1, .int c2, .int c3])), (k0, .inl (cI, 5409, .inl c0))] sz) (va_Qi (fun (r : Int32) (u : Unit) => (r = 1 ∧ BST c0 a0 a1 a3.toInt a4.toInt a2.toInt) ∨ (r = 0 ∧ ¬ BST c0 a0 a1 a3.toInt a4.toInt a2.toInt)) (fun u t => kWd D cI (va_A [(k, .inr (1, [.ref k0, .ref k1, .int c2, .int c3])), (k0, .inl (cI, 5409, .inl c0))] sz) [(k, .inr (1, [.ref k0, .ref k1, .int c2, .int c3])), (k0, .inl (cI, 5409, .inl c0))] t) (va_A [(k, .inr (1, [.ref k0, .ref k1, .int c2, .int c3])), (k0, .inl (cI, 5409, .inl c0))] sz)) 0 0 (va_A [(k, .inr (1, [.ref k0, .ref k1, .int c2, .int c3])), (k0, .inl (cI, 5409, .inl c0))] sz) := by
  refine kMetIX (own := RX1) (by decide) rfl (Nat.le_of_ble_eq_true rfl) ?_
  intro p e s m args below meth c hx hb hT hown hname hml A Q hK hP hD hS hA hN hXS hRet ls hl
  have hl : lv_has ls 7 [(0, .ref k), (1, .int a0), (2, .int a1), (3, .int a2), (4, .int a3), (5, .int a4)] := hl
  have lo_a0 := k_lo a0
  have hi_a0 := k_hi a0
  have lo_a1 := k_lo a1
  have hi_a1 := k_hi a1
  have lo_a2 := k_lo a2
  have hi_a2 := k_hi a2
  have lo_a3 := k_lo a3
  have hi_a3 := k_hi a3
  have lo_a4 := k_lo a4
  have hi_a4 := k_hi a4
  have pre10 : BDR c0 a0 a1 := pre10
  refine lv_iload_n hx hb dX1_isBest_0 rfl (lv_at hl 3 rfl) ?_
  refine lv_iload hx hb dX1_isBest_1 (lv_at hl 4 rfl) ?_
  refine lv_imul hx hb dX1_isBest_3 ?_
  refine lv_topi (fun v_1 ev_1 => ?_)
  have lo_v_1 := k_lo v_1
  have hi_v_1 := k_hi v_1
  have m_2 := k_m3 (lo := 0) (hi := 40) ev_1 (by omega) (by omega) (by omega) (by omega) (by omega) (by omega) (by omega) (by omega)
  refine lv_iload_n hx hb dX1_isBest_4 rfl (lv_at hl 2 rfl) ?_
  refine b_icmp_le hx hb rfl rfl (tgt := 10) dX1_isBest_5 (by decide) (fun c_3 => ?_) (fun c_3 => ?_)
  · refine lv_iload_n hx hb dX1_isBest_10 rfl (lv_at hl 3 rfl) ?_
    refine lv_sipush (v := 1024) hx hb dX1_isBest_11 (by decide) ?_
    refine lv_iload hx hb dX1_isBest_14 (lv_at hl 5 rfl) ?_
    refine lv_imul hx hb dX1_isBest_16 ?_
    refine lv_topi (fun v_4 ev_4 => ?_)
    have tv_4 : v_4.toInt = 1024 * a4.toInt := by rw [ev_4]; exact k_mulv zl_1024 rfl (by omega) (by omega)
    refine lv_iload hx hb dX1_isBest_17 (lv_at hl 4 rfl) ?_
    refine lv_isub hx hb dX1_isBest_19 ?_
    refine lv_topi (fun v_5 ev_5 => ?_)
    have tv_5 : v_5.toInt = v_4.toInt - a3.toInt := by rw [ev_5]; exact k_subv rfl rfl (by omega) (by omega)
    refine lv_imul hx hb dX1_isBest_20 ?_
    refine lv_topi (fun v_6 ev_6 => ?_)
    have lo_v_6 := k_lo v_6
    have hi_v_6 := k_hi v_6
    have m_7 := k_m3 (lo := -40) (hi := 1022976) ev_6 (by omega) (by omega) (by omega) (by omega) (by omega) (by omega) (by omega) (by omega)
    refine lv_aload_n hx hb dX1_isBest_21 rfl (lv_at hl 0 rfl) ?_
    refine lv_iload_n hx hb dX1_isBest_22 rfl (lv_at hl 1 rfl) ?_
    refine lv_iconst (v := 1) hx hb dX1_isBest_23 (by decide) ?_
    refine lv_iadd hx hb dX1_isBest_24 ?_
    refine lv_topi (fun v_8 ev_8 => ?_)
    have tv_8 : v_8.toInt = a0.toInt + 1 := by rw [ev_8]; exact k_addv rfl zl_1 (by omega) (by omega)
    refine lv_iload_n hx hb dX1_isBest_25 rfl (lv_at hl 2 rfl) ?_
    refine lv_iload_n hx hb dX1_isBest_26 rfl (lv_at hl 3 rfl) ?_
    refine lv_iload hx hb dX1_isBest_27 (lv_at hl 4 rfl) ?_
    refine lv_imul hx hb dX1_isBest_29 ?_
    refine lv_topi (fun v_9 ev_9 => ?_)
    have lo_v_9 := k_lo v_9
    have hi_v_9 := k_hi v_9
    have m_10 := k_m3 (lo := 0) (hi := 40) ev_9 (by omega) (by omega) (by omega) (by omega) (by omega) (by omega) (by omega) (by omega)
    refine lv_isub hx hb dX1_isBest_30 ?_
    refine lv_topi (fun v_11 ev_11 => ?_)
    have tv_11 : v_11.toInt = a1.toInt - v_9.toInt := by rw [ev_11]; exact k_subv rfl rfl (by omega) (by omega)
    refine kJi (wr := []) (va_runV (As := [.int v_8, .int v_11]) (rest := [.int v_6]) ⟨hx, hb, hml, hown, hT⟩ (c_X1_bestFromD l D cI aK aV k k0 k1 s.heap.size c2 c3 c0 v_8 v_11 (by first | omega | decide | assumption | rfl) (by first | omega | decide | assumption | rfl) (by first | omega | decide | assumption | rfl) (by first | omega | decide | assumption | rfl)) (cwV 2 hT (gV_in mw_901 mw_898 mw_900 mw_p2_10 mw_8) rfl rfl rfl (by decide +kernel) ⟨Nat.le_of_ble_eq_true rfl, Nat.le_of_ble_eq_true rfl⟩) (kRecvX (q0 := 0) (ci := 1) hK hP hD hN hXS hS hA rfl rfl [0, 1] rfl (by decide)) rfl rfl hl.1 rfl (lv_room (Nat.le_of_ble_eq_true rfl)) dX1_isBest_31 ⟨Nat.le_of_ble_eq_true rfl, Nat.le_of_ble_eq_true rfl⟩) hP hD hS hA [0, 1] [] rfl rfl (by decide) (by decide) ?_
    clear hP hD hS
    intro r_12 u_14 H locs w_13 hP hD hS
    replace hP : va_P D vwCl [(k, .inr (1, [.ref k0, .ref k1, .int c2, .int c3])), (k0, .inl (cI, 5409, .inl c0))] H := hP
    replace hD : va_D A [(k, .inr (1, [.ref k0, .ref k1, .int c2, .int c3])), (k0, .inl (cI, 5409, .inl c0))] := hD
    have h_15 := w_13
    have h_15 : r_12 = c0 (601 * v_8.toInt.toNat + v_11.toInt.toNat) := h_15
    have h_15 : r_12 = c0 (601 * v_8.toInt.toNat + v_11.toInt.toNat) := h_15
    have b_16 : r_12.toInt = bat c0 (a0.toInt.toNat + 1) v_11.toInt ∧ 0 ≤ r_12.toInt ∧ r_12.toInt ≤ 24551424 := BDR.r pre10 h_15 (by omega) (by omega) (by omega) (by omega)
    have lo_r_12 := k_lo r_12
    have hi_r_12 := k_hi r_12
    refine lv_iadd hx hb dX1_isBest_34 ?_
    refine lv_topi (fun v_17 ev_17 => ?_)
    have tv_17 : v_17.toInt = v_6.toInt + r_12.toInt := by rw [ev_17]; exact k_addv rfl rfl (by omega) (by omega)
    refine lv_istore (lv' := [(6, .int v_17), (0, .ref k), (1, .int a0), (2, .int a1), (3, .int a2), (4, .int a3), (5, .int a4)]) hx hb dX1_isBest_35 hl (by decide) rfl ?_
    clear hl
    intro ls hl
    refine lv_iload hx hb dX1_isBest_37 (lv_at hl 0 rfl) ?_
    refine lv_aload_n hx hb dX1_isBest_39 rfl (lv_at hl 1 rfl) ?_
    refine lv_iload_n hx hb dX1_isBest_40 rfl (lv_at hl 2 rfl) ?_
    refine lv_iload_n hx hb dX1_isBest_41 rfl (lv_at hl 3 rfl) ?_
    refine kJi (wr := []) (va_runV (As := [.int a0, .int a1]) (rest := [.int v_17]) ⟨hx, hb, hml, hown, hT⟩ (c_X1_bestFromD l D cI aK aV k k0 k1 H.size c2 c3 c0 a0 a1 (by first | omega | decide | assumption | rfl) (by first | omega | decide | assumption | rfl) (by first | omega | decide | assumption | rfl) (by first | omega | decide | assumption | rfl)) (cwV 2 hT (gV_in mw_901 mw_898 mw_900 mw_p2_10 mw_8) rfl rfl rfl (by decide +kernel) ⟨Nat.le_of_ble_eq_true rfl, Nat.le_of_ble_eq_true rfl⟩) (kRecvX (q0 := 0) (ci := 1) hK hP hD hN hXS hS hA rfl rfl [0, 1] rfl (by decide)) rfl rfl hl.1 rfl (lv_room (Nat.le_of_ble_eq_true rfl)) dX1_isBest_42 ⟨Nat.le_of_ble_eq_true rfl, Nat.le_of_ble_eq_true rfl⟩) hP hD hS hA [0, 1] [] rfl rfl (by decide) (by decide) ?_
    clear hP hD hS
    intro r_18 u_20 H locs w_19 hP hD hS
    replace hP : va_P D vwCl [(k, .inr (1, [.ref k0, .ref k1, .int c2, .int c3])), (k0, .inl (cI, 5409, .inl c0))] H := hP
    replace hD : va_D A [(k, .inr (1, [.ref k0, .ref k1, .int c2, .int c3])), (k0, .inl (cI, 5409, .inl c0))] := hD
    have h_21 := w_19
    have h_21 : r_18 = c0 (601 * a0.toInt.toNat + a1.toInt.toNat) := h_21
    have h_21 : r_18 = c0 (601 * a0.toInt.toNat + a1.toInt.toNat) := h_21
    have lo_r_18 := k_lo r_18
    have hi_r_18 := k_hi r_18
    refine b_icmp_ne hx hb rfl rfl (tgt := 52) dX1_isBest_45 (by decide) (fun c_22 => ?_) (fun c_22 => ?_)
    · refine lv_iconst (v := 0) hx hb dX1_isBest_52 (by decide) ?_
      exact hRet () [0, 1] (Or.inr (⟨rfl, (BST.n2 (MXW.v m_7.1 (by omega) b_16.1 m_10.1 (by omega) (by omega)) h_21 (by omega))⟩)) hP hD (by decide) rfl hS rfl dX1_isBest_53
    · refine lv_iconst (v := 1) hx hb dX1_isBest_48 (by decide) ?_
      refine lv_goto (tgt := 53) hx hb dX1_isBest_49 (by decide) ?_
      exact hRet () [0, 1] (Or.inl ⟨rfl, (BST.y (by omega) (MXW.v m_7.1 (by omega) b_16.1 m_10.1 (by omega) (by omega)) h_21 (by omega))⟩) hP hD (by decide) rfl hS rfl dX1_isBest_53
  · refine lv_iconst (v := 0) hx hb dX1_isBest_8 (by decide) ?_
    exact hRet () [0, 1] (Or.inr (⟨rfl, (BST.n1 (by omega))⟩)) hP hD (by decide) rfl hS rfl dX1_isBest_9

set_option maxHeartbeats 4000000 in
set_option maxRecDepth 100000 in
theorem c_X1_takenOfD (l : Launch) (D : va_G) (cI : ClassId) (aK aV : Nat → Nat) (k k0 k1 : Nat) (sz : Nat) (c2 : Int32) (c3 : Int32) (c1 : Nat → Int32) (a0 : Int32) : Met l yX1_takenOf (gW yX1_takenOf cX1_takenOf 2 (some .int)) ({ frames := 0, cells := 0, slots := 0, locals := 0 } : Room) (kPreX D cI aK aV [.ref k, .int a0] [(k, .inr (1, [.ref k0, .ref k1, .int c2, .int c3])), (k1, .inl (cI, 8, .inl c1))] sz) (va_Qi (fun (r : Int32) (u : Unit) => (0 ≤ a0.toInt ∧ a0.toInt ≤ 7 ∧ r = c1 a0.toNatClampNeg) ∨ (r = 0 ∧ (a0.toInt < 0 ∨ 7 < a0.toInt))) (fun u t => kWd D cI (va_A [(k, .inr (1, [.ref k0, .ref k1, .int c2, .int c3])), (k1, .inl (cI, 8, .inl c1))] sz) [(k, .inr (1, [.ref k0, .ref k1, .int c2, .int c3])), (k1, .inl (cI, 8, .inl c1))] t) (va_A [(k, .inr (1, [.ref k0, .ref k1, .int c2, .int c3])), (k1, .inl (cI, 8, .inl c1))] sz)) 0 0 (va_A [(k, .inr (1, [.ref k0, .ref k1, .int c2, .int c3])), (k1, .inl (cI, 8, .inl c1))] sz) := by
  refine kMetIX (own := RX1) (by decide) rfl (Nat.le_of_ble_eq_true rfl) ?_
  intro p e s m args below meth c hx hb hT hown hname hml A Q hK hP hD hS hA hN hXS hRet ls hl
  have hl : lv_has ls 2 [(0, .ref k), (1, .int a0)] := hl
  have lo_a0 := k_lo a0
  have hi_a0 := k_hi a0
  refine lv_iload_n hx hb dX1_takenOf_0 rfl (lv_at hl 1 rfl) ?_
  refine b_if_lt hx hb rfl (tgt := 19) dX1_takenOf_1 (by decide) (fun c_1 => ?_) (fun c_1 => ?_)
  · refine lv_iconst (v := 0) hx hb dX1_takenOf_19 (by decide) ?_
    exact hRet () [0, 1] (by first | exact Or.inl ⟨(by omega), (by omega), e0⟩ | exact Or.inr (⟨rfl, (by omega)⟩)) hP hD (by decide) rfl hS rfl dX1_takenOf_20
  · refine lv_iload_n hx hb dX1_takenOf_4 rfl (lv_at hl 1 rfl) ?_
    refine lv_bipush (v := 8) hx hb dX1_takenOf_5 (by decide) ?_
    refine b_icmp_ge hx hb rfl zl_8 (tgt := 19) dX1_takenOf_7 (by decide) (fun c_2 => ?_) (fun c_2 => ?_)
    · refine lv_iconst (v := 0) hx hb dX1_takenOf_19 (by decide) ?_
      exact hRet () [0, 1] (by first | exact Or.inl ⟨(by omega), (by omega), e0⟩ | exact Or.inr (⟨rfl, (by omega)⟩)) hP hD (by decide) rfl hS rfl dX1_takenOf_20
    · refine lv_aload_n hx hb dX1_takenOf_10 rfl (lv_at hl 0 rfl) ?_
      refine va_get (D := D) (ci := 1) (v := .ref k1) (C := RX1) (T := TX1) (N := 4) hx hb hT giX1 hown hK hP 0 rfl rfl 1 (by decide) (hT (Cond.fieldLink RX1 15 "DesertWire$Loads" "taken" "[I") mw_225) (fun _ h9 => h9) rfl dX1_takenOf_11 ?_
      refine lv_iload_n hx hb dX1_takenOf_14 rfl (lv_at hl 1 rfl) ?_
      refine k_iald (v := (c1 a0.toNatClampNeg)) hx hb hK hP 1 0 rfl rfl (k_in (by omega) (by omega)) rfl dX1_takenOf_15 ?_
      refine lv_topi (fun v_3 ev_3 => ?_)
      have lo_v_3 := k_lo v_3
      have hi_v_3 := k_hi v_3
      have tv_3 : v_3.toInt = (c1 a0.toNatClampNeg).toInt := by rw [ev_3]
      refine lv_goto (tgt := 20) hx hb dX1_takenOf_16 (by decide) ?_
      exact hRet () [0, 1] (by first | exact Or.inl ⟨(by omega), (by omega), ev_3⟩ | exact Or.inr (⟨ev_3, (by omega)⟩)) hP hD (by decide) rfl hS rfl dX1_takenOf_20

set_option maxHeartbeats 4000000 in
set_option maxRecDepth 100000 in
theorem c_X1_chooseD (l : Launch) (D : va_G) (cI : ClassId) (aK aV : Nat → Nat) (k o k0 k1 o0 o1 o2 : Nat) (sz : Nat) (c2 : Int32) (c3 : Int32) (c0 : Nat → Int32) (c1 : Nat → Int32) (d1 : Nat → Int32) (d2 : Nat → Int32) (a1 : Int32) (a2 : Int32) (a3 : Int32) (pre0 : 0 ≤ a1.toInt) (pre1 : a1.toInt ≤ 3) (pre2 : ∀ k : Nat, k < 4 → 0 ≤ (d1 k).toInt ∧ (d1 k).toInt ≤ 36) (pre3 : 1 ≤ a2.toInt) (pre4 : a2.toInt ≤ 8) (pre5 : 3 * a2.toInt ≤ (d1 a1.toNatClampNeg).toInt) (pre6 : (d1 a1.toNatClampNeg).toInt ≤ 36) (pre7 : 0 ≤ a3.toInt) (pre8 : a3.toInt ≤ 600) (pre9 : DPR c0 d2 a1 a2 a3 (-1)) (pre10 : THG d2 a1 a2.toInt) : Met l yX1_choose (gW yX1_choose cX1_choose 10 none) ({ frames := 4, cells := 0, slots := 0, locals := 85 } : Room) (kPreX D cI aK aV [.ref k, .ref o, .int a1, .int a2, .int a3] [(k, .inr (1, [.ref k0, .ref k1, .int c2, .int c3])), (k0, .inl (cI, 5409, .inl c0)), (k1, .inl (cI, 8, .inl c1)), (o, .inr (6, [.ref o0, .ref o1, .ref o2])), (o1, .inl (cI, 4, .inl d1)), (o2, .inl (cI, 144, .inl d2))] sz) (va_Qv (fun (u : Int32 × Int32 × (Nat → Int32)) => LDA d2 a1 a2.toInt.toNat a3.toInt u.2.2 u.1 u.2.1) (fun u t => kWd D cI (va_A [(k, .inr (1, [.ref k0, .ref k1, .int c2, .int c3])), (k0, .inl (cI, 5409, .inl c0)), (k1, .inl (cI, 8, .inl c1)), (o, .inr (6, [.ref o0, .ref o1, .ref o2])), (o1, .inl (cI, 4, .inl d1)), (o2, .inl (cI, 144, .inl d2))] sz) [(k, .inr (1, [.ref k0, .ref k1, .int u.1, .int u.2.1])), (k0, .inl (cI, 5409, .inl c0)), (k1, .inl (cI, 8, .inl u.2.2)), (o, .inr (6, [.ref o0, .ref o1, .ref o2])), (o1, .inl (cI, 4, .inl d1)), (o2, .inl (cI, 144, .inl d2))] t) (va_A [(k, .inr (1, [.ref k0, .ref k1, .int c2, .int c3])), (k0, .inl (cI, 5409, .inl c0)), (k1, .inl (cI, 8, .inl c1)), (o, .inr (6, [.ref o0, .ref o1, .ref o2])), (o1, .inl (cI, 4, .inl d1)), (o2, .inl (cI, 144, .inl d2))] sz)) 0 0 (va_A [(k, .inr (1, [.ref k0, .ref k1, .int c2, .int c3])), (k0, .inl (cI, 5409, .inl c0)), (k1, .inl (cI, 8, .inl c1)), (o, .inr (6, [.ref o0, .ref o1, .ref o2])), (o1, .inl (cI, 4, .inl d1)), (o2, .inl (cI, 144, .inl d2))] sz) := by
  refine kMetVX (own := RX1) (by decide) rfl (Nat.le_of_ble_eq_true rfl) ?_
  intro p e s m args below meth c hx hb hT hown hname hml A Q hK hP hD hS hA hN hXS hRet ls hl
  have hl : lv_has ls 10 [(0, .ref k), (1, .ref o), (2, .int a1), (3, .int a2), (4, .int a3)] := hl
  have lo_a1 := k_lo a1
  have hi_a1 := k_hi a1
  have lo_a2 := k_lo a2
  have hi_a2 := k_hi a2
  have lo_a3 := k_lo a3
  have hi_a3 := k_hi a3
  have pre9 : DPR c0 d2 a1 a2 a3 (-1) := pre9
  have pre10 : THG d2 a1 a2.toInt := pre10
  refine lv_iload hx hb dX1_choose_0 (lv_at hl 4 rfl) ?_
  refine lv_istore (lv' := [(5, .int a3), (0, .ref k), (1, .ref o), (2, .int a1), (3, .int a2), (4, .int a3)]) hx hb dX1_choose_2 hl (by decide) rfl ?_
  clear hl
  intro ls hl
  refine lv_aload_n hx hb dX1_choose_4 rfl (lv_at hl 1 rfl) ?_
  refine lv_iconst (v := 0) hx hb dX1_choose_5 (by decide) ?_
  refine va_put (D := D) (ci := 1) (v := .int 0) (ty := .int) (C := RX1) (T := TX1) (N := 4) hx hb hT giX1 tyX1 tyX1_ok nmX1 hown hK hP hD hS 0 rfl rfl 2 (by decide) (hT (Cond.fieldLink RX1 18 "DesertWire$Loads" "worth" "I") mw_226) (fun _ h9 => h9) rfl (by decide +kernel) rfl rfl (Nat.le_of_ble_eq_true rfl) dX1_choose_6 ?_
  clear hP hD hS
  intro H locs hP hD hS
  replace hP : va_P D vwCl [(k, .inr (1, [.ref k0, .ref k1, .int 0, .int c3])), (k0, .inl (cI, 5409, .inl c0)), (k1, .inl (cI, 8, .inl c1)), (o, .inr (6, [.ref o0, .ref o1, .ref o2])), (o1, .inl (cI, 4, .inl d1)), (o2, .inl (cI, 144, .inl d2))] H := hP
  replace hD : va_D A [(k, .inr (1, [.ref k0, .ref k1, .int 0, .int c3])), (k0, .inl (cI, 5409, .inl c0)), (k1, .inl (cI, 8, .inl c1)), (o, .inr (6, [.ref o0, .ref o1, .ref o2])), (o1, .inl (cI, 4, .inl d1)), (o2, .inl (cI, 144, .inl d2))] := hD
  refine lv_aload_n hx hb dX1_choose_9 rfl (lv_at hl 1 rfl) ?_
  refine lv_iconst (v := 0) hx hb dX1_choose_10 (by decide) ?_
  refine va_put (D := D) (ci := 1) (v := .int 0) (ty := .int) (C := RX1) (T := TX1) (N := 4) hx hb hT giX1 tyX1 tyX1_ok nmX1 hown hK hP hD hS 0 rfl rfl 3 (by decide) (hT (Cond.fieldLink RX1 22 "DesertWire$Loads" "weight" "I") mw_228) (fun _ h9 => h9) rfl (by decide +kernel) rfl rfl (Nat.le_of_ble_eq_true rfl) dX1_choose_11 ?_
  clear hP hD hS
  intro H locs hP hD hS
  replace hP : va_P D vwCl [(k, .inr (1, [.ref k0, .ref k1, .int 0, .int 0])), (k0, .inl (cI, 5409, .inl c0)), (k1, .inl (cI, 8, .inl c1)), (o, .inr (6, [.ref o0, .ref o1, .ref o2])), (o1, .inl (cI, 4, .inl d1)), (o2, .inl (cI, 144, .inl d2))] H := hP
  replace hD : va_D A [(k, .inr (1, [.ref k0, .ref k1, .int 0, .int 0])), (k0, .inl (cI, 5409, .inl c0)), (k1, .inl (cI, 8, .inl c1)), (o, .inr (6, [.ref o0, .ref o1, .ref o2])), (o1, .inl (cI, 4, .inl d1)), (o2, .inl (cI, 144, .inl d2))] := hD
  refine lv_iconst (v := 0) hx hb dX1_choose_14 (by decide) ?_
  refine lv_istore (lv' := [(6, .int 0), (5, .int a3), (0, .ref k), (1, .ref o), (2, .int a1), (3, .int a2), (4, .int a3)]) hx hb dX1_choose_15 hl (by decide) rfl ?_
  clear hl
  intro ls hl
  have hloop_17 : ∀ (fu_ : Nat) (l17_5 : Int32) (l17_6 : Int32) (f17_k2 : Int32) (f17_k3 : Int32) (g17_k1 : Nat → Int32), l17_5.toInt ≤ a3.toInt → 0 ≤ l17_6.toInt → 0 ≤ f17_k2.toInt → 0 ≤ f17_k3.toInt → 0 ≤ l17_6.toInt → l17_6.toInt ≤ a2.toInt → 0 ≤ l17_5.toInt → l17_5.toInt ≤ a3.toInt → 0 ≤ f17_k2.toInt → f17_k2.toInt ≤ 2997 * l17_6.toInt → 0 ≤ f17_k3.toInt → f17_k3.toInt ≤ 120 * l17_6.toInt → CHI c0 d2 a1 a2 a3 g17_k1 f17_k2 f17_k3 l17_5 l17_6 → (8 - l17_6.toInt).toNat < fu_ → ∀ (ls : Array Slot) (H : Heap) (locs : List Loc), lv_has ls 10 [(6, .int l17_6), (5, .int l17_5), (0, .ref k), (1, .ref o), (2, .int a1), (3, .int a2), (4, .int a3)] → va_P D vwCl [(k, .inr (1, [.ref k0, .ref k1, .int f17_k2, .int f17_k3])), (k0, .inl (cI, 5409, .inl c0)), (k1, .inl (cI, 8, .inl g17_k1)), (o, .inr (6, [.ref o0, .ref o1, .ref o2])), (o1, .inl (cI, 4, .inl d1)), (o2, .inl (cI, 144, .inl d2))] H → va_D A [(k, .inr (1, [.ref k0, .ref k1, .int f17_k2, .int f17_k3])), (k0, .inl (cI, 5409, .inl c0)), (k1, .inl (cI, 8, .inl g17_k1)), (o, .inr (6, [.ref o0, .ref o1, .ref o2])), (o1, .inl (cI, 4, .inl d1)), (o2, .inl (cI, 144, .inl d2))] → va_S A s.heap H locs → W p l e ({ frames := 4, cells := 0, slots := 0, locals := 85 } : Room) s m args below meth c H locs 0 0 Q (F0 m 17 ls []) := by
    intro fu_; induction fu_ with
    | zero => intro l17_5 l17_6 f17_k2 f17_k3 g17_k1 i17_0 i17_1 i17_2 i17_3 i17_4 i17_5 i17_6 i17_7 i17_8 i17_9 i17_10 i17_11 i17_12 hm; exact absurd hm (by omega)
    | succ fu_ ih17 =>
        intro l17_5 l17_6 f17_k2 f17_k3 g17_k1 i17_0 i17_1 i17_2 i17_3 i17_4 i17_5 i17_6 i17_7 i17_8 i17_9 i17_10 i17_11 i17_12 hm ls H locs hl hP hD hS
        have lo_l17_5 := k_lo l17_5
        have hi_l17_5 := k_hi l17_5
        have lo_l17_6 := k_lo l17_6
        have hi_l17_6 := k_hi l17_6
        have lo_f17_k2 := k_lo f17_k2
        have hi_f17_k2 := k_hi f17_k2
        have lo_f17_k3 := k_lo f17_k3
        have hi_f17_k3 := k_hi f17_k3
        have i17_12 : CHI c0 d2 a1 a2 a3 g17_k1 f17_k2 f17_k3 l17_5 l17_6 := i17_12
        refine lv_iload hx hb dX1_choose_17 (lv_at hl 0 rfl) ?_
        refine lv_iload_n hx hb dX1_choose_19 rfl (lv_at hl 5 rfl) ?_
        refine b_icmp_ge hx hb rfl rfl (tgt := 148) dX1_choose_20 (by decide) (fun c_1 => ?_) (fun c_1 => ?_)
        · exact hRet (f17_k2, f17_k3, g17_k1) [0, 1, 2, 3, 4, 5] (CHI.e i17_12 (by omega) (by omega)) hP hD (by decide) rfl hS dX1_choose_148
        · refine lv_iload hx hb dX1_choose_23 (lv_at hl 0 rfl) ?_
          refine lv_bipush (v := 8) hx hb dX1_choose_25 (by decide) ?_
          refine b_icmp_ge hx hb rfl zl_8 (tgt := 148) dX1_choose_27 (by decide) (fun c_2 => by exfalso; omega) (fun c_2 => ?_)
          refine lv_aload_n hx hb dX1_choose_30 rfl (lv_at hl 3 rfl) ?_
          refine lv_iload_n hx hb dX1_choose_31 rfl (lv_at hl 4 rfl) ?_
          refine lv_iconst (v := 3) hx hb dX1_choose_32 (by decide) ?_
          refine lv_iload hx hb dX1_choose_33 (lv_at hl 0 rfl) ?_
          refine lv_imul hx hb dX1_choose_35 ?_
          refine lv_topi (fun v_3 ev_3 => ?_)
          have tv_3 : v_3.toInt = 3 * l17_6.toInt := by rw [ev_3]; exact k_mulv zl_3 rfl (by omega) (by omega)
          refine kJi (wr := [(k, .inr (1, [.ref k0, .ref k1, .int f17_k2, .int f17_k3])), (k0, .inl (cI, 5409, .inl c0)), (k1, .inl (cI, 8, .inl g17_k1))]) (va_runV (As := [.int a1, .int v_3]) (rest := []) ⟨hx, hb, hml, hown, hT⟩ (c_X6_numberAtG l D cI aK aV o o0 o1 o2 H.size d1 d2 a1 v_3 (by first | omega | decide | assumption | rfl)) (cwV 2 hT (gV_in mw_684 mw_893 mw_682 mw_683 mw_11) rfl rfl rfl (by decide +kernel) ⟨Nat.le_of_ble_eq_true rfl, Nat.le_of_ble_eq_true rfl⟩) (kRecvX (q0 := 3) (ci := 6) hK hP hD hN hXS hS hA rfl rfl [3, 4, 5] rfl (by decide)) rfl rfl hl.1 rfl (lv_room (Nat.le_of_ble_eq_true rfl)) dX1_choose_36 ⟨Nat.le_of_ble_eq_true rfl, Nat.le_of_ble_eq_true rfl⟩) hP hD hS hA [3, 4, 5] [0, 1, 2] rfl rfl (by decide) (by decide) ?_
          clear hP hD hS
          intro r_4 u_6 H locs w_5 hP hD hS
          replace hP : va_P D vwCl [(k, .inr (1, [.ref k0, .ref k1, .int f17_k2, .int f17_k3])), (k0, .inl (cI, 5409, .inl c0)), (k1, .inl (cI, 8, .inl g17_k1)), (o, .inr (6, [.ref o0, .ref o1, .ref o2])), (o1, .inl (cI, 4, .inl d1)), (o2, .inl (cI, 144, .inl d2))] H := hP
          replace hD : va_D A [(k, .inr (1, [.ref k0, .ref k1, .int f17_k2, .int f17_k3])), (k0, .inl (cI, 5409, .inl c0)), (k1, .inl (cI, 8, .inl g17_k1)), (o, .inr (6, [.ref o0, .ref o1, .ref o2])), (o1, .inl (cI, 4, .inl d1)), (o2, .inl (cI, 144, .inl d2))] := hD
          have h_7 := w_5
          have h_7 : r_4 = kNum d1 d2 a1 v_3 := h_7
          have h_8 : r_4 = d2 (36 * a1.toInt.toNat + v_3.toInt.toNat) := h_7.trans (kNum_shv (by omega) (by omega) (by omega) (by omega) (by omega))
          have b_9 : r_4.toInt = thH d2 a1 l17_6.toInt.toNat ∧ 1 ≤ r_4.toInt ∧ r_4.toInt ≤ 40 := th_h pre10 h_8 (by omega) (by omega) (by omega) (by omega)
          have lo_r_4 := k_lo r_4
          have hi_r_4 := k_hi r_4
          refine lv_istore (lv' := [(7, .int r_4), (6, .int l17_6), (5, .int l17_5), (0, .ref k), (1, .ref o), (2, .int a1), (3, .int a2), (4, .int a3)]) hx hb dX1_choose_39 hl (by decide) rfl ?_
          clear hl
          intro ls hl
          refine lv_aload_n hx hb dX1_choose_41 rfl (lv_at hl 4 rfl) ?_
          refine lv_iload_n hx hb dX1_choose_42 rfl (lv_at hl 5 rfl) ?_
          refine lv_iconst (v := 3) hx hb dX1_choose_43 (by decide) ?_
          refine lv_iload hx hb dX1_choose_44 (lv_at hl 1 rfl) ?_
          refine lv_imul hx hb dX1_choose_46 ?_
          refine lv_topi (fun v_10 ev_10 => ?_)
          have tv_10 : v_10.toInt = 3 * l17_6.toInt := by rw [ev_10]; exact k_mulv zl_3 rfl (by omega) (by omega)
          refine lv_iconst (v := 1) hx hb dX1_choose_47 (by decide) ?_
          refine lv_iadd hx hb dX1_choose_48 ?_
          refine lv_topi (fun v_11 ev_11 => ?_)
          have tv_11 : v_11.toInt = v_10.toInt + 1 := by rw [ev_11]; exact k_addv rfl zl_1 (by omega) (by omega)
          refine kJi (wr := [(k, .inr (1, [.ref k0, .ref k1, .int f17_k2, .int f17_k3])), (k0, .inl (cI, 5409, .inl c0)), (k1, .inl (cI, 8, .inl g17_k1))]) (va_runV (As := [.int a1, .int v_11]) (rest := []) ⟨hx, hb, hml, hown, hT⟩ (c_X6_numberAtG l D cI aK aV o o0 o1 o2 H.size d1 d2 a1 v_11 (by first | omega | decide | assumption | rfl)) (cwV 2 hT (gV_in mw_684 mw_893 mw_682 mw_683 mw_11) rfl rfl rfl (by decide +kernel) ⟨Nat.le_of_ble_eq_true rfl, Nat.le_of_ble_eq_true rfl⟩) (kRecvX (q0 := 3) (ci := 6) hK hP hD hN hXS hS hA rfl rfl [3, 4, 5] rfl (by decide)) rfl rfl hl.1 rfl (lv_room (Nat.le_of_ble_eq_true rfl)) dX1_choose_49 ⟨Nat.le_of_ble_eq_true rfl, Nat.le_of_ble_eq_true rfl⟩) hP hD hS hA [3, 4, 5] [0, 1, 2] rfl rfl (by decide) (by decide) ?_
          clear hP hD hS
          intro r_12 u_14 H locs w_13 hP hD hS
          replace hP : va_P D vwCl [(k, .inr (1, [.ref k0, .ref k1, .int f17_k2, .int f17_k3])), (k0, .inl (cI, 5409, .inl c0)), (k1, .inl (cI, 8, .inl g17_k1)), (o, .inr (6, [.ref o0, .ref o1, .ref o2])), (o1, .inl (cI, 4, .inl d1)), (o2, .inl (cI, 144, .inl d2))] H := hP
          replace hD : va_D A [(k, .inr (1, [.ref k0, .ref k1, .int f17_k2, .int f17_k3])), (k0, .inl (cI, 5409, .inl c0)), (k1, .inl (cI, 8, .inl g17_k1)), (o, .inr (6, [.ref o0, .ref o1, .ref o2])), (o1, .inl (cI, 4, .inl d1)), (o2, .inl (cI, 144, .inl d2))] := hD
          have h_15 := w_13
          have h_15 : r_12 = kNum d1 d2 a1 v_11 := h_15
          have h_16 : r_12 = d2 (36 * a1.toInt.toNat + v_11.toInt.toNat) := h_15.trans (kNum_shv (by omega) (by omega) (by omega) (by omega) (by omega))
          have b_17 : r_12.toInt = thD d2 a1 l17_6.toInt.toNat ∧ 0 ≤ r_12.toInt ∧ r_12.toInt ≤ 999 := th_d pre10 h_16 (by omega) (by omega) (by omega) (by omega)
          have lo_r_12 := k_lo r_12
          have hi_r_12 := k_hi r_12
          refine lv_istore (lv' := [(8, .int r_12), (7, .int r_4), (6, .int l17_6), (5, .int l17_5), (0, .ref k), (1, .ref o), (2, .int a1), (3, .int a2), (4, .int a3)]) hx hb dX1_choose_52 hl (by decide) rfl ?_
          clear hl
          intro ls hl
          refine lv_aload_n hx hb dX1_choose_54 rfl (lv_at hl 5 rfl) ?_
          refine lv_iload_n hx hb dX1_choose_55 rfl (lv_at hl 6 rfl) ?_
          refine lv_iconst (v := 3) hx hb dX1_choose_56 (by decide) ?_
          refine lv_iload hx hb dX1_choose_57 (lv_at hl 2 rfl) ?_
          refine lv_imul hx hb dX1_choose_59 ?_
          refine lv_topi (fun v_18 ev_18 => ?_)
          have tv_18 : v_18.toInt = 3 * l17_6.toInt := by rw [ev_18]; exact k_mulv zl_3 rfl (by omega) (by omega)
          refine lv_iconst (v := 2) hx hb dX1_choose_60 (by decide) ?_
          refine lv_iadd hx hb dX1_choose_61 ?_
          refine lv_topi (fun v_19 ev_19 => ?_)
          have tv_19 : v_19.toInt = v_18.toInt + 2 := by rw [ev_19]; exact k_addv rfl zl_2 (by omega) (by omega)
          refine kJi (wr := [(k, .inr (1, [.ref k0, .ref k1, .int f17_k2, .int f17_k3])), (k0, .inl (cI, 5409, .inl c0)), (k1, .inl (cI, 8, .inl g17_k1))]) (va_runV (As := [.int a1, .int v_19]) (rest := []) ⟨hx, hb, hml, hown, hT⟩ (c_X6_numberAtG l D cI aK aV o o0 o1 o2 H.size d1 d2 a1 v_19 (by first | omega | decide | assumption | rfl)) (cwV 2 hT (gV_in mw_684 mw_893 mw_682 mw_683 mw_11) rfl rfl rfl (by decide +kernel) ⟨Nat.le_of_ble_eq_true rfl, Nat.le_of_ble_eq_true rfl⟩) (kRecvX (q0 := 3) (ci := 6) hK hP hD hN hXS hS hA rfl rfl [3, 4, 5] rfl (by decide)) rfl rfl hl.1 rfl (lv_room (Nat.le_of_ble_eq_true rfl)) dX1_choose_62 ⟨Nat.le_of_ble_eq_true rfl, Nat.le_of_ble_eq_true rfl⟩) hP hD hS hA [3, 4, 5] [0, 1, 2] rfl rfl (by decide) (by decide) ?_
          clear hP hD hS
          intro r_20 u_22 H locs w_21 hP hD hS
          replace hP : va_P D vwCl [(k, .inr (1, [.ref k0, .ref k1, .int f17_k2, .int f17_k3])), (k0, .inl (cI, 5409, .inl c0)), (k1, .inl (cI, 8, .inl g17_k1)), (o, .inr (6, [.ref o0, .ref o1, .ref o2])), (o1, .inl (cI, 4, .inl d1)), (o2, .inl (cI, 144, .inl d2))] H := hP
          replace hD : va_D A [(k, .inr (1, [.ref k0, .ref k1, .int f17_k2, .int f17_k3])), (k0, .inl (cI, 5409, .inl c0)), (k1, .inl (cI, 8, .inl g17_k1)), (o, .inr (6, [.ref o0, .ref o1, .ref o2])), (o1, .inl (cI, 4, .inl d1)), (o2, .inl (cI, 144, .inl d2))] := hD
          have h_23 := w_21
          have h_23 : r_20 = kNum d1 d2 a1 v_19 := h_23
          have h_24 : r_20 = d2 (36 * a1.toInt.toNat + v_19.toInt.toNat) := h_23.trans (kNum_shv (by omega) (by omega) (by omega) (by omega) (by omega))
          have b_25 : r_20.toInt = thC d2 a1 l17_6.toInt.toNat ∧ 1 ≤ r_20.toInt ∧ r_20.toInt ≤ 3 := th_c pre10 h_24 (by omega) (by omega) (by omega) (by omega)
          have lo_r_20 := k_lo r_20
          have hi_r_20 := k_hi r_20
          refine lv_istore (lv' := [(9, .int r_20), (8, .int r_12), (7, .int r_4), (6, .int l17_6), (5, .int l17_5), (0, .ref k), (1, .ref o), (2, .int a1), (3, .int a2), (4, .int a3)]) hx hb dX1_choose_65 hl (by decide) rfl ?_
          clear hl
          intro ls hl
          have hloop_67 : ∀ (fu_ : Nat) (l67_9 : Int32), l67_9.toInt ≤ r_20.toInt → 0 ≤ l67_9.toInt → l67_9.toInt ≤ r_20.toInt → NBK c0 l17_6 l17_5 r_4.toInt r_12.toInt l67_9.toInt r_20.toInt → l67_9.toInt.toNat < fu_ → ∀ (ls : Array Slot) (H : Heap) (locs : List Loc), lv_has ls 10 [(9, .int l67_9), (8, .int r_12), (7, .int r_4), (6, .int l17_6), (5, .int l17_5), (0, .ref k), (1, .ref o), (2, .int a1), (3, .int a2), (4, .int a3)] → va_P D vwCl [(k, .inr (1, [.ref k0, .ref k1, .int f17_k2, .int f17_k3])), (k0, .inl (cI, 5409, .inl c0)), (k1, .inl (cI, 8, .inl g17_k1)), (o, .inr (6, [.ref o0, .ref o1, .ref o2])), (o1, .inl (cI, 4, .inl d1)), (o2, .inl (cI, 144, .inl d2))] H → va_D A [(k, .inr (1, [.ref k0, .ref k1, .int f17_k2, .int f17_k3])), (k0, .inl (cI, 5409, .inl c0)), (k1, .inl (cI, 8, .inl g17_k1)), (o, .inr (6, [.ref o0, .ref o1, .ref o2])), (o1, .inl (cI, 4, .inl d1)), (o2, .inl (cI, 144, .inl d2))] → va_S A s.heap H locs → W p l e ({ frames := 4, cells := 0, slots := 0, locals := 85 } : Room) s m args below meth c H locs 0 0 Q (F0 m 67 ls []) := by
            intro fu_; induction fu_ with
            | zero => intro l67_9 i67_0 i67_1 i67_2 i67_3 hm; exact absurd hm (by omega)
            | succ fu_ ih67 =>
                intro l67_9 i67_0 i67_1 i67_2 i67_3 hm ls H locs hl hP hD hS
                have lo_l67_9 := k_lo l67_9
                have hi_l67_9 := k_hi l67_9
                have i67_3 : NBK c0 l17_6 l17_5 r_4.toInt r_12.toInt l67_9.toInt r_20.toInt := i67_3
                refine lv_iload hx hb dX1_choose_67 (lv_at hl 0 rfl) ?_
                refine b_if_le hx hb rfl (tgt := 95) dX1_choose_69 (by decide) (fun c_26 => ?_) (fun c_26 => ?_)
                · refine lv_aload_n hx hb dX1_choose_95 rfl (lv_at hl 5 rfl) ?_
                  refine va_get (D := D) (ci := 1) (v := .ref k1) (C := RX1) (T := TX1) (N := 4) hx hb hT giX1 hown hK hP 0 rfl rfl 1 (by decide) (hT (Cond.fieldLink RX1 15 "DesertWire$Loads" "taken" "[I") mw_225) (fun _ h9 => h9) rfl dX1_choose_96 ?_
                  refine lv_iload hx hb dX1_choose_99 (lv_at hl 3 rfl) ?_
                  refine lv_iload hx hb dX1_choose_101 (lv_at hl 0 rfl) ?_
                  refine va_iast hx hb hK hP hD hS 2 0 rfl rfl (k_in (by omega) (by omega)) dX1_choose_103 ?_
                  clear hP hD hS
                  intro H locs hP hD hS
                  replace hP : va_P D vwCl [(k, .inr (1, [.ref k0, .ref k1, .int f17_k2, .int f17_k3])), (k0, .inl (cI, 5409, .inl c0)), (k1, .inl (cI, 8, .inl (upd g17_k1 l17_6.toNatClampNeg l67_9))), (o, .inr (6, [.ref o0, .ref o1, .ref o2])), (o1, .inl (cI, 4, .inl d1)), (o2, .inl (cI, 144, .inl d2))] H := hP
                  replace hD : va_D A [(k, .inr (1, [.ref k0, .ref k1, .int f17_k2, .int f17_k3])), (k0, .inl (cI, 5409, .inl c0)), (k1, .inl (cI, 8, .inl (upd g17_k1 l17_6.toNatClampNeg l67_9))), (o, .inr (6, [.ref o0, .ref o1, .ref o2])), (o1, .inl (cI, 4, .inl d1)), (o2, .inl (cI, 144, .inl d2))] := hD
                  obtain ⟨f_27, ef_27⟩ : ∃ g : Nat → Int32, g = upd g17_k1 l17_6.toNatClampNeg l67_9 := ⟨_, rfl⟩
                  rw [← ef_27] at hP hD
                  refine lv_iload hx hb dX1_choose_104 (lv_at hl 4 rfl) ?_
                  refine lv_iload hx hb dX1_choose_106 (lv_at hl 0 rfl) ?_
                  refine lv_iload hx hb dX1_choose_108 (lv_at hl 2 rfl) ?_
                  refine lv_imul hx hb dX1_choose_110 ?_
                  refine lv_topi (fun v_28 ev_28 => ?_)
                  have lo_v_28 := k_lo v_28
                  have hi_v_28 := k_hi v_28
                  have m_29 := k_m3 (lo := 0) (hi := 40) ev_28 (by omega) (by omega) (by omega) (by omega) (by omega) (by omega) (by omega) (by omega)
                  refine lv_isub hx hb dX1_choose_111 ?_
                  refine lv_topi (fun v_30 ev_30 => ?_)
                  have tv_30 : v_30.toInt = l17_5.toInt - v_28.toInt := by rw [ev_30]; exact k_subv rfl rfl (by omega) (by omega)
                  refine lv_istore (lv' := [(5, .int v_30), (9, .int l67_9), (8, .int r_12), (7, .int r_4), (6, .int l17_6), (0, .ref k), (1, .ref o), (2, .int a1), (3, .int a2), (4, .int a3)]) hx hb dX1_choose_112 hl (by decide) rfl ?_
                  clear hl
                  intro ls hl
                  refine lv_aload_n hx hb dX1_choose_114 rfl (lv_at hl 5 rfl) ?_
                  refine lv_dup hx hb dX1_choose_115 rfl ?_
                  refine va_get (D := D) (ci := 1) (v := .int f17_k3) (C := RX1) (T := TX1) (N := 4) hx hb hT giX1 hown hK hP 0 rfl rfl 3 (by decide) (hT (Cond.fieldLink RX1 22 "DesertWire$Loads" "weight" "I") mw_228) (fun _ h9 => h9) rfl dX1_choose_116 ?_
                  refine lv_iload hx hb dX1_choose_119 (lv_at hl 1 rfl) ?_
                  refine lv_iload hx hb dX1_choose_121 (lv_at hl 3 rfl) ?_
                  refine lv_imul hx hb dX1_choose_123 ?_
                  refine lv_topi (fun v_31 ev_31 => ?_)
                  have lo_v_31 := k_lo v_31
                  have hi_v_31 := k_hi v_31
                  have m_32 := k_m3 (lo := 0) (hi := 40) ev_31 (by omega) (by omega) (by omega) (by omega) (by omega) (by omega) (by omega) (by omega)
                  refine lv_iadd hx hb dX1_choose_124 ?_
                  refine lv_topi (fun v_33 ev_33 => ?_)
                  have tv_33 : v_33.toInt = f17_k3.toInt + v_31.toInt := by rw [ev_33]; exact k_addv rfl rfl (by omega) (by omega)
                  refine va_put (D := D) (ci := 1) (v := .int v_33) (ty := .int) (C := RX1) (T := TX1) (N := 4) hx hb hT giX1 tyX1 tyX1_ok nmX1 hown hK hP hD hS 0 rfl rfl 3 (by decide) (hT (Cond.fieldLink RX1 22 "DesertWire$Loads" "weight" "I") mw_228) (fun _ h9 => h9) rfl (by decide +kernel) rfl rfl (Nat.le_of_ble_eq_true rfl) dX1_choose_125 ?_
                  clear hP hD hS
                  intro H locs hP hD hS
                  replace hP : va_P D vwCl [(k, .inr (1, [.ref k0, .ref k1, .int f17_k2, .int v_33])), (k0, .inl (cI, 5409, .inl c0)), (k1, .inl (cI, 8, .inl f_27)), (o, .inr (6, [.ref o0, .ref o1, .ref o2])), (o1, .inl (cI, 4, .inl d1)), (o2, .inl (cI, 144, .inl d2))] H := hP
                  replace hD : va_D A [(k, .inr (1, [.ref k0, .ref k1, .int f17_k2, .int v_33])), (k0, .inl (cI, 5409, .inl c0)), (k1, .inl (cI, 8, .inl f_27)), (o, .inr (6, [.ref o0, .ref o1, .ref o2])), (o1, .inl (cI, 4, .inl d1)), (o2, .inl (cI, 144, .inl d2))] := hD
                  refine lv_aload_n hx hb dX1_choose_128 rfl (lv_at hl 5 rfl) ?_
                  refine lv_dup hx hb dX1_choose_129 rfl ?_
                  refine va_get (D := D) (ci := 1) (v := .int f17_k2) (C := RX1) (T := TX1) (N := 4) hx hb hT giX1 hown hK hP 0 rfl rfl 2 (by decide) (hT (Cond.fieldLink RX1 18 "DesertWire$Loads" "worth" "I") mw_226) (fun _ h9 => h9) rfl dX1_choose_130 ?_
                  refine lv_iload hx hb dX1_choose_133 (lv_at hl 1 rfl) ?_
                  refine lv_iload hx hb dX1_choose_135 (lv_at hl 2 rfl) ?_
                  refine lv_imul hx hb dX1_choose_137 ?_
                  refine lv_topi (fun v_34 ev_34 => ?_)
                  have lo_v_34 := k_lo v_34
                  have hi_v_34 := k_hi v_34
                  have m_35 := k_m3 (lo := 0) (hi := 999) ev_34 (by omega) (by omega) (by omega) (by omega) (by omega) (by omega) (by omega) (by omega)
                  refine lv_iadd hx hb dX1_choose_138 ?_
                  refine lv_topi (fun v_36 ev_36 => ?_)
                  have tv_36 : v_36.toInt = f17_k2.toInt + v_34.toInt := by rw [ev_36]; exact k_addv rfl rfl (by omega) (by omega)
                  refine va_put (D := D) (ci := 1) (v := .int v_36) (ty := .int) (C := RX1) (T := TX1) (N := 4) hx hb hT giX1 tyX1 tyX1_ok nmX1 hown hK hP hD hS 0 rfl rfl 2 (by decide) (hT (Cond.fieldLink RX1 18 "DesertWire$Loads" "worth" "I") mw_226) (fun _ h9 => h9) rfl (by decide +kernel) rfl rfl (Nat.le_of_ble_eq_true rfl) dX1_choose_139 ?_
                  clear hP hD hS
                  intro H locs hP hD hS
                  replace hP : va_P D vwCl [(k, .inr (1, [.ref k0, .ref k1, .int v_36, .int v_33])), (k0, .inl (cI, 5409, .inl c0)), (k1, .inl (cI, 8, .inl f_27)), (o, .inr (6, [.ref o0, .ref o1, .ref o2])), (o1, .inl (cI, 4, .inl d1)), (o2, .inl (cI, 144, .inl d2))] H := hP
                  replace hD : va_D A [(k, .inr (1, [.ref k0, .ref k1, .int v_36, .int v_33])), (k0, .inl (cI, 5409, .inl c0)), (k1, .inl (cI, 8, .inl f_27)), (o, .inr (6, [.ref o0, .ref o1, .ref o2])), (o1, .inl (cI, 4, .inl d1)), (o2, .inl (cI, 144, .inl d2))] := hD
                  obtain ⟨v_37, ev_37⟩ : ∃ y : Int32, y = l17_6 + 1 := ⟨_, rfl⟩
                  have tv_37 : v_37.toInt = l17_6.toInt + 1 := by rw [ev_37]; exact k_addv rfl zl_1 (by omega) (by omega)
                  refine lv_iinc (v := v_37) (lv' := [(6, .int v_37), (5, .int v_30), (9, .int l67_9), (8, .int r_12), (7, .int r_4), (0, .ref k), (1, .ref o), (2, .int a1), (3, .int a2), (4, .int a3)]) hx hb dX1_choose_142 hl (k := 4) rfl (by rw [ev_37]; rfl) (by decide) rfl ?_
                  clear hl
                  intro ls hl
                  refine lv_goto (tgt := 17) hx hb dX1_choose_145 (by decide) ?_
                  exact ih17 v_30 v_37 v_36 v_33 f_27 (by first | omega | decide | assumption | rfl) (by first | omega | decide | assumption | rfl) (by first | omega | decide | assumption | rfl) (by first | omega | decide | assumption | rfl) (by first | omega | decide | assumption | rfl) (by first | omega | decide | assumption | rfl) (by have z : l67_9.toInt = 0 := (by omega); have y := m_29.1; rw [z, Int.zero_mul] at y; omega) (by first | omega | decide | assumption | rfl) (by first | omega | decide | assumption | rfl) (by first | omega | decide | assumption | rfl) (by first | omega | decide | assumption | rfl) (by first | omega | decide | assumption | rfl) (CHI.s (v := l67_9) i17_12 pre9 (by decide) pre10 (by omega) (by omega) (by omega) (by omega) (by omega) (by rw [← b_25.1]; omega) (by rw [← b_9.1, ← b_17.1, ← b_25.1]; exact i67_3) (Or.inl (by omega)) ef_27 (by rw [← b_9.1]; omega) (by rw [← b_17.1]; omega) (by rw [← b_9.1]; omega) (by omega)) (by omega) ls _ _ (lv_sub hl [0, 1, 5, 6, 7, 8, 9] rfl) (hP.sub [0, 1, 2, 3, 4, 5] rfl) (hD.sub [0, 1, 2, 3, 4, 5] (by decide) rfl) hS
                · refine lv_aload_n hx hb dX1_choose_72 rfl (lv_at hl 5 rfl) ?_
                  refine lv_iload hx hb dX1_choose_73 (lv_at hl 3 rfl) ?_
                  refine lv_iload hx hb dX1_choose_75 (lv_at hl 4 rfl) ?_
                  refine lv_iload hx hb dX1_choose_77 (lv_at hl 0 rfl) ?_
                  refine lv_iload hx hb dX1_choose_79 (lv_at hl 2 rfl) ?_
                  refine lv_iload hx hb dX1_choose_81 (lv_at hl 1 rfl) ?_
                  refine kJi (wr := [(k1, .inl (cI, 8, .inl g17_k1)), (o, .inr (6, [.ref o0, .ref o1, .ref o2])), (o1, .inl (cI, 4, .inl d1)), (o2, .inl (cI, 144, .inl d2))]) (va_runV (As := [.int l17_6, .int l17_5, .int l67_9, .int r_4, .int r_12]) (rest := []) ⟨hx, hb, hml, hown, hT⟩ (c_X1_isBestD l D cI aK aV k k0 k1 H.size f17_k2 f17_k3 c0 l17_6 l17_5 l67_9 r_4 r_12 (by first | omega | decide | assumption | rfl) (by first | omega | decide | assumption | rfl) (by first | omega | decide | assumption | rfl) (by first | omega | decide | assumption | rfl) (by first | omega | decide | assumption | rfl) (by first | omega | decide | assumption | rfl) (by first | omega | decide | assumption | rfl) (by first | omega | decide | assumption | rfl) (by first | omega | decide | assumption | rfl) (by first | omega | decide | assumption | rfl) (DPR.bd (t := l17_6) (DPR.m2 pre9 (by have := zl_m1; omega)) pre10 (by omega) (by omega) (by omega) (by omega))) (cwV 5 hT (gV_in mw_911 mw_908 mw_910 mw_p2_12 mw_8) rfl rfl rfl (by decide +kernel) ⟨Nat.le_of_ble_eq_true rfl, Nat.le_of_ble_eq_true rfl⟩) (kRecvX (q0 := 0) (ci := 1) hK hP hD hN hXS hS hA rfl rfl [0, 1] rfl (by decide)) rfl rfl hl.1 rfl (lv_room (Nat.le_of_ble_eq_true rfl)) dX1_choose_83 ⟨Nat.le_of_ble_eq_true rfl, Nat.le_of_ble_eq_true rfl⟩) hP hD hS hA [0, 1] [2, 3, 4, 5] rfl rfl (by decide) (by decide) ?_
                  clear hP hD hS
                  intro r_38 u_40 H locs w_39 hP hD hS
                  replace hP : va_P D vwCl [(k1, .inl (cI, 8, .inl g17_k1)), (o, .inr (6, [.ref o0, .ref o1, .ref o2])), (o1, .inl (cI, 4, .inl d1)), (o2, .inl (cI, 144, .inl d2)), (k, .inr (1, [.ref k0, .ref k1, .int f17_k2, .int f17_k3])), (k0, .inl (cI, 5409, .inl c0))] H := hP
                  replace hD : va_D A [(k1, .inl (cI, 8, .inl g17_k1)), (o, .inr (6, [.ref o0, .ref o1, .ref o2])), (o1, .inl (cI, 4, .inl d1)), (o2, .inl (cI, 144, .inl d2)), (k, .inr (1, [.ref k0, .ref k1, .int f17_k2, .int f17_k3])), (k0, .inl (cI, 5409, .inl c0))] := hD
                  rcases w_39 with ⟨hr_38, h_41⟩ | ⟨hr_38, h_42⟩
                  · have h_41 : BST c0 l17_6 l17_5 r_4.toInt r_12.toInt l67_9.toInt := h_41
                    have h_41 : BST c0 l17_6 l17_5 r_4.toInt r_12.toInt l67_9.toInt := h_41
                    obtain rfl : r_38 = 1 := hr_38.trans (by decide)
                    refine b_if_ne hx hb zl_1 (tgt := 95) dX1_choose_86 (by decide) (fun c_43 => ?_) (fun c_43 => by exfalso; omega)
                    refine lv_aload_n hx hb dX1_choose_95 rfl (lv_at hl 5 rfl) ?_
                    refine va_get (D := D) (ci := 1) (v := .ref k1) (C := RX1) (T := TX1) (N := 4) hx hb hT giX1 hown hK hP 4 rfl rfl 1 (by decide) (hT (Cond.fieldLink RX1 15 "DesertWire$Loads" "taken" "[I") mw_225) (fun _ h9 => h9) rfl dX1_choose_96 ?_
                    refine lv_iload hx hb dX1_choose_99 (lv_at hl 3 rfl) ?_
                    refine lv_iload hx hb dX1_choose_101 (lv_at hl 0 rfl) ?_
                    refine va_iast hx hb hK hP hD hS 0 0 rfl rfl (k_in (by omega) (by omega)) dX1_choose_103 ?_
                    clear hP hD hS
                    intro H locs hP hD hS
                    replace hP : va_P D vwCl [(k1, .inl (cI, 8, .inl (upd g17_k1 l17_6.toNatClampNeg l67_9))), (o, .inr (6, [.ref o0, .ref o1, .ref o2])), (o1, .inl (cI, 4, .inl d1)), (o2, .inl (cI, 144, .inl d2)), (k, .inr (1, [.ref k0, .ref k1, .int f17_k2, .int f17_k3])), (k0, .inl (cI, 5409, .inl c0))] H := hP
                    replace hD : va_D A [(k1, .inl (cI, 8, .inl (upd g17_k1 l17_6.toNatClampNeg l67_9))), (o, .inr (6, [.ref o0, .ref o1, .ref o2])), (o1, .inl (cI, 4, .inl d1)), (o2, .inl (cI, 144, .inl d2)), (k, .inr (1, [.ref k0, .ref k1, .int f17_k2, .int f17_k3])), (k0, .inl (cI, 5409, .inl c0))] := hD
                    obtain ⟨f_44, ef_44⟩ : ∃ g : Nat → Int32, g = upd g17_k1 l17_6.toNatClampNeg l67_9 := ⟨_, rfl⟩
                    rw [← ef_44] at hP hD
                    refine lv_iload hx hb dX1_choose_104 (lv_at hl 4 rfl) ?_
                    refine lv_iload hx hb dX1_choose_106 (lv_at hl 0 rfl) ?_
                    refine lv_iload hx hb dX1_choose_108 (lv_at hl 2 rfl) ?_
                    refine lv_imul hx hb dX1_choose_110 ?_
                    refine lv_topi (fun v_45 ev_45 => ?_)
                    have lo_v_45 := k_lo v_45
                    have hi_v_45 := k_hi v_45
                    have m_46 := k_m3 (lo := 0) (hi := 40) ev_45 (by omega) (by omega) (by omega) (by omega) (by omega) (by omega) (by omega) (by omega)
                    refine lv_isub hx hb dX1_choose_111 ?_
                    refine lv_topi (fun v_47 ev_47 => ?_)
                    have tv_47 : v_47.toInt = l17_5.toInt - v_45.toInt := by rw [ev_47]; exact k_subv rfl rfl (by omega) (by omega)
                    refine lv_istore (lv' := [(5, .int v_47), (9, .int l67_9), (8, .int r_12), (7, .int r_4), (6, .int l17_6), (0, .ref k), (1, .ref o), (2, .int a1), (3, .int a2), (4, .int a3)]) hx hb dX1_choose_112 hl (by decide) rfl ?_
                    clear hl
                    intro ls hl
                    refine lv_aload_n hx hb dX1_choose_114 rfl (lv_at hl 5 rfl) ?_
                    refine lv_dup hx hb dX1_choose_115 rfl ?_
                    refine va_get (D := D) (ci := 1) (v := .int f17_k3) (C := RX1) (T := TX1) (N := 4) hx hb hT giX1 hown hK hP 4 rfl rfl 3 (by decide) (hT (Cond.fieldLink RX1 22 "DesertWire$Loads" "weight" "I") mw_228) (fun _ h9 => h9) rfl dX1_choose_116 ?_
                    refine lv_iload hx hb dX1_choose_119 (lv_at hl 1 rfl) ?_
                    refine lv_iload hx hb dX1_choose_121 (lv_at hl 3 rfl) ?_
                    refine lv_imul hx hb dX1_choose_123 ?_
                    refine lv_topi (fun v_48 ev_48 => ?_)
                    have lo_v_48 := k_lo v_48
                    have hi_v_48 := k_hi v_48
                    have m_49 := k_m3 (lo := 0) (hi := 40) ev_48 (by omega) (by omega) (by omega) (by omega) (by omega) (by omega) (by omega) (by omega)
                    refine lv_iadd hx hb dX1_choose_124 ?_
                    refine lv_topi (fun v_50 ev_50 => ?_)
                    have tv_50 : v_50.toInt = f17_k3.toInt + v_48.toInt := by rw [ev_50]; exact k_addv rfl rfl (by omega) (by omega)
                    refine va_put (D := D) (ci := 1) (v := .int v_50) (ty := .int) (C := RX1) (T := TX1) (N := 4) hx hb hT giX1 tyX1 tyX1_ok nmX1 hown hK hP hD hS 4 rfl rfl 3 (by decide) (hT (Cond.fieldLink RX1 22 "DesertWire$Loads" "weight" "I") mw_228) (fun _ h9 => h9) rfl (by decide +kernel) rfl rfl (Nat.le_of_ble_eq_true rfl) dX1_choose_125 ?_
                    clear hP hD hS
                    intro H locs hP hD hS
                    replace hP : va_P D vwCl [(k1, .inl (cI, 8, .inl f_44)), (o, .inr (6, [.ref o0, .ref o1, .ref o2])), (o1, .inl (cI, 4, .inl d1)), (o2, .inl (cI, 144, .inl d2)), (k, .inr (1, [.ref k0, .ref k1, .int f17_k2, .int v_50])), (k0, .inl (cI, 5409, .inl c0))] H := hP
                    replace hD : va_D A [(k1, .inl (cI, 8, .inl f_44)), (o, .inr (6, [.ref o0, .ref o1, .ref o2])), (o1, .inl (cI, 4, .inl d1)), (o2, .inl (cI, 144, .inl d2)), (k, .inr (1, [.ref k0, .ref k1, .int f17_k2, .int v_50])), (k0, .inl (cI, 5409, .inl c0))] := hD
                    refine lv_aload_n hx hb dX1_choose_128 rfl (lv_at hl 5 rfl) ?_
                    refine lv_dup hx hb dX1_choose_129 rfl ?_
                    refine va_get (D := D) (ci := 1) (v := .int f17_k2) (C := RX1) (T := TX1) (N := 4) hx hb hT giX1 hown hK hP 4 rfl rfl 2 (by decide) (hT (Cond.fieldLink RX1 18 "DesertWire$Loads" "worth" "I") mw_226) (fun _ h9 => h9) rfl dX1_choose_130 ?_
                    refine lv_iload hx hb dX1_choose_133 (lv_at hl 1 rfl) ?_
                    refine lv_iload hx hb dX1_choose_135 (lv_at hl 2 rfl) ?_
                    refine lv_imul hx hb dX1_choose_137 ?_
                    refine lv_topi (fun v_51 ev_51 => ?_)
                    have lo_v_51 := k_lo v_51
                    have hi_v_51 := k_hi v_51
                    have m_52 := k_m3 (lo := 0) (hi := 999) ev_51 (by omega) (by omega) (by omega) (by omega) (by omega) (by omega) (by omega) (by omega)
                    refine lv_iadd hx hb dX1_choose_138 ?_
                    refine lv_topi (fun v_53 ev_53 => ?_)
                    have tv_53 : v_53.toInt = f17_k2.toInt + v_51.toInt := by rw [ev_53]; exact k_addv rfl rfl (by omega) (by omega)
                    refine va_put (D := D) (ci := 1) (v := .int v_53) (ty := .int) (C := RX1) (T := TX1) (N := 4) hx hb hT giX1 tyX1 tyX1_ok nmX1 hown hK hP hD hS 4 rfl rfl 2 (by decide) (hT (Cond.fieldLink RX1 18 "DesertWire$Loads" "worth" "I") mw_226) (fun _ h9 => h9) rfl (by decide +kernel) rfl rfl (Nat.le_of_ble_eq_true rfl) dX1_choose_139 ?_
                    clear hP hD hS
                    intro H locs hP hD hS
                    replace hP : va_P D vwCl [(k1, .inl (cI, 8, .inl f_44)), (o, .inr (6, [.ref o0, .ref o1, .ref o2])), (o1, .inl (cI, 4, .inl d1)), (o2, .inl (cI, 144, .inl d2)), (k, .inr (1, [.ref k0, .ref k1, .int v_53, .int v_50])), (k0, .inl (cI, 5409, .inl c0))] H := hP
                    replace hD : va_D A [(k1, .inl (cI, 8, .inl f_44)), (o, .inr (6, [.ref o0, .ref o1, .ref o2])), (o1, .inl (cI, 4, .inl d1)), (o2, .inl (cI, 144, .inl d2)), (k, .inr (1, [.ref k0, .ref k1, .int v_53, .int v_50])), (k0, .inl (cI, 5409, .inl c0))] := hD
                    obtain ⟨v_54, ev_54⟩ : ∃ y : Int32, y = l17_6 + 1 := ⟨_, rfl⟩
                    have tv_54 : v_54.toInt = l17_6.toInt + 1 := by rw [ev_54]; exact k_addv rfl zl_1 (by omega) (by omega)
                    refine lv_iinc (v := v_54) (lv' := [(6, .int v_54), (5, .int v_47), (9, .int l67_9), (8, .int r_12), (7, .int r_4), (0, .ref k), (1, .ref o), (2, .int a1), (3, .int a2), (4, .int a3)]) hx hb dX1_choose_142 hl (k := 4) rfl (by rw [ev_54]; rfl) (by decide) rfl ?_
                    clear hl
                    intro ls hl
                    refine lv_goto (tgt := 17) hx hb dX1_choose_145 (by decide) ?_
                    exact ih17 v_47 v_54 v_53 v_50 f_44 (by first | omega | decide | assumption | rfl) (by first | omega | decide | assumption | rfl) (by first | omega | decide | assumption | rfl) (by first | omega | decide | assumption | rfl) (by first | omega | decide | assumption | rfl) (by first | omega | decide | assumption | rfl) (by have z := h_41.1; have y := m_46.1; omega) (by first | omega | decide | assumption | rfl) (by first | omega | decide | assumption | rfl) (by first | omega | decide | assumption | rfl) (by first | omega | decide | assumption | rfl) (by first | omega | decide | assumption | rfl) (CHI.s (v := l67_9) i17_12 pre9 (by decide) pre10 (by omega) (by omega) (by omega) (by omega) (by omega) (by rw [← b_25.1]; omega) (by rw [← b_9.1, ← b_17.1, ← b_25.1]; exact i67_3) (Or.inr (by rw [← b_9.1, ← b_17.1]; exact h_41)) ef_44 (by rw [← b_9.1]; omega) (by rw [← b_17.1]; omega) (by rw [← b_9.1]; omega) (by omega)) (by omega) ls _ _ (lv_sub hl [0, 1, 5, 6, 7, 8, 9] rfl) (hP.sub [4, 5, 0, 1, 2, 3] rfl) (hD.sub [4, 5, 0, 1, 2, 3] (by decide) rfl) hS
                  · have h_42 : ¬ BST c0 l17_6 l17_5 r_4.toInt r_12.toInt l67_9.toInt := h_42
                    have h_42 : ¬ BST c0 l17_6 l17_5 r_4.toInt r_12.toInt l67_9.toInt := h_42
                    obtain rfl : r_38 = 0 := hr_38.trans (by decide)
                    refine b_if_ne hx hb zl_0 (tgt := 95) dX1_choose_86 (by decide) (fun c_55 => by exfalso; omega) (fun c_55 => ?_)
                    obtain ⟨v_56, ev_56⟩ : ∃ y : Int32, y = l67_9 + (-1) := ⟨_, rfl⟩
                    have tv_56 : v_56.toInt = l67_9.toInt + (-1) := by rw [ev_56]; exact k_addv rfl zl_m1 (by omega) (by omega)
                    refine lv_iinc (v := v_56) (lv' := [(9, .int v_56), (8, .int r_12), (7, .int r_4), (6, .int l17_6), (5, .int l17_5), (0, .ref k), (1, .ref o), (2, .int a1), (3, .int a2), (4, .int a3)]) hx hb dX1_choose_89 hl (k := 0) rfl (by rw [ev_56]; rfl) (by decide) rfl ?_
                    clear hl
                    intro ls hl
                    refine lv_goto (tgt := 67) hx hb dX1_choose_92 (by decide) ?_
                    exact ih67 v_56 (by first | omega | decide | assumption | rfl) (by first | omega | decide | assumption | rfl) (by first | omega | decide | assumption | rfl) (NBK.s i67_3 (by omega) h_42) (by omega) ls _ _ (lv_sub hl [0, 1, 2, 3, 4, 5, 6, 7, 8, 9] rfl) (hP.sub [4, 5, 0, 1, 2, 3] rfl) (hD.sub [4, 5, 0, 1, 2, 3] (by decide) rfl) hS
          exact hloop_67 _ r_20 (by first | omega | decide | assumption | rfl) (by first | omega | decide | assumption | rfl) (by first | omega | decide | assumption | rfl) (NBK.z (by omega)) (Nat.lt_succ_self _) ls _ _ (lv_sub hl [0, 1, 2, 3, 4, 5, 6, 7, 8, 9] rfl) hP hD hS
  exact hloop_17 _ a3 0 0 0 c1 (by first | omega | (simp only [zl_0]; first | done | omega) | decide | assumption | rfl) (by first | omega | (simp only [zl_0]; first | done | omega) | decide | assumption | rfl) (by first | omega | (simp only [zl_0]; first | done | omega) | decide | assumption | rfl) (by first | omega | (simp only [zl_0]; first | done | omega) | decide | assumption | rfl) (by first | omega | (simp only [zl_0]; first | done | omega) | decide | assumption | rfl) (by first | omega | (simp only [zl_0]; first | done | omega) | decide | assumption | rfl) (by omega) (by first | omega | (simp only [zl_0]; first | done | omega) | decide | assumption | rfl) (by first | omega | (simp only [zl_0]; first | done | omega) | decide | assumption | rfl) (by first | omega | (simp only [zl_0]; first | done | omega) | decide | assumption | rfl) (by first | omega | (simp only [zl_0]; first | done | omega) | decide | assumption | rfl) (by first | omega | (simp only [zl_0]; first | done | omega) | decide | assumption | rfl) (CHI.z zl_0 rfl zl_0 zl_0) (Nat.lt_succ_self _) ls _ _ (lv_sub hl [0, 1, 2, 3, 4, 5, 6] rfl) hP hD hS

set_option maxHeartbeats 4000000 in
set_option maxRecDepth 100000 in
theorem c_X1_packD (l : Launch) (D : va_G) (cI : ClassId) (aK aV : Nat → Nat) (k o k0 k1 o0 o1 o2 : Nat) (sz : Nat) (c2 : Int32) (c3 : Int32) (c0 : Nat → Int32) (c1 : Nat → Int32) (d1 : Nat → Int32) (d2 : Nat → Int32) (a1 : Int32) (a2 : Int32) (pre0 : 0 ≤ a1.toInt) (pre1 : a1.toInt ≤ 3) (pre2 : ∀ k : Nat, k < 4 → 0 ≤ (d1 k).toInt ∧ (d1 k).toInt ≤ 36) (pre3 : 3 ≤ (d1 a1.toNatClampNeg).toInt) (pre4 : (d1 a1.toNatClampNeg).toInt ≤ 24) (pre5 : (d1 a1.toNatClampNeg).toInt % 3 = 0) (pre6 : 0 ≤ a2.toInt) (pre7 : a2.toInt ≤ 600) (pre8 : THG d2 a1 ((d1 a1.toNatClampNeg).toInt / 3)) : Met l yX1_pack (gW yX1_pack cX1_pack 10 none) ({ frames := 5, cells := 0, slots := 0, locals := 114 } : Room) (kPreX D cI aK aV [.ref k, .ref o, .int a1, .int a2] [(k, .inr (1, [.ref k0, .ref k1, .int c2, .int c3])), (k0, .inl (cI, 5409, .inl c0)), (k1, .inl (cI, 8, .inl c1)), (o, .inr (6, [.ref o0, .ref o1, .ref o2])), (o1, .inl (cI, 4, .inl d1)), (o2, .inl (cI, 144, .inl d2))] sz) (va_Qv (fun (u : Int32 × Int32 × (Nat → Int32) × (Nat → Int32)) => LDA d2 a1 ((d1 a1.toNatClampNeg).toInt / 3).toNat a2.toInt u.2.2.2 u.1 u.2.1) (fun u t => kWd D cI (va_A [(k, .inr (1, [.ref k0, .ref k1, .int c2, .int c3])), (k0, .inl (cI, 5409, .inl c0)), (k1, .inl (cI, 8, .inl c1)), (o, .inr (6, [.ref o0, .ref o1, .ref o2])), (o1, .inl (cI, 4, .inl d1)), (o2, .inl (cI, 144, .inl d2))] sz) [(k, .inr (1, [.ref k0, .ref k1, .int u.1, .int u.2.1])), (k0, .inl (cI, 5409, .inl u.2.2.1)), (k1, .inl (cI, 8, .inl u.2.2.2)), (o, .inr (6, [.ref o0, .ref o1, .ref o2])), (o1, .inl (cI, 4, .inl d1)), (o2, .inl (cI, 144, .inl d2))] t) (va_A [(k, .inr (1, [.ref k0, .ref k1, .int c2, .int c3])), (k0, .inl (cI, 5409, .inl c0)), (k1, .inl (cI, 8, .inl c1)), (o, .inr (6, [.ref o0, .ref o1, .ref o2])), (o1, .inl (cI, 4, .inl d1)), (o2, .inl (cI, 144, .inl d2))] sz)) 0 0 (va_A [(k, .inr (1, [.ref k0, .ref k1, .int c2, .int c3])), (k0, .inl (cI, 5409, .inl c0)), (k1, .inl (cI, 8, .inl c1)), (o, .inr (6, [.ref o0, .ref o1, .ref o2])), (o1, .inl (cI, 4, .inl d1)), (o2, .inl (cI, 144, .inl d2))] sz) := by
  refine kMetVX (own := RX1) (by decide) rfl (Nat.le_of_ble_eq_true rfl) ?_
  intro p e s m args below meth c hx hb hT hown hname hml A Q hK hP hD hS hA hN hXS hRet ls hl
  have hl : lv_has ls 10 [(0, .ref k), (1, .ref o), (2, .int a1), (3, .int a2)] := hl
  have lo_a1 := k_lo a1
  have hi_a1 := k_hi a1
  have lo_a2 := k_lo a2
  have hi_a2 := k_hi a2
  have pre8 : THG d2 a1 ((d1 a1.toNatClampNeg).toInt / 3) := pre8
  refine lv_bipush (v := 8) hx hb dX1_pack_0 (by decide) ?_
  refine lv_aload_n hx hb dX1_pack_2 rfl (lv_at hl 1 rfl) ?_
  refine lv_iload_n hx hb dX1_pack_3 rfl (lv_at hl 2 rfl) ?_
  refine kJi (wr := [(k, .inr (1, [.ref k0, .ref k1, .int c2, .int c3])), (k0, .inl (cI, 5409, .inl c0)), (k1, .inl (cI, 8, .inl c1)), (o2, .inl (cI, 144, .inl d2))]) (va_runV (As := [.int a1]) (rest := [.int 8]) ⟨hx, hb, hml, hown, hT⟩ (c_X6_lengthOfG l D cI aK aV o o0 o1 o2 s.heap.size d1 a1 (by first | omega | decide | assumption | rfl)) (cwV 1 hT (gV_in mw_675 mw_891 mw_673 mw_674 mw_11) rfl rfl rfl (by decide +kernel) ⟨Nat.le_of_ble_eq_true rfl, Nat.le_of_ble_eq_true rfl⟩) (kRecvX (q0 := 3) (ci := 6) hK hP hD hN hXS hS hA rfl rfl [3, 4] rfl (by decide)) rfl rfl hl.1 rfl (lv_room (Nat.le_of_ble_eq_true rfl)) dX1_pack_4 ⟨Nat.le_of_ble_eq_true rfl, Nat.le_of_ble_eq_true rfl⟩) hP hD hS hA [3, 4] [0, 1, 2, 5] rfl rfl (by decide) (by decide) ?_
  clear hP hD hS
  intro r_1 u_3 H locs w_2 hP hD hS
  replace hP : va_P D vwCl [(k, .inr (1, [.ref k0, .ref k1, .int c2, .int c3])), (k0, .inl (cI, 5409, .inl c0)), (k1, .inl (cI, 8, .inl c1)), (o2, .inl (cI, 144, .inl d2)), (o, .inr (6, [.ref o0, .ref o1, .ref o2])), (o1, .inl (cI, 4, .inl d1))] H := hP
  replace hD : va_D A [(k, .inr (1, [.ref k0, .ref k1, .int c2, .int c3])), (k0, .inl (cI, 5409, .inl c0)), (k1, .inl (cI, 8, .inl c1)), (o2, .inl (cI, 144, .inl d2)), (o, .inr (6, [.ref o0, .ref o1, .ref o2])), (o1, .inl (cI, 4, .inl d1))] := hD
  rcases w_2 with ⟨h_4, h_5, h_6, h_7, h_8⟩ | ⟨hr_1, h_9⟩
  · have h_4 : 0 ≤ a1.toInt := h_4
    have h_5 : a1.toInt ≤ 3 := h_5
    have h_6 : 0 ≤ r_1.toInt := h_6
    have h_7 : r_1.toInt ≤ 36 := h_7
    have h_8 : r_1.toInt = (d1 a1.toNatClampNeg).toInt := h_8
    have lo_r_1 := k_lo r_1
    have hi_r_1 := k_hi r_1
    refine lv_iconst (v := 3) hx hb dX1_pack_7 (by decide) ?_
    refine lv_idiv hx hb dX1_pack_8 (by decide) ?_
    refine lv_topi (fun v_10 ev_10 => ?_)
    have tv_10 : v_10.toInt = r_1.toInt / 3 := k_divv (w := 0) ev_10 zl_3 (by omega) (by decide)
    have lo_v_10 := k_lo v_10
    have hi_v_10 := k_hi v_10
    refine va_mmin hx hb (hml.trans hl.1.symm) hown (hT _ mw_892) (hT _ mw_538) (hT _ mw_13) (hT _ mw_539) (Nat.le_of_ble_eq_true rfl) (Nat.le_of_ble_eq_true rfl) (Nat.le_of_ble_eq_true rfl) (Nat.le_of_ble_eq_true rfl) dX1_pack_9 ?_
    refine lv_topi (fun v_11 ev_11 => ?_)
    have lo_v_11 := k_lo v_11
    have hi_v_11 := k_hi v_11
    have tv_11 : v_11.toInt = k_min 8 v_10.toInt := by rw [ev_11]; exact k_mmin zl_8 rfl
    try rw [tv_10] at tv_11
    have sv_11 := k_min_spec (8) (v_10.toInt)
    try rw [tv_10] at sv_11
    have nv_11 : 0 ≤ v_11.toInt := by omega
    refine lv_istore (lv' := [(4, .int v_11), (0, .ref k), (1, .ref o), (2, .int a1), (3, .int a2)]) hx hb dX1_pack_12 hl (by decide) rfl ?_
    clear hl
    intro ls hl
    refine lv_iconst (v := 0) hx hb dX1_pack_14 (by decide) ?_
    refine lv_istore (lv' := [(5, .int 0), (4, .int v_11), (0, .ref k), (1, .ref o), (2, .int a1), (3, .int a2)]) hx hb dX1_pack_15 hl (by decide) rfl ?_
    clear hl
    intro ls hl
    have hTG : THG d2 a1 v_11.toInt := by rw [show v_11.toInt = (d1 a1.toNatClampNeg).toInt / 3 from by omega]; exact pre8
    have t_12 : 3 * v_11.toInt = (d1 a1.toNatClampNeg).toInt := by omega
    have hloop_17 : ∀ (fu_ : Nat) (l17_5 : Int32) (g17_k0 : Nat → Int32), 0 ≤ l17_5.toInt → 0 ≤ l17_5.toInt → l17_5.toInt ≤ 601 → PZR g17_k0 v_11 l17_5 → (601 - l17_5.toInt).toNat < fu_ → ∀ (ls : Array Slot) (H : Heap) (locs : List Loc), lv_has ls 10 [(5, .int l17_5), (4, .int v_11), (0, .ref k), (1, .ref o), (2, .int a1), (3, .int a2)] → va_P D vwCl [(k, .inr (1, [.ref k0, .ref k1, .int c2, .int c3])), (k0, .inl (cI, 5409, .inl g17_k0)), (k1, .inl (cI, 8, .inl c1)), (o2, .inl (cI, 144, .inl d2)), (o, .inr (6, [.ref o0, .ref o1, .ref o2])), (o1, .inl (cI, 4, .inl d1))] H → va_D A [(k, .inr (1, [.ref k0, .ref k1, .int c2, .int c3])), (k0, .inl (cI, 5409, .inl g17_k0)), (k1, .inl (cI, 8, .inl c1)), (o2, .inl (cI, 144, .inl d2)), (o, .inr (6, [.ref o0, .ref o1, .ref o2])), (o1, .inl (cI, 4, .inl d1))] → va_S A s.heap H locs → W p l e ({ frames := 5, cells := 0, slots := 0, locals := 114 } : Room) s m args below meth c H locs 0 0 Q (F0 m 17 ls []) := by
      intro fu_; induction fu_ with
      | zero => intro l17_5 g17_k0 i17_0 i17_1 i17_2 i17_3 hm; exact absurd hm (by omega)
      | succ fu_ ih17 =>
          intro l17_5 g17_k0 i17_0 i17_1 i17_2 i17_3 hm ls H locs hl hP hD hS
          have lo_l17_5 := k_lo l17_5
          have hi_l17_5 := k_hi l17_5
          have i17_3 : PZR g17_k0 v_11 l17_5 := i17_3
          refine lv_iload hx hb dX1_pack_17 (lv_at hl 0 rfl) ?_
          refine lv_iload_n hx hb dX1_pack_19 rfl (lv_at hl 5 rfl) ?_
          refine b_icmp_gt hx hb rfl rfl (tgt := 52) dX1_pack_20 (by decide) (fun c_13 => ?_) (fun c_13 => ?_)
          · refine lv_iload hx hb dX1_pack_52 (lv_at hl 1 rfl) ?_
            refine lv_iconst (v := 1) hx hb dX1_pack_54 (by decide) ?_
            refine lv_isub hx hb dX1_pack_55 ?_
            refine lv_topi (fun v_14 ev_14 => ?_)
            have tv_14 : v_14.toInt = v_11.toInt - 1 := by rw [ev_14]; exact k_subv rfl zl_1 (by omega) (by omega)
            refine lv_istore (lv' := [(5, .int v_14), (4, .int v_11), (0, .ref k), (1, .ref o), (2, .int a1), (3, .int a2)]) hx hb dX1_pack_56 hl (by decide) rfl ?_
            clear hl
            intro ls hl
            have hloop_58 : ∀ (fu_ : Nat) (l58_5 : Int32) (g58_k0 : Nat → Int32), l58_5.toInt ≤ v_14.toInt → -1 ≤ l58_5.toInt → l58_5.toInt < v_11.toInt → DPR g58_k0 d2 a1 v_11 a2 l58_5 → (l58_5.toInt + 1).toNat < fu_ → ∀ (ls : Array Slot) (H : Heap) (locs : List Loc), lv_has ls 10 [(5, .int l58_5), (4, .int v_11), (0, .ref k), (1, .ref o), (2, .int a1), (3, .int a2)] → va_P D vwCl [(k, .inr (1, [.ref k0, .ref k1, .int c2, .int c3])), (k0, .inl (cI, 5409, .inl g58_k0)), (k1, .inl (cI, 8, .inl c1)), (o2, .inl (cI, 144, .inl d2)), (o, .inr (6, [.ref o0, .ref o1, .ref o2])), (o1, .inl (cI, 4, .inl d1))] H → va_D A [(k, .inr (1, [.ref k0, .ref k1, .int c2, .int c3])), (k0, .inl (cI, 5409, .inl g58_k0)), (k1, .inl (cI, 8, .inl c1)), (o2, .inl (cI, 144, .inl d2)), (o, .inr (6, [.ref o0, .ref o1, .ref o2])), (o1, .inl (cI, 4, .inl d1))] → va_S A s.heap H locs → W p l e ({ frames := 5, cells := 0, slots := 0, locals := 114 } : Room) s m args below meth c H locs 0 0 Q (F0 m 58 ls []) := by
              intro fu_; induction fu_ with
              | zero => intro l58_5 g58_k0 i58_0 i58_1 i58_2 i58_3 hm; exact absurd hm (by omega)
              | succ fu_ ih58 =>
                  intro l58_5 g58_k0 i58_0 i58_1 i58_2 i58_3 hm ls H locs hl hP hD hS
                  have lo_l58_5 := k_lo l58_5
                  have hi_l58_5 := k_hi l58_5
                  have i58_3 : DPR g58_k0 d2 a1 v_11 a2 l58_5 := i58_3
                  refine lv_iload hx hb dX1_pack_58 (lv_at hl 0 rfl) ?_
                  refine b_if_lt hx hb rfl (tgt := 157) dX1_pack_60 (by decide) (fun c_15 => ?_) (fun c_15 => ?_)
                  · refine lv_aload_n hx hb dX1_pack_157 rfl (lv_at hl 2 rfl) ?_
                    refine lv_aload_n hx hb dX1_pack_158 rfl (lv_at hl 3 rfl) ?_
                    refine lv_iload_n hx hb dX1_pack_159 rfl (lv_at hl 4 rfl) ?_
                    refine lv_iload hx hb dX1_pack_160 (lv_at hl 1 rfl) ?_
                    refine lv_iload_n hx hb dX1_pack_162 rfl (lv_at hl 5 rfl) ?_
                    refine kJv (wr := []) (va_runV (As := [.ref o, .int a1, .int v_11, .int a2]) (rest := []) ⟨hx, hb, hml, hown, hT⟩ (c_X1_chooseD l D cI aK aV k o k0 k1 o0 o1 o2 H.size c2 c3 g58_k0 c1 d1 d2 a1 v_11 a2 (by first | omega | decide | assumption | rfl) (by first | omega | decide | assumption | rfl) (by first | omega | decide | assumption | rfl) (by first | omega | decide | assumption | rfl) (by first | omega | decide | assumption | rfl) (by first | omega | decide | assumption | rfl) (by first | omega | decide | assumption | rfl) (by first | omega | decide | assumption | rfl) (by first | omega | decide | assumption | rfl) (DPR.m i58_3 (by have := zl_m1; omega)) hTG) (cwV 4 hT (gV_in mw_907 mw_904 mw_906 mw_p2_11 mw_8) rfl rfl rfl (by decide +kernel) ⟨Nat.le_of_ble_eq_true rfl, Nat.le_of_ble_eq_true rfl⟩) (kRecvX (q0 := 0) (ci := 1) hK hP hD hN hXS hS hA rfl rfl [0, 1, 2, 4, 5, 3] rfl (by decide)) rfl rfl hl.1 rfl (lv_room (Nat.le_of_ble_eq_true rfl)) dX1_pack_163 ⟨Nat.le_of_ble_eq_true rfl, Nat.le_of_ble_eq_true rfl⟩) hP hD hS hA [0, 1, 2, 4, 5, 3] [] rfl rfl (by decide) (by decide) ?_
                    clear hP hD hS
                    intro u_21 H locs w_17 hP hD hS
                    obtain ⟨sc2_18, sc3_19, sc1_20⟩ := u_21
                    replace hP : va_P D vwCl [(k, .inr (1, [.ref k0, .ref k1, .int sc2_18, .int sc3_19])), (k0, .inl (cI, 5409, .inl g58_k0)), (k1, .inl (cI, 8, .inl sc1_20)), (o, .inr (6, [.ref o0, .ref o1, .ref o2])), (o1, .inl (cI, 4, .inl d1)), (o2, .inl (cI, 144, .inl d2))] H := hP
                    replace hD : va_D A [(k, .inr (1, [.ref k0, .ref k1, .int sc2_18, .int sc3_19])), (k0, .inl (cI, 5409, .inl g58_k0)), (k1, .inl (cI, 8, .inl sc1_20)), (o, .inr (6, [.ref o0, .ref o1, .ref o2])), (o1, .inl (cI, 4, .inl d1)), (o2, .inl (cI, 144, .inl d2))] := hD
                    have lo_sc2_18 := k_lo sc2_18
                    have hi_sc2_18 := k_hi sc2_18
                    have lo_sc3_19 := k_lo sc3_19
                    have hi_sc3_19 := k_hi sc3_19
                    have h_22 := w_17
                    have h_22 : LDA d2 a1 v_11.toInt.toNat a2.toInt sc1_20 sc2_18 sc3_19 := h_22
                    have h_22 : LDA d2 a1 v_11.toInt.toNat a2.toInt sc1_20 sc2_18 sc3_19 := h_22
                    exact hRet (sc2_18, sc3_19, g58_k0, sc1_20) [0, 1, 2, 3, 4, 5] (by rw [show (d1 a1.toNatClampNeg).toInt / 3 = v_11.toInt from by omega]; exact h_22) hP hD (by decide) rfl hS dX1_pack_166
                  · refine lv_aload_n hx hb dX1_pack_63 rfl (lv_at hl 3 rfl) ?_
                    refine lv_iload_n hx hb dX1_pack_64 rfl (lv_at hl 4 rfl) ?_
                    refine lv_iconst (v := 3) hx hb dX1_pack_65 (by decide) ?_
                    refine lv_iload hx hb dX1_pack_66 (lv_at hl 0 rfl) ?_
                    refine lv_imul hx hb dX1_pack_68 ?_
                    refine lv_topi (fun v_23 ev_23 => ?_)
                    have tv_23 : v_23.toInt = 3 * l58_5.toInt := by rw [ev_23]; exact k_mulv zl_3 rfl (by omega) (by omega)
                    refine kJi (wr := [(k, .inr (1, [.ref k0, .ref k1, .int c2, .int c3])), (k0, .inl (cI, 5409, .inl g58_k0)), (k1, .inl (cI, 8, .inl c1))]) (va_runV (As := [.int a1, .int v_23]) (rest := []) ⟨hx, hb, hml, hown, hT⟩ (c_X6_numberAtG l D cI aK aV o o0 o1 o2 H.size d1 d2 a1 v_23 (by first | omega | decide | assumption | rfl)) (cwV 2 hT (gV_in mw_684 mw_893 mw_682 mw_683 mw_11) rfl rfl rfl (by decide +kernel) ⟨Nat.le_of_ble_eq_true rfl, Nat.le_of_ble_eq_true rfl⟩) (kRecvX (q0 := 4) (ci := 6) hK hP hD hN hXS hS hA rfl rfl [4, 5, 3] rfl (by decide)) rfl rfl hl.1 rfl (lv_room (Nat.le_of_ble_eq_true rfl)) dX1_pack_69 ⟨Nat.le_of_ble_eq_true rfl, Nat.le_of_ble_eq_true rfl⟩) hP hD hS hA [4, 5, 3] [0, 1, 2] rfl rfl (by decide) (by decide) ?_
                    clear hP hD hS
                    intro r_24 u_26 H locs w_25 hP hD hS
                    replace hP : va_P D vwCl [(k, .inr (1, [.ref k0, .ref k1, .int c2, .int c3])), (k0, .inl (cI, 5409, .inl g58_k0)), (k1, .inl (cI, 8, .inl c1)), (o, .inr (6, [.ref o0, .ref o1, .ref o2])), (o1, .inl (cI, 4, .inl d1)), (o2, .inl (cI, 144, .inl d2))] H := hP
                    replace hD : va_D A [(k, .inr (1, [.ref k0, .ref k1, .int c2, .int c3])), (k0, .inl (cI, 5409, .inl g58_k0)), (k1, .inl (cI, 8, .inl c1)), (o, .inr (6, [.ref o0, .ref o1, .ref o2])), (o1, .inl (cI, 4, .inl d1)), (o2, .inl (cI, 144, .inl d2))] := hD
                    have h_27 := w_25
                    have h_27 : r_24 = kNum d1 d2 a1 v_23 := h_27
                    have h_28 : r_24 = d2 (36 * a1.toInt.toNat + v_23.toInt.toNat) := h_27.trans (kNum_shv (by omega) (by omega) (by omega) (by omega) (by omega))
                    have b_29 : r_24.toInt = thH d2 a1 l58_5.toInt.toNat ∧ 1 ≤ r_24.toInt ∧ r_24.toInt ≤ 40 := th_h hTG h_28 (by omega) (by omega) (by omega) (by omega)
                    have lo_r_24 := k_lo r_24
                    have hi_r_24 := k_hi r_24
                    refine lv_istore (lv' := [(6, .int r_24), (5, .int l58_5), (4, .int v_11), (0, .ref k), (1, .ref o), (2, .int a1), (3, .int a2)]) hx hb dX1_pack_72 hl (by decide) rfl ?_
                    clear hl
                    intro ls hl
                    refine lv_aload_n hx hb dX1_pack_74 rfl (lv_at hl 4 rfl) ?_
                    refine lv_iload_n hx hb dX1_pack_75 rfl (lv_at hl 5 rfl) ?_
                    refine lv_iconst (v := 3) hx hb dX1_pack_76 (by decide) ?_
                    refine lv_iload hx hb dX1_pack_77 (lv_at hl 1 rfl) ?_
                    refine lv_imul hx hb dX1_pack_79 ?_
                    refine lv_topi (fun v_30 ev_30 => ?_)
                    have tv_30 : v_30.toInt = 3 * l58_5.toInt := by rw [ev_30]; exact k_mulv zl_3 rfl (by omega) (by omega)
                    refine lv_iconst (v := 1) hx hb dX1_pack_80 (by decide) ?_
                    refine lv_iadd hx hb dX1_pack_81 ?_
                    refine lv_topi (fun v_31 ev_31 => ?_)
                    have tv_31 : v_31.toInt = v_30.toInt + 1 := by rw [ev_31]; exact k_addv rfl zl_1 (by omega) (by omega)
                    refine kJi (wr := [(k, .inr (1, [.ref k0, .ref k1, .int c2, .int c3])), (k0, .inl (cI, 5409, .inl g58_k0)), (k1, .inl (cI, 8, .inl c1))]) (va_runV (As := [.int a1, .int v_31]) (rest := []) ⟨hx, hb, hml, hown, hT⟩ (c_X6_numberAtG l D cI aK aV o o0 o1 o2 H.size d1 d2 a1 v_31 (by first | omega | decide | assumption | rfl)) (cwV 2 hT (gV_in mw_684 mw_893 mw_682 mw_683 mw_11) rfl rfl rfl (by decide +kernel) ⟨Nat.le_of_ble_eq_true rfl, Nat.le_of_ble_eq_true rfl⟩) (kRecvX (q0 := 3) (ci := 6) hK hP hD hN hXS hS hA rfl rfl [3, 4, 5] rfl (by decide)) rfl rfl hl.1 rfl (lv_room (Nat.le_of_ble_eq_true rfl)) dX1_pack_82 ⟨Nat.le_of_ble_eq_true rfl, Nat.le_of_ble_eq_true rfl⟩) hP hD hS hA [3, 4, 5] [0, 1, 2] rfl rfl (by decide) (by decide) ?_
                    clear hP hD hS
                    intro r_32 u_34 H locs w_33 hP hD hS
                    replace hP : va_P D vwCl [(k, .inr (1, [.ref k0, .ref k1, .int c2, .int c3])), (k0, .inl (cI, 5409, .inl g58_k0)), (k1, .inl (cI, 8, .inl c1)), (o, .inr (6, [.ref o0, .ref o1, .ref o2])), (o1, .inl (cI, 4, .inl d1)), (o2, .inl (cI, 144, .inl d2))] H := hP
                    replace hD : va_D A [(k, .inr (1, [.ref k0, .ref k1, .int c2, .int c3])), (k0, .inl (cI, 5409, .inl g58_k0)), (k1, .inl (cI, 8, .inl c1)), (o, .inr (6, [.ref o0, .ref o1, .ref o2])), (o1, .inl (cI, 4, .inl d1)), (o2, .inl (cI, 144, .inl d2))] := hD
                    have h_35 := w_33
                    have h_35 : r_32 = kNum d1 d2 a1 v_31 := h_35
                    have h_36 : r_32 = d2 (36 * a1.toInt.toNat + v_31.toInt.toNat) := h_35.trans (kNum_shv (by omega) (by omega) (by omega) (by omega) (by omega))
                    have b_37 : r_32.toInt = thD d2 a1 l58_5.toInt.toNat ∧ 0 ≤ r_32.toInt ∧ r_32.toInt ≤ 999 := th_d hTG h_36 (by omega) (by omega) (by omega) (by omega)
                    have lo_r_32 := k_lo r_32
                    have hi_r_32 := k_hi r_32
                    refine lv_istore (lv' := [(7, .int r_32), (6, .int r_24), (5, .int l58_5), (4, .int v_11), (0, .ref k), (1, .ref o), (2, .int a1), (3, .int a2)]) hx hb dX1_pack_85 hl (by decide) rfl ?_
                    clear hl
                    intro ls hl
                    refine lv_aload_n hx hb dX1_pack_87 rfl (lv_at hl 5 rfl) ?_
                    refine lv_iload_n hx hb dX1_pack_88 rfl (lv_at hl 6 rfl) ?_
                    refine lv_iconst (v := 3) hx hb dX1_pack_89 (by decide) ?_
                    refine lv_iload hx hb dX1_pack_90 (lv_at hl 2 rfl) ?_
                    refine lv_imul hx hb dX1_pack_92 ?_
                    refine lv_topi (fun v_38 ev_38 => ?_)
                    have tv_38 : v_38.toInt = 3 * l58_5.toInt := by rw [ev_38]; exact k_mulv zl_3 rfl (by omega) (by omega)
                    refine lv_iconst (v := 2) hx hb dX1_pack_93 (by decide) ?_
                    refine lv_iadd hx hb dX1_pack_94 ?_
                    refine lv_topi (fun v_39 ev_39 => ?_)
                    have tv_39 : v_39.toInt = v_38.toInt + 2 := by rw [ev_39]; exact k_addv rfl zl_2 (by omega) (by omega)
                    refine kJi (wr := [(k, .inr (1, [.ref k0, .ref k1, .int c2, .int c3])), (k0, .inl (cI, 5409, .inl g58_k0)), (k1, .inl (cI, 8, .inl c1))]) (va_runV (As := [.int a1, .int v_39]) (rest := []) ⟨hx, hb, hml, hown, hT⟩ (c_X6_numberAtG l D cI aK aV o o0 o1 o2 H.size d1 d2 a1 v_39 (by first | omega | decide | assumption | rfl)) (cwV 2 hT (gV_in mw_684 mw_893 mw_682 mw_683 mw_11) rfl rfl rfl (by decide +kernel) ⟨Nat.le_of_ble_eq_true rfl, Nat.le_of_ble_eq_true rfl⟩) (kRecvX (q0 := 3) (ci := 6) hK hP hD hN hXS hS hA rfl rfl [3, 4, 5] rfl (by decide)) rfl rfl hl.1 rfl (lv_room (Nat.le_of_ble_eq_true rfl)) dX1_pack_95 ⟨Nat.le_of_ble_eq_true rfl, Nat.le_of_ble_eq_true rfl⟩) hP hD hS hA [3, 4, 5] [0, 1, 2] rfl rfl (by decide) (by decide) ?_
                    clear hP hD hS
                    intro r_40 u_42 H locs w_41 hP hD hS
                    replace hP : va_P D vwCl [(k, .inr (1, [.ref k0, .ref k1, .int c2, .int c3])), (k0, .inl (cI, 5409, .inl g58_k0)), (k1, .inl (cI, 8, .inl c1)), (o, .inr (6, [.ref o0, .ref o1, .ref o2])), (o1, .inl (cI, 4, .inl d1)), (o2, .inl (cI, 144, .inl d2))] H := hP
                    replace hD : va_D A [(k, .inr (1, [.ref k0, .ref k1, .int c2, .int c3])), (k0, .inl (cI, 5409, .inl g58_k0)), (k1, .inl (cI, 8, .inl c1)), (o, .inr (6, [.ref o0, .ref o1, .ref o2])), (o1, .inl (cI, 4, .inl d1)), (o2, .inl (cI, 144, .inl d2))] := hD
                    have h_43 := w_41
                    have h_43 : r_40 = kNum d1 d2 a1 v_39 := h_43
                    have h_44 : r_40 = d2 (36 * a1.toInt.toNat + v_39.toInt.toNat) := h_43.trans (kNum_shv (by omega) (by omega) (by omega) (by omega) (by omega))
                    have b_45 : r_40.toInt = thC d2 a1 l58_5.toInt.toNat ∧ 1 ≤ r_40.toInt ∧ r_40.toInt ≤ 3 := th_c hTG h_44 (by omega) (by omega) (by omega) (by omega)
                    have lo_r_40 := k_lo r_40
                    have hi_r_40 := k_hi r_40
                    refine lv_istore (lv' := [(8, .int r_40), (7, .int r_32), (6, .int r_24), (5, .int l58_5), (4, .int v_11), (0, .ref k), (1, .ref o), (2, .int a1), (3, .int a2)]) hx hb dX1_pack_98 hl (by decide) rfl ?_
                    clear hl
                    intro ls hl
                    refine lv_iconst (v := 0) hx hb dX1_pack_100 (by decide) ?_
                    refine lv_istore (lv' := [(9, .int 0), (8, .int r_40), (7, .int r_32), (6, .int r_24), (5, .int l58_5), (4, .int v_11), (0, .ref k), (1, .ref o), (2, .int a1), (3, .int a2)]) hx hb dX1_pack_101 hl (by decide) rfl ?_
                    clear hl
                    intro ls hl
                    have hloop_103 : ∀ (fu_ : Nat) (l103_9 : Int32) (g103_k0 : Nat → Int32), 0 ≤ l103_9.toInt → 0 ≤ l103_9.toInt → l103_9.toInt ≤ 601 → l103_9.toInt ≤ a2.toInt + 1 → DPP g103_k0 d2 a1 v_11 a2 l58_5 l103_9 → (601 - l103_9.toInt).toNat < fu_ → ∀ (ls : Array Slot) (H : Heap) (locs : List Loc), lv_has ls 10 [(9, .int l103_9), (8, .int r_40), (7, .int r_32), (6, .int r_24), (5, .int l58_5), (4, .int v_11), (0, .ref k), (1, .ref o), (2, .int a1), (3, .int a2)] → va_P D vwCl [(k, .inr (1, [.ref k0, .ref k1, .int c2, .int c3])), (k0, .inl (cI, 5409, .inl g103_k0)), (k1, .inl (cI, 8, .inl c1)), (o, .inr (6, [.ref o0, .ref o1, .ref o2])), (o1, .inl (cI, 4, .inl d1)), (o2, .inl (cI, 144, .inl d2))] H → va_D A [(k, .inr (1, [.ref k0, .ref k1, .int c2, .int c3])), (k0, .inl (cI, 5409, .inl g103_k0)), (k1, .inl (cI, 8, .inl c1)), (o, .inr (6, [.ref o0, .ref o1, .ref o2])), (o1, .inl (cI, 4, .inl d1)), (o2, .inl (cI, 144, .inl d2))] → va_S A s.heap H locs → W p l e ({ frames := 5, cells := 0, slots := 0, locals := 114 } : Room) s m args below meth c H locs 0 0 Q (F0 m 103 ls []) := by
                      intro fu_; induction fu_ with
                      | zero => intro l103_9 g103_k0 i103_0 i103_1 i103_2 i103_3 i103_4 hm; exact absurd hm (by omega)
                      | succ fu_ ih103 =>
                          intro l103_9 g103_k0 i103_0 i103_1 i103_2 i103_3 i103_4 hm ls H locs hl hP hD hS
                          have lo_l103_9 := k_lo l103_9
                          have hi_l103_9 := k_hi l103_9
                          have i103_4 : DPP g103_k0 d2 a1 v_11 a2 l58_5 l103_9 := i103_4
                          refine lv_iload hx hb dX1_pack_103 (lv_at hl 0 rfl) ?_
                          refine lv_iload_n hx hb dX1_pack_105 rfl (lv_at hl 9 rfl) ?_
                          refine b_icmp_gt hx hb rfl rfl (tgt := 151) dX1_pack_106 (by decide) (fun c_46 => ?_) (fun c_46 => ?_)
                          · obtain ⟨v_47, ev_47⟩ : ∃ y : Int32, y = l58_5 + (-1) := ⟨_, rfl⟩
                            have tv_47 : v_47.toInt = l58_5.toInt + (-1) := by rw [ev_47]; exact k_addv rfl zl_m1 (by omega) (by omega)
                            refine lv_iinc (v := v_47) (lv' := [(5, .int v_47), (9, .int l103_9), (8, .int r_40), (7, .int r_32), (6, .int r_24), (4, .int v_11), (0, .ref k), (1, .ref o), (2, .int a1), (3, .int a2)]) hx hb dX1_pack_151 hl (k := 4) rfl (by rw [ev_47]; rfl) (by decide) rfl ?_
                            clear hl
                            intro ls hl
                            refine lv_goto (tgt := 58) hx hb dX1_pack_154 (by decide) ?_
                            exact ih58 v_47 g103_k0 (by first | omega | decide | assumption | rfl) (by first | omega | decide | assumption | rfl) (by first | omega | decide | assumption | rfl) (DPP.e i103_4 (by omega) (by omega) (by omega)) (by omega) ls _ _ (lv_sub hl [0, 5, 6, 7, 8, 9] rfl) (hP.sub [0, 1, 2, 5, 3, 4] rfl) (hD.sub [0, 1, 2, 5, 3, 4] (by decide) rfl) hS
                          · refine lv_iload hx hb dX1_pack_109 (lv_at hl 0 rfl) ?_
                            refine lv_sipush (v := 601) hx hb dX1_pack_111 (by decide) ?_
                            refine b_icmp_ge hx hb rfl zl_601 (tgt := 151) dX1_pack_114 (by decide) (fun c_48 => by exfalso; omega) (fun c_48 => ?_)
                            refine lv_aload_n hx hb dX1_pack_117 rfl (lv_at hl 6 rfl) ?_
                            refine va_get (D := D) (ci := 1) (v := .ref k0) (C := RX1) (T := TX1) (N := 4) hx hb hT giX1 hown hK hP 0 rfl rfl 0 (by decide) (hT (Cond.fieldLink RX1 9 "DesertWire$Loads" "best" "[I") mw_224) (fun _ h9 => h9) rfl dX1_pack_118 ?_
                            refine lv_iload hx hb dX1_pack_121 (lv_at hl 4 rfl) ?_
                            refine lv_sipush (v := 601) hx hb dX1_pack_123 (by decide) ?_
                            refine lv_imul hx hb dX1_pack_126 ?_
                            refine lv_topi (fun v_49 ev_49 => ?_)
                            have tv_49 : v_49.toInt = l58_5.toInt * 601 := by rw [ev_49]; exact k_mulv rfl zl_601 (by omega) (by omega)
                            refine lv_iload hx hb dX1_pack_127 (lv_at hl 0 rfl) ?_
                            refine lv_iadd hx hb dX1_pack_129 ?_
                            refine lv_topi (fun v_50 ev_50 => ?_)
                            have tv_50 : v_50.toInt = v_49.toInt + l103_9.toInt := by rw [ev_50]; exact k_addv rfl rfl (by omega) (by omega)
                            refine lv_aload_n hx hb dX1_pack_130 rfl (lv_at hl 6 rfl) ?_
                            refine lv_iload hx hb dX1_pack_131 (lv_at hl 4 rfl) ?_
                            refine lv_iload hx hb dX1_pack_133 (lv_at hl 0 rfl) ?_
                            refine lv_iload hx hb dX1_pack_135 (lv_at hl 3 rfl) ?_
                            refine lv_iload hx hb dX1_pack_137 (lv_at hl 2 rfl) ?_
                            refine lv_iload hx hb dX1_pack_139 (lv_at hl 1 rfl) ?_
                            refine kJi (wr := [(k1, .inl (cI, 8, .inl c1)), (o, .inr (6, [.ref o0, .ref o1, .ref o2])), (o1, .inl (cI, 4, .inl d1)), (o2, .inl (cI, 144, .inl d2))]) (va_runV (As := [.int l58_5, .int l103_9, .int r_24, .int r_32, .int r_40]) (rest := [.int v_50, .ref k0]) ⟨hx, hb, hml, hown, hT⟩ (c_X1_bestWithD l D cI aK aV k k0 k1 H.size c2 c3 g103_k0 l58_5 l103_9 r_24 r_32 r_40 (by first | omega | decide | assumption | rfl) (by first | omega | decide | assumption | rfl) (by first | omega | decide | assumption | rfl) (by first | omega | decide | assumption | rfl) (by first | omega | decide | assumption | rfl) (by first | omega | decide | assumption | rfl) (by first | omega | decide | assumption | rfl) (by first | omega | decide | assumption | rfl) (by first | omega | decide | assumption | rfl) (by first | omega | decide | assumption | rfl) (DPR.bd (And.left i103_4) hTG (by omega) (by omega) (by omega) (by omega))) (cwV 5 hT (gV_in mw_897 mw_894 mw_896 mw_p2_9 mw_8) rfl rfl rfl (by decide +kernel) ⟨Nat.le_of_ble_eq_true rfl, Nat.le_of_ble_eq_true rfl⟩) (kRecvX (q0 := 0) (ci := 1) hK hP hD hN hXS hS hA rfl rfl [0, 1] rfl (by decide)) rfl rfl hl.1 rfl (lv_room (Nat.le_of_ble_eq_true rfl)) dX1_pack_141 ⟨Nat.le_of_ble_eq_true rfl, Nat.le_of_ble_eq_true rfl⟩) hP hD hS hA [0, 1] [2, 3, 4, 5] rfl rfl (by decide) (by decide) ?_
                            clear hP hD hS
                            intro r_51 u_53 H locs w_52 hP hD hS
                            replace hP : va_P D vwCl [(k1, .inl (cI, 8, .inl c1)), (o, .inr (6, [.ref o0, .ref o1, .ref o2])), (o1, .inl (cI, 4, .inl d1)), (o2, .inl (cI, 144, .inl d2)), (k, .inr (1, [.ref k0, .ref k1, .int c2, .int c3])), (k0, .inl (cI, 5409, .inl g103_k0))] H := hP
                            replace hD : va_D A [(k1, .inl (cI, 8, .inl c1)), (o, .inr (6, [.ref o0, .ref o1, .ref o2])), (o1, .inl (cI, 4, .inl d1)), (o2, .inl (cI, 144, .inl d2)), (k, .inr (1, [.ref k0, .ref k1, .int c2, .int c3])), (k0, .inl (cI, 5409, .inl g103_k0))] := hD
                            have h_54 := w_52
                            have h_54 : MXW g103_k0 l58_5 l103_9 r_24 r_32 (r_40.toInt + 1) r_51 := h_54
                            have h_54 : MXW g103_k0 l58_5 l103_9 r_24 r_32 (r_40.toInt + 1) r_51 := h_54
                            have lo_r_51 := k_lo r_51
                            have hi_r_51 := k_hi r_51
                            refine va_iast hx hb hK hP hD hS 5 0 rfl rfl (k_in (by omega) (by omega)) dX1_pack_144 ?_
                            clear hP hD hS
                            intro H locs hP hD hS
                            replace hP : va_P D vwCl [(k1, .inl (cI, 8, .inl c1)), (o, .inr (6, [.ref o0, .ref o1, .ref o2])), (o1, .inl (cI, 4, .inl d1)), (o2, .inl (cI, 144, .inl d2)), (k, .inr (1, [.ref k0, .ref k1, .int c2, .int c3])), (k0, .inl (cI, 5409, .inl (upd g103_k0 v_50.toNatClampNeg r_51)))] H := hP
                            replace hD : va_D A [(k1, .inl (cI, 8, .inl c1)), (o, .inr (6, [.ref o0, .ref o1, .ref o2])), (o1, .inl (cI, 4, .inl d1)), (o2, .inl (cI, 144, .inl d2)), (k, .inr (1, [.ref k0, .ref k1, .int c2, .int c3])), (k0, .inl (cI, 5409, .inl (upd g103_k0 v_50.toNatClampNeg r_51)))] := hD
                            obtain ⟨f_55, ef_55⟩ : ∃ g : Nat → Int32, g = upd g103_k0 v_50.toNatClampNeg r_51 := ⟨_, rfl⟩
                            rw [← ef_55] at hP hD
                            obtain ⟨v_56, ev_56⟩ : ∃ y : Int32, y = l103_9 + 1 := ⟨_, rfl⟩
                            have tv_56 : v_56.toInt = l103_9.toInt + 1 := by rw [ev_56]; exact k_addv rfl zl_1 (by omega) (by omega)
                            refine lv_iinc (v := v_56) (lv' := [(9, .int v_56), (8, .int r_40), (7, .int r_32), (6, .int r_24), (5, .int l58_5), (4, .int v_11), (0, .ref k), (1, .ref o), (2, .int a1), (3, .int a2)]) hx hb dX1_pack_145 hl (k := 0) rfl (by rw [ev_56]; rfl) (by decide) rfl ?_
                            clear hl
                            intro ls hl
                            refine lv_goto (tgt := 103) hx hb dX1_pack_148 (by decide) ?_
                            exact ih103 v_56 f_55 (by first | omega | decide | assumption | rfl) (by first | omega | decide | assumption | rfl) (by first | omega | decide | assumption | rfl) (by first | omega | decide | assumption | rfl) (DPP.s i103_4 hTG (by omega) (by omega) (by omega) (by omega) (by omega) (by omega) h_54 b_29.1 b_37.1 b_45.1 ef_55 (by omega) (by omega)) (by omega) ls _ _ (lv_sub hl [0, 1, 2, 3, 4, 5, 6, 7, 8, 9] rfl) (hP.sub [4, 5, 0, 1, 2, 3] rfl) (hD.sub [4, 5, 0, 1, 2, 3] (by decide) rfl) hS
                    exact hloop_103 _ 0 g58_k0 (by first | omega | (simp only [zl_0]; first | done | omega) | decide | assumption | rfl) (by first | omega | (simp only [zl_0]; first | done | omega) | decide | assumption | rfl) (by first | omega | (simp only [zl_0]; first | done | omega) | decide | assumption | rfl) (by first | omega | (simp only [zl_0]; first | done | omega) | decide | assumption | rfl) (DPP.z i58_3 (by have := zl_0; omega)) (Nat.lt_succ_self _) ls _ _ (lv_sub hl [0, 1, 2, 3, 4, 5, 6, 7, 8, 9] rfl) hP hD hS
            exact hloop_58 _ v_14 g17_k0 (by first | omega | decide | assumption | rfl) (by first | omega | decide | assumption | rfl) (by first | omega | decide | assumption | rfl) (PZR.e i17_3 (by omega) (by omega)) (Nat.lt_succ_self _) ls _ _ (lv_sub hl [0, 1, 2, 3, 4, 5] rfl) hP hD hS
          · refine lv_iload hx hb dX1_pack_23 (lv_at hl 0 rfl) ?_
            refine lv_sipush (v := 601) hx hb dX1_pack_25 (by decide) ?_
            refine b_icmp_ge hx hb rfl zl_601 (tgt := 52) dX1_pack_28 (by decide) (fun c_57 => by exfalso; omega) (fun c_57 => ?_)
            refine lv_aload_n hx hb dX1_pack_31 rfl (lv_at hl 2 rfl) ?_
            refine va_get (D := D) (ci := 1) (v := .ref k0) (C := RX1) (T := TX1) (N := 4) hx hb hT giX1 hown hK hP 0 rfl rfl 0 (by decide) (hT (Cond.fieldLink RX1 9 "DesertWire$Loads" "best" "[I") mw_224) (fun _ h9 => h9) rfl dX1_pack_32 ?_
            refine lv_iload hx hb dX1_pack_35 (lv_at hl 1 rfl) ?_
            refine lv_sipush (v := 601) hx hb dX1_pack_37 (by decide) ?_
            refine lv_imul hx hb dX1_pack_40 ?_
            refine lv_topi (fun v_58 ev_58 => ?_)
            have tv_58 : v_58.toInt = v_11.toInt * 601 := by rw [ev_58]; exact k_mulv rfl zl_601 (by omega) (by omega)
            refine lv_iload hx hb dX1_pack_41 (lv_at hl 0 rfl) ?_
            refine lv_iadd hx hb dX1_pack_43 ?_
            refine lv_topi (fun v_59 ev_59 => ?_)
            have tv_59 : v_59.toInt = v_58.toInt + l17_5.toInt := by rw [ev_59]; exact k_addv rfl rfl (by omega) (by omega)
            refine lv_iconst (v := 0) hx hb dX1_pack_44 (by decide) ?_
            refine va_iast hx hb hK hP hD hS 1 0 rfl rfl (k_in (by omega) (by omega)) dX1_pack_45 ?_
            clear hP hD hS
            intro H locs hP hD hS
            replace hP : va_P D vwCl [(k, .inr (1, [.ref k0, .ref k1, .int c2, .int c3])), (k0, .inl (cI, 5409, .inl (upd g17_k0 v_59.toNatClampNeg 0))), (k1, .inl (cI, 8, .inl c1)), (o2, .inl (cI, 144, .inl d2)), (o, .inr (6, [.ref o0, .ref o1, .ref o2])), (o1, .inl (cI, 4, .inl d1))] H := hP
            replace hD : va_D A [(k, .inr (1, [.ref k0, .ref k1, .int c2, .int c3])), (k0, .inl (cI, 5409, .inl (upd g17_k0 v_59.toNatClampNeg 0))), (k1, .inl (cI, 8, .inl c1)), (o2, .inl (cI, 144, .inl d2)), (o, .inr (6, [.ref o0, .ref o1, .ref o2])), (o1, .inl (cI, 4, .inl d1))] := hD
            obtain ⟨f_60, ef_60⟩ : ∃ g : Nat → Int32, g = upd g17_k0 v_59.toNatClampNeg 0 := ⟨_, rfl⟩
            rw [← ef_60] at hP hD
            obtain ⟨v_61, ev_61⟩ : ∃ y : Int32, y = l17_5 + 1 := ⟨_, rfl⟩
            have tv_61 : v_61.toInt = l17_5.toInt + 1 := by rw [ev_61]; exact k_addv rfl zl_1 (by omega) (by omega)
            refine lv_iinc (v := v_61) (lv' := [(5, .int v_61), (4, .int v_11), (0, .ref k), (1, .ref o), (2, .int a1), (3, .int a2)]) hx hb dX1_pack_46 hl (k := 0) rfl (by rw [ev_61]; rfl) (by decide) rfl ?_
            clear hl
            intro ls hl
            refine lv_goto (tgt := 17) hx hb dX1_pack_49 (by decide) ?_
            exact ih17 v_61 f_60 (by first | omega | decide | assumption | rfl) (by first | omega | decide | assumption | rfl) (by first | omega | decide | assumption | rfl) (PZR.s i17_3 (by omega) ef_60 (by omega) (by omega) zl_0 (by omega)) (by omega) ls _ _ (lv_sub hl [0, 1, 2, 3, 4, 5] rfl) (hP.sub [0, 1, 2, 3, 4, 5] rfl) (hD.sub [0, 1, 2, 3, 4, 5] (by decide) rfl) hS
    exact hloop_17 _ 0 c0 (by first | omega | (simp only [zl_0]; first | done | omega) | decide | assumption | rfl) (by first | omega | (simp only [zl_0]; first | done | omega) | decide | assumption | rfl) (by first | omega | (simp only [zl_0]; first | done | omega) | decide | assumption | rfl) (PZR.z (by have := zl_0; omega)) (Nat.lt_succ_self _) ls _ _ (lv_sub hl [0, 1, 2, 3, 4, 5] rfl) hP hD hS
  · exfalso; omega

set_option maxHeartbeats 4000000 in
set_option maxRecDepth 100000 in
theorem c_X10_areThingsD (l : Launch) (D : va_G) (cI : ClassId) (aK aV : Nat → Nat) (k k0 k1 k2 k3 k4 k5 k6 k7 k8 k9 ka kb ka0 ka1 ka2 : Nat) (sz : Nat) (cc : Int32) (ca1 : Nat → Int32) (ca2 : Nat → Int32) (c00 : Nat → Int32) (c01 : Nat → Int32) (c02 : Nat → Int32) (c03 : Nat → Int32) (c040 : Nat → Int32) (c041 : Nat → Int32) (c042 : Nat → Int32) (c043 : Nat → Int32) (c044 : Nat → Int32) (c045 : Nat → Int32) (c046 : Nat → Int32) (c047 : Nat → Int32) (c048 : Nat → Int32) (c049 : Int32) (c050 : Nat → Int32) (c051 : Int32) (c06 : Int32) (c07 : Int32) (c08 : Int32) (gx : Nat → Int32) (a0 : Int32) (pre0 : WR c00 c01 c02 c03 c040 c041 c042 c043 c044 c045 c046 c047 c048 c049 c050 c051 c06 c07 c08 gx) (pre1 : ∀ k : Nat, k < 4 → 0 ≤ (ca1 k).toInt ∧ (ca1 k).toInt ≤ 36) (pre2 : 0 ≤ a0.toInt) (pre3 : a0.toInt ≤ 3) : Met l yX10_areThings (gW yX10_areThings cX10_areThings 6 (some .boolean)) ({ frames := 4, cells := 0, slots := 0, locals := 85 } : Room) (kPreX D cI aK aV [.ref k, .int a0] [(k, .inr (10, [.ref k0, .ref k1, .ref k2, .ref k3, .ref k4, .ref k5, .ref k6, .ref k7, .ref k8, .ref k9, .ref ka, .ref kb, .int cc])), (ka, .inr (6, [.ref ka0, .ref ka1, .ref ka2])), (ka1, .inl (cI, 4, .inl ca1)), (ka2, .inl (cI, 144, .inl ca2))] sz) (va_Qi (fun (r : Int32) (u : Unit) => (r = 1 ∧ LDK ca1 ca2 a0) ∨ (r = 0 ∧ ¬ LDK ca1 ca2 a0)) (fun u t => kWd D cI (va_A [(k, .inr (10, [.ref k0, .ref k1, .ref k2, .ref k3, .ref k4, .ref k5, .ref k6, .ref k7, .ref k8, .ref k9, .ref ka, .ref kb, .int cc])), (ka, .inr (6, [.ref ka0, .ref ka1, .ref ka2])), (ka1, .inl (cI, 4, .inl ca1)), (ka2, .inl (cI, 144, .inl ca2))] sz) [(k, .inr (10, [.ref k0, .ref k1, .ref k2, .ref k3, .ref k4, .ref k5, .ref k6, .ref k7, .ref k8, .ref k9, .ref ka, .ref kb, .int cc])), (ka, .inr (6, [.ref ka0, .ref ka1, .ref ka2])), (ka1, .inl (cI, 4, .inl ca1)), (ka2, .inl (cI, 144, .inl ca2))] t) (va_A [(k, .inr (10, [.ref k0, .ref k1, .ref k2, .ref k3, .ref k4, .ref k5, .ref k6, .ref k7, .ref k8, .ref k9, .ref ka, .ref kb, .int cc])), (ka, .inr (6, [.ref ka0, .ref ka1, .ref ka2])), (ka1, .inl (cI, 4, .inl ca1)), (ka2, .inl (cI, 144, .inl ca2))] sz)) 0 0 (va_A [(k, .inr (10, [.ref k0, .ref k1, .ref k2, .ref k3, .ref k4, .ref k5, .ref k6, .ref k7, .ref k8, .ref k9, .ref ka, .ref kb, .int cc])), (ka, .inr (6, [.ref ka0, .ref ka1, .ref ka2])), (ka1, .inl (cI, 4, .inl ca1)), (ka2, .inl (cI, 144, .inl ca2))] sz) := by
  refine kMetIX (own := RX10) (by decide) rfl (Nat.le_of_ble_eq_true rfl) ?_
  intro p e s m args below meth c hx hb hT hown hname hml A Q hK hP hD hS hA hN hXS hRet ls hl
  have hl : lv_has ls 6 [(0, .ref k), (1, .int a0)] := hl
  have lo_a0 := k_lo a0
  have hi_a0 := k_hi a0
  have lo_c049 := k_lo c049
  have hi_c049 := k_hi c049
  have lo_c051 := k_lo c051
  have hi_c051 := k_hi c051
  have lo_c06 := k_lo c06
  have hi_c06 := k_hi c06
  have lo_c07 := k_lo c07
  have hi_c07 := k_hi c07
  have lo_c08 := k_lo c08
  have hi_c08 := k_hi c08
  have hln := pre1 a0.toNatClampNeg (by rw [k_clamp]; omega)
  have pre0 : WR c00 c01 c02 c03 c040 c041 c042 c043 c044 c045 c046 c047 c048 c049 c050 c051 c06 c07 c08 gx := pre0
  have b_1 : 0 ≤ c049.toInt ∧ c049.toInt ≤ 60 := WKR.n0 (WR.kw pre0)
  have t_2 : c049.toInt = (gx 1).toInt := WKR.nt (WR.kw pre0)
  have b_3 : 0 ≤ c051.toInt ∧ c051.toInt ≤ 4 := ((WR.kp pre0)).2.1
  have t_4 : c051.toInt = (gx 2).toInt := PTR.nt (WR.kp pre0)
  have t_5 : c08.toInt = (gx 0).toInt := by rw [WR.dd pre0]
  refine lv_aload_n hx hb dX10_areThings_0 rfl (lv_at hl 0 rfl) ?_
  refine va_get (D := D) (ci := 10) (v := .ref ka) (C := RX10) (T := TX10) (N := 13) hx hb hT giX10 hown hK hP 0 rfl rfl 10 (by decide) (hT (Cond.fieldLink RX10 70 "DesertWire" "sheets" "LDesertWire$Sheets;") mw_301) (fun _ h9 => h9) rfl dX10_areThings_1 ?_
  refine lv_iload_n hx hb dX10_areThings_4 rfl (lv_at hl 1 rfl) ?_
  refine kJi (wr := [(k, .inr (10, [.ref k0, .ref k1, .ref k2, .ref k3, .ref k4, .ref k5, .ref k6, .ref k7, .ref k8, .ref k9, .ref ka, .ref kb, .int cc])), (ka2, .inl (cI, 144, .inl ca2))]) (va_runV (As := [.int a0]) (rest := []) ⟨hx, hb, hml, hown, hT⟩ (c_X6_lengthOfG l D cI aK aV ka ka0 ka1 ka2 s.heap.size ca1 a0 (by first | omega | decide | assumption | rfl)) (cwV 1 hT (gV_in mw_675 mw_672 mw_673 mw_674 mw_11) rfl rfl rfl (by decide +kernel) ⟨Nat.le_of_ble_eq_true rfl, Nat.le_of_ble_eq_true rfl⟩) (kRecvX (q0 := 1) (ci := 6) hK hP hD hN hXS hS hA rfl rfl [1, 2] rfl (by decide)) rfl rfl hl.1 rfl (lv_room (Nat.le_of_ble_eq_true rfl)) dX10_areThings_5 ⟨Nat.le_of_ble_eq_true rfl, Nat.le_of_ble_eq_true rfl⟩) hP hD hS hA [1, 2] [0, 3] rfl rfl (by decide) (by decide) ?_
  clear hP hD hS
  intro r_6 u_8 H locs w_7 hP hD hS
  replace hP : va_P D vwCl [(k, .inr (10, [.ref k0, .ref k1, .ref k2, .ref k3, .ref k4, .ref k5, .ref k6, .ref k7, .ref k8, .ref k9, .ref ka, .ref kb, .int cc])), (ka2, .inl (cI, 144, .inl ca2)), (ka, .inr (6, [.ref ka0, .ref ka1, .ref ka2])), (ka1, .inl (cI, 4, .inl ca1))] H := hP
  replace hD : va_D A [(k, .inr (10, [.ref k0, .ref k1, .ref k2, .ref k3, .ref k4, .ref k5, .ref k6, .ref k7, .ref k8, .ref k9, .ref ka, .ref kb, .int cc])), (ka2, .inl (cI, 144, .inl ca2)), (ka, .inr (6, [.ref ka0, .ref ka1, .ref ka2])), (ka1, .inl (cI, 4, .inl ca1))] := hD
  rcases w_7 with ⟨h_9, h_10, h_11, h_12, h_13⟩ | ⟨hr_6, h_14⟩
  · have h_9 : 0 ≤ a0.toInt := h_9
    have h_10 : a0.toInt ≤ 3 := h_10
    have h_11 : 0 ≤ r_6.toInt := h_11
    have h_12 : r_6.toInt ≤ 36 := h_12
    have h_13 : r_6.toInt = (ca1 a0.toNatClampNeg).toInt := h_13
    have lo_r_6 := k_lo r_6
    have hi_r_6 := k_hi r_6
    refine lv_istore_n (lv' := [(2, .int r_6), (0, .ref k), (1, .int a0)]) hx hb dX10_areThings_8 rfl hl (by decide) rfl ?_
    clear hl
    intro ls hl
    refine lv_iload_n hx hb dX10_areThings_9 rfl (lv_at hl 0 rfl) ?_
    refine lv_iconst (v := 3) hx hb dX10_areThings_10 (by decide) ?_
    refine b_icmp_lt hx hb rfl zl_3 (tgt := 26) dX10_areThings_11 (by decide) (fun c_15 => ?_) (fun c_15 => ?_)
    · refine lv_iconst (v := 0) hx hb dX10_areThings_26 (by decide) ?_
      exact hRet () [0, 2, 3, 1] (Or.inr (⟨rfl, (fun z => by have z1 := z.1; have z2 := z.2.1; have z3 := z.2.2.1; omega)⟩)) hP hD (by decide) rfl hS rfl dX10_areThings_27
    · refine lv_iload_n hx hb dX10_areThings_14 rfl (lv_at hl 0 rfl) ?_
      refine lv_bipush (v := 24) hx hb dX10_areThings_15 (by decide) ?_
      refine b_icmp_gt hx hb rfl zl_24 (tgt := 26) dX10_areThings_17 (by decide) (fun c_16 => ?_) (fun c_16 => ?_)
      · refine lv_iconst (v := 0) hx hb dX10_areThings_26 (by decide) ?_
        exact hRet () [0, 2, 3, 1] (Or.inr (⟨rfl, (fun z => by have z1 := z.1; have z2 := z.2.1; have z3 := z.2.2.1; omega)⟩)) hP hD (by decide) rfl hS rfl dX10_areThings_27
      · refine lv_iload_n hx hb dX10_areThings_20 rfl (lv_at hl 0 rfl) ?_
        refine lv_iconst (v := 3) hx hb dX10_areThings_21 (by decide) ?_
        refine lv_irem hx hb dX10_areThings_22 (by decide) ?_
        refine lv_topi (fun v_17 ev_17 => ?_)
        have tv_17 : v_17.toInt = r_6.toInt % 3 := k_remv (w := 0) ev_17 zl_3 (by omega) (by decide)
        have lo_v_17 := k_lo v_17
        have hi_v_17 := k_hi v_17
        refine b_if_eq hx hb rfl (tgt := 28) dX10_areThings_23 (by decide) (fun c_18 => ?_) (fun c_18 => ?_)
        · refine lv_iconst (v := 0) hx hb dX10_areThings_28 (by decide) ?_
          refine lv_istore_n (lv' := [(3, .int 0), (2, .int r_6), (0, .ref k), (1, .int a0)]) hx hb dX10_areThings_29 rfl hl (by decide) rfl ?_
          clear hl
          intro ls hl
          have hloop_30 : ∀ (fu_ : Nat) (l30_3 : Int32), 0 ≤ l30_3.toInt → 0 ≤ l30_3.toInt → l30_3.toInt % 3 = 0 → l30_3.toInt ≤ (ca1 a0.toNatClampNeg).toInt → l30_3.toInt ≤ 24 → THG ca2 a0 (l30_3.toInt / 3) → (27 - l30_3.toInt).toNat < fu_ → ∀ (ls : Array Slot) (H : Heap) (locs : List Loc), lv_has ls 6 [(3, .int l30_3), (2, .int r_6), (0, .ref k), (1, .int a0)] → va_P D vwCl [(k, .inr (10, [.ref k0, .ref k1, .ref k2, .ref k3, .ref k4, .ref k5, .ref k6, .ref k7, .ref k8, .ref k9, .ref ka, .ref kb, .int cc])), (ka2, .inl (cI, 144, .inl ca2)), (ka, .inr (6, [.ref ka0, .ref ka1, .ref ka2])), (ka1, .inl (cI, 4, .inl ca1))] H → va_D A [(k, .inr (10, [.ref k0, .ref k1, .ref k2, .ref k3, .ref k4, .ref k5, .ref k6, .ref k7, .ref k8, .ref k9, .ref ka, .ref kb, .int cc])), (ka2, .inl (cI, 144, .inl ca2)), (ka, .inr (6, [.ref ka0, .ref ka1, .ref ka2])), (ka1, .inl (cI, 4, .inl ca1))] → va_S A s.heap H locs → W p l e ({ frames := 4, cells := 0, slots := 0, locals := 85 } : Room) s m args below meth c H locs 0 0 Q (F0 m 30 ls []) := by
            intro fu_; induction fu_ with
            | zero => intro l30_3 i30_0 i30_1 i30_2 i30_3 i30_4 i30_5 hm; exact absurd hm (by omega)
            | succ fu_ ih30 =>
                intro l30_3 i30_0 i30_1 i30_2 i30_3 i30_4 i30_5 hm ls H locs hl hP hD hS
                have lo_l30_3 := k_lo l30_3
                have hi_l30_3 := k_hi l30_3
                have i30_5 : THG ca2 a0 (l30_3.toInt / 3) := i30_5
                refine lv_iload_n hx hb dX10_areThings_30 rfl (lv_at hl 0 rfl) ?_
                refine lv_iload_n hx hb dX10_areThings_31 rfl (lv_at hl 1 rfl) ?_
                refine b_icmp_ge hx hb rfl rfl (tgt := 109) dX10_areThings_32 (by decide) (fun c_19 => ?_) (fun c_19 => ?_)
                · refine lv_iconst (v := 1) hx hb dX10_areThings_109 (by decide) ?_
                  exact hRet () [0, 2, 3, 1] (Or.inl ⟨rfl, ⟨by omega, by omega, by omega, by rw [show (ca1 a0.toNatClampNeg).toInt / 3 = l30_3.toInt / 3 from by omega]; exact i30_5⟩⟩) hP hD (by decide) rfl hS rfl dX10_areThings_110
                · refine lv_aload_n hx hb dX10_areThings_35 rfl (lv_at hl 2 rfl) ?_
                  refine va_get (D := D) (ci := 10) (v := .ref ka) (C := RX10) (T := TX10) (N := 13) hx hb hT giX10 hown hK hP 0 rfl rfl 10 (by decide) (hT (Cond.fieldLink RX10 70 "DesertWire" "sheets" "LDesertWire$Sheets;") mw_301) (fun _ h9 => h9) rfl dX10_areThings_36 ?_
                  refine lv_iload_n hx hb dX10_areThings_39 rfl (lv_at hl 3 rfl) ?_
                  refine lv_iload_n hx hb dX10_areThings_40 rfl (lv_at hl 0 rfl) ?_
                  refine kJi (wr := [(k, .inr (10, [.ref k0, .ref k1, .ref k2, .ref k3, .ref k4, .ref k5, .ref k6, .ref k7, .ref k8, .ref k9, .ref ka, .ref kb, .int cc]))]) (va_runV (As := [.int a0, .int l30_3]) (rest := []) ⟨hx, hb, hml, hown, hT⟩ (c_X6_numberAtG l D cI aK aV ka ka0 ka1 ka2 H.size ca1 ca2 a0 l30_3 (by first | omega | decide | assumption | rfl)) (cwV 2 hT (gV_in mw_684 mw_696 mw_682 mw_683 mw_11) rfl rfl rfl (by decide +kernel) ⟨Nat.le_of_ble_eq_true rfl, Nat.le_of_ble_eq_true rfl⟩) (kRecvX (q0 := 2) (ci := 6) hK hP hD hN hXS hS hA rfl rfl [2, 3, 1] rfl (by decide)) rfl rfl hl.1 rfl (lv_room (Nat.le_of_ble_eq_true rfl)) dX10_areThings_41 ⟨Nat.le_of_ble_eq_true rfl, Nat.le_of_ble_eq_true rfl⟩) hP hD hS hA [2, 3, 1] [0] rfl rfl (by decide) (by decide) ?_
                  clear hP hD hS
                  intro r_20 u_22 H locs w_21 hP hD hS
                  replace hP : va_P D vwCl [(k, .inr (10, [.ref k0, .ref k1, .ref k2, .ref k3, .ref k4, .ref k5, .ref k6, .ref k7, .ref k8, .ref k9, .ref ka, .ref kb, .int cc])), (ka, .inr (6, [.ref ka0, .ref ka1, .ref ka2])), (ka1, .inl (cI, 4, .inl ca1)), (ka2, .inl (cI, 144, .inl ca2))] H := hP
                  replace hD : va_D A [(k, .inr (10, [.ref k0, .ref k1, .ref k2, .ref k3, .ref k4, .ref k5, .ref k6, .ref k7, .ref k8, .ref k9, .ref ka, .ref kb, .int cc])), (ka, .inr (6, [.ref ka0, .ref ka1, .ref ka2])), (ka1, .inl (cI, 4, .inl ca1)), (ka2, .inl (cI, 144, .inl ca2))] := hD
                  have h_23 := w_21
                  have h_23 : r_20 = kNum ca1 ca2 a0 l30_3 := h_23
                  have lo_r_20 := k_lo r_20
                  have hi_r_20 := k_hi r_20
                  refine lv_iconst (v := 1) hx hb dX10_areThings_44 (by decide) ?_
                  refine lv_bipush (v := 40) hx hb dX10_areThings_45 (by decide) ?_
                  refine kJi (wr := [(k, .inr (10, [.ref k0, .ref k1, .ref k2, .ref k3, .ref k4, .ref k5, .ref k6, .ref k7, .ref k8, .ref k9, .ref ka, .ref kb, .int cc])), (ka, .inr (6, [.ref ka0, .ref ka1, .ref ka2])), (ka1, .inl (cI, 4, .inl ca1)), (ka2, .inl (cI, 144, .inl ca2))]) (va_runS (As := [.int r_20, .int 1, .int 40]) (rest := []) ⟨hx, hb, hml, hown, hT⟩ (c_X10_isWithinG l D cI aK aV H.size r_20 1 40) (cwS 3 hT (gS_in mw_691 mw_886 mw_690 mw_1) rfl rfl rfl (by decide +kernel) ⟨Nat.le_of_ble_eq_true rfl, Nat.le_of_ble_eq_true rfl⟩) (kStatX hK hP hD hN hXS hS hA [] rfl (by decide)) rfl rfl hl.1 rfl (lv_room (Nat.le_of_ble_eq_true rfl)) dX10_areThings_47 ⟨Nat.le_of_ble_eq_true rfl, Nat.le_of_ble_eq_true rfl⟩) hP hD hS hA [] [0, 1, 2, 3] rfl rfl (by decide) (by decide) ?_
                  clear hP hD hS
                  intro r_24 u_26 H locs w_25 hP hD hS
                  replace hP : va_P D vwCl [(k, .inr (10, [.ref k0, .ref k1, .ref k2, .ref k3, .ref k4, .ref k5, .ref k6, .ref k7, .ref k8, .ref k9, .ref ka, .ref kb, .int cc])), (ka, .inr (6, [.ref ka0, .ref ka1, .ref ka2])), (ka1, .inl (cI, 4, .inl ca1)), (ka2, .inl (cI, 144, .inl ca2))] H := hP
                  replace hD : va_D A [(k, .inr (10, [.ref k0, .ref k1, .ref k2, .ref k3, .ref k4, .ref k5, .ref k6, .ref k7, .ref k8, .ref k9, .ref ka, .ref kb, .int cc])), (ka, .inr (6, [.ref ka0, .ref ka1, .ref ka2])), (ka1, .inl (cI, 4, .inl ca1)), (ka2, .inl (cI, 144, .inl ca2))] := hD
                  rcases w_25 with ⟨hr_24, h_27, h_28⟩ | ⟨hr_24, h_29⟩
                  · try simp only [zl_1, zl_40] at h_27
                    have h_27 : 1 ≤ r_20.toInt := h_27
                    try simp only [zl_1, zl_40] at h_28
                    have h_28 : r_20.toInt ≤ 40 := h_28
                    obtain rfl : r_24 = 1 := hr_24.trans (by decide)
                    refine lv_istore (lv' := [(4, .int 1), (3, .int l30_3), (2, .int r_6), (0, .ref k), (1, .int a0)]) hx hb dX10_areThings_50 hl (by decide) rfl ?_
                    clear hl
                    intro ls hl
                    refine lv_aload_n hx hb dX10_areThings_52 rfl (lv_at hl 3 rfl) ?_
                    refine va_get (D := D) (ci := 10) (v := .ref ka) (C := RX10) (T := TX10) (N := 13) hx hb hT giX10 hown hK hP 0 rfl rfl 10 (by decide) (hT (Cond.fieldLink RX10 70 "DesertWire" "sheets" "LDesertWire$Sheets;") mw_301) (fun _ h9 => h9) rfl dX10_areThings_53 ?_
                    refine lv_iload_n hx hb dX10_areThings_56 rfl (lv_at hl 4 rfl) ?_
                    refine lv_iload_n hx hb dX10_areThings_57 rfl (lv_at hl 1 rfl) ?_
                    refine lv_iconst (v := 1) hx hb dX10_areThings_58 (by decide) ?_
                    refine lv_iadd hx hb dX10_areThings_59 ?_
                    refine lv_topi (fun v_30 ev_30 => ?_)
                    have tv_30 : v_30.toInt = l30_3.toInt + 1 := by rw [ev_30]; exact k_addv rfl zl_1 (by omega) (by omega)
                    refine kJi (wr := [(k, .inr (10, [.ref k0, .ref k1, .ref k2, .ref k3, .ref k4, .ref k5, .ref k6, .ref k7, .ref k8, .ref k9, .ref ka, .ref kb, .int cc]))]) (va_runV (As := [.int a0, .int v_30]) (rest := []) ⟨hx, hb, hml, hown, hT⟩ (c_X6_numberAtG l D cI aK aV ka ka0 ka1 ka2 H.size ca1 ca2 a0 v_30 (by first | omega | decide | assumption | rfl)) (cwV 2 hT (gV_in mw_684 mw_696 mw_682 mw_683 mw_11) rfl rfl rfl (by decide +kernel) ⟨Nat.le_of_ble_eq_true rfl, Nat.le_of_ble_eq_true rfl⟩) (kRecvX (q0 := 1) (ci := 6) hK hP hD hN hXS hS hA rfl rfl [1, 2, 3] rfl (by decide)) rfl rfl hl.1 rfl (lv_room (Nat.le_of_ble_eq_true rfl)) dX10_areThings_60 ⟨Nat.le_of_ble_eq_true rfl, Nat.le_of_ble_eq_true rfl⟩) hP hD hS hA [1, 2, 3] [0] rfl rfl (by decide) (by decide) ?_
                    clear hP hD hS
                    intro r_31 u_33 H locs w_32 hP hD hS
                    replace hP : va_P D vwCl [(k, .inr (10, [.ref k0, .ref k1, .ref k2, .ref k3, .ref k4, .ref k5, .ref k6, .ref k7, .ref k8, .ref k9, .ref ka, .ref kb, .int cc])), (ka, .inr (6, [.ref ka0, .ref ka1, .ref ka2])), (ka1, .inl (cI, 4, .inl ca1)), (ka2, .inl (cI, 144, .inl ca2))] H := hP
                    replace hD : va_D A [(k, .inr (10, [.ref k0, .ref k1, .ref k2, .ref k3, .ref k4, .ref k5, .ref k6, .ref k7, .ref k8, .ref k9, .ref ka, .ref kb, .int cc])), (ka, .inr (6, [.ref ka0, .ref ka1, .ref ka2])), (ka1, .inl (cI, 4, .inl ca1)), (ka2, .inl (cI, 144, .inl ca2))] := hD
                    have h_34 := w_32
                    have h_34 : r_31 = kNum ca1 ca2 a0 v_30 := h_34
                    have lo_r_31 := k_lo r_31
                    have hi_r_31 := k_hi r_31
                    refine lv_iconst (v := 0) hx hb dX10_areThings_63 (by decide) ?_
                    refine lv_sipush (v := 999) hx hb dX10_areThings_64 (by decide) ?_
                    refine kJi (wr := [(k, .inr (10, [.ref k0, .ref k1, .ref k2, .ref k3, .ref k4, .ref k5, .ref k6, .ref k7, .ref k8, .ref k9, .ref ka, .ref kb, .int cc])), (ka, .inr (6, [.ref ka0, .ref ka1, .ref ka2])), (ka1, .inl (cI, 4, .inl ca1)), (ka2, .inl (cI, 144, .inl ca2))]) (va_runS (As := [.int r_31, .int 0, .int 999]) (rest := []) ⟨hx, hb, hml, hown, hT⟩ (c_X10_isWithinG l D cI aK aV H.size r_31 0 999) (cwS 3 hT (gS_in mw_691 mw_886 mw_690 mw_1) rfl rfl rfl (by decide +kernel) ⟨Nat.le_of_ble_eq_true rfl, Nat.le_of_ble_eq_true rfl⟩) (kStatX hK hP hD hN hXS hS hA [] rfl (by decide)) rfl rfl hl.1 rfl (lv_room (Nat.le_of_ble_eq_true rfl)) dX10_areThings_67 ⟨Nat.le_of_ble_eq_true rfl, Nat.le_of_ble_eq_true rfl⟩) hP hD hS hA [] [0, 1, 2, 3] rfl rfl (by decide) (by decide) ?_
                    clear hP hD hS
                    intro r_35 u_37 H locs w_36 hP hD hS
                    replace hP : va_P D vwCl [(k, .inr (10, [.ref k0, .ref k1, .ref k2, .ref k3, .ref k4, .ref k5, .ref k6, .ref k7, .ref k8, .ref k9, .ref ka, .ref kb, .int cc])), (ka, .inr (6, [.ref ka0, .ref ka1, .ref ka2])), (ka1, .inl (cI, 4, .inl ca1)), (ka2, .inl (cI, 144, .inl ca2))] H := hP
                    replace hD : va_D A [(k, .inr (10, [.ref k0, .ref k1, .ref k2, .ref k3, .ref k4, .ref k5, .ref k6, .ref k7, .ref k8, .ref k9, .ref ka, .ref kb, .int cc])), (ka, .inr (6, [.ref ka0, .ref ka1, .ref ka2])), (ka1, .inl (cI, 4, .inl ca1)), (ka2, .inl (cI, 144, .inl ca2))] := hD
                    rcases w_36 with ⟨hr_35, h_38, h_39⟩ | ⟨hr_35, h_40⟩
                    · try simp only [zl_0, zl_999] at h_38
                      have h_38 : 0 ≤ r_31.toInt := h_38
                      try simp only [zl_0, zl_999] at h_39
                      have h_39 : r_31.toInt ≤ 999 := h_39
                      obtain rfl : r_35 = 1 := hr_35.trans (by decide)
                      refine lv_istore (lv' := [(5, .int 1), (4, .int 1), (3, .int l30_3), (2, .int r_6), (0, .ref k), (1, .int a0)]) hx hb dX10_areThings_70 hl (by decide) rfl ?_
                      clear hl
                      intro ls hl
                      refine lv_iload hx hb dX10_areThings_72 (lv_at hl 1 rfl) ?_
                      refine b_if_eq hx hb zl_1 (tgt := 101) dX10_areThings_74 (by decide) (fun c_41 => by exfalso; omega) (fun c_41 => ?_)
                      refine lv_iload hx hb dX10_areThings_77 (lv_at hl 0 rfl) ?_
                      refine b_if_eq hx hb zl_1 (tgt := 101) dX10_areThings_79 (by decide) (fun c_42 => by exfalso; omega) (fun c_42 => ?_)
                      refine lv_aload_n hx hb dX10_areThings_82 rfl (lv_at hl 4 rfl) ?_
                      refine va_get (D := D) (ci := 10) (v := .ref ka) (C := RX10) (T := TX10) (N := 13) hx hb hT giX10 hown hK hP 0 rfl rfl 10 (by decide) (hT (Cond.fieldLink RX10 70 "DesertWire" "sheets" "LDesertWire$Sheets;") mw_301) (fun _ h9 => h9) rfl dX10_areThings_83 ?_
                      refine lv_iload_n hx hb dX10_areThings_86 rfl (lv_at hl 5 rfl) ?_
                      refine lv_iload_n hx hb dX10_areThings_87 rfl (lv_at hl 2 rfl) ?_
                      refine lv_iconst (v := 2) hx hb dX10_areThings_88 (by decide) ?_
                      refine lv_iadd hx hb dX10_areThings_89 ?_
                      refine lv_topi (fun v_43 ev_43 => ?_)
                      have tv_43 : v_43.toInt = l30_3.toInt + 2 := by rw [ev_43]; exact k_addv rfl zl_2 (by omega) (by omega)
                      refine kJi (wr := [(k, .inr (10, [.ref k0, .ref k1, .ref k2, .ref k3, .ref k4, .ref k5, .ref k6, .ref k7, .ref k8, .ref k9, .ref ka, .ref kb, .int cc]))]) (va_runV (As := [.int a0, .int v_43]) (rest := []) ⟨hx, hb, hml, hown, hT⟩ (c_X6_numberAtG l D cI aK aV ka ka0 ka1 ka2 H.size ca1 ca2 a0 v_43 (by first | omega | decide | assumption | rfl)) (cwV 2 hT (gV_in mw_684 mw_696 mw_682 mw_683 mw_11) rfl rfl rfl (by decide +kernel) ⟨Nat.le_of_ble_eq_true rfl, Nat.le_of_ble_eq_true rfl⟩) (kRecvX (q0 := 1) (ci := 6) hK hP hD hN hXS hS hA rfl rfl [1, 2, 3] rfl (by decide)) rfl rfl hl.1 rfl (lv_room (Nat.le_of_ble_eq_true rfl)) dX10_areThings_90 ⟨Nat.le_of_ble_eq_true rfl, Nat.le_of_ble_eq_true rfl⟩) hP hD hS hA [1, 2, 3] [0] rfl rfl (by decide) (by decide) ?_
                      clear hP hD hS
                      intro r_44 u_46 H locs w_45 hP hD hS
                      replace hP : va_P D vwCl [(k, .inr (10, [.ref k0, .ref k1, .ref k2, .ref k3, .ref k4, .ref k5, .ref k6, .ref k7, .ref k8, .ref k9, .ref ka, .ref kb, .int cc])), (ka, .inr (6, [.ref ka0, .ref ka1, .ref ka2])), (ka1, .inl (cI, 4, .inl ca1)), (ka2, .inl (cI, 144, .inl ca2))] H := hP
                      replace hD : va_D A [(k, .inr (10, [.ref k0, .ref k1, .ref k2, .ref k3, .ref k4, .ref k5, .ref k6, .ref k7, .ref k8, .ref k9, .ref ka, .ref kb, .int cc])), (ka, .inr (6, [.ref ka0, .ref ka1, .ref ka2])), (ka1, .inl (cI, 4, .inl ca1)), (ka2, .inl (cI, 144, .inl ca2))] := hD
                      have h_47 := w_45
                      have h_47 : r_44 = kNum ca1 ca2 a0 v_43 := h_47
                      have lo_r_44 := k_lo r_44
                      have hi_r_44 := k_hi r_44
                      refine lv_iconst (v := 1) hx hb dX10_areThings_93 (by decide) ?_
                      refine lv_iconst (v := 3) hx hb dX10_areThings_94 (by decide) ?_
                      refine kJi (wr := [(k, .inr (10, [.ref k0, .ref k1, .ref k2, .ref k3, .ref k4, .ref k5, .ref k6, .ref k7, .ref k8, .ref k9, .ref ka, .ref kb, .int cc])), (ka, .inr (6, [.ref ka0, .ref ka1, .ref ka2])), (ka1, .inl (cI, 4, .inl ca1)), (ka2, .inl (cI, 144, .inl ca2))]) (va_runS (As := [.int r_44, .int 1, .int 3]) (rest := []) ⟨hx, hb, hml, hown, hT⟩ (c_X10_isWithinG l D cI aK aV H.size r_44 1 3) (cwS 3 hT (gS_in mw_691 mw_886 mw_690 mw_1) rfl rfl rfl (by decide +kernel) ⟨Nat.le_of_ble_eq_true rfl, Nat.le_of_ble_eq_true rfl⟩) (kStatX hK hP hD hN hXS hS hA [] rfl (by decide)) rfl rfl hl.1 rfl (lv_room (Nat.le_of_ble_eq_true rfl)) dX10_areThings_95 ⟨Nat.le_of_ble_eq_true rfl, Nat.le_of_ble_eq_true rfl⟩) hP hD hS hA [] [0, 1, 2, 3] rfl rfl (by decide) (by decide) ?_
                      clear hP hD hS
                      intro r_48 u_50 H locs w_49 hP hD hS
                      replace hP : va_P D vwCl [(k, .inr (10, [.ref k0, .ref k1, .ref k2, .ref k3, .ref k4, .ref k5, .ref k6, .ref k7, .ref k8, .ref k9, .ref ka, .ref kb, .int cc])), (ka, .inr (6, [.ref ka0, .ref ka1, .ref ka2])), (ka1, .inl (cI, 4, .inl ca1)), (ka2, .inl (cI, 144, .inl ca2))] H := hP
                      replace hD : va_D A [(k, .inr (10, [.ref k0, .ref k1, .ref k2, .ref k3, .ref k4, .ref k5, .ref k6, .ref k7, .ref k8, .ref k9, .ref ka, .ref kb, .int cc])), (ka, .inr (6, [.ref ka0, .ref ka1, .ref ka2])), (ka1, .inl (cI, 4, .inl ca1)), (ka2, .inl (cI, 144, .inl ca2))] := hD
                      rcases w_49 with ⟨hr_48, h_51, h_52⟩ | ⟨hr_48, h_53⟩
                      · try simp only [zl_1, zl_3] at h_51
                        have h_51 : 1 ≤ r_44.toInt := h_51
                        try simp only [zl_1, zl_3] at h_52
                        have h_52 : r_44.toInt ≤ 3 := h_52
                        obtain rfl : r_48 = 1 := hr_48.trans (by decide)
                        refine b_if_ne hx hb zl_1 (tgt := 103) dX10_areThings_98 (by decide) (fun c_54 => ?_) (fun c_54 => by exfalso; omega)
                        obtain ⟨v_55, ev_55⟩ : ∃ y : Int32, y = l30_3 + 3 := ⟨_, rfl⟩
                        have tv_55 : v_55.toInt = l30_3.toInt + 3 := by rw [ev_55]; exact k_addv rfl zl_3 (by omega) (by omega)
                        refine lv_iinc (v := v_55) (lv' := [(3, .int v_55), (5, .int 1), (4, .int 1), (2, .int r_6), (0, .ref k), (1, .int a0)]) hx hb dX10_areThings_103 hl (k := 2) rfl (by rw [ev_55]; rfl) (by decide) rfl ?_
                        clear hl
                        intro ls hl
                        refine lv_goto (tgt := 30) hx hb dX10_areThings_106 (by decide) ?_
                        exact ih30 v_55 (by first | omega | decide | assumption | rfl) (by first | omega | decide | assumption | rfl) (by first | omega | (have := zl_0; omega)) (by first | omega | (have := zl_0; omega)) (by first | omega | (have := zl_0; omega)) (THG.s (i := l30_3) (x := r_20) (y := r_31) (z := r_44) i30_5 (by omega) (by omega) (by omega) (by rw [(h_23.trans (kNum_shv (by omega) (by omega) (by omega) (by omega) (by omega)))]; unfold shv; first | rfl | (congr 1; omega)) (by rw [(h_34.trans (kNum_shv (by omega) (by omega) (by omega) (by omega) (by omega)))]; unfold shv; first | rfl | (congr 1; omega)) (by rw [(h_47.trans (kNum_shv (by omega) (by omega) (by omega) (by omega) (by omega)))]; unfold shv; first | rfl | (congr 1; omega)) (by omega) (by omega) (by omega) (by omega)) (by omega) ls _ _ (lv_sub hl [0, 3, 4, 5] rfl) (hP.sub [0, 3, 1, 2] rfl) (hD.sub [0, 3, 1, 2] (by decide) rfl) hS
                      · try simp only [zl_1, zl_3] at h_53
                        have h_53 : r_44.toInt < 1 ∨ 3 < r_44.toInt := h_53
                        obtain rfl : r_48 = 0 := hr_48.trans (by decide)
                        refine b_if_ne hx hb zl_0 (tgt := 103) dX10_areThings_98 (by decide) (fun c_56 => by exfalso; omega) (fun c_56 => ?_)
                        refine lv_iconst (v := 0) hx hb dX10_areThings_101 (by decide) ?_
                        exact hRet () [0, 1, 2, 3] (Or.inr (⟨rfl, (by first | exact LDK.bx (i := l30_3) (by omega) (by omega) (by omega) (h_23.trans (kNum_shv (by omega) (by omega) (by omega) (by omega) (by omega))) (by omega) | exact LDK.b_y (i := v_30) (by omega) (by omega) (by omega) (h_34.trans (kNum_shv (by omega) (by omega) (by omega) (by omega) (by omega))) (by omega) | exact LDK.bz (i := v_43) (by omega) (by omega) (by omega) (h_47.trans (kNum_shv (by omega) (by omega) (by omega) (by omega) (by omega))) (by omega))⟩)) hP hD (by decide) rfl hS rfl dX10_areThings_102
                    · try simp only [zl_0, zl_999] at h_40
                      have h_40 : r_31.toInt < 0 ∨ 999 < r_31.toInt := h_40
                      obtain rfl : r_35 = 0 := hr_35.trans (by decide)
                      refine lv_istore (lv' := [(5, .int 0), (4, .int 1), (3, .int l30_3), (2, .int r_6), (0, .ref k), (1, .int a0)]) hx hb dX10_areThings_70 hl (by decide) rfl ?_
                      clear hl
                      intro ls hl
                      refine lv_iload hx hb dX10_areThings_72 (lv_at hl 1 rfl) ?_
                      refine b_if_eq hx hb zl_1 (tgt := 101) dX10_areThings_74 (by decide) (fun c_57 => by exfalso; omega) (fun c_57 => ?_)
                      refine lv_iload hx hb dX10_areThings_77 (lv_at hl 0 rfl) ?_
                      refine b_if_eq hx hb zl_0 (tgt := 101) dX10_areThings_79 (by decide) (fun c_58 => ?_) (fun c_58 => by exfalso; omega)
                      refine lv_iconst (v := 0) hx hb dX10_areThings_101 (by decide) ?_
                      exact hRet () [0, 1, 2, 3] (Or.inr (⟨rfl, (by first | exact LDK.bx (i := l30_3) (by omega) (by omega) (by omega) (h_23.trans (kNum_shv (by omega) (by omega) (by omega) (by omega) (by omega))) (by omega) | exact LDK.b_y (i := v_30) (by omega) (by omega) (by omega) (h_34.trans (kNum_shv (by omega) (by omega) (by omega) (by omega) (by omega))) (by omega))⟩)) hP hD (by decide) rfl hS rfl dX10_areThings_102
                  · try simp only [zl_1, zl_40] at h_29
                    have h_29 : r_20.toInt < 1 ∨ 40 < r_20.toInt := h_29
                    obtain rfl : r_24 = 0 := hr_24.trans (by decide)
                    refine lv_istore (lv' := [(4, .int 0), (3, .int l30_3), (2, .int r_6), (0, .ref k), (1, .int a0)]) hx hb dX10_areThings_50 hl (by decide) rfl ?_
                    clear hl
                    intro ls hl
                    refine lv_aload_n hx hb dX10_areThings_52 rfl (lv_at hl 3 rfl) ?_
                    refine va_get (D := D) (ci := 10) (v := .ref ka) (C := RX10) (T := TX10) (N := 13) hx hb hT giX10 hown hK hP 0 rfl rfl 10 (by decide) (hT (Cond.fieldLink RX10 70 "DesertWire" "sheets" "LDesertWire$Sheets;") mw_301) (fun _ h9 => h9) rfl dX10_areThings_53 ?_
                    refine lv_iload_n hx hb dX10_areThings_56 rfl (lv_at hl 4 rfl) ?_
                    refine lv_iload_n hx hb dX10_areThings_57 rfl (lv_at hl 1 rfl) ?_
                    refine lv_iconst (v := 1) hx hb dX10_areThings_58 (by decide) ?_
                    refine lv_iadd hx hb dX10_areThings_59 ?_
                    refine lv_topi (fun v_59 ev_59 => ?_)
                    have tv_59 : v_59.toInt = l30_3.toInt + 1 := by rw [ev_59]; exact k_addv rfl zl_1 (by omega) (by omega)
                    refine kJi (wr := [(k, .inr (10, [.ref k0, .ref k1, .ref k2, .ref k3, .ref k4, .ref k5, .ref k6, .ref k7, .ref k8, .ref k9, .ref ka, .ref kb, .int cc]))]) (va_runV (As := [.int a0, .int v_59]) (rest := []) ⟨hx, hb, hml, hown, hT⟩ (c_X6_numberAtG l D cI aK aV ka ka0 ka1 ka2 H.size ca1 ca2 a0 v_59 (by first | omega | decide | assumption | rfl)) (cwV 2 hT (gV_in mw_684 mw_696 mw_682 mw_683 mw_11) rfl rfl rfl (by decide +kernel) ⟨Nat.le_of_ble_eq_true rfl, Nat.le_of_ble_eq_true rfl⟩) (kRecvX (q0 := 1) (ci := 6) hK hP hD hN hXS hS hA rfl rfl [1, 2, 3] rfl (by decide)) rfl rfl hl.1 rfl (lv_room (Nat.le_of_ble_eq_true rfl)) dX10_areThings_60 ⟨Nat.le_of_ble_eq_true rfl, Nat.le_of_ble_eq_true rfl⟩) hP hD hS hA [1, 2, 3] [0] rfl rfl (by decide) (by decide) ?_
                    clear hP hD hS
                    intro r_60 u_62 H locs w_61 hP hD hS
                    replace hP : va_P D vwCl [(k, .inr (10, [.ref k0, .ref k1, .ref k2, .ref k3, .ref k4, .ref k5, .ref k6, .ref k7, .ref k8, .ref k9, .ref ka, .ref kb, .int cc])), (ka, .inr (6, [.ref ka0, .ref ka1, .ref ka2])), (ka1, .inl (cI, 4, .inl ca1)), (ka2, .inl (cI, 144, .inl ca2))] H := hP
                    replace hD : va_D A [(k, .inr (10, [.ref k0, .ref k1, .ref k2, .ref k3, .ref k4, .ref k5, .ref k6, .ref k7, .ref k8, .ref k9, .ref ka, .ref kb, .int cc])), (ka, .inr (6, [.ref ka0, .ref ka1, .ref ka2])), (ka1, .inl (cI, 4, .inl ca1)), (ka2, .inl (cI, 144, .inl ca2))] := hD
                    have h_63 := w_61
                    have h_63 : r_60 = kNum ca1 ca2 a0 v_59 := h_63
                    have lo_r_60 := k_lo r_60
                    have hi_r_60 := k_hi r_60
                    refine lv_iconst (v := 0) hx hb dX10_areThings_63 (by decide) ?_
                    refine lv_sipush (v := 999) hx hb dX10_areThings_64 (by decide) ?_
                    refine kJi (wr := [(k, .inr (10, [.ref k0, .ref k1, .ref k2, .ref k3, .ref k4, .ref k5, .ref k6, .ref k7, .ref k8, .ref k9, .ref ka, .ref kb, .int cc])), (ka, .inr (6, [.ref ka0, .ref ka1, .ref ka2])), (ka1, .inl (cI, 4, .inl ca1)), (ka2, .inl (cI, 144, .inl ca2))]) (va_runS (As := [.int r_60, .int 0, .int 999]) (rest := []) ⟨hx, hb, hml, hown, hT⟩ (c_X10_isWithinG l D cI aK aV H.size r_60 0 999) (cwS 3 hT (gS_in mw_691 mw_886 mw_690 mw_1) rfl rfl rfl (by decide +kernel) ⟨Nat.le_of_ble_eq_true rfl, Nat.le_of_ble_eq_true rfl⟩) (kStatX hK hP hD hN hXS hS hA [] rfl (by decide)) rfl rfl hl.1 rfl (lv_room (Nat.le_of_ble_eq_true rfl)) dX10_areThings_67 ⟨Nat.le_of_ble_eq_true rfl, Nat.le_of_ble_eq_true rfl⟩) hP hD hS hA [] [0, 1, 2, 3] rfl rfl (by decide) (by decide) ?_
                    clear hP hD hS
                    intro r_64 u_66 H locs w_65 hP hD hS
                    replace hP : va_P D vwCl [(k, .inr (10, [.ref k0, .ref k1, .ref k2, .ref k3, .ref k4, .ref k5, .ref k6, .ref k7, .ref k8, .ref k9, .ref ka, .ref kb, .int cc])), (ka, .inr (6, [.ref ka0, .ref ka1, .ref ka2])), (ka1, .inl (cI, 4, .inl ca1)), (ka2, .inl (cI, 144, .inl ca2))] H := hP
                    replace hD : va_D A [(k, .inr (10, [.ref k0, .ref k1, .ref k2, .ref k3, .ref k4, .ref k5, .ref k6, .ref k7, .ref k8, .ref k9, .ref ka, .ref kb, .int cc])), (ka, .inr (6, [.ref ka0, .ref ka1, .ref ka2])), (ka1, .inl (cI, 4, .inl ca1)), (ka2, .inl (cI, 144, .inl ca2))] := hD
                    rcases w_65 with ⟨hr_64, h_67, h_68⟩ | ⟨hr_64, h_69⟩
                    · try simp only [zl_0, zl_999] at h_67
                      have h_67 : 0 ≤ r_60.toInt := h_67
                      try simp only [zl_0, zl_999] at h_68
                      have h_68 : r_60.toInt ≤ 999 := h_68
                      obtain rfl : r_64 = 1 := hr_64.trans (by decide)
                      refine lv_istore (lv' := [(5, .int 1), (4, .int 0), (3, .int l30_3), (2, .int r_6), (0, .ref k), (1, .int a0)]) hx hb dX10_areThings_70 hl (by decide) rfl ?_
                      clear hl
                      intro ls hl
                      refine lv_iload hx hb dX10_areThings_72 (lv_at hl 1 rfl) ?_
                      refine b_if_eq hx hb zl_0 (tgt := 101) dX10_areThings_74 (by decide) (fun c_70 => ?_) (fun c_70 => by exfalso; omega)
                      refine lv_iconst (v := 0) hx hb dX10_areThings_101 (by decide) ?_
                      exact hRet () [0, 1, 2, 3] (Or.inr (⟨rfl, (by first | exact LDK.bx (i := l30_3) (by omega) (by omega) (by omega) (h_23.trans (kNum_shv (by omega) (by omega) (by omega) (by omega) (by omega))) (by omega) | exact LDK.b_y (i := v_59) (by omega) (by omega) (by omega) (h_63.trans (kNum_shv (by omega) (by omega) (by omega) (by omega) (by omega))) (by omega))⟩)) hP hD (by decide) rfl hS rfl dX10_areThings_102
                    · try simp only [zl_0, zl_999] at h_69
                      have h_69 : r_60.toInt < 0 ∨ 999 < r_60.toInt := h_69
                      obtain rfl : r_64 = 0 := hr_64.trans (by decide)
                      refine lv_istore (lv' := [(5, .int 0), (4, .int 0), (3, .int l30_3), (2, .int r_6), (0, .ref k), (1, .int a0)]) hx hb dX10_areThings_70 hl (by decide) rfl ?_
                      clear hl
                      intro ls hl
                      refine lv_iload hx hb dX10_areThings_72 (lv_at hl 1 rfl) ?_
                      refine b_if_eq hx hb zl_0 (tgt := 101) dX10_areThings_74 (by decide) (fun c_71 => ?_) (fun c_71 => by exfalso; omega)
                      refine lv_iconst (v := 0) hx hb dX10_areThings_101 (by decide) ?_
                      exact hRet () [0, 1, 2, 3] (Or.inr (⟨rfl, (by first | exact LDK.bx (i := l30_3) (by omega) (by omega) (by omega) (h_23.trans (kNum_shv (by omega) (by omega) (by omega) (by omega) (by omega))) (by omega) | exact LDK.b_y (i := v_59) (by omega) (by omega) (by omega) (h_63.trans (kNum_shv (by omega) (by omega) (by omega) (by omega) (by omega))) (by omega))⟩)) hP hD (by decide) rfl hS rfl dX10_areThings_102
          exact hloop_30 _ 0 (by first | omega | (simp only [zl_0]; first | done | omega) | decide | assumption | rfl) (by first | omega | (simp only [zl_0]; first | done | omega) | decide | assumption | rfl) (by first | omega | (have := zl_0; omega)) (by first | omega | (have := zl_0; omega)) (by first | omega | (have := zl_0; omega)) (THG.z (by have := zl_0; omega)) (Nat.lt_succ_self _) ls _ _ (lv_sub hl [0, 1, 2, 3] rfl) hP hD hS
        · refine lv_iconst (v := 0) hx hb dX10_areThings_26 (by decide) ?_
          exact hRet () [0, 2, 3, 1] (Or.inr (⟨rfl, (fun z => by have z1 := z.1; have z2 := z.2.1; have z3 := z.2.2.1; omega)⟩)) hP hD (by decide) rfl hS rfl dX10_areThings_27
  · exfalso; omega

set_option maxHeartbeats 4000000 in
set_option maxRecDepth 100000 in
theorem c_X10_loadD (l : Launch) (D : va_G) (cI : ClassId) (aK aV : Nat → Nat) (k k0 k1 k2 k3 k4 k5 k6 k7 k8 k9 ka kb k00 k01 k02 k03 k04 k05 k70 k71 ka0 ka1 ka2 k050 : Nat) (sz : Nat) (cc : Int32) (c06 : Int32) (c07 : Int32) (c08 : Int32) (c72 : Int32) (c73 : Int32) (cb : Nat → Int32) (c051 : Int32) (c70 : Nat → Int32) (c71 : Nat → Int32) (ca0 : Nat → Int32) (ca1 : Nat → Int32) (ca2 : Nat → Int32) (c050 : Nat → Int32) (c00 : Nat → Int32) (c01 : Nat → Int32) (c02 : Nat → Int32) (c03 : Nat → Int32) (c040 : Nat → Int32) (c041 : Nat → Int32) (c042 : Nat → Int32) (c043 : Nat → Int32) (c044 : Nat → Int32) (c045 : Nat → Int32) (c046 : Nat → Int32) (c047 : Nat → Int32) (c048 : Nat → Int32) (c049 : Int32) (gx : Nat → Int32) (a0 : Int32) (a1 : Int32) (a2 : Int32) (pre0 : WR c00 c01 c02 c03 c040 c041 c042 c043 c044 c045 c046 c047 c048 c049 c050 c051 c06 c07 c08 gx) (pre1 : SB gx) (pre2 : ∀ k : Nat, k < 4 → 0 ≤ (ca1 k).toInt ∧ (ca1 k).toInt ≤ 36) : Met l yX10_load (gW yX10_load cX10_load 5 (some .int)) ({ frames := 6, cells := 0, slots := 0, locals := 143 } : Room) (kPreX D cI aK aV [.ref k, .int a0, .int a1, .int a2] [(k, .inr (10, [.ref k0, .ref k1, .ref k2, .ref k3, .ref k4, .ref k5, .ref k6, .ref k7, .ref k8, .ref k9, .ref ka, .ref kb, .int cc])), (k0, .inr (9, [.ref k00, .ref k01, .ref k02, .ref k03, .ref k04, .ref k05, .int c06, .int c07, .int c08])), (k7, .inr (1, [.ref k70, .ref k71, .int c72, .int c73])), (ka, .inr (6, [.ref ka0, .ref ka1, .ref ka2])), (kb, .inl (cI, 6, .inl cb)), (k05, .inr (3, [.ref k050, .int c051])), (k70, .inl (cI, 5409, .inl c70)), (k71, .inl (cI, 8, .inl c71)), (ka0, .inl (cI, 4, .inl ca0)), (ka1, .inl (cI, 4, .inl ca1)), (ka2, .inl (cI, 144, .inl ca2)), (k050, .inl (cI, 36, .inl c050))] sz) (va_Qi (fun (r : Int32) (u : Int32 × Int32 × (Nat → Int32) × (Nat → Int32) × (Nat → Int32)) => LOD gx ca0 ca1 ca2 a0 a1 a2 r) (fun u t => kWd D cI (va_A [(k, .inr (10, [.ref k0, .ref k1, .ref k2, .ref k3, .ref k4, .ref k5, .ref k6, .ref k7, .ref k8, .ref k9, .ref ka, .ref kb, .int cc])), (k0, .inr (9, [.ref k00, .ref k01, .ref k02, .ref k03, .ref k04, .ref k05, .int c06, .int c07, .int c08])), (k7, .inr (1, [.ref k70, .ref k71, .int c72, .int c73])), (ka, .inr (6, [.ref ka0, .ref ka1, .ref ka2])), (kb, .inl (cI, 6, .inl cb)), (k05, .inr (3, [.ref k050, .int c051])), (k70, .inl (cI, 5409, .inl c70)), (k71, .inl (cI, 8, .inl c71)), (ka0, .inl (cI, 4, .inl ca0)), (ka1, .inl (cI, 4, .inl ca1)), (ka2, .inl (cI, 144, .inl ca2)), (k050, .inl (cI, 36, .inl c050))] sz) [(k, .inr (10, [.ref k0, .ref k1, .ref k2, .ref k3, .ref k4, .ref k5, .ref k6, .ref k7, .ref k8, .ref k9, .ref ka, .ref kb, .int cc])), (k0, .inr (9, [.ref k00, .ref k01, .ref k02, .ref k03, .ref k04, .ref k05, .int c06, .int c07, .int c08])), (k7, .inr (1, [.ref k70, .ref k71, .int u.1, .int u.2.1])), (ka, .inr (6, [.ref ka0, .ref ka1, .ref ka2])), (kb, .inl (cI, 6, .inl u.2.2.1)), (k05, .inr (3, [.ref k050, .int c051])), (k70, .inl (cI, 5409, .inl u.2.2.2.1)), (k71, .inl (cI, 8, .inl u.2.2.2.2)), (ka0, .inl (cI, 4, .inl ca0)), (ka1, .inl (cI, 4, .inl ca1)), (ka2, .inl (cI, 144, .inl ca2)), (k050, .inl (cI, 36, .inl c050))] t) (va_A [(k, .inr (10, [.ref k0, .ref k1, .ref k2, .ref k3, .ref k4, .ref k5, .ref k6, .ref k7, .ref k8, .ref k9, .ref ka, .ref kb, .int cc])), (k0, .inr (9, [.ref k00, .ref k01, .ref k02, .ref k03, .ref k04, .ref k05, .int c06, .int c07, .int c08])), (k7, .inr (1, [.ref k70, .ref k71, .int c72, .int c73])), (ka, .inr (6, [.ref ka0, .ref ka1, .ref ka2])), (kb, .inl (cI, 6, .inl cb)), (k05, .inr (3, [.ref k050, .int c051])), (k70, .inl (cI, 5409, .inl c70)), (k71, .inl (cI, 8, .inl c71)), (ka0, .inl (cI, 4, .inl ca0)), (ka1, .inl (cI, 4, .inl ca1)), (ka2, .inl (cI, 144, .inl ca2)), (k050, .inl (cI, 36, .inl c050))] sz)) 0 0 (va_A [(k, .inr (10, [.ref k0, .ref k1, .ref k2, .ref k3, .ref k4, .ref k5, .ref k6, .ref k7, .ref k8, .ref k9, .ref ka, .ref kb, .int cc])), (k0, .inr (9, [.ref k00, .ref k01, .ref k02, .ref k03, .ref k04, .ref k05, .int c06, .int c07, .int c08])), (k7, .inr (1, [.ref k70, .ref k71, .int c72, .int c73])), (ka, .inr (6, [.ref ka0, .ref ka1, .ref ka2])), (kb, .inl (cI, 6, .inl cb)), (k05, .inr (3, [.ref k050, .int c051])), (k70, .inl (cI, 5409, .inl c70)), (k71, .inl (cI, 8, .inl c71)), (ka0, .inl (cI, 4, .inl ca0)), (ka1, .inl (cI, 4, .inl ca1)), (ka2, .inl (cI, 144, .inl ca2)), (k050, .inl (cI, 36, .inl c050))] sz) := by
  refine kMetIX (own := RX10) (by decide) rfl (Nat.le_of_ble_eq_true rfl) ?_
  intro p e s m args below meth c hx hb hT hown hname hml A Q hK hP hD hS hA hN hXS hRet ls hl
  have hl : lv_has ls 5 [(0, .ref k), (1, .int a0), (2, .int a1), (3, .int a2)] := hl
  have lo_a0 := k_lo a0
  have hi_a0 := k_hi a0
  have lo_a1 := k_lo a1
  have hi_a1 := k_hi a1
  have lo_a2 := k_lo a2
  have hi_a2 := k_hi a2
  have lo_c06 := k_lo c06
  have hi_c06 := k_hi c06
  have lo_c07 := k_lo c07
  have hi_c07 := k_hi c07
  have lo_c08 := k_lo c08
  have hi_c08 := k_hi c08
  have lo_c051 := k_lo c051
  have hi_c051 := k_hi c051
  have lo_c049 := k_lo c049
  have hi_c049 := k_hi c049
  have hln : 0 ≤ a1.toInt → a1.toInt ≤ 3 → 0 ≤ (ca1 a1.toNatClampNeg).toInt ∧ (ca1 a1.toNatClampNeg).toInt ≤ 36 := fun z0 z1 => pre2 a1.toNatClampNeg (by rw [k_clamp]; omega)
  have pre0 : WR c00 c01 c02 c03 c040 c041 c042 c043 c044 c045 c046 c047 c048 c049 c050 c051 c06 c07 c08 gx := pre0
  have b_1 : 0 ≤ c049.toInt ∧ c049.toInt ≤ 60 := WKR.n0 (WR.kw pre0)
  have t_2 : c049.toInt = (gx 1).toInt := WKR.nt (WR.kw pre0)
  have b_3 : 0 ≤ c051.toInt ∧ c051.toInt ≤ 4 := ((WR.kp pre0)).2.1
  have t_4 : c051.toInt = (gx 2).toInt := PTR.nt (WR.kp pre0)
  have t_5 : c08.toInt = (gx 0).toInt := by rw [WR.dd pre0]
  have pre1 : SB gx := pre1
  refine lv_aload_n hx hb dX10_load_0 rfl (lv_at hl 0 rfl) ?_
  refine va_get (D := D) (ci := 10) (v := .ref k0) (C := RX10) (T := TX10) (N := 13) hx hb hT giX10 hown hK hP 0 rfl rfl 0 (by decide) (hT (Cond.fieldLink RX10 12 "DesertWire" "now" "LDesertWire$World;") mw_291) (fun _ h9 => h9) rfl dX10_load_1 ?_
  refine va_get (D := D) (ci := 9) (v := .ref k05) (C := RX9) (T := TX9) (N := 9) hx hb hT giX9 hown hK hP 1 rfl rfl 5 (by decide) (hT (Cond.fieldLink RX10 193 "DesertWire$World" "parties" "LDesertWire$Parties;") mw_102) (fun _ h9 => h9) rfl dX10_load_4 ?_
  refine lv_iload_n hx hb dX10_load_7 rfl (lv_at hl 1 rfl) ?_
  refine kJi (wr := [(k, .inr (10, [.ref k0, .ref k1, .ref k2, .ref k3, .ref k4, .ref k5, .ref k6, .ref k7, .ref k8, .ref k9, .ref ka, .ref kb, .int cc])), (k0, .inr (9, [.ref k00, .ref k01, .ref k02, .ref k03, .ref k04, .ref k05, .int c06, .int c07, .int c08])), (k7, .inr (1, [.ref k70, .ref k71, .int c72, .int c73])), (ka, .inr (6, [.ref ka0, .ref ka1, .ref ka2])), (kb, .inl (cI, 6, .inl cb)), (k70, .inl (cI, 5409, .inl c70)), (k71, .inl (cI, 8, .inl c71)), (ka0, .inl (cI, 4, .inl ca0)), (ka1, .inl (cI, 4, .inl ca1)), (ka2, .inl (cI, 144, .inl ca2)), (k050, .inl (cI, 36, .inl c050))]) (va_runV (As := [.int a0]) (rest := []) ⟨hx, hb, hml, hown, hT⟩ (c_X3_hasG l D cI aK aV k05 k050 s.heap.size c051 a0) (cwV 1 hT (gV_in mw_717 mw_722 mw_715 mw_716 mw_4) rfl rfl rfl (by decide +kernel) ⟨Nat.le_of_ble_eq_true rfl, Nat.le_of_ble_eq_true rfl⟩) (kRecvX (q0 := 5) (ci := 3) hK hP hD hN hXS hS hA rfl rfl [5] rfl (by decide)) rfl rfl hl.1 rfl (lv_room (Nat.le_of_ble_eq_true rfl)) dX10_load_8 ⟨Nat.le_of_ble_eq_true rfl, Nat.le_of_ble_eq_true rfl⟩) hP hD hS hA [5] [0, 1, 2, 3, 4, 6, 7, 8, 9, 10, 11] rfl rfl (by decide) (by decide) ?_
  clear hP hD hS
  intro r_6 u_8 H locs w_7 hP hD hS
  replace hP : va_P D vwCl [(k, .inr (10, [.ref k0, .ref k1, .ref k2, .ref k3, .ref k4, .ref k5, .ref k6, .ref k7, .ref k8, .ref k9, .ref ka, .ref kb, .int cc])), (k0, .inr (9, [.ref k00, .ref k01, .ref k02, .ref k03, .ref k04, .ref k05, .int c06, .int c07, .int c08])), (k7, .inr (1, [.ref k70, .ref k71, .int c72, .int c73])), (ka, .inr (6, [.ref ka0, .ref ka1, .ref ka2])), (kb, .inl (cI, 6, .inl cb)), (k70, .inl (cI, 5409, .inl c70)), (k71, .inl (cI, 8, .inl c71)), (ka0, .inl (cI, 4, .inl ca0)), (ka1, .inl (cI, 4, .inl ca1)), (ka2, .inl (cI, 144, .inl ca2)), (k050, .inl (cI, 36, .inl c050)), (k05, .inr (3, [.ref k050, .int c051]))] H := hP
  replace hD : va_D A [(k, .inr (10, [.ref k0, .ref k1, .ref k2, .ref k3, .ref k4, .ref k5, .ref k6, .ref k7, .ref k8, .ref k9, .ref ka, .ref kb, .int cc])), (k0, .inr (9, [.ref k00, .ref k01, .ref k02, .ref k03, .ref k04, .ref k05, .int c06, .int c07, .int c08])), (k7, .inr (1, [.ref k70, .ref k71, .int c72, .int c73])), (ka, .inr (6, [.ref ka0, .ref ka1, .ref ka2])), (kb, .inl (cI, 6, .inl cb)), (k70, .inl (cI, 5409, .inl c70)), (k71, .inl (cI, 8, .inl c71)), (ka0, .inl (cI, 4, .inl ca0)), (ka1, .inl (cI, 4, .inl ca1)), (ka2, .inl (cI, 144, .inl ca2)), (k050, .inl (cI, 36, .inl c050)), (k05, .inr (3, [.ref k050, .int c051]))] := hD
  rcases w_7 with ⟨hr_6, h_9, h_10, h_11⟩ | ⟨hr_6, h_12⟩
  · have h_9 : 0 ≤ a0.toInt := h_9
    have h_10 : a0.toInt < c051.toInt := h_10
    have h_11 : a0.toInt < 4 := h_11
    obtain rfl : r_6 = 1 := hr_6.trans (by decide)
    refine b_if_eq hx hb zl_1 (tgt := 27) dX10_load_11 (by decide) (fun c_13 => by exfalso; omega) (fun c_13 => ?_)
    refine lv_iload_n hx hb dX10_load_14 rfl (lv_at hl 2 rfl) ?_
    refine kJi (wr := [(k, .inr (10, [.ref k0, .ref k1, .ref k2, .ref k3, .ref k4, .ref k5, .ref k6, .ref k7, .ref k8, .ref k9, .ref ka, .ref kb, .int cc])), (k0, .inr (9, [.ref k00, .ref k01, .ref k02, .ref k03, .ref k04, .ref k05, .int c06, .int c07, .int c08])), (k7, .inr (1, [.ref k70, .ref k71, .int c72, .int c73])), (ka, .inr (6, [.ref ka0, .ref ka1, .ref ka2])), (kb, .inl (cI, 6, .inl cb)), (k70, .inl (cI, 5409, .inl c70)), (k71, .inl (cI, 8, .inl c71)), (ka0, .inl (cI, 4, .inl ca0)), (ka1, .inl (cI, 4, .inl ca1)), (ka2, .inl (cI, 144, .inl ca2)), (k050, .inl (cI, 36, .inl c050)), (k05, .inr (3, [.ref k050, .int c051]))]) (va_runS (As := [.int a1]) (rest := []) ⟨hx, hb, hml, hown, hT⟩ (c_X10_isSheetG l D cI aK aV H.size a1) (cwS 1 hT (gS_in mw_662 mw_660 mw_661 mw_1) rfl rfl rfl (by decide +kernel) ⟨Nat.le_of_ble_eq_true rfl, Nat.le_of_ble_eq_true rfl⟩) (kStatX hK hP hD hN hXS hS hA [] rfl (by decide)) rfl rfl hl.1 rfl (lv_room (Nat.le_of_ble_eq_true rfl)) dX10_load_15 ⟨Nat.le_of_ble_eq_true rfl, Nat.le_of_ble_eq_true rfl⟩) hP hD hS hA [] [0, 1, 2, 3, 4, 5, 6, 7, 8, 9, 10, 11] rfl rfl (by decide) (by decide) ?_
    clear hP hD hS
    intro r_14 u_16 H locs w_15 hP hD hS
    replace hP : va_P D vwCl [(k, .inr (10, [.ref k0, .ref k1, .ref k2, .ref k3, .ref k4, .ref k5, .ref k6, .ref k7, .ref k8, .ref k9, .ref ka, .ref kb, .int cc])), (k0, .inr (9, [.ref k00, .ref k01, .ref k02, .ref k03, .ref k04, .ref k05, .int c06, .int c07, .int c08])), (k7, .inr (1, [.ref k70, .ref k71, .int c72, .int c73])), (ka, .inr (6, [.ref ka0, .ref ka1, .ref ka2])), (kb, .inl (cI, 6, .inl cb)), (k70, .inl (cI, 5409, .inl c70)), (k71, .inl (cI, 8, .inl c71)), (ka0, .inl (cI, 4, .inl ca0)), (ka1, .inl (cI, 4, .inl ca1)), (ka2, .inl (cI, 144, .inl ca2)), (k050, .inl (cI, 36, .inl c050)), (k05, .inr (3, [.ref k050, .int c051]))] H := hP
    replace hD : va_D A [(k, .inr (10, [.ref k0, .ref k1, .ref k2, .ref k3, .ref k4, .ref k5, .ref k6, .ref k7, .ref k8, .ref k9, .ref ka, .ref kb, .int cc])), (k0, .inr (9, [.ref k00, .ref k01, .ref k02, .ref k03, .ref k04, .ref k05, .int c06, .int c07, .int c08])), (k7, .inr (1, [.ref k70, .ref k71, .int c72, .int c73])), (ka, .inr (6, [.ref ka0, .ref ka1, .ref ka2])), (kb, .inl (cI, 6, .inl cb)), (k70, .inl (cI, 5409, .inl c70)), (k71, .inl (cI, 8, .inl c71)), (ka0, .inl (cI, 4, .inl ca0)), (ka1, .inl (cI, 4, .inl ca1)), (ka2, .inl (cI, 144, .inl ca2)), (k050, .inl (cI, 36, .inl c050)), (k05, .inr (3, [.ref k050, .int c051]))] := hD
    rcases w_15 with ⟨hr_14, h_17, h_18⟩ | ⟨hr_14, h_19⟩
    · have h_17 : 0 ≤ a1.toInt := h_17
      have h_18 : a1.toInt ≤ 3 := h_18
      obtain rfl : r_14 = 1 := hr_14.trans (by decide)
      refine b_if_eq hx hb zl_1 (tgt := 27) dX10_load_18 (by decide) (fun c_20 => by exfalso; omega) (fun c_20 => ?_)
      refine lv_iload_n hx hb dX10_load_21 rfl (lv_at hl 3 rfl) ?_
      refine lv_bipush (v := (-2)) hx hb dX10_load_22 (by decide) ?_
      refine b_icmp_ge hx hb rfl zl_m2 (tgt := 33) dX10_load_24 (by decide) (fun c_21 => ?_) (fun c_21 => ?_)
      · refine lv_aload_n hx hb dX10_load_33 rfl (lv_at hl 0 rfl) ?_
        refine va_get (D := D) (ci := 10) (v := .ref ka) (C := RX10) (T := TX10) (N := 13) hx hb hT giX10 hown hK hP 0 rfl rfl 10 (by decide) (hT (Cond.fieldLink RX10 70 "DesertWire" "sheets" "LDesertWire$Sheets;") mw_301) (fun _ h9 => h9) rfl dX10_load_34 ?_
        refine lv_iload_n hx hb dX10_load_37 rfl (lv_at hl 2 rfl) ?_
        refine kJi (wr := [(k, .inr (10, [.ref k0, .ref k1, .ref k2, .ref k3, .ref k4, .ref k5, .ref k6, .ref k7, .ref k8, .ref k9, .ref ka, .ref kb, .int cc])), (k0, .inr (9, [.ref k00, .ref k01, .ref k02, .ref k03, .ref k04, .ref k05, .int c06, .int c07, .int c08])), (k7, .inr (1, [.ref k70, .ref k71, .int c72, .int c73])), (kb, .inl (cI, 6, .inl cb)), (k70, .inl (cI, 5409, .inl c70)), (k71, .inl (cI, 8, .inl c71)), (ka1, .inl (cI, 4, .inl ca1)), (ka2, .inl (cI, 144, .inl ca2)), (k050, .inl (cI, 36, .inl c050)), (k05, .inr (3, [.ref k050, .int c051]))]) (va_runV (As := [.int a1]) (rest := []) ⟨hx, hb, hml, hown, hT⟩ (c_X6_isMissingG l D cI aK aV ka ka0 ka1 ka2 H.size ca0 a1) (cwV 1 hT (gV_in mw_666 mw_663 mw_664 mw_665 mw_11) rfl rfl rfl (by decide +kernel) ⟨Nat.le_of_ble_eq_true rfl, Nat.le_of_ble_eq_true rfl⟩) (kRecvX (q0 := 3) (ci := 6) hK hP hD hN hXS hS hA rfl rfl [3, 7] rfl (by decide)) rfl rfl hl.1 rfl (lv_room (Nat.le_of_ble_eq_true rfl)) dX10_load_38 ⟨Nat.le_of_ble_eq_true rfl, Nat.le_of_ble_eq_true rfl⟩) hP hD hS hA [3, 7] [0, 1, 2, 4, 5, 6, 8, 9, 10, 11] rfl rfl (by decide) (by decide) ?_
        clear hP hD hS
        intro r_22 u_24 H locs w_23 hP hD hS
        replace hP : va_P D vwCl [(k, .inr (10, [.ref k0, .ref k1, .ref k2, .ref k3, .ref k4, .ref k5, .ref k6, .ref k7, .ref k8, .ref k9, .ref ka, .ref kb, .int cc])), (k0, .inr (9, [.ref k00, .ref k01, .ref k02, .ref k03, .ref k04, .ref k05, .int c06, .int c07, .int c08])), (k7, .inr (1, [.ref k70, .ref k71, .int c72, .int c73])), (kb, .inl (cI, 6, .inl cb)), (k70, .inl (cI, 5409, .inl c70)), (k71, .inl (cI, 8, .inl c71)), (ka1, .inl (cI, 4, .inl ca1)), (ka2, .inl (cI, 144, .inl ca2)), (k050, .inl (cI, 36, .inl c050)), (k05, .inr (3, [.ref k050, .int c051])), (ka, .inr (6, [.ref ka0, .ref ka1, .ref ka2])), (ka0, .inl (cI, 4, .inl ca0))] H := hP
        replace hD : va_D A [(k, .inr (10, [.ref k0, .ref k1, .ref k2, .ref k3, .ref k4, .ref k5, .ref k6, .ref k7, .ref k8, .ref k9, .ref ka, .ref kb, .int cc])), (k0, .inr (9, [.ref k00, .ref k01, .ref k02, .ref k03, .ref k04, .ref k05, .int c06, .int c07, .int c08])), (k7, .inr (1, [.ref k70, .ref k71, .int c72, .int c73])), (kb, .inl (cI, 6, .inl cb)), (k70, .inl (cI, 5409, .inl c70)), (k71, .inl (cI, 8, .inl c71)), (ka1, .inl (cI, 4, .inl ca1)), (ka2, .inl (cI, 144, .inl ca2)), (k050, .inl (cI, 36, .inl c050)), (k05, .inr (3, [.ref k050, .int c051])), (ka, .inr (6, [.ref ka0, .ref ka1, .ref ka2])), (ka0, .inl (cI, 4, .inl ca0))] := hD
        rcases w_23 with ⟨hr_22, h_25, h_26, h_27⟩ | ⟨hr_22, h_28, h_29, h_30⟩ | ⟨hr_22, h_31⟩
        · have h_25 : 0 ≤ a1.toInt := h_25
          have h_26 : a1.toInt ≤ 3 := h_26
          have h_27 : (ca0 a1.toNatClampNeg).toInt = 0 := h_27
          obtain rfl : r_22 = 1 := hr_22.trans (by decide)
          refine b_if_eq hx hb zl_1 (tgt := 50) dX10_load_41 (by decide) (fun c_32 => by exfalso; omega) (fun c_32 => ?_)
          refine lv_aload_n hx hb dX10_load_44 rfl (lv_at hl 0 rfl) ?_
          refine lv_iconst (v := 2) hx hb dX10_load_45 (by decide) ?_
          refine kJi (wr := [(k0, .inr (9, [.ref k00, .ref k01, .ref k02, .ref k03, .ref k04, .ref k05, .int c06, .int c07, .int c08])), (k7, .inr (1, [.ref k70, .ref k71, .int c72, .int c73])), (k70, .inl (cI, 5409, .inl c70)), (k71, .inl (cI, 8, .inl c71)), (ka1, .inl (cI, 4, .inl ca1)), (ka2, .inl (cI, 144, .inl ca2)), (k050, .inl (cI, 36, .inl c050)), (k05, .inr (3, [.ref k050, .int c051])), (ka, .inr (6, [.ref ka0, .ref ka1, .ref ka2])), (ka0, .inl (cI, 4, .inl ca0))]) (va_runV (As := [.int 2]) (rest := []) ⟨hx, hb, hml, hown, hT⟩ (c_X10_findingG l D cI aK aV k k0 k1 k2 k3 k4 k5 k6 k7 k8 k9 ka kb H.size cc cb 2) (cwV 1 hT (gV_in mw_338 mw_335 mw_337 mw_p1_0 mw_1) rfl rfl rfl (by decide +kernel) ⟨Nat.le_of_ble_eq_true rfl, Nat.le_of_ble_eq_true rfl⟩) (kRecvX (q0 := 0) (ci := 10) hK hP hD hN hXS hS hA rfl rfl [0, 3] rfl (by decide)) rfl rfl hl.1 rfl (lv_room (Nat.le_of_ble_eq_true rfl)) dX10_load_46 ⟨Nat.le_of_ble_eq_true rfl, Nat.le_of_ble_eq_true rfl⟩) hP hD hS hA [0, 3] [1, 2, 4, 5, 6, 7, 8, 9, 10, 11] rfl rfl (by decide) (by decide) ?_
          clear hP hD hS
          intro r_33 scb_35 H locs w_34 hP hD hS
          replace hP : va_P D vwCl [(k0, .inr (9, [.ref k00, .ref k01, .ref k02, .ref k03, .ref k04, .ref k05, .int c06, .int c07, .int c08])), (k7, .inr (1, [.ref k70, .ref k71, .int c72, .int c73])), (k70, .inl (cI, 5409, .inl c70)), (k71, .inl (cI, 8, .inl c71)), (ka1, .inl (cI, 4, .inl ca1)), (ka2, .inl (cI, 144, .inl ca2)), (k050, .inl (cI, 36, .inl c050)), (k05, .inr (3, [.ref k050, .int c051])), (ka, .inr (6, [.ref ka0, .ref ka1, .ref ka2])), (ka0, .inl (cI, 4, .inl ca0)), (k, .inr (10, [.ref k0, .ref k1, .ref k2, .ref k3, .ref k4, .ref k5, .ref k6, .ref k7, .ref k8, .ref k9, .ref ka, .ref kb, .int cc])), (kb, .inl (cI, 6, .inl scb_35))] H := hP
          replace hD : va_D A [(k0, .inr (9, [.ref k00, .ref k01, .ref k02, .ref k03, .ref k04, .ref k05, .int c06, .int c07, .int c08])), (k7, .inr (1, [.ref k70, .ref k71, .int c72, .int c73])), (k70, .inl (cI, 5409, .inl c70)), (k71, .inl (cI, 8, .inl c71)), (ka1, .inl (cI, 4, .inl ca1)), (ka2, .inl (cI, 144, .inl ca2)), (k050, .inl (cI, 36, .inl c050)), (k05, .inr (3, [.ref k050, .int c051])), (ka, .inr (6, [.ref ka0, .ref ka1, .ref ka2])), (ka0, .inl (cI, 4, .inl ca0)), (k, .inr (10, [.ref k0, .ref k1, .ref k2, .ref k3, .ref k4, .ref k5, .ref k6, .ref k7, .ref k8, .ref k9, .ref ka, .ref kb, .int cc])), (kb, .inl (cI, 6, .inl scb_35))] := hD
          have hr_33 := w_34
          obtain rfl : r_33 = (-1000002) := hr_33.trans (by decide)
          exact hRet (c72, c73, scb_35, c70, c71) [10, 0, 1, 8, 11, 7, 2, 3, 9, 4, 5, 6] (LOD.n (by omega) (by omega)) hP hD (by decide) rfl hS rfl dX10_load_49
        · have h_28 : 0 ≤ a1.toInt := h_28
          have h_29 : a1.toInt ≤ 3 := h_29
          have h_30 : (ca0 a1.toNatClampNeg).toInt ≠ 0 := h_30
          obtain rfl : r_22 = 0 := hr_22.trans (by decide)
          refine b_if_eq hx hb zl_0 (tgt := 50) dX10_load_41 (by decide) (fun c_36 => ?_) (fun c_36 => by exfalso; omega)
          refine lv_aload_n hx hb dX10_load_50 rfl (lv_at hl 0 rfl) ?_
          refine lv_iload_n hx hb dX10_load_51 rfl (lv_at hl 2 rfl) ?_
          refine kJi (wr := [(k0, .inr (9, [.ref k00, .ref k01, .ref k02, .ref k03, .ref k04, .ref k05, .int c06, .int c07, .int c08])), (k7, .inr (1, [.ref k70, .ref k71, .int c72, .int c73])), (kb, .inl (cI, 6, .inl cb)), (k70, .inl (cI, 5409, .inl c70)), (k71, .inl (cI, 8, .inl c71)), (k050, .inl (cI, 36, .inl c050)), (k05, .inr (3, [.ref k050, .int c051])), (ka0, .inl (cI, 4, .inl ca0))]) (va_runV (As := [.int a1]) (rest := []) ⟨hx, hb, hml, hown, hT⟩ (c_X10_areThingsD l D cI aK aV k k0 k1 k2 k3 k4 k5 k6 k7 k8 k9 ka kb ka0 ka1 ka2 H.size cc ca1 ca2 c00 c01 c02 c03 c040 c041 c042 c043 c044 c045 c046 c047 c048 c049 c050 c051 c06 c07 c08 gx a1 pre0 (by first | omega | decide | assumption | rfl) (by first | omega | decide | assumption | rfl) (by first | omega | decide | assumption | rfl)) (cwV 1 hT (gV_in mw_885 mw_882 mw_884 mw_p2_8 mw_1) rfl rfl rfl (by decide +kernel) ⟨Nat.le_of_ble_eq_true rfl, Nat.le_of_ble_eq_true rfl⟩) (kRecvX (q0 := 0) (ci := 10) hK hP hD hN hXS hS hA rfl rfl [0, 10, 6, 7] rfl (by decide)) rfl rfl hl.1 rfl (lv_room (Nat.le_of_ble_eq_true rfl)) dX10_load_52 ⟨Nat.le_of_ble_eq_true rfl, Nat.le_of_ble_eq_true rfl⟩) hP hD hS hA [0, 10, 6, 7] [1, 2, 3, 4, 5, 8, 9, 11] rfl rfl (by decide) (by decide) ?_
          clear hP hD hS
          intro r_37 u_39 H locs w_38 hP hD hS
          replace hP : va_P D vwCl [(k0, .inr (9, [.ref k00, .ref k01, .ref k02, .ref k03, .ref k04, .ref k05, .int c06, .int c07, .int c08])), (k7, .inr (1, [.ref k70, .ref k71, .int c72, .int c73])), (kb, .inl (cI, 6, .inl cb)), (k70, .inl (cI, 5409, .inl c70)), (k71, .inl (cI, 8, .inl c71)), (k050, .inl (cI, 36, .inl c050)), (k05, .inr (3, [.ref k050, .int c051])), (ka0, .inl (cI, 4, .inl ca0)), (k, .inr (10, [.ref k0, .ref k1, .ref k2, .ref k3, .ref k4, .ref k5, .ref k6, .ref k7, .ref k8, .ref k9, .ref ka, .ref kb, .int cc])), (ka, .inr (6, [.ref ka0, .ref ka1, .ref ka2])), (ka1, .inl (cI, 4, .inl ca1)), (ka2, .inl (cI, 144, .inl ca2))] H := hP
          replace hD : va_D A [(k0, .inr (9, [.ref k00, .ref k01, .ref k02, .ref k03, .ref k04, .ref k05, .int c06, .int c07, .int c08])), (k7, .inr (1, [.ref k70, .ref k71, .int c72, .int c73])), (kb, .inl (cI, 6, .inl cb)), (k70, .inl (cI, 5409, .inl c70)), (k71, .inl (cI, 8, .inl c71)), (k050, .inl (cI, 36, .inl c050)), (k05, .inr (3, [.ref k050, .int c051])), (ka0, .inl (cI, 4, .inl ca0)), (k, .inr (10, [.ref k0, .ref k1, .ref k2, .ref k3, .ref k4, .ref k5, .ref k6, .ref k7, .ref k8, .ref k9, .ref ka, .ref kb, .int cc])), (ka, .inr (6, [.ref ka0, .ref ka1, .ref ka2])), (ka1, .inl (cI, 4, .inl ca1)), (ka2, .inl (cI, 144, .inl ca2))] := hD
          rcases w_38 with ⟨hr_37, h_40⟩ | ⟨hr_37, h_41⟩
          · have h_40 : LDK ca1 ca2 a1 := h_40
            obtain rfl : r_37 = 1 := hr_37.trans (by decide)
            refine b_if_ne hx hb zl_1 (tgt := 64) dX10_load_55 (by decide) (fun c_42 => ?_) (fun c_42 => by exfalso; omega)
            refine lv_aload_n hx hb dX10_load_64 rfl (lv_at hl 0 rfl) ?_
            refine va_get (D := D) (ci := 10) (v := .ref ka) (C := RX10) (T := TX10) (N := 13) hx hb hT giX10 hown hK hP 8 rfl rfl 10 (by decide) (hT (Cond.fieldLink RX10 70 "DesertWire" "sheets" "LDesertWire$Sheets;") mw_301) (fun _ h9 => h9) rfl dX10_load_65 ?_
            refine lv_iload_n hx hb dX10_load_68 rfl (lv_at hl 2 rfl) ?_
            refine kJi (wr := [(k0, .inr (9, [.ref k00, .ref k01, .ref k02, .ref k03, .ref k04, .ref k05, .int c06, .int c07, .int c08])), (k7, .inr (1, [.ref k70, .ref k71, .int c72, .int c73])), (kb, .inl (cI, 6, .inl cb)), (k70, .inl (cI, 5409, .inl c70)), (k71, .inl (cI, 8, .inl c71)), (k050, .inl (cI, 36, .inl c050)), (k05, .inr (3, [.ref k050, .int c051])), (ka0, .inl (cI, 4, .inl ca0)), (k, .inr (10, [.ref k0, .ref k1, .ref k2, .ref k3, .ref k4, .ref k5, .ref k6, .ref k7, .ref k8, .ref k9, .ref ka, .ref kb, .int cc])), (ka2, .inl (cI, 144, .inl ca2))]) (va_runV (As := [.int a1]) (rest := []) ⟨hx, hb, hml, hown, hT⟩ (c_X6_lengthOfG l D cI aK aV ka ka0 ka1 ka2 H.size ca1 a1 (by first | omega | decide | assumption | rfl)) (cwV 1 hT (gV_in mw_675 mw_672 mw_673 mw_674 mw_11) rfl rfl rfl (by decide +kernel) ⟨Nat.le_of_ble_eq_true rfl, Nat.le_of_ble_eq_true rfl⟩) (kRecvX (q0 := 9) (ci := 6) hK hP hD hN hXS hS hA rfl rfl [9, 10] rfl (by decide)) rfl rfl hl.1 rfl (lv_room (Nat.le_of_ble_eq_true rfl)) dX10_load_69 ⟨Nat.le_of_ble_eq_true rfl, Nat.le_of_ble_eq_true rfl⟩) hP hD hS hA [9, 10] [0, 1, 2, 3, 4, 5, 6, 7, 8, 11] rfl rfl (by decide) (by decide) ?_
            clear hP hD hS
            intro r_43 u_45 H locs w_44 hP hD hS
            replace hP : va_P D vwCl [(k0, .inr (9, [.ref k00, .ref k01, .ref k02, .ref k03, .ref k04, .ref k05, .int c06, .int c07, .int c08])), (k7, .inr (1, [.ref k70, .ref k71, .int c72, .int c73])), (kb, .inl (cI, 6, .inl cb)), (k70, .inl (cI, 5409, .inl c70)), (k71, .inl (cI, 8, .inl c71)), (k050, .inl (cI, 36, .inl c050)), (k05, .inr (3, [.ref k050, .int c051])), (ka0, .inl (cI, 4, .inl ca0)), (k, .inr (10, [.ref k0, .ref k1, .ref k2, .ref k3, .ref k4, .ref k5, .ref k6, .ref k7, .ref k8, .ref k9, .ref ka, .ref kb, .int cc])), (ka2, .inl (cI, 144, .inl ca2)), (ka, .inr (6, [.ref ka0, .ref ka1, .ref ka2])), (ka1, .inl (cI, 4, .inl ca1))] H := hP
            replace hD : va_D A [(k0, .inr (9, [.ref k00, .ref k01, .ref k02, .ref k03, .ref k04, .ref k05, .int c06, .int c07, .int c08])), (k7, .inr (1, [.ref k70, .ref k71, .int c72, .int c73])), (kb, .inl (cI, 6, .inl cb)), (k70, .inl (cI, 5409, .inl c70)), (k71, .inl (cI, 8, .inl c71)), (k050, .inl (cI, 36, .inl c050)), (k05, .inr (3, [.ref k050, .int c051])), (ka0, .inl (cI, 4, .inl ca0)), (k, .inr (10, [.ref k0, .ref k1, .ref k2, .ref k3, .ref k4, .ref k5, .ref k6, .ref k7, .ref k8, .ref k9, .ref ka, .ref kb, .int cc])), (ka2, .inl (cI, 144, .inl ca2)), (ka, .inr (6, [.ref ka0, .ref ka1, .ref ka2])), (ka1, .inl (cI, 4, .inl ca1))] := hD
            rcases w_44 with ⟨h_46, h_47, h_48, h_49, h_50⟩ | ⟨hr_43, h_51⟩
            · have h_46 : 0 ≤ a1.toInt := h_46
              have h_47 : a1.toInt ≤ 3 := h_47
              have h_48 : 0 ≤ r_43.toInt := h_48
              have h_49 : r_43.toInt ≤ 36 := h_49
              have h_50 : r_43.toInt = (ca1 a1.toNatClampNeg).toInt := h_50
              have lo_r_43 := k_lo r_43
              have hi_r_43 := k_hi r_43
              refine lv_iconst (v := 3) hx hb dX10_load_72 (by decide) ?_
              refine lv_idiv hx hb dX10_load_73 (by decide) ?_
              refine lv_topi (fun v_52 ev_52 => ?_)
              have tv_52 : v_52.toInt = r_43.toInt / 3 := k_divv (w := 0) ev_52 zl_3 (by omega) (by decide)
              have lo_v_52 := k_lo v_52
              have hi_v_52 := k_hi v_52
              refine lv_istore (lv' := [(4, .int v_52), (0, .ref k), (1, .int a0), (2, .int a1), (3, .int a2)]) hx hb dX10_load_74 hl (by decide) rfl ?_
              clear hl
              intro ls hl
              refine lv_iload_n hx hb dX10_load_76 rfl (lv_at hl 4 rfl) ?_
              refine lv_iload hx hb dX10_load_77 (lv_at hl 0 rfl) ?_
              refine b_icmp_lt hx hb rfl rfl (tgt := 88) dX10_load_79 (by decide) (fun c_53 => ?_) (fun c_53 => ?_)
              · refine lv_aload_n hx hb dX10_load_88 rfl (lv_at hl 1 rfl) ?_
                refine va_get (D := D) (ci := 10) (v := .ref k7) (C := RX10) (T := TX10) (N := 13) hx hb hT giX10 hown hK hP 8 rfl rfl 7 (by decide) (hT (Cond.fieldLink RX10 49 "DesertWire" "loads" "LDesertWire$Loads;") mw_298) (fun _ h9 => h9) rfl dX10_load_89 ?_
                refine lv_aload_n hx hb dX10_load_92 rfl (lv_at hl 1 rfl) ?_
                refine va_get (D := D) (ci := 10) (v := .ref ka) (C := RX10) (T := TX10) (N := 13) hx hb hT giX10 hown hK hP 8 rfl rfl 10 (by decide) (hT (Cond.fieldLink RX10 70 "DesertWire" "sheets" "LDesertWire$Sheets;") mw_301) (fun _ h9 => h9) rfl dX10_load_93 ?_
                refine lv_iload_n hx hb dX10_load_96 rfl (lv_at hl 3 rfl) ?_
                refine lv_bipush (v := 12) hx hb dX10_load_97 (by decide) ?_
                refine lv_aload_n hx hb dX10_load_99 rfl (lv_at hl 1 rfl) ?_
                refine va_get (D := D) (ci := 10) (v := .ref k0) (C := RX10) (T := TX10) (N := 13) hx hb hT giX10 hown hK hP 8 rfl rfl 0 (by decide) (hT (Cond.fieldLink RX10 12 "DesertWire" "now" "LDesertWire$World;") mw_291) (fun _ h9 => h9) rfl dX10_load_100 ?_
                refine va_get (D := D) (ci := 9) (v := .ref k05) (C := RX9) (T := TX9) (N := 9) hx hb hT giX9 hown hK hP 0 rfl rfl 5 (by decide) (hT (Cond.fieldLink RX10 193 "DesertWire$World" "parties" "LDesertWire$Parties;") mw_102) (fun _ h9 => h9) rfl dX10_load_103 ?_
                refine lv_iload_n hx hb dX10_load_106 rfl (lv_at hl 2 rfl) ?_
                refine lv_iconst (v := 3) hx hb dX10_load_107 (by decide) ?_
                refine kJi (wr := [(k0, .inr (9, [.ref k00, .ref k01, .ref k02, .ref k03, .ref k04, .ref k05, .int c06, .int c07, .int c08])), (k7, .inr (1, [.ref k70, .ref k71, .int c72, .int c73])), (kb, .inl (cI, 6, .inl cb)), (k70, .inl (cI, 5409, .inl c70)), (k71, .inl (cI, 8, .inl c71)), (ka0, .inl (cI, 4, .inl ca0)), (k, .inr (10, [.ref k0, .ref k1, .ref k2, .ref k3, .ref k4, .ref k5, .ref k6, .ref k7, .ref k8, .ref k9, .ref ka, .ref kb, .int cc])), (ka2, .inl (cI, 144, .inl ca2)), (ka, .inr (6, [.ref ka0, .ref ka1, .ref ka2])), (ka1, .inl (cI, 4, .inl ca1))]) (va_runV (As := [.int a0, .int 3]) (rest := [.int 12, .int a1, .ref ka, .ref k7]) ⟨hx, hb, hml, hown, hT⟩ (c_X3_getD3 l D cI aK aV k05 k050 H.size c051 c050 gx a0 3 (WR.kp pre0) (by first | omega | (simp only [zl_3]; first | done | omega) | decide | assumption | rfl) (by first | omega | (simp only [zl_3]; first | done | omega) | decide | assumption | rfl) (by first | omega | (simp only [zl_3]; first | done | omega) | decide | assumption | rfl)) (cwV 2 hT (gV_in mw_726 mw_723 mw_724 mw_725 mw_4) rfl rfl rfl (by decide +kernel) ⟨Nat.le_of_ble_eq_true rfl, Nat.le_of_ble_eq_true rfl⟩) (kRecvX (q0 := 6) (ci := 3) hK hP hD hN hXS hS hA rfl rfl [6, 5] rfl (by decide)) rfl rfl hl.1 rfl (lv_room (Nat.le_of_ble_eq_true rfl)) dX10_load_108 ⟨Nat.le_of_ble_eq_true rfl, Nat.le_of_ble_eq_true rfl⟩) hP hD hS hA [6, 5] [0, 1, 2, 3, 4, 7, 8, 9, 10, 11] rfl rfl (by decide) (by decide) ?_
                clear hP hD hS
                intro r_54 u_56 H locs w_55 hP hD hS
                replace hP : va_P D vwCl [(k0, .inr (9, [.ref k00, .ref k01, .ref k02, .ref k03, .ref k04, .ref k05, .int c06, .int c07, .int c08])), (k7, .inr (1, [.ref k70, .ref k71, .int c72, .int c73])), (kb, .inl (cI, 6, .inl cb)), (k70, .inl (cI, 5409, .inl c70)), (k71, .inl (cI, 8, .inl c71)), (ka0, .inl (cI, 4, .inl ca0)), (k, .inr (10, [.ref k0, .ref k1, .ref k2, .ref k3, .ref k4, .ref k5, .ref k6, .ref k7, .ref k8, .ref k9, .ref ka, .ref kb, .int cc])), (ka2, .inl (cI, 144, .inl ca2)), (ka, .inr (6, [.ref ka0, .ref ka1, .ref ka2])), (ka1, .inl (cI, 4, .inl ca1)), (k05, .inr (3, [.ref k050, .int c051])), (k050, .inl (cI, 36, .inl c050))] H := hP
                replace hD : va_D A [(k0, .inr (9, [.ref k00, .ref k01, .ref k02, .ref k03, .ref k04, .ref k05, .int c06, .int c07, .int c08])), (k7, .inr (1, [.ref k70, .ref k71, .int c72, .int c73])), (kb, .inl (cI, 6, .inl cb)), (k70, .inl (cI, 5409, .inl c70)), (k71, .inl (cI, 8, .inl c71)), (ka0, .inl (cI, 4, .inl ca0)), (k, .inr (10, [.ref k0, .ref k1, .ref k2, .ref k3, .ref k4, .ref k5, .ref k6, .ref k7, .ref k8, .ref k9, .ref ka, .ref kb, .int cc])), (ka2, .inl (cI, 144, .inl ca2)), (ka, .inr (6, [.ref ka0, .ref ka1, .ref ka2])), (ka1, .inl (cI, 4, .inl ca1)), (k05, .inr (3, [.ref k050, .int c051])), (k050, .inl (cI, 36, .inl c050))] := hD
                have h_57 := w_55
                have h_57 : r_54 = pW gx a0 3 := h_57
                have t_58 : r_54.toInt = (pW gx a0 3).toInt := by rw [h_57]
                have b_59 : 0 ≤ r_54.toInt ∧ r_54.toInt ≤ 50 := by rw [h_57]; exact SB.p3 pre1 (by omega) (by omega)
                have lo_r_54 := k_lo r_54
                have hi_r_54 := k_hi r_54
                refine lv_imul hx hb dX10_load_111 ?_
                refine lv_topi (fun v_60 ev_60 => ?_)
                have tv_60 : v_60.toInt = 12 * r_54.toInt := by rw [ev_60]; exact k_mulv zl_12 rfl (by omega) (by omega)
                refine kJv (wr := [(k0, .inr (9, [.ref k00, .ref k01, .ref k02, .ref k03, .ref k04, .ref k05, .int c06, .int c07, .int c08])), (kb, .inl (cI, 6, .inl cb)), (ka0, .inl (cI, 4, .inl ca0)), (k, .inr (10, [.ref k0, .ref k1, .ref k2, .ref k3, .ref k4, .ref k5, .ref k6, .ref k7, .ref k8, .ref k9, .ref ka, .ref kb, .int cc])), (k05, .inr (3, [.ref k050, .int c051])), (k050, .inl (cI, 36, .inl c050))]) (va_runV (As := [.ref ka, .int a1, .int v_60]) (rest := []) ⟨hx, hb, hml, hown, hT⟩ (c_X1_packD l D cI aK aV k7 ka k70 k71 ka0 ka1 ka2 H.size c72 c73 c70 c71 ca1 ca2 a1 v_60 (by first | omega | decide | assumption | rfl) (by first | omega | decide | assumption | rfl) (by first | omega | decide | assumption | rfl) h_40.1 h_40.2.1 h_40.2.2.1 (by first | omega | decide | assumption | rfl) (by first | omega | decide | assumption | rfl) h_40.2.2.2) (cwV 3 hT (gV_in mw_890 mw_887 mw_888 mw_889 mw_8) rfl rfl rfl (by decide +kernel) ⟨Nat.le_of_ble_eq_true rfl, Nat.le_of_ble_eq_true rfl⟩) (kRecvX (q0 := 1) (ci := 1) hK hP hD hN hXS hS hA rfl rfl [1, 3, 4, 8, 9, 7] rfl (by decide)) rfl rfl hl.1 rfl (lv_room (Nat.le_of_ble_eq_true rfl)) dX10_load_112 ⟨Nat.le_of_ble_eq_true rfl, Nat.le_of_ble_eq_true rfl⟩) hP hD hS hA [1, 3, 4, 8, 9, 7] [0, 2, 5, 6, 10, 11] rfl rfl (by decide) (by decide) ?_
                clear hP hD hS
                intro u_67 H locs w_62 hP hD hS
                obtain ⟨sc2_63, sc3_64, sc0_65, sc1_66⟩ := u_67
                replace hP : va_P D vwCl [(k0, .inr (9, [.ref k00, .ref k01, .ref k02, .ref k03, .ref k04, .ref k05, .int c06, .int c07, .int c08])), (kb, .inl (cI, 6, .inl cb)), (ka0, .inl (cI, 4, .inl ca0)), (k, .inr (10, [.ref k0, .ref k1, .ref k2, .ref k3, .ref k4, .ref k5, .ref k6, .ref k7, .ref k8, .ref k9, .ref ka, .ref kb, .int cc])), (k05, .inr (3, [.ref k050, .int c051])), (k050, .inl (cI, 36, .inl c050)), (k7, .inr (1, [.ref k70, .ref k71, .int sc2_63, .int sc3_64])), (k70, .inl (cI, 5409, .inl sc0_65)), (k71, .inl (cI, 8, .inl sc1_66)), (ka, .inr (6, [.ref ka0, .ref ka1, .ref ka2])), (ka1, .inl (cI, 4, .inl ca1)), (ka2, .inl (cI, 144, .inl ca2))] H := hP
                replace hD : va_D A [(k0, .inr (9, [.ref k00, .ref k01, .ref k02, .ref k03, .ref k04, .ref k05, .int c06, .int c07, .int c08])), (kb, .inl (cI, 6, .inl cb)), (ka0, .inl (cI, 4, .inl ca0)), (k, .inr (10, [.ref k0, .ref k1, .ref k2, .ref k3, .ref k4, .ref k5, .ref k6, .ref k7, .ref k8, .ref k9, .ref ka, .ref kb, .int cc])), (k05, .inr (3, [.ref k050, .int c051])), (k050, .inl (cI, 36, .inl c050)), (k7, .inr (1, [.ref k70, .ref k71, .int sc2_63, .int sc3_64])), (k70, .inl (cI, 5409, .inl sc0_65)), (k71, .inl (cI, 8, .inl sc1_66)), (ka, .inr (6, [.ref ka0, .ref ka1, .ref ka2])), (ka1, .inl (cI, 4, .inl ca1)), (ka2, .inl (cI, 144, .inl ca2))] := hD
                have lo_sc2_63 := k_lo sc2_63
                have hi_sc2_63 := k_hi sc2_63
                have lo_sc3_64 := k_lo sc3_64
                have hi_sc3_64 := k_hi sc3_64
                have h_68 := w_62
                have h_68 : LDA ca2 a1 ((ca1 a1.toNatClampNeg).toInt / 3).toNat v_60.toInt sc1_66 sc2_63 sc3_64 := h_68
                have h_68 : LDA ca2 a1 ((ca1 a1.toNatClampNeg).toInt / 3).toNat v_60.toInt sc1_66 sc2_63 sc3_64 := h_68
                refine lv_iload_n hx hb dX10_load_115 rfl (lv_at hl 4 rfl) ?_
                refine lv_iconst (v := (-1)) hx hb dX10_load_116 (by decide) ?_
                refine b_icmp_ne hx hb rfl zl_m1 (tgt := 130) dX10_load_117 (by decide) (fun c_69 => ?_) (fun c_69 => ?_)
                · refine lv_iload_n hx hb dX10_load_130 rfl (lv_at hl 4 rfl) ?_
                  refine lv_bipush (v := (-2)) hx hb dX10_load_131 (by decide) ?_
                  refine b_icmp_ne hx hb rfl zl_m2 (tgt := 146) dX10_load_133 (by decide) (fun c_70 => ?_) (fun c_70 => ?_)
                  · refine lv_aload_n hx hb dX10_load_146 rfl (lv_at hl 1 rfl) ?_
                    refine va_get (D := D) (ci := 10) (v := .ref k7) (C := RX10) (T := TX10) (N := 13) hx hb hT giX10 hown hK hP 3 rfl rfl 7 (by decide) (hT (Cond.fieldLink RX10 49 "DesertWire" "loads" "LDesertWire$Loads;") mw_298) (fun _ h9 => h9) rfl dX10_load_147 ?_
                    refine lv_iload_n hx hb dX10_load_150 rfl (lv_at hl 4 rfl) ?_
                    refine kJi (wr := [(k0, .inr (9, [.ref k00, .ref k01, .ref k02, .ref k03, .ref k04, .ref k05, .int c06, .int c07, .int c08])), (kb, .inl (cI, 6, .inl cb)), (ka0, .inl (cI, 4, .inl ca0)), (k, .inr (10, [.ref k0, .ref k1, .ref k2, .ref k3, .ref k4, .ref k5, .ref k6, .ref k7, .ref k8, .ref k9, .ref ka, .ref kb, .int cc])), (k05, .inr (3, [.ref k050, .int c051])), (k050, .inl (cI, 36, .inl c050)), (k70, .inl (cI, 5409, .inl sc0_65)), (ka, .inr (6, [.ref ka0, .ref ka1, .ref ka2])), (ka1, .inl (cI, 4, .inl ca1)), (ka2, .inl (cI, 144, .inl ca2))]) (va_runV (As := [.int a2]) (rest := []) ⟨hx, hb, hml, hown, hT⟩ (c_X1_takenOfD l D cI aK aV k7 k70 k71 H.size sc2_63 sc3_64 sc1_66 a2) (cwV 1 hT (gV_in mw_915 mw_912 mw_913 mw_914 mw_8) rfl rfl rfl (by decide +kernel) ⟨Nat.le_of_ble_eq_true rfl, Nat.le_of_ble_eq_true rfl⟩) (kRecvX (q0 := 6) (ci := 1) hK hP hD hN hXS hS hA rfl rfl [6, 8] rfl (by decide)) rfl rfl hl.1 rfl (lv_room (Nat.le_of_ble_eq_true rfl)) dX10_load_151 ⟨Nat.le_of_ble_eq_true rfl, Nat.le_of_ble_eq_true rfl⟩) hP hD hS hA [6, 8] [0, 1, 2, 3, 4, 5, 7, 9, 10, 11] rfl rfl (by decide) (by decide) ?_
                    clear hP hD hS
                    intro r_71 u_73 H locs w_72 hP hD hS
                    replace hP : va_P D vwCl [(k0, .inr (9, [.ref k00, .ref k01, .ref k02, .ref k03, .ref k04, .ref k05, .int c06, .int c07, .int c08])), (kb, .inl (cI, 6, .inl cb)), (ka0, .inl (cI, 4, .inl ca0)), (k, .inr (10, [.ref k0, .ref k1, .ref k2, .ref k3, .ref k4, .ref k5, .ref k6, .ref k7, .ref k8, .ref k9, .ref ka, .ref kb, .int cc])), (k05, .inr (3, [.ref k050, .int c051])), (k050, .inl (cI, 36, .inl c050)), (k70, .inl (cI, 5409, .inl sc0_65)), (ka, .inr (6, [.ref ka0, .ref ka1, .ref ka2])), (ka1, .inl (cI, 4, .inl ca1)), (ka2, .inl (cI, 144, .inl ca2)), (k7, .inr (1, [.ref k70, .ref k71, .int sc2_63, .int sc3_64])), (k71, .inl (cI, 8, .inl sc1_66))] H := hP
                    replace hD : va_D A [(k0, .inr (9, [.ref k00, .ref k01, .ref k02, .ref k03, .ref k04, .ref k05, .int c06, .int c07, .int c08])), (kb, .inl (cI, 6, .inl cb)), (ka0, .inl (cI, 4, .inl ca0)), (k, .inr (10, [.ref k0, .ref k1, .ref k2, .ref k3, .ref k4, .ref k5, .ref k6, .ref k7, .ref k8, .ref k9, .ref ka, .ref kb, .int cc])), (k05, .inr (3, [.ref k050, .int c051])), (k050, .inl (cI, 36, .inl c050)), (k70, .inl (cI, 5409, .inl sc0_65)), (ka, .inr (6, [.ref ka0, .ref ka1, .ref ka2])), (ka1, .inl (cI, 4, .inl ca1)), (ka2, .inl (cI, 144, .inl ca2)), (k7, .inr (1, [.ref k70, .ref k71, .int sc2_63, .int sc3_64])), (k71, .inl (cI, 8, .inl sc1_66))] := hD
                    rcases w_72 with ⟨h_74, h_75, h_76⟩ | ⟨hr_71, h_77⟩
                    · have h_74 : 0 ≤ a2.toInt := h_74
                      have h_75 : a2.toInt ≤ 7 := h_75
                      have h_76 : r_71 = sc1_66 a2.toNatClampNeg := h_76
                      have t_78 : r_71.toInt = (sc1_66 a2.toNatClampNeg).toInt := by rw [h_76]
                      have lo_r_71 := k_lo r_71
                      have hi_r_71 := k_hi r_71
                      exact hRet (sc2_63, sc3_64, cb, sc0_65, sc1_66) [3, 0, 10, 7, 1, 4, 6, 11, 2, 8, 9, 5] (LOD.v (by omega) (by omega) h_40 (by omega) h_68 (by omega) (by omega) (by first | exact Or.inl ⟨by omega, rfl⟩ | exact Or.inr (Or.inl ⟨by omega, rfl⟩) | exact Or.inr (Or.inr ⟨by omega, by assumption⟩) | (exfalso; have z := h_40.2.1; omega))) hP hD (by decide) rfl hS rfl dX10_load_154
                    · have h_77 : a2.toInt < 0 ∨ 7 < a2.toInt := h_77
                      obtain rfl : r_71 = 0 := hr_71.trans (by decide)
                      exact hRet (sc2_63, sc3_64, cb, sc0_65, sc1_66) [3, 0, 10, 7, 1, 4, 6, 11, 2, 8, 9, 5] (LOD.v (by omega) (by omega) h_40 (by omega) h_68 (by omega) (by omega) (by first | exact Or.inl ⟨by omega, rfl⟩ | exact Or.inr (Or.inl ⟨by omega, rfl⟩) | exact Or.inr (Or.inr ⟨by omega, by assumption⟩) | (exfalso; have z := h_40.2.1; omega))) hP hD (by decide) rfl hS rfl dX10_load_154
                  · refine lv_aload_n hx hb dX10_load_136 rfl (lv_at hl 1 rfl) ?_
                    refine va_get (D := D) (ci := 10) (v := .ref k7) (C := RX10) (T := TX10) (N := 13) hx hb hT giX10 hown hK hP 3 rfl rfl 7 (by decide) (hT (Cond.fieldLink RX10 49 "DesertWire" "loads" "LDesertWire$Loads;") mw_298) (fun _ h9 => h9) rfl dX10_load_137 ?_
                    refine va_get (D := D) (ci := 1) (v := .int sc3_64) (C := RX1) (T := TX1) (N := 4) hx hb hT giX1 hown hK hP 6 rfl rfl 3 (by decide) (hT (Cond.fieldLink RX10 308 "DesertWire$Loads" "weight" "I") mw_229) (fun _ h9 => h9) rfl dX10_load_140 ?_
                    refine lv_goto (tgt := 154) hx hb dX10_load_143 (by decide) ?_
                    exact hRet (sc2_63, sc3_64, cb, sc0_65, sc1_66) [3, 0, 6, 9, 1, 4, 7, 8, 2, 10, 11, 5] (LOD.v (by omega) (by omega) h_40 (by omega) h_68 (by omega) (by omega) (by first | exact Or.inl ⟨by omega, rfl⟩ | exact Or.inr (Or.inl ⟨by omega, rfl⟩) | exact Or.inr (Or.inr ⟨by omega, by assumption⟩) | (exfalso; have z := h_40.2.1; omega))) hP hD (by decide) rfl hS rfl dX10_load_154
                · refine lv_aload_n hx hb dX10_load_120 rfl (lv_at hl 1 rfl) ?_
                  refine va_get (D := D) (ci := 10) (v := .ref k7) (C := RX10) (T := TX10) (N := 13) hx hb hT giX10 hown hK hP 3 rfl rfl 7 (by decide) (hT (Cond.fieldLink RX10 49 "DesertWire" "loads" "LDesertWire$Loads;") mw_298) (fun _ h9 => h9) rfl dX10_load_121 ?_
                  refine va_get (D := D) (ci := 1) (v := .int sc2_63) (C := RX1) (T := TX1) (N := 4) hx hb hT giX1 hown hK hP 6 rfl rfl 2 (by decide) (hT (Cond.fieldLink RX10 305 "DesertWire$Loads" "worth" "I") mw_227) (fun _ h9 => h9) rfl dX10_load_124 ?_
                  refine lv_goto (tgt := 154) hx hb dX10_load_127 (by decide) ?_
                  exact hRet (sc2_63, sc3_64, cb, sc0_65, sc1_66) [3, 0, 6, 9, 1, 4, 7, 8, 2, 10, 11, 5] (LOD.v (by omega) (by omega) h_40 (by omega) h_68 (by omega) (by omega) (by first | exact Or.inl ⟨by omega, rfl⟩ | exact Or.inr (Or.inl ⟨by omega, rfl⟩) | exact Or.inr (Or.inr ⟨by omega, by assumption⟩) | (exfalso; have z := h_40.2.1; omega))) hP hD (by decide) rfl hS rfl dX10_load_154
              · refine lv_aload_n hx hb dX10_load_82 rfl (lv_at hl 1 rfl) ?_
                refine lv_iconst (v := 3) hx hb dX10_load_83 (by decide) ?_
                refine kJi (wr := [(k0, .inr (9, [.ref k00, .ref k01, .ref k02, .ref k03, .ref k04, .ref k05, .int c06, .int c07, .int c08])), (k7, .inr (1, [.ref k70, .ref k71, .int c72, .int c73])), (k70, .inl (cI, 5409, .inl c70)), (k71, .inl (cI, 8, .inl c71)), (k050, .inl (cI, 36, .inl c050)), (k05, .inr (3, [.ref k050, .int c051])), (ka0, .inl (cI, 4, .inl ca0)), (ka2, .inl (cI, 144, .inl ca2)), (ka, .inr (6, [.ref ka0, .ref ka1, .ref ka2])), (ka1, .inl (cI, 4, .inl ca1))]) (va_runV (As := [.int 3]) (rest := []) ⟨hx, hb, hml, hown, hT⟩ (c_X10_findingG l D cI aK aV k k0 k1 k2 k3 k4 k5 k6 k7 k8 k9 ka kb H.size cc cb 3) (cwV 1 hT (gV_in mw_338 mw_335 mw_337 mw_p1_0 mw_1) rfl rfl rfl (by decide +kernel) ⟨Nat.le_of_ble_eq_true rfl, Nat.le_of_ble_eq_true rfl⟩) (kRecvX (q0 := 8) (ci := 10) hK hP hD hN hXS hS hA rfl rfl [8, 2] rfl (by decide)) rfl rfl hl.1 rfl (lv_room (Nat.le_of_ble_eq_true rfl)) dX10_load_84 ⟨Nat.le_of_ble_eq_true rfl, Nat.le_of_ble_eq_true rfl⟩) hP hD hS hA [8, 2] [0, 1, 3, 4, 5, 6, 7, 9, 10, 11] rfl rfl (by decide) (by decide) ?_
                clear hP hD hS
                intro r_79 scb_81 H locs w_80 hP hD hS
                replace hP : va_P D vwCl [(k0, .inr (9, [.ref k00, .ref k01, .ref k02, .ref k03, .ref k04, .ref k05, .int c06, .int c07, .int c08])), (k7, .inr (1, [.ref k70, .ref k71, .int c72, .int c73])), (k70, .inl (cI, 5409, .inl c70)), (k71, .inl (cI, 8, .inl c71)), (k050, .inl (cI, 36, .inl c050)), (k05, .inr (3, [.ref k050, .int c051])), (ka0, .inl (cI, 4, .inl ca0)), (ka2, .inl (cI, 144, .inl ca2)), (ka, .inr (6, [.ref ka0, .ref ka1, .ref ka2])), (ka1, .inl (cI, 4, .inl ca1)), (k, .inr (10, [.ref k0, .ref k1, .ref k2, .ref k3, .ref k4, .ref k5, .ref k6, .ref k7, .ref k8, .ref k9, .ref ka, .ref kb, .int cc])), (kb, .inl (cI, 6, .inl scb_81))] H := hP
                replace hD : va_D A [(k0, .inr (9, [.ref k00, .ref k01, .ref k02, .ref k03, .ref k04, .ref k05, .int c06, .int c07, .int c08])), (k7, .inr (1, [.ref k70, .ref k71, .int c72, .int c73])), (k70, .inl (cI, 5409, .inl c70)), (k71, .inl (cI, 8, .inl c71)), (k050, .inl (cI, 36, .inl c050)), (k05, .inr (3, [.ref k050, .int c051])), (ka0, .inl (cI, 4, .inl ca0)), (ka2, .inl (cI, 144, .inl ca2)), (ka, .inr (6, [.ref ka0, .ref ka1, .ref ka2])), (ka1, .inl (cI, 4, .inl ca1)), (k, .inr (10, [.ref k0, .ref k1, .ref k2, .ref k3, .ref k4, .ref k5, .ref k6, .ref k7, .ref k8, .ref k9, .ref ka, .ref kb, .int cc])), (kb, .inl (cI, 6, .inl scb_81))] := hD
                have hr_79 := w_80
                obtain rfl : r_79 = (-1000003) := hr_79.trans (by decide)
                exact hRet (c72, c73, scb_81, c70, c71) [10, 0, 1, 8, 11, 5, 2, 3, 6, 9, 7, 4] (LOD.s (by omega) (by omega) h_40 (by omega)) hP hD (by decide) rfl hS rfl dX10_load_87
            · exfalso; omega
          · have h_41 : ¬ LDK ca1 ca2 a1 := h_41
            obtain rfl : r_37 = 0 := hr_37.trans (by decide)
            refine b_if_ne hx hb zl_0 (tgt := 64) dX10_load_55 (by decide) (fun c_82 => by exfalso; omega) (fun c_82 => ?_)
            refine lv_aload_n hx hb dX10_load_58 rfl (lv_at hl 0 rfl) ?_
            refine lv_iconst (v := 5) hx hb dX10_load_59 (by decide) ?_
            refine kJi (wr := [(k0, .inr (9, [.ref k00, .ref k01, .ref k02, .ref k03, .ref k04, .ref k05, .int c06, .int c07, .int c08])), (k7, .inr (1, [.ref k70, .ref k71, .int c72, .int c73])), (k70, .inl (cI, 5409, .inl c70)), (k71, .inl (cI, 8, .inl c71)), (k050, .inl (cI, 36, .inl c050)), (k05, .inr (3, [.ref k050, .int c051])), (ka0, .inl (cI, 4, .inl ca0)), (ka, .inr (6, [.ref ka0, .ref ka1, .ref ka2])), (ka1, .inl (cI, 4, .inl ca1)), (ka2, .inl (cI, 144, .inl ca2))]) (va_runV (As := [.int 5]) (rest := []) ⟨hx, hb, hml, hown, hT⟩ (c_X10_findingG l D cI aK aV k k0 k1 k2 k3 k4 k5 k6 k7 k8 k9 ka kb H.size cc cb 5) (cwV 1 hT (gV_in mw_338 mw_335 mw_337 mw_p1_0 mw_1) rfl rfl rfl (by decide +kernel) ⟨Nat.le_of_ble_eq_true rfl, Nat.le_of_ble_eq_true rfl⟩) (kRecvX (q0 := 8) (ci := 10) hK hP hD hN hXS hS hA rfl rfl [8, 2] rfl (by decide)) rfl rfl hl.1 rfl (lv_room (Nat.le_of_ble_eq_true rfl)) dX10_load_60 ⟨Nat.le_of_ble_eq_true rfl, Nat.le_of_ble_eq_true rfl⟩) hP hD hS hA [8, 2] [0, 1, 3, 4, 5, 6, 7, 9, 10, 11] rfl rfl (by decide) (by decide) ?_
            clear hP hD hS
            intro r_83 scb_85 H locs w_84 hP hD hS
            replace hP : va_P D vwCl [(k0, .inr (9, [.ref k00, .ref k01, .ref k02, .ref k03, .ref k04, .ref k05, .int c06, .int c07, .int c08])), (k7, .inr (1, [.ref k70, .ref k71, .int c72, .int c73])), (k70, .inl (cI, 5409, .inl c70)), (k71, .inl (cI, 8, .inl c71)), (k050, .inl (cI, 36, .inl c050)), (k05, .inr (3, [.ref k050, .int c051])), (ka0, .inl (cI, 4, .inl ca0)), (ka, .inr (6, [.ref ka0, .ref ka1, .ref ka2])), (ka1, .inl (cI, 4, .inl ca1)), (ka2, .inl (cI, 144, .inl ca2)), (k, .inr (10, [.ref k0, .ref k1, .ref k2, .ref k3, .ref k4, .ref k5, .ref k6, .ref k7, .ref k8, .ref k9, .ref ka, .ref kb, .int cc])), (kb, .inl (cI, 6, .inl scb_85))] H := hP
            replace hD : va_D A [(k0, .inr (9, [.ref k00, .ref k01, .ref k02, .ref k03, .ref k04, .ref k05, .int c06, .int c07, .int c08])), (k7, .inr (1, [.ref k70, .ref k71, .int c72, .int c73])), (k70, .inl (cI, 5409, .inl c70)), (k71, .inl (cI, 8, .inl c71)), (k050, .inl (cI, 36, .inl c050)), (k05, .inr (3, [.ref k050, .int c051])), (ka0, .inl (cI, 4, .inl ca0)), (ka, .inr (6, [.ref ka0, .ref ka1, .ref ka2])), (ka1, .inl (cI, 4, .inl ca1)), (ka2, .inl (cI, 144, .inl ca2)), (k, .inr (10, [.ref k0, .ref k1, .ref k2, .ref k3, .ref k4, .ref k5, .ref k6, .ref k7, .ref k8, .ref k9, .ref ka, .ref kb, .int cc])), (kb, .inl (cI, 6, .inl scb_85))] := hD
            have hr_83 := w_84
            obtain rfl : r_83 = (-1000005) := hr_83.trans (by decide)
            exact hRet (c72, c73, scb_85, c70, c71) [10, 0, 1, 7, 11, 5, 2, 3, 6, 8, 9, 4] (LOD.k (by omega) (by omega) h_41) hP hD (by decide) rfl hS rfl dX10_load_63
        · exfalso; omega
      · refine lv_aload_n hx hb dX10_load_27 rfl (lv_at hl 0 rfl) ?_
        refine lv_iconst (v := 1) hx hb dX10_load_28 (by decide) ?_
        refine kJi (wr := [(k0, .inr (9, [.ref k00, .ref k01, .ref k02, .ref k03, .ref k04, .ref k05, .int c06, .int c07, .int c08])), (k7, .inr (1, [.ref k70, .ref k71, .int c72, .int c73])), (ka, .inr (6, [.ref ka0, .ref ka1, .ref ka2])), (k70, .inl (cI, 5409, .inl c70)), (k71, .inl (cI, 8, .inl c71)), (ka0, .inl (cI, 4, .inl ca0)), (ka1, .inl (cI, 4, .inl ca1)), (ka2, .inl (cI, 144, .inl ca2)), (k050, .inl (cI, 36, .inl c050)), (k05, .inr (3, [.ref k050, .int c051]))]) (va_runV (As := [.int 1]) (rest := []) ⟨hx, hb, hml, hown, hT⟩ (c_X10_findingG l D cI aK aV k k0 k1 k2 k3 k4 k5 k6 k7 k8 k9 ka kb H.size cc cb 1) (cwV 1 hT (gV_in mw_338 mw_335 mw_337 mw_p1_0 mw_1) rfl rfl rfl (by decide +kernel) ⟨Nat.le_of_ble_eq_true rfl, Nat.le_of_ble_eq_true rfl⟩) (kRecvX (q0 := 0) (ci := 10) hK hP hD hN hXS hS hA rfl rfl [0, 4] rfl (by decide)) rfl rfl hl.1 rfl (lv_room (Nat.le_of_ble_eq_true rfl)) dX10_load_29 ⟨Nat.le_of_ble_eq_true rfl, Nat.le_of_ble_eq_true rfl⟩) hP hD hS hA [0, 4] [1, 2, 3, 5, 6, 7, 8, 9, 10, 11] rfl rfl (by decide) (by decide) ?_
        clear hP hD hS
        intro r_86 scb_88 H locs w_87 hP hD hS
        replace hP : va_P D vwCl [(k0, .inr (9, [.ref k00, .ref k01, .ref k02, .ref k03, .ref k04, .ref k05, .int c06, .int c07, .int c08])), (k7, .inr (1, [.ref k70, .ref k71, .int c72, .int c73])), (ka, .inr (6, [.ref ka0, .ref ka1, .ref ka2])), (k70, .inl (cI, 5409, .inl c70)), (k71, .inl (cI, 8, .inl c71)), (ka0, .inl (cI, 4, .inl ca0)), (ka1, .inl (cI, 4, .inl ca1)), (ka2, .inl (cI, 144, .inl ca2)), (k050, .inl (cI, 36, .inl c050)), (k05, .inr (3, [.ref k050, .int c051])), (k, .inr (10, [.ref k0, .ref k1, .ref k2, .ref k3, .ref k4, .ref k5, .ref k6, .ref k7, .ref k8, .ref k9, .ref ka, .ref kb, .int cc])), (kb, .inl (cI, 6, .inl scb_88))] H := hP
        replace hD : va_D A [(k0, .inr (9, [.ref k00, .ref k01, .ref k02, .ref k03, .ref k04, .ref k05, .int c06, .int c07, .int c08])), (k7, .inr (1, [.ref k70, .ref k71, .int c72, .int c73])), (ka, .inr (6, [.ref ka0, .ref ka1, .ref ka2])), (k70, .inl (cI, 5409, .inl c70)), (k71, .inl (cI, 8, .inl c71)), (ka0, .inl (cI, 4, .inl ca0)), (ka1, .inl (cI, 4, .inl ca1)), (ka2, .inl (cI, 144, .inl ca2)), (k050, .inl (cI, 36, .inl c050)), (k05, .inr (3, [.ref k050, .int c051])), (k, .inr (10, [.ref k0, .ref k1, .ref k2, .ref k3, .ref k4, .ref k5, .ref k6, .ref k7, .ref k8, .ref k9, .ref ka, .ref kb, .int cc])), (kb, .inl (cI, 6, .inl scb_88))] := hD
        have hr_86 := w_87
        obtain rfl : r_86 = (-1000001) := hr_86.trans (by decide)
        exact hRet (c72, c73, scb_88, c70, c71) [10, 0, 1, 2, 11, 9, 3, 4, 5, 6, 7, 8] (LOD.b (by omega)) hP hD (by decide) rfl hS rfl dX10_load_32
    · have h_19 : a1.toInt < 0 ∨ 3 < a1.toInt := h_19
      obtain rfl : r_14 = 0 := hr_14.trans (by decide)
      refine b_if_eq hx hb zl_0 (tgt := 27) dX10_load_18 (by decide) (fun c_89 => ?_) (fun c_89 => by exfalso; omega)
      refine lv_aload_n hx hb dX10_load_27 rfl (lv_at hl 0 rfl) ?_
      refine lv_iconst (v := 1) hx hb dX10_load_28 (by decide) ?_
      refine kJi (wr := [(k0, .inr (9, [.ref k00, .ref k01, .ref k02, .ref k03, .ref k04, .ref k05, .int c06, .int c07, .int c08])), (k7, .inr (1, [.ref k70, .ref k71, .int c72, .int c73])), (ka, .inr (6, [.ref ka0, .ref ka1, .ref ka2])), (k70, .inl (cI, 5409, .inl c70)), (k71, .inl (cI, 8, .inl c71)), (ka0, .inl (cI, 4, .inl ca0)), (ka1, .inl (cI, 4, .inl ca1)), (ka2, .inl (cI, 144, .inl ca2)), (k050, .inl (cI, 36, .inl c050)), (k05, .inr (3, [.ref k050, .int c051]))]) (va_runV (As := [.int 1]) (rest := []) ⟨hx, hb, hml, hown, hT⟩ (c_X10_findingG l D cI aK aV k k0 k1 k2 k3 k4 k5 k6 k7 k8 k9 ka kb H.size cc cb 1) (cwV 1 hT (gV_in mw_338 mw_335 mw_337 mw_p1_0 mw_1) rfl rfl rfl (by decide +kernel) ⟨Nat.le_of_ble_eq_true rfl, Nat.le_of_ble_eq_true rfl⟩) (kRecvX (q0 := 0) (ci := 10) hK hP hD hN hXS hS hA rfl rfl [0, 4] rfl (by decide)) rfl rfl hl.1 rfl (lv_room (Nat.le_of_ble_eq_true rfl)) dX10_load_29 ⟨Nat.le_of_ble_eq_true rfl, Nat.le_of_ble_eq_true rfl⟩) hP hD hS hA [0, 4] [1, 2, 3, 5, 6, 7, 8, 9, 10, 11] rfl rfl (by decide) (by decide) ?_
      clear hP hD hS
      intro r_90 scb_92 H locs w_91 hP hD hS
      replace hP : va_P D vwCl [(k0, .inr (9, [.ref k00, .ref k01, .ref k02, .ref k03, .ref k04, .ref k05, .int c06, .int c07, .int c08])), (k7, .inr (1, [.ref k70, .ref k71, .int c72, .int c73])), (ka, .inr (6, [.ref ka0, .ref ka1, .ref ka2])), (k70, .inl (cI, 5409, .inl c70)), (k71, .inl (cI, 8, .inl c71)), (ka0, .inl (cI, 4, .inl ca0)), (ka1, .inl (cI, 4, .inl ca1)), (ka2, .inl (cI, 144, .inl ca2)), (k050, .inl (cI, 36, .inl c050)), (k05, .inr (3, [.ref k050, .int c051])), (k, .inr (10, [.ref k0, .ref k1, .ref k2, .ref k3, .ref k4, .ref k5, .ref k6, .ref k7, .ref k8, .ref k9, .ref ka, .ref kb, .int cc])), (kb, .inl (cI, 6, .inl scb_92))] H := hP
      replace hD : va_D A [(k0, .inr (9, [.ref k00, .ref k01, .ref k02, .ref k03, .ref k04, .ref k05, .int c06, .int c07, .int c08])), (k7, .inr (1, [.ref k70, .ref k71, .int c72, .int c73])), (ka, .inr (6, [.ref ka0, .ref ka1, .ref ka2])), (k70, .inl (cI, 5409, .inl c70)), (k71, .inl (cI, 8, .inl c71)), (ka0, .inl (cI, 4, .inl ca0)), (ka1, .inl (cI, 4, .inl ca1)), (ka2, .inl (cI, 144, .inl ca2)), (k050, .inl (cI, 36, .inl c050)), (k05, .inr (3, [.ref k050, .int c051])), (k, .inr (10, [.ref k0, .ref k1, .ref k2, .ref k3, .ref k4, .ref k5, .ref k6, .ref k7, .ref k8, .ref k9, .ref ka, .ref kb, .int cc])), (kb, .inl (cI, 6, .inl scb_92))] := hD
      have hr_90 := w_91
      obtain rfl : r_90 = (-1000001) := hr_90.trans (by decide)
      exact hRet (c72, c73, scb_92, c70, c71) [10, 0, 1, 2, 11, 9, 3, 4, 5, 6, 7, 8] (LOD.b (by omega)) hP hD (by decide) rfl hS rfl dX10_load_32
  · have h_12 : a0.toInt < 0 ∨ c051.toInt ≤ a0.toInt ∨ 4 ≤ a0.toInt := h_12
    obtain rfl : r_6 = 0 := hr_6.trans (by decide)
    refine b_if_eq hx hb zl_0 (tgt := 27) dX10_load_11 (by decide) (fun c_93 => ?_) (fun c_93 => by exfalso; omega)
    refine lv_aload_n hx hb dX10_load_27 rfl (lv_at hl 0 rfl) ?_
    refine lv_iconst (v := 1) hx hb dX10_load_28 (by decide) ?_
    refine kJi (wr := [(k0, .inr (9, [.ref k00, .ref k01, .ref k02, .ref k03, .ref k04, .ref k05, .int c06, .int c07, .int c08])), (k7, .inr (1, [.ref k70, .ref k71, .int c72, .int c73])), (ka, .inr (6, [.ref ka0, .ref ka1, .ref ka2])), (k70, .inl (cI, 5409, .inl c70)), (k71, .inl (cI, 8, .inl c71)), (ka0, .inl (cI, 4, .inl ca0)), (ka1, .inl (cI, 4, .inl ca1)), (ka2, .inl (cI, 144, .inl ca2)), (k050, .inl (cI, 36, .inl c050)), (k05, .inr (3, [.ref k050, .int c051]))]) (va_runV (As := [.int 1]) (rest := []) ⟨hx, hb, hml, hown, hT⟩ (c_X10_findingG l D cI aK aV k k0 k1 k2 k3 k4 k5 k6 k7 k8 k9 ka kb H.size cc cb 1) (cwV 1 hT (gV_in mw_338 mw_335 mw_337 mw_p1_0 mw_1) rfl rfl rfl (by decide +kernel) ⟨Nat.le_of_ble_eq_true rfl, Nat.le_of_ble_eq_true rfl⟩) (kRecvX (q0 := 0) (ci := 10) hK hP hD hN hXS hS hA rfl rfl [0, 4] rfl (by decide)) rfl rfl hl.1 rfl (lv_room (Nat.le_of_ble_eq_true rfl)) dX10_load_29 ⟨Nat.le_of_ble_eq_true rfl, Nat.le_of_ble_eq_true rfl⟩) hP hD hS hA [0, 4] [1, 2, 3, 5, 6, 7, 8, 9, 10, 11] rfl rfl (by decide) (by decide) ?_
    clear hP hD hS
    intro r_94 scb_96 H locs w_95 hP hD hS
    replace hP : va_P D vwCl [(k0, .inr (9, [.ref k00, .ref k01, .ref k02, .ref k03, .ref k04, .ref k05, .int c06, .int c07, .int c08])), (k7, .inr (1, [.ref k70, .ref k71, .int c72, .int c73])), (ka, .inr (6, [.ref ka0, .ref ka1, .ref ka2])), (k70, .inl (cI, 5409, .inl c70)), (k71, .inl (cI, 8, .inl c71)), (ka0, .inl (cI, 4, .inl ca0)), (ka1, .inl (cI, 4, .inl ca1)), (ka2, .inl (cI, 144, .inl ca2)), (k050, .inl (cI, 36, .inl c050)), (k05, .inr (3, [.ref k050, .int c051])), (k, .inr (10, [.ref k0, .ref k1, .ref k2, .ref k3, .ref k4, .ref k5, .ref k6, .ref k7, .ref k8, .ref k9, .ref ka, .ref kb, .int cc])), (kb, .inl (cI, 6, .inl scb_96))] H := hP
    replace hD : va_D A [(k0, .inr (9, [.ref k00, .ref k01, .ref k02, .ref k03, .ref k04, .ref k05, .int c06, .int c07, .int c08])), (k7, .inr (1, [.ref k70, .ref k71, .int c72, .int c73])), (ka, .inr (6, [.ref ka0, .ref ka1, .ref ka2])), (k70, .inl (cI, 5409, .inl c70)), (k71, .inl (cI, 8, .inl c71)), (ka0, .inl (cI, 4, .inl ca0)), (ka1, .inl (cI, 4, .inl ca1)), (ka2, .inl (cI, 144, .inl ca2)), (k050, .inl (cI, 36, .inl c050)), (k05, .inr (3, [.ref k050, .int c051])), (k, .inr (10, [.ref k0, .ref k1, .ref k2, .ref k3, .ref k4, .ref k5, .ref k6, .ref k7, .ref k8, .ref k9, .ref ka, .ref kb, .int cc])), (kb, .inl (cI, 6, .inl scb_96))] := hD
    have hr_94 := w_95
    obtain rfl : r_94 = (-1000001) := hr_94.trans (by decide)
    exact hRet (c72, c73, scb_96, c70, c71) [10, 0, 1, 2, 11, 9, 3, 4, 5, 6, 7, 8] (LOD.b (by omega)) hP hD (by decide) rfl hS rfl dX10_load_32
