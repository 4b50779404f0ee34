theorem dX10_count_0 : decode cX10_count 0 = .ok (.iload_n 1, 1) := by decide +kernel
theorem dX10_count_1 : decode cX10_count 1 = .ok (.tableswitch 195 0 12 #[67, 78, 89, 100, 111, 119, 127, 135, 143, 151, 162, 173, 184], 67) := by decide +kernel
theorem dX10_count_68 : decode cX10_count 68 = .ok (.aload_n 0, 1) := by decide +kernel
theorem dX10_count_69 : decode cX10_count 69 = .ok (.getfield 12, 3) := by decide +kernel
theorem dX10_count_72 : decode cX10_count 72 = .ok (.getfield 99, 3) := by decide +kernel
theorem dX10_count_75 : decode cX10_count 75 = .ok (.getfield 343, 3) := by decide +kernel
theorem dX10_count_78 : decode cX10_count 78 = .ok (.ireturn, 1) := by decide +kernel
theorem dX10_count_79 : decode cX10_count 79 = .ok (.aload_n 0, 1) := by decide +kernel
theorem dX10_count_80 : decode cX10_count 80 = .ok (.getfield 12, 3) := by decide +kernel
theorem dX10_count_83 : decode cX10_count 83 = .ok (.getfield 99, 3) := by decide +kernel
theorem dX10_count_86 : decode cX10_count 86 = .ok (.invokevirtual 387, 3) := by decide +kernel
theorem dX10_count_89 : decode cX10_count 89 = .ok (.ireturn, 1) := by decide +kernel
theorem dX10_count_90 : decode cX10_count 90 = .ok (.aload_n 0, 1) := by decide +kernel
theorem dX10_count_91 : decode cX10_count 91 = .ok (.getfield 12, 3) := by decide +kernel
theorem dX10_count_94 : decode cX10_count 94 = .ok (.getfield 193, 3) := by decide +kernel
theorem dX10_count_97 : decode cX10_count 97 = .ok (.getfield 390, 3) := by decide +kernel
theorem dX10_count_100 : decode cX10_count 100 = .ok (.ireturn, 1) := by decide +kernel
theorem dX10_count_101 : decode cX10_count 101 = .ok (.aload_n 0, 1) := by decide +kernel
theorem dX10_count_102 : decode cX10_count 102 = .ok (.getfield 12, 3) := by decide +kernel
theorem dX10_count_105 : decode cX10_count 105 = .ok (.getfield 193, 3) := by decide +kernel
theorem dX10_count_108 : decode cX10_count 108 = .ok (.invokevirtual 391, 3) := by decide +kernel
theorem dX10_count_111 : decode cX10_count 111 = .ok (.ireturn, 1) := by decide +kernel
theorem dX10_count_112 : decode cX10_count 112 = .ok (.aload_n 0, 1) := by decide +kernel
theorem dX10_count_113 : decode cX10_count 113 = .ok (.getfield 25, 3) := by decide +kernel
theorem dX10_count_116 : decode cX10_count 116 = .ok (.getfield 394, 3) := by decide +kernel
theorem dX10_count_119 : decode cX10_count 119 = .ok (.ireturn, 1) := by decide +kernel
theorem dX10_count_120 : decode cX10_count 120 = .ok (.aload_n 0, 1) := by decide +kernel
theorem dX10_count_121 : decode cX10_count 121 = .ok (.getfield 12, 3) := by decide +kernel
theorem dX10_count_124 : decode cX10_count 124 = .ok (.getfield 109, 3) := by decide +kernel
theorem dX10_count_127 : decode cX10_count 127 = .ok (.ireturn, 1) := by decide +kernel
theorem dX10_count_128 : decode cX10_count 128 = .ok (.aload_n 0, 1) := by decide +kernel
theorem dX10_count_129 : decode cX10_count 129 = .ok (.getfield 25, 3) := by decide +kernel
theorem dX10_count_132 : decode cX10_count 132 = .ok (.getfield 255, 3) := by decide +kernel
theorem dX10_count_135 : decode cX10_count 135 = .ok (.ireturn, 1) := by decide +kernel
theorem dX10_count_136 : decode cX10_count 136 = .ok (.aload_n 0, 1) := by decide +kernel
theorem dX10_count_137 : decode cX10_count 137 = .ok (.getfield 63, 3) := by decide +kernel
theorem dX10_count_140 : decode cX10_count 140 = .ok (.getfield 353, 3) := by decide +kernel
theorem dX10_count_143 : decode cX10_count 143 = .ok (.ireturn, 1) := by decide +kernel
theorem dX10_count_144 : decode cX10_count 144 = .ok (.aload_n 0, 1) := by decide +kernel
theorem dX10_count_145 : decode cX10_count 145 = .ok (.getfield 12, 3) := by decide +kernel
theorem dX10_count_148 : decode cX10_count 148 = .ok (.getfield 381, 3) := by decide +kernel
theorem dX10_count_151 : decode cX10_count 151 = .ok (.ireturn, 1) := by decide +kernel
theorem dX10_count_152 : decode cX10_count 152 = .ok (.aload_n 0, 1) := by decide +kernel
theorem dX10_count_153 : decode cX10_count 153 = .ok (.getfield 12, 3) := by decide +kernel
theorem dX10_count_156 : decode cX10_count 156 = .ok (.getfield 99, 3) := by decide +kernel
theorem dX10_count_159 : decode cX10_count 159 = .ok (.invokevirtual 340, 3) := by decide +kernel
theorem dX10_count_162 : decode cX10_count 162 = .ok (.ireturn, 1) := by decide +kernel
theorem dX10_count_163 : decode cX10_count 163 = .ok (.aload_n 0, 1) := by decide +kernel
theorem dX10_count_164 : decode cX10_count 164 = .ok (.getfield 12, 3) := by decide +kernel
theorem dX10_count_167 : decode cX10_count 167 = .ok (.getfield 99, 3) := by decide +kernel
theorem dX10_count_170 : decode cX10_count 170 = .ok (.invokevirtual 395, 3) := by decide +kernel
theorem dX10_count_173 : decode cX10_count 173 = .ok (.ireturn, 1) := by decide +kernel
theorem dX10_count_174 : decode cX10_count 174 = .ok (.aload_n 0, 1) := by decide +kernel
theorem dX10_count_175 : decode cX10_count 175 = .ok (.getfield 12, 3) := by decide +kernel
theorem dX10_count_178 : decode cX10_count 178 = .ok (.getfield 193, 3) := by decide +kernel
theorem dX10_count_181 : decode cX10_count 181 = .ok (.invokevirtual 398, 3) := by decide +kernel
theorem dX10_count_184 : decode cX10_count 184 = .ok (.ireturn, 1) := by decide +kernel
theorem dX10_count_185 : decode cX10_count 185 = .ok (.aload_n 0, 1) := by decide +kernel
theorem dX10_count_186 : decode cX10_count 186 = .ok (.getfield 12, 3) := by decide +kernel
theorem dX10_count_189 : decode cX10_count 189 = .ok (.getfield 99, 3) := by decide +kernel
theorem dX10_count_192 : decode cX10_count 192 = .ok (.invokevirtual 401, 3) := by decide +kernel
theorem dX10_count_195 : decode cX10_count 195 = .ok (.ireturn, 1) := by decide +kernel
theorem dX10_count_196 : decode cX10_count 196 = .ok (.aload_n 0, 1) := by decide +kernel
theorem dX10_count_197 : decode cX10_count 197 = .ok (.iconst 1, 1) := by decide +kernel
theorem dX10_count_198 : decode cX10_count 198 = .ok (.invokevirtual 82, 3) := by decide +kernel
theorem dX10_count_201 : decode cX10_count 201 = .ok (.ireturn, 1) := by decide +kernel
set_option maxHeartbeats 4000000 in
set_option maxRecDepth 100000 in
theorem c_X10_countG (l : Launch) (D : va_G) (cI : ClassId) (aK aV : Nat → Nat) (k k0 k1 k2 k3 k4 k5 k6 k7 k8 k9 ka kb k00 k01 k02 k03 k04 k05 k30 k31 k32 k33 k34 k90 k040 k041 k042 k043 k044 k045 k046 k047 k048 k050 : Nat) (sz : Nat) (cc : Int32) (c06 : Int32) (c07 : Int32) (c08 : Int32) (c35 : Int32) (c36 : Int32) (c91 : Int32) (c92 : Int32) (c93 : Int32) (c94 : Int32) (cb : Nat → Int32) (c049 : Int32) (c051 : Int32) (c040 : Nat → Int32) (c044 : Nat → Int32) (c045 : Nat → Int32) (c046 : Nat → Int32) (c050 : Nat → Int32) (a0 : Int32) : Met l yX10_count (gW yX10_count cX10_count 2 (some .int)) ({ frames := 4, cells := 0, slots := 0, locals := 86 } : Room) (kPreX D cI aK aV [.ref k, .int a0] [(k, .inr (10, [.ref k0, .ref k1, .ref k2, .ref k3, .ref k4, .ref k5, .ref k6, .ref k7, .ref k8, .ref k9, .ref ka, .ref kb, .int cc])), (k0, .inr (9, [.ref k00, .ref k01, .ref k02, .ref k03, .ref k04, .ref k05, .int c06, .int c07, .int c08])), (k3, .inr (4, [.ref k30, .ref k31, .ref k32, .ref k33, .ref k34, .int c35, .int c36])), (k9, .inr (7, [.ref k90, .int c91, .int c92, .int c93, .int c94])), (kb, .inl (cI, 6, .inl cb)), (k04, .inr (8, [.ref k040, .ref k041, .ref k042, .ref k043, .ref k044, .ref k045, .ref k046, .ref k047, .ref k048, .int c049])), (k05, .inr (3, [.ref k050, .int c051])), (k040, .inl (cI, 60, .inl c040)), (k044, .inl (cI, 60, .inl c044)), (k045, .inl (cI, 60, .inl c045)), (k046, .inl (cI, 40, .inl c046)), (k050, .inl (cI, 36, .inl c050))] sz) (va_Qi (fun (r : Int32) (u : (Nat → Int32)) => True) (fun u t => kWd D cI (va_A [(k, .inr (10, [.ref k0, .ref k1, .ref k2, .ref k3, .ref k4, .ref k5, .ref k6, .ref k7, .ref k8, .ref k9, .ref ka, .ref kb, .int cc])), (k0, .inr (9, [.ref k00, .ref k01, .ref k02, .ref k03, .ref k04, .ref k05, .int c06, .int c07, .int c08])), (k3, .inr (4, [.ref k30, .ref k31, .ref k32, .ref k33, .ref k34, .int c35, .int c36])), (k9, .inr (7, [.ref k90, .int c91, .int c92, .int c93, .int c94])), (kb, .inl (cI, 6, .inl cb)), (k04, .inr (8, [.ref k040, .ref k041, .ref k042, .ref k043, .ref k044, .ref k045, .ref k046, .ref k047, .ref k048, .int c049])), (k05, .inr (3, [.ref k050, .int c051])), (k040, .inl (cI, 60, .inl c040)), (k044, .inl (cI, 60, .inl c044)), (k045, .inl (cI, 60, .inl c045)), (k046, .inl (cI, 40, .inl c046)), (k050, .inl (cI, 36, .inl c050))] sz) [(k, .inr (10, [.ref k0, .ref k1, .ref k2, .ref k3, .ref k4, .ref k5, .ref k6, .ref k7, .ref k8, .ref k9, .ref ka, .ref kb, .int cc])), (k0, .inr (9, [.ref k00, .ref k01, .ref k02, .ref k03, .ref k04, .ref k05, .int c06, .int c07, .int c08])), (k3, .inr (4, [.ref k30, .ref k31, .ref k32, .ref k33, .ref k34, .int c35, .int c36])), (k9, .inr (7, [.ref k90, .int c91, .int c92, .int c93, .int c94])), (kb, .inl (cI, 6, .inl u)), (k04, .inr (8, [.ref k040, .ref k041, .ref k042, .ref k043, .ref k044, .ref k045, .ref k046, .ref k047, .ref k048, .int c049])), (k05, .inr (3, [.ref k050, .int c051])), (k040, .inl (cI, 60, .inl c040)), (k044, .inl (cI, 60, .inl c044)), (k045, .inl (cI, 60, .inl c045)), (k046, .inl (cI, 40, .inl c046)), (k050, .inl (cI, 36, .inl c050))] t) (va_A [(k, .inr (10, [.ref k0, .ref k1, .ref k2, .ref k3, .ref k4, .ref k5, .ref k6, .ref k7, .ref k8, .ref k9, .ref ka, .ref kb, .int cc])), (k0, .inr (9, [.ref k00, .ref k01, .ref k02, .ref k03, .ref k04, .ref k05, .int c06, .int c07, .int c08])), (k3, .inr (4, [.ref k30, .ref k31, .ref k32, .ref k33, .ref k34, .int c35, .int c36])), (k9, .inr (7, [.ref k90, .int c91, .int c92, .int c93, .int c94])), (kb, .inl (cI, 6, .inl cb)), (k04, .inr (8, [.ref k040, .ref k041, .ref k042, .ref k043, .ref k044, .ref k045, .ref k046, .ref k047, .ref k048, .int c049])), (k05, .inr (3, [.ref k050, .int c051])), (k040, .inl (cI, 60, .inl c040)), (k044, .inl (cI, 60, .inl c044)), (k045, .inl (cI, 60, .inl c045)), (k046, .inl (cI, 40, .inl c046)), (k050, .inl (cI, 36, .inl c050))] sz)) 0 0 (va_A [(k, .inr (10, [.ref k0, .ref k1, .ref k2, .ref k3, .ref k4, .ref k5, .ref k6, .ref k7, .ref k8, .ref k9, .ref ka, .ref kb, .int cc])), (k0, .inr (9, [.ref k00, .ref k01, .ref k02, .ref k03, .ref k04, .ref k05, .int c06, .int c07, .int c08])), (k3, .inr (4, [.ref k30, .ref k31, .ref k32, .ref k33, .ref k34, .int c35, .int c36])), (k9, .inr (7, [.ref k90, .int c91, .int c92, .int c93, .int c94])), (kb, .inl (cI, 6, .inl cb)), (k04, .inr (8, [.ref k040, .ref k041, .ref k042, .ref k043, .ref k044, .ref k045, .ref k046, .ref k047, .ref k048, .int c049])), (k05, .inr (3, [.ref k050, .int c051])), (k040, .inl (cI, 60, .inl c040)), (k044, .inl (cI, 60, .inl c044)), (k045, .inl (cI, 60, .inl c045)), (k046, .inl (cI, 40, .inl c046)), (k050, .inl (cI, 36, .inl c050))] sz) := by
  refine kMetIX (own := RX10) (by decide) rfl (Nat.le_of_ble_eq_true rfl) ?_
  intro p e s m args below meth c hx hb hT hown hname hml A Q hK hP hD hS hA hN hXS hRet ls hl
  have hl : lv_has ls 2 [(0, .ref k), (1, .int a0)] := hl
  have lo_a0 := k_lo a0
  have hi_a0 := k_hi a0
  have lo_cc := k_lo cc
  have hi_cc := k_hi cc
  have lo_c06 := k_lo c06
  have hi_c06 := k_hi c06
  have lo_c07 := k_lo c07
  have hi_c07 := k_hi c07
  have lo_c08 := k_lo c08
  have hi_c08 := k_hi c08
  have lo_c35 := k_lo c35
  have hi_c35 := k_hi c35
  have lo_c36 := k_lo c36
  have hi_c36 := k_hi c36
  have lo_c91 := k_lo c91
  have hi_c91 := k_hi c91
  have lo_c92 := k_lo c92
  have hi_c92 := k_hi c92
  have lo_c93 := k_lo c93
  have hi_c93 := k_hi c93
  have lo_c94 := k_lo c94
  have hi_c94 := k_hi c94
  have lo_c049 := k_lo c049
  have hi_c049 := k_hi c049
  have lo_c051 := k_lo c051
  have hi_c051 := k_hi c051
  refine lv_iload_n hx hb dX10_count_0 rfl (lv_at hl 1 rfl) ?_
  by_cases c_1 : a0.toInt = 0
  · refine lv_tableIn (off := 67) (tgt := 68) hx hb dX10_count_1 (by omega) (by omega) (by rw [c_1]; decide) (by decide) ?_
    refine lv_aload_n hx hb dX10_count_68 rfl (lv_at hl 0 rfl) ?_
    refine va_get (D := D) (ci := 10) (v := .ref k0) (C := RX10) (T := TX10) (N := 13) hx hb hT giX10 hown hK hP 0 rfl rfl 0 (by decide) (hT (Cond.fieldLink RX10 12 "DesertWire" "now" "LDesertWire$World;") mw_291) (fun _ h9 => h9) rfl dX10_count_69 ?_
    refine va_get (D := D) (ci := 9) (v := .ref k04) (C := RX9) (T := TX9) (N := 9) hx hb hT giX9 hown hK hP 1 rfl rfl 4 (by decide) (hT (Cond.fieldLink RX10 99 "DesertWire$World" "works" "LDesertWire$Works;") mw_99) (fun _ h9 => h9) rfl dX10_count_72 ?_
    refine va_get (D := D) (ci := 8) (v := .int c049) (C := RX8) (T := TX8) (N := 10) hx hb hT giX8 hown hK hP 5 rfl rfl 9 (by decide) (hT (Cond.fieldLink RX10 343 "DesertWire$Works" "number" "I") mw_51) (fun _ h9 => h9) rfl dX10_count_75 ?_
    exact hRet cb [0, 1, 2, 3, 4, 5, 6, 7, 8, 9, 10, 11] trivial hP hD (by decide) rfl hS rfl dX10_count_78
  by_cases c_2 : a0.toInt = 1
  · refine lv_tableIn (off := 78) (tgt := 79) hx hb dX10_count_1 (by omega) (by omega) (by rw [c_2]; decide) (by decide) ?_
    refine lv_aload_n hx hb dX10_count_79 rfl (lv_at hl 0 rfl) ?_
    refine va_get (D := D) (ci := 10) (v := .ref k0) (C := RX10) (T := TX10) (N := 13) hx hb hT giX10 hown hK hP 0 rfl rfl 0 (by decide) (hT (Cond.fieldLink RX10 12 "DesertWire" "now" "LDesertWire$World;") mw_291) (fun _ h9 => h9) rfl dX10_count_80 ?_
    refine va_get (D := D) (ci := 9) (v := .ref k04) (C := RX9) (T := TX9) (N := 9) hx hb hT giX9 hown hK hP 1 rfl rfl 4 (by decide) (hT (Cond.fieldLink RX10 99 "DesertWire$World" "works" "LDesertWire$Works;") mw_99) (fun _ h9 => h9) rfl dX10_count_83 ?_
    refine kJi (wr := [(k, .inr (10, [.ref k0, .ref k1, .ref k2, .ref k3, .ref k4, .ref k5, .ref k6, .ref k7, .ref k8, .ref k9, .ref ka, .ref kb, .int cc])), (k0, .inr (9, [.ref k00, .ref k01, .ref k02, .ref k03, .ref k04, .ref k05, .int c06, .int c07, .int c08])), (k3, .inr (4, [.ref k30, .ref k31, .ref k32, .ref k33, .ref k34, .int c35, .int c36])), (k9, .inr (7, [.ref k90, .int c91, .int c92, .int c93, .int c94])), (kb, .inl (cI, 6, .inl cb)), (k05, .inr (3, [.ref k050, .int c051])), (k040, .inl (cI, 60, .inl c040)), (k044, .inl (cI, 60, .inl c044)), (k046, .inl (cI, 40, .inl c046)), (k050, .inl (cI, 36, .inl c050))]) (va_runV (As := []) (rest := []) ⟨hx, hb, hml, hown, hT⟩ (c_X8_fallenG l D cI aK aV k04 k040 k041 k042 k043 k044 k045 k046 k047 k048 s.heap.size c049 c045) (cwV 0 hT (gV_in mw_1128 mw_1125 mw_1126 mw_1127 mw_3) rfl rfl rfl (by decide +kernel) ⟨Nat.le_of_ble_eq_true rfl, Nat.le_of_ble_eq_true rfl⟩) (kRecvX (q0 := 5) (ci := 8) hK hP hD hN hXS hS hA rfl rfl [5, 9] rfl (by decide)) rfl rfl hl.1 rfl (lv_room (Nat.le_of_ble_eq_true rfl)) dX10_count_86 ⟨Nat.le_of_ble_eq_true rfl, Nat.le_of_ble_eq_true rfl⟩) hP hD hS hA [5, 9] [0, 1, 2, 3, 4, 6, 7, 8, 10, 11] rfl rfl (by decide) (by decide) (fun r_3 u_5 H locs w_4 hP hD hS => ?_)
    have hP : va_P D vwCl [(k, .inr (10, [.ref k0, .ref k1, .ref k2, .ref k3, .ref k4, .ref k5, .ref k6, .ref k7, .ref k8, .ref k9, .ref ka, .ref kb, .int cc])), (k0, .inr (9, [.ref k00, .ref k01, .ref k02, .ref k03, .ref k04, .ref k05, .int c06, .int c07, .int c08])), (k3, .inr (4, [.ref k30, .ref k31, .ref k32, .ref k33, .ref k34, .int c35, .int c36])), (k9, .inr (7, [.ref k90, .int c91, .int c92, .int c93, .int c94])), (kb, .inl (cI, 6, .inl cb)), (k05, .inr (3, [.ref k050, .int c051])), (k040, .inl (cI, 60, .inl c040)), (k044, .inl (cI, 60, .inl c044)), (k046, .inl (cI, 40, .inl c046)), (k050, .inl (cI, 36, .inl c050)), (k04, .inr (8, [.ref k040, .ref k041, .ref k042, .ref k043, .ref k044, .ref k045, .ref k046, .ref k047, .ref k048, .int c049])), (k045, .inl (cI, 60, .inl c045))] H := hP
    have hD : va_D A [(k, .inr (10, [.ref k0, .ref k1, .ref k2, .ref k3, .ref k4, .ref k5, .ref k6, .ref k7, .ref k8, .ref k9, .ref ka, .ref kb, .int cc])), (k0, .inr (9, [.ref k00, .ref k01, .ref k02, .ref k03, .ref k04, .ref k05, .int c06, .int c07, .int c08])), (k3, .inr (4, [.ref k30, .ref k31, .ref k32, .ref k33, .ref k34, .int c35, .int c36])), (k9, .inr (7, [.ref k90, .int c91, .int c92, .int c93, .int c94])), (kb, .inl (cI, 6, .inl cb)), (k05, .inr (3, [.ref k050, .int c051])), (k040, .inl (cI, 60, .inl c040)), (k044, .inl (cI, 60, .inl c044)), (k046, .inl (cI, 40, .inl c046)), (k050, .inl (cI, 36, .inl c050)), (k04, .inr (8, [.ref k040, .ref k041, .ref k042, .ref k043, .ref k044, .ref k045, .ref k046, .ref k047, .ref k048, .int c049])), (k045, .inl (cI, 60, .inl c045))] := hD
    have lo_r_3 := k_lo r_3
    have hi_r_3 := k_hi r_3
    exact hRet cb [0, 1, 2, 3, 4, 10, 5, 6, 7, 11, 8, 9] trivial hP hD (by decide) rfl hS rfl dX10_count_89
  by_cases c_6 : a0.toInt = 2
  · refine lv_tableIn (off := 89) (tgt := 90) hx hb dX10_count_1 (by omega) (by omega) (by rw [c_6]; decide) (by decide) ?_
    refine lv_aload_n hx hb dX10_count_90 rfl (lv_at hl 0 rfl) ?_
    refine va_get (D := D) (ci := 10) (v := .ref k0) (C := RX10) (T := TX10) (N := 13) hx hb hT giX10 hown hK hP 0 rfl rfl 0 (by decide) (hT (Cond.fieldLink RX10 12 "DesertWire" "now" "LDesertWire$World;") mw_291) (fun _ h9 => h9) rfl dX10_count_91 ?_
    refine va_get (D := D) (ci := 9) (v := .ref k05) (C := RX9) (T := TX9) (N := 9) hx hb hT giX9 hown hK hP 1 rfl rfl 5 (by decide) (hT (Cond.fieldLink RX10 193 "DesertWire$World" "parties" "LDesertWire$Parties;") mw_102) (fun _ h9 => h9) rfl dX10_count_94 ?_
    refine va_get (D := D) (ci := 3) (v := .int c051) (C := RX3) (T := TX3) (N := 2) hx hb hT giX3 hown hK hP 6 rfl rfl 1 (by decide) (hT (Cond.fieldLink RX10 390 "DesertWire$Parties" "number" "I") mw_83) (fun _ h9 => h9) rfl dX10_count_97 ?_
    exact hRet cb [0, 1, 2, 3, 4, 5, 6, 7, 8, 9, 10, 11] trivial hP hD (by decide) rfl hS rfl dX10_count_100
  by_cases c_7 : a0.toInt = 3
  · refine lv_tableIn (off := 100) (tgt := 101) hx hb dX10_count_1 (by omega) (by omega) (by rw [c_7]; decide) (by decide) ?_
    refine lv_aload_n hx hb dX10_count_101 rfl (lv_at hl 0 rfl) ?_
    refine va_get (D := D) (ci := 10) (v := .ref k0) (C := RX10) (T := TX10) (N := 13) hx hb hT giX10 hown hK hP 0 rfl rfl 0 (by decide) (hT (Cond.fieldLink RX10 12 "DesertWire" "now" "LDesertWire$World;") mw_291) (fun _ h9 => h9) rfl dX10_count_102 ?_
    refine va_get (D := D) (ci := 9) (v := .ref k05) (C := RX9) (T := TX9) (N := 9) hx hb hT giX9 hown hK hP 1 rfl rfl 5 (by decide) (hT (Cond.fieldLink RX10 193 "DesertWire$World" "parties" "LDesertWire$Parties;") mw_102) (fun _ h9 => h9) rfl dX10_count_105 ?_
    refine kJi (wr := [(k, .inr (10, [.ref k0, .ref k1, .ref k2, .ref k3, .ref k4, .ref k5, .ref k6, .ref k7, .ref k8, .ref k9, .ref ka, .ref kb, .int cc])), (k0, .inr (9, [.ref k00, .ref k01, .ref k02, .ref k03, .ref k04, .ref k05, .int c06, .int c07, .int c08])), (k3, .inr (4, [.ref k30, .ref k31, .ref k32, .ref k33, .ref k34, .int c35, .int c36])), (k9, .inr (7, [.ref k90, .int c91, .int c92, .int c93, .int c94])), (kb, .inl (cI, 6, .inl cb)), (k04, .inr (8, [.ref k040, .ref k041, .ref k042, .ref k043, .ref k044, .ref k045, .ref k046, .ref k047, .ref k048, .int c049])), (k040, .inl (cI, 60, .inl c040)), (k044, .inl (cI, 60, .inl c044)), (k045, .inl (cI, 60, .inl c045)), (k046, .inl (cI, 40, .inl c046))]) (va_runV (As := []) (rest := []) ⟨hx, hb, hml, hown, hT⟩ (c_X3_lostG l D cI aK aV k05 k050 s.heap.size c051 c050) (cwV 0 hT (gV_in mw_1132 mw_1129 mw_1130 mw_1131 mw_4) rfl rfl rfl (by decide +kernel) ⟨Nat.le_of_ble_eq_true rfl, Nat.le_of_ble_eq_true rfl⟩) (kRecvX (q0 := 6) (ci := 3) hK hP hD hN hXS hS hA rfl rfl [6, 11] rfl (by decide)) rfl rfl hl.1 rfl (lv_room (Nat.le_of_ble_eq_true rfl)) dX10_count_108 ⟨Nat.le_of_ble_eq_true rfl, Nat.le_of_ble_eq_true rfl⟩) hP hD hS hA [6, 11] [0, 1, 2, 3, 4, 5, 7, 8, 9, 10] rfl rfl (by decide) (by decide) (fun r_8 u_10 H locs w_9 hP hD hS => ?_)
    have hP : va_P D vwCl [(k, .inr (10, [.ref k0, .ref k1, .ref k2, .ref k3, .ref k4, .ref k5, .ref k6, .ref k7, .ref k8, .ref k9, .ref ka, .ref kb, .int cc])), (k0, .inr (9, [.ref k00, .ref k01, .ref k02, .ref k03, .ref k04, .ref k05, .int c06, .int c07, .int c08])), (k3, .inr (4, [.ref k30, .ref k31, .ref k32, .ref k33, .ref k34, .int c35, .int c36])), (k9, .inr (7, [.ref k90, .int c91, .int c92, .int c93, .int c94])), (kb, .inl (cI, 6, .inl cb)), (k04, .inr (8, [.ref k040, .ref k041, .ref k042, .ref k043, .ref k044, .ref k045, .ref k046, .ref k047, .ref k048, .int c049])), (k040, .inl (cI, 60, .inl c040)), (k044, .inl (cI, 60, .inl c044)), (k045, .inl (cI, 60, .inl c045)), (k046, .inl (cI, 40, .inl c046)), (k05, .inr (3, [.ref k050, .int c051])), (k050, .inl (cI, 36, .inl c050))] H := hP
    have hD : va_D A [(k, .inr (10, [.ref k0, .ref k1, .ref k2, .ref k3, .ref k4, .ref k5, .ref k6, .ref k7, .ref k8, .ref k9, .ref ka, .ref kb, .int cc])), (k0, .inr (9, [.ref k00, .ref k01, .ref k02, .ref k03, .ref k04, .ref k05, .int c06, .int c07, .int c08])), (k3, .inr (4, [.ref k30, .ref k31, .ref k32, .ref k33, .ref k34, .int c35, .int c36])), (k9, .inr (7, [.ref k90, .int c91, .int c92, .int c93, .int c94])), (kb, .inl (cI, 6, .inl cb)), (k04, .inr (8, [.ref k040, .ref k041, .ref k042, .ref k043, .ref k044, .ref k045, .ref k046, .ref k047, .ref k048, .int c049])), (k040, .inl (cI, 60, .inl c040)), (k044, .inl (cI, 60, .inl c044)), (k045, .inl (cI, 60, .inl c045)), (k046, .inl (cI, 40, .inl c046)), (k05, .inr (3, [.ref k050, .int c051])), (k050, .inl (cI, 36, .inl c050))] := hD
    have lo_r_8 := k_lo r_8
    have hi_r_8 := k_hi r_8
    exact hRet cb [0, 1, 2, 3, 4, 5, 10, 6, 7, 8, 9, 11] trivial hP hD (by decide) rfl hS rfl dX10_count_111
  by_cases c_11 : a0.toInt = 4
  · refine lv_tableIn (off := 111) (tgt := 112) hx hb dX10_count_1 (by omega) (by omega) (by rw [c_11]; decide) (by decide) ?_
    refine lv_aload_n hx hb dX10_count_112 rfl (lv_at hl 0 rfl) ?_
    refine va_get (D := D) (ci := 10) (v := .ref k3) (C := RX10) (T := TX10) (N := 13) hx hb hT giX10 hown hK hP 0 rfl rfl 3 (by decide) (hT (Cond.fieldLink RX10 25 "DesertWire" "rates" "LDesertWire$Rates;") mw_294) (fun _ h9 => h9) rfl dX10_count_113 ?_
    refine va_get (D := D) (ci := 4) (v := .int c36) (C := RX4) (T := TX4) (N := 7) hx hb hT giX4 hown hK hP 2 rfl rfl 6 (by decide) (hT (Cond.fieldLink RX10 394 "DesertWire$Rates" "number" "I") mw_146) (fun _ h9 => h9) rfl dX10_count_116 ?_
    exact hRet cb [0, 1, 2, 3, 4, 5, 6, 7, 8, 9, 10, 11] trivial hP hD (by decide) rfl hS rfl dX10_count_119
  by_cases c_12 : a0.toInt = 5
  · refine lv_tableIn (off := 119) (tgt := 120) hx hb dX10_count_1 (by omega) (by omega) (by rw [c_12]; decide) (by decide) ?_
    refine lv_aload_n hx hb dX10_count_120 rfl (lv_at hl 0 rfl) ?_
    refine va_get (D := D) (ci := 10) (v := .ref k0) (C := RX10) (T := TX10) (N := 13) hx hb hT giX10 hown hK hP 0 rfl rfl 0 (by decide) (hT (Cond.fieldLink RX10 12 "DesertWire" "now" "LDesertWire$World;") mw_291) (fun _ h9 => h9) rfl dX10_count_121 ?_
    refine va_get (D := D) (ci := 9) (v := .int c08) (C := RX9) (T := TX9) (N := 9) hx hb hT giX9 hown hK hP 1 rfl rfl 8 (by decide) (hT (Cond.fieldLink RX10 109 "DesertWire$World" "day" "I") mw_110) (fun _ h9 => h9) rfl dX10_count_124 ?_
    exact hRet cb [0, 1, 2, 3, 4, 5, 6, 7, 8, 9, 10, 11] trivial hP hD (by decide) rfl hS rfl dX10_count_127
  by_cases c_13 : a0.toInt = 6
  · refine lv_tableIn (off := 127) (tgt := 128) hx hb dX10_count_1 (by omega) (by omega) (by rw [c_13]; decide) (by decide) ?_
    refine lv_aload_n hx hb dX10_count_128 rfl (lv_at hl 0 rfl) ?_
    refine va_get (D := D) (ci := 10) (v := .ref k3) (C := RX10) (T := TX10) (N := 13) hx hb hT giX10 hown hK hP 0 rfl rfl 3 (by decide) (hT (Cond.fieldLink RX10 25 "DesertWire" "rates" "LDesertWire$Rates;") mw_294) (fun _ h9 => h9) rfl dX10_count_129 ?_
    refine va_get (D := D) (ci := 4) (v := .int c35) (C := RX4) (T := TX4) (N := 7) hx hb hT giX4 hown hK hP 2 rfl rfl 5 (by decide) (hT (Cond.fieldLink RX10 255 "DesertWire$Rates" "taped" "I") mw_144) (fun _ h9 => h9) rfl dX10_count_132 ?_
    exact hRet cb [0, 1, 2, 3, 4, 5, 6, 7, 8, 9, 10, 11] trivial hP hD (by decide) rfl hS rfl dX10_count_135
  by_cases c_14 : a0.toInt = 7
  · refine lv_tableIn (off := 135) (tgt := 136) hx hb dX10_count_1 (by omega) (by omega) (by rw [c_14]; decide) (by decide) ?_
    refine lv_aload_n hx hb dX10_count_136 rfl (lv_at hl 0 rfl) ?_
    refine va_get (D := D) (ci := 10) (v := .ref k9) (C := RX10) (T := TX10) (N := 13) hx hb hT giX10 hown hK hP 0 rfl rfl 9 (by decide) (hT (Cond.fieldLink RX10 63 "DesertWire" "voices" "LDesertWire$Voices;") mw_300) (fun _ h9 => h9) rfl dX10_count_137 ?_
    refine va_get (D := D) (ci := 7) (v := .int c91) (C := RX7) (T := TX7) (N := 5) hx hb hT giX7 hown hK hP 3 rfl rfl 1 (by decide) (hT (Cond.fieldLink RX10 353 "DesertWire$Voices" "begun" "I") mw_260) (fun _ h9 => h9) rfl dX10_count_140 ?_
    exact hRet cb [0, 1, 2, 3, 4, 5, 6, 7, 8, 9, 10, 11] trivial hP hD (by decide) rfl hS rfl dX10_count_143
  by_cases c_15 : a0.toInt = 8
  · refine lv_tableIn (off := 143) (tgt := 144) hx hb dX10_count_1 (by omega) (by omega) (by rw [c_15]; decide) (by decide) ?_
    refine lv_aload_n hx hb dX10_count_144 rfl (lv_at hl 0 rfl) ?_
    refine va_get (D := D) (ci := 10) (v := .ref k0) (C := RX10) (T := TX10) (N := 13) hx hb hT giX10 hown hK hP 0 rfl rfl 0 (by decide) (hT (Cond.fieldLink RX10 12 "DesertWire" "now" "LDesertWire$World;") mw_291) (fun _ h9 => h9) rfl dX10_count_145 ?_
    refine va_get (D := D) (ci := 9) (v := .int c06) (C := RX9) (T := TX9) (N := 9) hx hb hT giX9 hown hK hP 1 rfl rfl 6 (by decide) (hT (Cond.fieldLink RX10 381 "DesertWire$World" "waiting" "I") mw_104) (fun _ h9 => h9) rfl dX10_count_148 ?_
    exact hRet cb [0, 1, 2, 3, 4, 5, 6, 7, 8, 9, 10, 11] trivial hP hD (by decide) rfl hS rfl dX10_count_151
  by_cases c_16 : a0.toInt = 9
  · refine lv_tableIn (off := 151) (tgt := 152) hx hb dX10_count_1 (by omega) (by omega) (by rw [c_16]; decide) (by decide) ?_
    refine lv_aload_n hx hb dX10_count_152 rfl (lv_at hl 0 rfl) ?_
    refine va_get (D := D) (ci := 10) (v := .ref k0) (C := RX10) (T := TX10) (N := 13) hx hb hT giX10 hown hK hP 0 rfl rfl 0 (by decide) (hT (Cond.fieldLink RX10 12 "DesertWire" "now" "LDesertWire$World;") mw_291) (fun _ h9 => h9) rfl dX10_count_153 ?_
    refine va_get (D := D) (ci := 9) (v := .ref k04) (C := RX9) (T := TX9) (N := 9) hx hb hT giX9 hown hK hP 1 rfl rfl 4 (by decide) (hT (Cond.fieldLink RX10 99 "DesertWire$World" "works" "LDesertWire$Works;") mw_99) (fun _ h9 => h9) rfl dX10_count_156 ?_
    refine kJi (wr := [(k, .inr (10, [.ref k0, .ref k1, .ref k2, .ref k3, .ref k4, .ref k5, .ref k6, .ref k7, .ref k8, .ref k9, .ref ka, .ref kb, .int cc])), (k0, .inr (9, [.ref k00, .ref k01, .ref k02, .ref k03, .ref k04, .ref k05, .int c06, .int c07, .int c08])), (k3, .inr (4, [.ref k30, .ref k31, .ref k32, .ref k33, .ref k34, .int c35, .int c36])), (k9, .inr (7, [.ref k90, .int c91, .int c92, .int c93, .int c94])), (kb, .inl (cI, 6, .inl cb)), (k05, .inr (3, [.ref k050, .int c051])), (k040, .inl (cI, 60, .inl c040)), (k044, .inl (cI, 60, .inl c044)), (k045, .inl (cI, 60, .inl c045)), (k050, .inl (cI, 36, .inl c050))]) (va_runV (As := []) (rest := []) ⟨hx, hb, hml, hown, hT⟩ (c_X8_wiredMilesG l D cI aK aV k04 k040 k041 k042 k043 k044 k045 k046 k047 k048 s.heap.size c049 c046) (cwV 0 hT (gV_in mw_1029 mw_1026 mw_1027 mw_1028 mw_3) rfl rfl rfl (by decide +kernel) ⟨Nat.le_of_ble_eq_true rfl, Nat.le_of_ble_eq_true rfl⟩) (kRecvX (q0 := 5) (ci := 8) hK hP hD hN hXS hS hA rfl rfl [5, 10] rfl (by decide)) rfl rfl hl.1 rfl (lv_room (Nat.le_of_ble_eq_true rfl)) dX10_count_159 ⟨Nat.le_of_ble_eq_true rfl, Nat.le_of_ble_eq_true rfl⟩) hP hD hS hA [5, 10] [0, 1, 2, 3, 4, 6, 7, 8, 9, 11] rfl rfl (by decide) (by decide) (fun r_17 u_19 H locs w_18 hP hD hS => ?_)
    have hP : va_P D vwCl [(k, .inr (10, [.ref k0, .ref k1, .ref k2, .ref k3, .ref k4, .ref k5, .ref k6, .ref k7, .ref k8, .ref k9, .ref ka, .ref kb, .int cc])), (k0, .inr (9, [.ref k00, .ref k01, .ref k02, .ref k03, .ref k04, .ref k05, .int c06, .int c07, .int c08])), (k3, .inr (4, [.ref k30, .ref k31, .ref k32, .ref k33, .ref k34, .int c35, .int c36])), (k9, .inr (7, [.ref k90, .int c91, .int c92, .int c93, .int c94])), (kb, .inl (cI, 6, .inl cb)), (k05, .inr (3, [.ref k050, .int c051])), (k040, .inl (cI, 60, .inl c040)), (k044, .inl (cI, 60, .inl c044)), (k045, .inl (cI, 60, .inl c045)), (k050, .inl (cI, 36, .inl c050)), (k04, .inr (8, [.ref k040, .ref k041, .ref k042, .ref k043, .ref k044, .ref k045, .ref k046, .ref k047, .ref k048, .int c049])), (k046, .inl (cI, 40, .inl c046))] H := hP
    have hD : va_D A [(k, .inr (10, [.ref k0, .ref k1, .ref k2, .ref k3, .ref k4, .ref k5, .ref k6, .ref k7, .ref k8, .ref k9, .ref ka, .ref kb, .int cc])), (k0, .inr (9, [.ref k00, .ref k01, .ref k02, .ref k03, .ref k04, .ref k05, .int c06, .int c07, .int c08])), (k3, .inr (4, [.ref k30, .ref k31, .ref k32, .ref k33, .ref k34, .int c35, .int c36])), (k9, .inr (7, [.ref k90, .int c91, .int c92, .int c93, .int c94])), (kb, .inl (cI, 6, .inl cb)), (k05, .inr (3, [.ref k050, .int c051])), (k040, .inl (cI, 60, .inl c040)), (k044, .inl (cI, 60, .inl c044)), (k045, .inl (cI, 60, .inl c045)), (k050, .inl (cI, 36, .inl c050)), (k04, .inr (8, [.ref k040, .ref k041, .ref k042, .ref k043, .ref k044, .ref k045, .ref k046, .ref k047, .ref k048, .int c049])), (k046, .inl (cI, 40, .inl c046))] := hD
    have lo_r_17 := k_lo r_17
    have hi_r_17 := k_hi r_17
    exact hRet cb [0, 1, 2, 3, 4, 10, 5, 6, 7, 8, 11, 9] trivial hP hD (by decide) rfl hS rfl dX10_count_162
  by_cases c_20 : a0.toInt = 10
  · refine lv_tableIn (off := 162) (tgt := 163) hx hb dX10_count_1 (by omega) (by omega) (by rw [c_20]; decide) (by decide) ?_
    refine lv_aload_n hx hb dX10_count_163 rfl (lv_at hl 0 rfl) ?_
    refine va_get (D := D) (ci := 10) (v := .ref k0) (C := RX10) (T := TX10) (N := 13) hx hb hT giX10 hown hK hP 0 rfl rfl 0 (by decide) (hT (Cond.fieldLink RX10 12 "DesertWire" "now" "LDesertWire$World;") mw_291) (fun _ h9 => h9) rfl dX10_count_164 ?_
    refine va_get (D := D) (ci := 9) (v := .ref k04) (C := RX9) (T := TX9) (N := 9) hx hb hT giX9 hown hK hP 1 rfl rfl 4 (by decide) (hT (Cond.fieldLink RX10 99 "DesertWire$World" "works" "LDesertWire$Works;") mw_99) (fun _ h9 => h9) rfl dX10_count_167 ?_
    refine kJi (wr := [(k, .inr (10, [.ref k0, .ref k1, .ref k2, .ref k3, .ref k4, .ref k5, .ref k6, .ref k7, .ref k8, .ref k9, .ref ka, .ref kb, .int cc])), (k0, .inr (9, [.ref k00, .ref k01, .ref k02, .ref k03, .ref k04, .ref k05, .int c06, .int c07, .int c08])), (k3, .inr (4, [.ref k30, .ref k31, .ref k32, .ref k33, .ref k34, .int c35, .int c36])), (k9, .inr (7, [.ref k90, .int c91, .int c92, .int c93, .int c94])), (kb, .inl (cI, 6, .inl cb)), (k05, .inr (3, [.ref k050, .int c051])), (k044, .inl (cI, 60, .inl c044)), (k046, .inl (cI, 40, .inl c046)), (k050, .inl (cI, 36, .inl c050))]) (va_runV (As := []) (rest := []) ⟨hx, hb, hml, hown, hT⟩ (c_X8_stationsG l D cI aK aV k04 k040 k041 k042 k043 k044 k045 k046 k047 k048 s.heap.size c049 c040 c045) (cwV 0 hT (gV_in mw_1137 mw_1134 mw_1135 mw_1136 mw_3) rfl rfl rfl (by decide +kernel) ⟨Nat.le_of_ble_eq_true rfl, Nat.le_of_ble_eq_true rfl⟩) (kRecvX (q0 := 5) (ci := 8) hK hP hD hN hXS hS hA rfl rfl [5, 7, 9] rfl (by decide)) rfl rfl hl.1 rfl (lv_room (Nat.le_of_ble_eq_true rfl)) dX10_count_170 ⟨Nat.le_of_ble_eq_true rfl, Nat.le_of_ble_eq_true rfl⟩) hP hD hS hA [5, 7, 9] [0, 1, 2, 3, 4, 6, 8, 10, 11] rfl rfl (by decide) (by decide) (fun r_21 u_23 H locs w_22 hP hD hS => ?_)
    have hP : va_P D vwCl [(k, .inr (10, [.ref k0, .ref k1, .ref k2, .ref k3, .ref k4, .ref k5, .ref k6, .ref k7, .ref k8, .ref k9, .ref ka, .ref kb, .int cc])), (k0, .inr (9, [.ref k00, .ref k01, .ref k02, .ref k03, .ref k04, .ref k05, .int c06, .int c07, .int c08])), (k3, .inr (4, [.ref k30, .ref k31, .ref k32, .ref k33, .ref k34, .int c35, .int c36])), (k9, .inr (7, [.ref k90, .int c91, .int c92, .int c93, .int c94])), (kb, .inl (cI, 6, .inl cb)), (k05, .inr (3, [.ref k050, .int c051])), (k044, .inl (cI, 60, .inl c044)), (k046, .inl (cI, 40, .inl c046)), (k050, .inl (cI, 36, .inl c050)), (k04, .inr (8, [.ref k040, .ref k041, .ref k042, .ref k043, .ref k044, .ref k045, .ref k046, .ref k047, .ref k048, .int c049])), (k040, .inl (cI, 60, .inl c040)), (k045, .inl (cI, 60, .inl c045))] H := hP
    have hD : va_D A [(k, .inr (10, [.ref k0, .ref k1, .ref k2, .ref k3, .ref k4, .ref k5, .ref k6, .ref k7, .ref k8, .ref k9, .ref ka, .ref kb, .int cc])), (k0, .inr (9, [.ref k00, .ref k01, .ref k02, .ref k03, .ref k04, .ref k05, .int c06, .int c07, .int c08])), (k3, .inr (4, [.ref k30, .ref k31, .ref k32, .ref k33, .ref k34, .int c35, .int c36])), (k9, .inr (7, [.ref k90, .int c91, .int c92, .int c93, .int c94])), (kb, .inl (cI, 6, .inl cb)), (k05, .inr (3, [.ref k050, .int c051])), (k044, .inl (cI, 60, .inl c044)), (k046, .inl (cI, 40, .inl c046)), (k050, .inl (cI, 36, .inl c050)), (k04, .inr (8, [.ref k040, .ref k041, .ref k042, .ref k043, .ref k044, .ref k045, .ref k046, .ref k047, .ref k048, .int c049])), (k040, .inl (cI, 60, .inl c040)), (k045, .inl (cI, 60, .inl c045))] := hD
    have lo_r_21 := k_lo r_21
    have hi_r_21 := k_hi r_21
    exact hRet cb [0, 1, 2, 3, 4, 9, 5, 10, 6, 11, 7, 8] trivial hP hD (by decide) rfl hS rfl dX10_count_173
  by_cases c_24 : a0.toInt = 11
  · refine lv_tableIn (off := 173) (tgt := 174) hx hb dX10_count_1 (by omega) (by omega) (by rw [c_24]; decide) (by decide) ?_
    refine lv_aload_n hx hb dX10_count_174 rfl (lv_at hl 0 rfl) ?_
    refine va_get (D := D) (ci := 10) (v := .ref k0) (C := RX10) (T := TX10) (N := 13) hx hb hT giX10 hown hK hP 0 rfl rfl 0 (by decide) (hT (Cond.fieldLink RX10 12 "DesertWire" "now" "LDesertWire$World;") mw_291) (fun _ h9 => h9) rfl dX10_count_175 ?_
    refine va_get (D := D) (ci := 9) (v := .ref k05) (C := RX9) (T := TX9) (N := 9) hx hb hT giX9 hown hK hP 1 rfl rfl 5 (by decide) (hT (Cond.fieldLink RX10 193 "DesertWire$World" "parties" "LDesertWire$Parties;") mw_102) (fun _ h9 => h9) rfl dX10_count_178 ?_
    refine kJi (wr := [(k, .inr (10, [.ref k0, .ref k1, .ref k2, .ref k3, .ref k4, .ref k5, .ref k6, .ref k7, .ref k8, .ref k9, .ref ka, .ref kb, .int cc])), (k0, .inr (9, [.ref k00, .ref k01, .ref k02, .ref k03, .ref k04, .ref k05, .int c06, .int c07, .int c08])), (k3, .inr (4, [.ref k30, .ref k31, .ref k32, .ref k33, .ref k34, .int c35, .int c36])), (k9, .inr (7, [.ref k90, .int c91, .int c92, .int c93, .int c94])), (kb, .inl (cI, 6, .inl cb)), (k04, .inr (8, [.ref k040, .ref k041, .ref k042, .ref k043, .ref k044, .ref k045, .ref k046, .ref k047, .ref k048, .int c049])), (k040, .inl (cI, 60, .inl c040)), (k044, .inl (cI, 60, .inl c044)), (k045, .inl (cI, 60, .inl c045)), (k046, .inl (cI, 40, .inl c046))]) (va_runV (As := []) (rest := []) ⟨hx, hb, hml, hown, hT⟩ (c_X3_allMenG l D cI aK aV k05 k050 s.heap.size c051 c050) (cwV 0 hT (gV_in mw_1141 mw_1138 mw_1139 mw_1140 mw_4) rfl rfl rfl (by decide +kernel) ⟨Nat.le_of_ble_eq_true rfl, Nat.le_of_ble_eq_true rfl⟩) (kRecvX (q0 := 6) (ci := 3) hK hP hD hN hXS hS hA rfl rfl [6, 11] rfl (by decide)) rfl rfl hl.1 rfl (lv_room (Nat.le_of_ble_eq_true rfl)) dX10_count_181 ⟨Nat.le_of_ble_eq_true rfl, Nat.le_of_ble_eq_true rfl⟩) hP hD hS hA [6, 11] [0, 1, 2, 3, 4, 5, 7, 8, 9, 10] rfl rfl (by decide) (by decide) (fun r_25 u_27 H locs w_26 hP hD hS => ?_)
    have hP : va_P D vwCl [(k, .inr (10, [.ref k0, .ref k1, .ref k2, .ref k3, .ref k4, .ref k5, .ref k6, .ref k7, .ref k8, .ref k9, .ref ka, .ref kb, .int cc])), (k0, .inr (9, [.ref k00, .ref k01, .ref k02, .ref k03, .ref k04, .ref k05, .int c06, .int c07, .int c08])), (k3, .inr (4, [.ref k30, .ref k31, .ref k32, .ref k33, .ref k34, .int c35, .int c36])), (k9, .inr (7, [.ref k90, .int c91, .int c92, .int c93, .int c94])), (kb, .inl (cI, 6, .inl cb)), (k04, .inr (8, [.ref k040, .ref k041, .ref k042, .ref k043, .ref k044, .ref k045, .ref k046, .ref k047, .ref k048, .int c049])), (k040, .inl (cI, 60, .inl c040)), (k044, .inl (cI, 60, .inl c044)), (k045, .inl (cI, 60, .inl c045)), (k046, .inl (cI, 40, .inl c046)), (k05, .inr (3, [.ref k050, .int c051])), (k050, .inl (cI, 36, .inl c050))] H := hP
    have hD : va_D A [(k, .inr (10, [.ref k0, .ref k1, .ref k2, .ref k3, .ref k4, .ref k5, .ref k6, .ref k7, .ref k8, .ref k9, .ref ka, .ref kb, .int cc])), (k0, .inr (9, [.ref k00, .ref k01, .ref k02, .ref k03, .ref k04, .ref k05, .int c06, .int c07, .int c08])), (k3, .inr (4, [.ref k30, .ref k31, .ref k32, .ref k33, .ref k34, .int c35, .int c36])), (k9, .inr (7, [.ref k90, .int c91, .int c92, .int c93, .int c94])), (kb, .inl (cI, 6, .inl cb)), (k04, .inr (8, [.ref k040, .ref k041, .ref k042, .ref k043, .ref k044, .ref k045, .ref k046, .ref k047, .ref k048, .int c049])), (k040, .inl (cI, 60, .inl c040)), (k044, .inl (cI, 60, .inl c044)), (k045, .inl (cI, 60, .inl c045)), (k046, .inl (cI, 40, .inl c046)), (k05, .inr (3, [.ref k050, .int c051])), (k050, .inl (cI, 36, .inl c050))] := hD
    have lo_r_25 := k_lo r_25
    have hi_r_25 := k_hi r_25
    exact hRet cb [0, 1, 2, 3, 4, 5, 10, 6, 7, 8, 9, 11] trivial hP hD (by decide) rfl hS rfl dX10_count_184
  by_cases c_28 : a0.toInt = 12
  · refine lv_tableIn (off := 184) (tgt := 185) hx hb dX10_count_1 (by omega) (by omega) (by rw [c_28]; decide) (by decide) ?_
    refine lv_aload_n hx hb dX10_count_185 rfl (lv_at hl 0 rfl) ?_
    refine va_get (D := D) (ci := 10) (v := .ref k0) (C := RX10) (T := TX10) (N := 13) hx hb hT giX10 hown hK hP 0 rfl rfl 0 (by decide) (hT (Cond.fieldLink RX10 12 "DesertWire" "now" "LDesertWire$World;") mw_291) (fun _ h9 => h9) rfl dX10_count_186 ?_
    refine va_get (D := D) (ci := 9) (v := .ref k04) (C := RX9) (T := TX9) (N := 9) hx hb hT giX9 hown hK hP 1 rfl rfl 4 (by decide) (hT (Cond.fieldLink RX10 99 "DesertWire$World" "works" "LDesertWire$Works;") mw_99) (fun _ h9 => h9) rfl dX10_count_189 ?_
    refine kJi (wr := [(k, .inr (10, [.ref k0, .ref k1, .ref k2, .ref k3, .ref k4, .ref k5, .ref k6, .ref k7, .ref k8, .ref k9, .ref ka, .ref kb, .int cc])), (k0, .inr (9, [.ref k00, .ref k01, .ref k02, .ref k03, .ref k04, .ref k05, .int c06, .int c07, .int c08])), (k3, .inr (4, [.ref k30, .ref k31, .ref k32, .ref k33, .ref k34, .int c35, .int c36])), (k9, .inr (7, [.ref k90, .int c91, .int c92, .int c93, .int c94])), (kb, .inl (cI, 6, .inl cb)), (k05, .inr (3, [.ref k050, .int c051])), (k046, .inl (cI, 40, .inl c046)), (k050, .inl (cI, 36, .inl c050))]) (va_runV (As := []) (rest := []) ⟨hx, hb, hml, hown, hT⟩ (c_X8_storedFoodG l D cI aK aV k04 k040 k041 k042 k043 k044 k045 k046 k047 k048 s.heap.size c049 c040 c044 c045) (cwV 0 hT (gV_in mw_1145 mw_1142 mw_1143 mw_1144 mw_3) rfl rfl rfl (by decide +kernel) ⟨Nat.le_of_ble_eq_true rfl, Nat.le_of_ble_eq_true rfl⟩) (kRecvX (q0 := 5) (ci := 8) hK hP hD hN hXS hS hA rfl rfl [5, 7, 8, 9] rfl (by decide)) rfl rfl hl.1 rfl (lv_room (Nat.le_of_ble_eq_true rfl)) dX10_count_192 ⟨Nat.le_of_ble_eq_true rfl, Nat.le_of_ble_eq_true rfl⟩) hP hD hS hA [5, 7, 8, 9] [0, 1, 2, 3, 4, 6, 10, 11] rfl rfl (by decide) (by decide) (fun r_29 u_31 H locs w_30 hP hD hS => ?_)
    have hP : va_P D vwCl [(k, .inr (10, [.ref k0, .ref k1, .ref k2, .ref k3, .ref k4, .ref k5, .ref k6, .ref k7, .ref k8, .ref k9, .ref ka, .ref kb, .int cc])), (k0, .inr (9, [.ref k00, .ref k01, .ref k02, .ref k03, .ref k04, .ref k05, .int c06, .int c07, .int c08])), (k3, .inr (4, [.ref k30, .ref k31, .ref k32, .ref k33, .ref k34, .int c35, .int c36])), (k9, .inr (7, [.ref k90, .int c91, .int c92, .int c93, .int c94])), (kb, .inl (cI, 6, .inl cb)), (k05, .inr (3, [.ref k050, .int c051])), (k046, .inl (cI, 40, .inl c046)), (k050, .inl (cI, 36, .inl c050)), (k04, .inr (8, [.ref k040, .ref k041, .ref k042, .ref k043, .ref k044, .ref k045, .ref k046, .ref k047, .ref k048, .int c049])), (k040, .inl (cI, 60, .inl c040)), (k044, .inl (cI, 60, .inl c044)), (k045, .inl (cI, 60, .inl c045))] H := hP
    have hD : va_D A [(k, .inr (10, [.ref k0, .ref k1, .ref k2, .ref k3, .ref k4, .ref k5, .ref k6, .ref k7, .ref k8, .ref k9, .ref ka, .ref kb, .int cc])), (k0, .inr (9, [.ref k00, .ref k01, .ref k02, .ref k03, .ref k04, .ref k05, .int c06, .int c07, .int c08])), (k3, .inr (4, [.ref k30, .ref k31, .ref k32, .ref k33, .ref k34, .int c35, .int c36])), (k9, .inr (7, [.ref k90, .int c91, .int c92, .int c93, .int c94])), (kb, .inl (cI, 6, .inl cb)), (k05, .inr (3, [.ref k050, .int c051])), (k046, .inl (cI, 40, .inl c046)), (k050, .inl (cI, 36, .inl c050)), (k04, .inr (8, [.ref k040, .ref k041, .ref k042, .ref k043, .ref k044, .ref k045, .ref k046, .ref k047, .ref k048, .int c049])), (k040, .inl (cI, 60, .inl c040)), (k044, .inl (cI, 60, .inl c044)), (k045, .inl (cI, 60, .inl c045))] := hD
    have lo_r_29 := k_lo r_29
    have hi_r_29 := k_hi r_29
    exact hRet cb [0, 1, 2, 3, 4, 8, 5, 9, 10, 11, 6, 7] trivial hP hD (by decide) rfl hS rfl dX10_count_195
  refine lv_tableOut (tgt := 196) hx hb dX10_count_1 (by omega) (by decide) ?_
  refine lv_aload_n hx hb dX10_count_196 rfl (lv_at hl 0 rfl) ?_
  refine lv_iconst (v := 1) hx hb dX10_count_197 (by decide) ?_
  refine kJi (wr := [(k0, .inr (9, [.ref k00, .ref k01, .ref k02, .ref k03, .ref k04, .ref k05, .int c06, .int c07, .int c08])), (k3, .inr (4, [.ref k30, .ref k31, .ref k32, .ref k33, .ref k34, .int c35, .int c36])), (k9, .inr (7, [.ref k90, .int c91, .int c92, .int c93, .int c94])), (k04, .inr (8, [.ref k040, .ref k041, .ref k042, .ref k043, .ref k044, .ref k045, .ref k046, .ref k047, .ref k048, .int c049])), (k05, .inr (3, [.ref k050, .int c051])), (k040, .inl (cI, 60, .inl c040)), (k044, .inl (cI, 60, .inl c044)), (k045, .inl (cI, 60, .inl c045)), (k046, .inl (cI, 40, .inl c046)), (k050, .inl (cI, 36, .inl c050))]) (va_runV (As := [.int 1]) (rest := []) ⟨hx, hb, hml, hown, hT⟩ (c_X10_findingG l D cI aK aV k k0 k1 k2 k3 k4 k5 k6 k7 k8 k9 ka kb s.heap.size cc cb 1) (cwV 1 hT (gV_in mw_338 mw_335 mw_337 mw_p1_0 mw_1) rfl rfl rfl (by decide +kernel) ⟨Nat.le_of_ble_eq_true rfl, Nat.le_of_ble_eq_true rfl⟩) (kRecvX (q0 := 0) (ci := 10) hK hP hD hN hXS hS hA rfl rfl [0, 4] rfl (by decide)) rfl rfl hl.1 rfl (lv_room (Nat.le_of_ble_eq_true rfl)) dX10_count_198 ⟨Nat.le_of_ble_eq_true rfl, Nat.le_of_ble_eq_true rfl⟩) hP hD hS hA [0, 4] [1, 2, 3, 5, 6, 7, 8, 9, 10, 11] rfl rfl (by decide) (by decide) (fun r_32 scb_34 H locs w_33 hP hD hS => ?_)
  have hP : va_P D vwCl [(k0, .inr (9, [.ref k00, .ref k01, .ref k02, .ref k03, .ref k04, .ref k05, .int c06, .int c07, .int c08])), (k3, .inr (4, [.ref k30, .ref k31, .ref k32, .ref k33, .ref k34, .int c35, .int c36])), (k9, .inr (7, [.ref k90, .int c91, .int c92, .int c93, .int c94])), (k04, .inr (8, [.ref k040, .ref k041, .ref k042, .ref k043, .ref k044, .ref k045, .ref k046, .ref k047, .ref k048, .int c049])), (k05, .inr (3, [.ref k050, .int c051])), (k040, .inl (cI, 60, .inl c040)), (k044, .inl (cI, 60, .inl c044)), (k045, .inl (cI, 60, .inl c045)), (k046, .inl (cI, 40, .inl c046)), (k050, .inl (cI, 36, .inl c050)), (k, .inr (10, [.ref k0, .ref k1, .ref k2, .ref k3, .ref k4, .ref k5, .ref k6, .ref k7, .ref k8, .ref k9, .ref ka, .ref kb, .int cc])), (kb, .inl (cI, 6, .inl scb_34))] H := hP
  have hD : va_D A [(k0, .inr (9, [.ref k00, .ref k01, .ref k02, .ref k03, .ref k04, .ref k05, .int c06, .int c07, .int c08])), (k3, .inr (4, [.ref k30, .ref k31, .ref k32, .ref k33, .ref k34, .int c35, .int c36])), (k9, .inr (7, [.ref k90, .int c91, .int c92, .int c93, .int c94])), (k04, .inr (8, [.ref k040, .ref k041, .ref k042, .ref k043, .ref k044, .ref k045, .ref k046, .ref k047, .ref k048, .int c049])), (k05, .inr (3, [.ref k050, .int c051])), (k040, .inl (cI, 60, .inl c040)), (k044, .inl (cI, 60, .inl c044)), (k045, .inl (cI, 60, .inl c045)), (k046, .inl (cI, 40, .inl c046)), (k050, .inl (cI, 36, .inl c050)), (k, .inr (10, [.ref k0, .ref k1, .ref k2, .ref k3, .ref k4, .ref k5, .ref k6, .ref k7, .ref k8, .ref k9, .ref ka, .ref kb, .int cc])), (kb, .inl (cI, 6, .inl scb_34))] := hD
  have lo_r_32 := k_lo r_32
  have hi_r_32 := k_hi r_32
  exact hRet scb_34 [10, 0, 1, 2, 11, 3, 4, 5, 6, 7, 8, 9] trivial hP hD (by decide) rfl hS rfl dX10_count_201
theorem dX10_found_0 : decode cX10_found 0 = .ok (.iload_n 1, 1) := by decide +kernel
theorem dX10_found_1 : decode cX10_found 1 = .ok (.iconst 1, 1) := by decide +kernel
theorem dX10_found_2 : decode cX10_found 2 = .ok (.if_icmp .lt 8, 3) := by decide +kernel
theorem dX10_found_5 : decode cX10_found 5 = .ok (.iload_n 1, 1) := by decide +kernel
theorem dX10_found_6 : decode cX10_found 6 = .ok (.iconst 5, 1) := by decide +kernel
theorem dX10_found_7 : decode cX10_found 7 = .ok (.if_icmp .le 9, 3) := by decide +kernel
theorem dX10_found_10 : decode cX10_found 10 = .ok (.aload_n 0, 1) := by decide +kernel
theorem dX10_found_11 : decode cX10_found 11 = .ok (.iconst 1, 1) := by decide +kernel
theorem dX10_found_12 : decode cX10_found 12 = .ok (.invokevirtual 82, 3) := by decide +kernel
theorem dX10_found_15 : decode cX10_found 15 = .ok (.ireturn, 1) := by decide +kernel
theorem dX10_found_16 : decode cX10_found 16 = .ok (.aload_n 0, 1) := by decide +kernel
theorem dX10_found_17 : decode cX10_found 17 = .ok (.getfield 74, 3) := by decide +kernel
theorem dX10_found_20 : decode cX10_found 20 = .ok (.iload_n 1, 1) := by decide +kernel
theorem dX10_found_21 : decode cX10_found 21 = .ok (.iaload, 1) := by decide +kernel
theorem dX10_found_22 : decode cX10_found 22 = .ok (.ireturn, 1) := by decide +kernel
set_option maxHeartbeats 4000000 in
set_option maxRecDepth 100000 in
theorem c_X10_foundG (l : Launch) (D : va_G) (cI : ClassId) (aK aV : Nat → Nat) (k k0 k1 k2 k3 k4 k5 k6 k7 k8 k9 ka kb : Nat) (sz : Nat) (cc : Int32) (cb : Nat → Int32) (a0 : Int32) : Met l yX10_found (gW yX10_found cX10_found 2 (some .int)) ({ frames := 1, cells := 0, slots := 0, locals := 21 } : Room) (kPreX D cI aK aV [.ref k, .int a0] [(k, .inr (10, [.ref k0, .ref k1, .ref k2, .ref k3, .ref k4, .ref k5, .ref k6, .ref k7, .ref k8, .ref k9, .ref ka, .ref kb, .int cc])), (kb, .inl (cI, 6, .inl cb))] sz) (va_Qi (fun (r : Int32) (u : (Nat → Int32)) => True) (fun u t => kWd D cI (va_A [(k, .inr (10, [.ref k0, .ref k1, .ref k2, .ref k3, .ref k4, .ref k5, .ref k6, .ref k7, .ref k8, .ref k9, .ref ka, .ref kb, .int cc])), (kb, .inl (cI, 6, .inl cb))] sz) [(k, .inr (10, [.ref k0, .ref k1, .ref k2, .ref k3, .ref k4, .ref k5, .ref k6, .ref k7, .ref k8, .ref k9, .ref ka, .ref kb, .int cc])), (kb, .inl (cI, 6, .inl u))] t) (va_A [(k, .inr (10, [.ref k0, .ref k1, .ref k2, .ref k3, .ref k4, .ref k5, .ref k6, .ref k7, .ref k8, .ref k9, .ref ka, .ref kb, .int cc])), (kb, .inl (cI, 6, .inl cb))] sz)) 0 0 (va_A [(k, .inr (10, [.ref k0, .ref k1, .ref k2, .ref k3, .ref k4, .ref k5, .ref k6, .ref k7, .ref k8, .ref k9, .ref ka, .ref kb, .int cc])), (kb, .inl (cI, 6, .inl cb))] sz) := by
  refine kMetIX (own := RX10) (by decide) rfl (Nat.le_of_ble_eq_true rfl) ?_
  intro p e s m args below meth c hx hb hT hown hname hml A Q hK hP hD hS hA hN hXS hRet ls hl
  have hl : lv_has ls 2 [(0, .ref k), (1, .int a0)] := hl
  have lo_a0 := k_lo a0
  have hi_a0 := k_hi a0
  have lo_cc := k_lo cc
  have hi_cc := k_hi cc
  refine lv_iload_n hx hb dX10_found_0 rfl (lv_at hl 1 rfl) ?_
  refine lv_iconst (v := 1) hx hb dX10_found_1 (by decide) ?_
  refine b_icmp_lt hx hb rfl zl_1 (tgt := 10) dX10_found_2 (by decide) (fun c_1 => ?_) (fun c_1 => ?_)
  · refine lv_aload_n hx hb dX10_found_10 rfl (lv_at hl 0 rfl) ?_
    refine lv_iconst (v := 1) hx hb dX10_found_11 (by decide) ?_
    refine kJi (wr := []) (va_runV (As := [.int 1]) (rest := []) ⟨hx, hb, hml, hown, hT⟩ (c_X10_findingG l D cI aK aV k k0 k1 k2 k3 k4 k5 k6 k7 k8 k9 ka kb s.heap.size cc cb 1) (cwV 1 hT (gV_in mw_338 mw_335 mw_337 mw_p1_0 mw_1) rfl rfl rfl (by decide +kernel) ⟨Nat.le_of_ble_eq_true rfl, Nat.le_of_ble_eq_true rfl⟩) (kRecvX (q0 := 0) (ci := 10) hK hP hD hN hXS hS hA rfl rfl [0, 1] rfl (by decide)) rfl rfl hl.1 rfl (lv_room (Nat.le_of_ble_eq_true rfl)) dX10_found_12 ⟨Nat.le_of_ble_eq_true rfl, Nat.le_of_ble_eq_true rfl⟩) hP hD hS hA [0, 1] [] rfl rfl (by decide) (by decide) (fun r_2 scb_4 H locs w_3 hP hD hS => ?_)
    have hP : va_P D vwCl [(k, .inr (10, [.ref k0, .ref k1, .ref k2, .ref k3, .ref k4, .ref k5, .ref k6, .ref k7, .ref k8, .ref k9, .ref ka, .ref kb, .int cc])), (kb, .inl (cI, 6, .inl scb_4))] H := hP
    have hD : va_D A [(k, .inr (10, [.ref k0, .ref k1, .ref k2, .ref k3, .ref k4, .ref k5, .ref k6, .ref k7, .ref k8, .ref k9, .ref ka, .ref kb, .int cc])), (kb, .inl (cI, 6, .inl scb_4))] := hD
    have lo_r_2 := k_lo r_2
    have hi_r_2 := k_hi r_2
    exact hRet scb_4 [0, 1] trivial hP hD (by decide) rfl hS rfl dX10_found_15
  · refine lv_iload_n hx hb dX10_found_5 rfl (lv_at hl 1 rfl) ?_
    refine lv_iconst (v := 5) hx hb dX10_found_6 (by decide) ?_
    refine b_icmp_le hx hb rfl zl_5 (tgt := 16) dX10_found_7 (by decide) (fun c_5 => ?_) (fun c_5 => ?_)
    · refine lv_aload_n hx hb dX10_found_16 rfl (lv_at hl 0 rfl) ?_
      refine va_get (D := D) (ci := 10) (v := .ref kb) (C := RX10) (T := TX10) (N := 13) hx hb hT giX10 hown hK hP 0 rfl rfl 11 (by decide) (hT (Cond.fieldLink RX10 74 "DesertWire" "findings" "[I") mw_302) (fun _ h9 => h9) rfl dX10_found_17 ?_
      refine lv_iload_n hx hb dX10_found_20 rfl (lv_at hl 1 rfl) ?_
      refine k_iald (v := (cb a0.toNatClampNeg)) hx hb hK hP 1 0 rfl rfl (k_in (by omega) (by omega)) rfl dX10_found_21 ?_
      refine lv_topi (fun v_6 ev_6 => ?_)
      have lo_v_6 := k_lo v_6
      have hi_v_6 := k_hi v_6
      have tv_6 : v_6.toInt = (cb a0.toNatClampNeg).toInt := by rw [ev_6]
      exact hRet cb [0, 1] trivial hP hD (by decide) rfl hS rfl dX10_found_22
    · refine lv_aload_n hx hb dX10_found_10 rfl (lv_at hl 0 rfl) ?_
      refine lv_iconst (v := 1) hx hb dX10_found_11 (by decide) ?_
      refine kJi (wr := []) (va_runV (As := [.int 1]) (rest := []) ⟨hx, hb, hml, hown, hT⟩ (c_X10_findingG l D cI aK aV k k0 k1 k2 k3 k4 k5 k6 k7 k8 k9 ka kb s.heap.size cc cb 1) (cwV 1 hT (gV_in mw_338 mw_335 mw_337 mw_p1_0 mw_1) rfl rfl rfl (by decide +kernel) ⟨Nat.le_of_ble_eq_true rfl, Nat.le_of_ble_eq_true rfl⟩) (kRecvX (q0 := 0) (ci := 10) hK hP hD hN hXS hS hA rfl rfl [0, 1] rfl (by decide)) rfl rfl hl.1 rfl (lv_room (Nat.le_of_ble_eq_true rfl)) dX10_found_12 ⟨Nat.le_of_ble_eq_true rfl, Nat.le_of_ble_eq_true rfl⟩) hP hD hS hA [0, 1] [] rfl rfl (by decide) (by decide) (fun r_7 scb_9 H locs w_8 hP hD hS => ?_)
      have hP : va_P D vwCl [(k, .inr (10, [.ref k0, .ref k1, .ref k2, .ref k3, .ref k4, .ref k5, .ref k6, .ref k7, .ref k8, .ref k9, .ref ka, .ref kb, .int cc])), (kb, .inl (cI, 6, .inl scb_9))] H := hP
      have hD : va_D A [(k, .inr (10, [.ref k0, .ref k1, .ref k2, .ref k3, .ref k4, .ref k5, .ref k6, .ref k7, .ref k8, .ref k9, .ref ka, .ref kb, .int cc])), (kb, .inl (cI, 6, .inl scb_9))] := hD
      have lo_r_7 := k_lo r_7
      have hi_r_7 := k_hi r_7
      exact hRet scb_9 [0, 1] trivial hP hD (by decide) rfl hS rfl dX10_found_15
theorem dX10_check_0 : decode cX10_check 0 = .ok (.iconst 0, 1) := by decide +kernel
theorem dX10_check_1 : decode cX10_check 1 = .ok (.istore_n 1, 1) := by decide +kernel
theorem dX10_check_2 : decode cX10_check 2 = .ok (.iconst 0, 1) := by decide +kernel
theorem dX10_check_3 : decode cX10_check 3 = .ok (.istore_n 2, 1) := by decide +kernel
theorem dX10_check_4 : decode cX10_check 4 = .ok (.iload_n 1, 1) := by decide +kernel
theorem dX10_check_5 : decode cX10_check 5 = .ok (.ifCond .ne 50, 3) := by decide +kernel
theorem dX10_check_8 : decode cX10_check 8 = .ok (.iload_n 2, 1) := by decide +kernel
theorem dX10_check_9 : decode cX10_check 9 = .ok (.aload_n 0, 1) := by decide +kernel
theorem dX10_check_10 : decode cX10_check 10 = .ok (.getfield 12, 3) := by decide +kernel
theorem dX10_check_13 : decode cX10_check 13 = .ok (.getfield 381, 3) := by decide +kernel
theorem dX10_check_16 : decode cX10_check 16 = .ok (.if_icmp .ge 39, 3) := by decide +kernel
theorem dX10_check_19 : decode cX10_check 19 = .ok (.iload_n 2, 1) := by decide +kernel
theorem dX10_check_20 : decode cX10_check 20 = .ok (.bipush 20, 2) := by decide +kernel
theorem dX10_check_22 : decode cX10_check 22 = .ok (.if_icmp .ge 33, 3) := by decide +kernel
theorem dX10_check_25 : decode cX10_check 25 = .ok (.aload_n 0, 1) := by decide +kernel
theorem dX10_check_26 : decode cX10_check 26 = .ok (.getfield 12, 3) := by decide +kernel
theorem dX10_check_29 : decode cX10_check 29 = .ok (.getfield 384, 3) := by decide +kernel
theorem dX10_check_32 : decode cX10_check 32 = .ok (.iload_n 2, 1) := by decide +kernel
theorem dX10_check_33 : decode cX10_check 33 = .ok (.iaload, 1) := by decide +kernel
theorem dX10_check_34 : decode cX10_check 34 = .ok (.aload_n 0, 1) := by decide +kernel
theorem dX10_check_35 : decode cX10_check 35 = .ok (.getfield 12, 3) := by decide +kernel
theorem dX10_check_38 : decode cX10_check 38 = .ok (.iload_n 2, 1) := by decide +kernel
theorem dX10_check_39 : decode cX10_check 39 = .ok (.invokevirtual 164, 3) := by decide +kernel
theorem dX10_check_42 : decode cX10_check 42 = .ok (.if_icmp .eq 7, 3) := by decide +kernel
theorem dX10_check_45 : decode cX10_check 45 = .ok (.iconst 1, 1) := by decide +kernel
theorem dX10_check_46 : decode cX10_check 46 = .ok (.iload_n 2, 1) := by decide +kernel
theorem dX10_check_47 : decode cX10_check 47 = .ok (.iadd, 1) := by decide +kernel
theorem dX10_check_48 : decode cX10_check 48 = .ok (.istore_n 1, 1) := by decide +kernel
theorem dX10_check_49 : decode cX10_check 49 = .ok (.iinc 2 1, 3) := by decide +kernel
theorem dX10_check_52 : decode cX10_check 52 = .ok (.goto (-48), 3) := by decide +kernel
theorem dX10_check_55 : decode cX10_check 55 = .ok (.aload_n 0, 1) := by decide +kernel
theorem dX10_check_56 : decode cX10_check 56 = .ok (.getfield 12, 3) := by decide +kernel
theorem dX10_check_59 : decode cX10_check 59 = .ok (.iconst 0, 1) := by decide +kernel
theorem dX10_check_60 : decode cX10_check 60 = .ok (.putfield 381, 3) := by decide +kernel
theorem dX10_check_63 : decode cX10_check 63 = .ok (.iload_n 1, 1) := by decide +kernel
theorem dX10_check_64 : decode cX10_check 64 = .ok (.ireturn, 1) := by decide +kernel
set_option maxHeartbeats 4000000 in
set_option maxRecDepth 100000 in
theorem c_X10_checkG (l : Launch) (D : va_G) (cI : ClassId) (aK aV : Nat → Nat) (k k0 k1 k2 k3 k4 k5 k6 k7 k8 k9 ka kb k00 k01 k02 k03 k04 k05 k040 k041 k042 k043 k044 k045 k046 k047 k048 : Nat) (sz : Nat) (cc : Int32) (c06 : Int32) (c07 : Int32) (c08 : Int32) (c00 : Nat → Int32) (c03 : Nat → Int32) (c049 : Int32) (c040 : Nat → Int32) (c041 : Nat → Int32) (c043 : Nat → Int32) (c045 : Nat → Int32) (c046 : Nat → Int32) : Met l yX10_check (gW yX10_check cX10_check 3 (some .int)) ({ frames := 3, cells := 0, slots := 0, locals := 68 } : Room) (kPreX D cI aK aV [.ref k] [(k, .inr (10, [.ref k0, .ref k1, .ref k2, .ref k3, .ref k4, .ref k5, .ref k6, .ref k7, .ref k8, .ref k9, .ref ka, .ref kb, .int cc])), (k0, .inr (9, [.ref k00, .ref k01, .ref k02, .ref k03, .ref k04, .ref k05, .int c06, .int c07, .int c08])), (k00, .inl (cI, 12, .inl c00)), (k03, .inl (cI, 20, .inl c03)), (k04, .inr (8, [.ref k040, .ref k041, .ref k042, .ref k043, .ref k044, .ref k045, .ref k046, .ref k047, .ref k048, .int c049])), (k040, .inl (cI, 60, .inl c040)), (k041, .inl (cI, 60, .inl c041)), (k043, .inl (cI, 60, .inl c043)), (k045, .inl (cI, 60, .inl c045)), (k046, .inl (cI, 40, .inl c046))] sz) (va_Qi (fun (r : Int32) (u : Int32) => True) (fun u t => kWd D cI (va_A [(k, .inr (10, [.ref k0, .ref k1, .ref k2, .ref k3, .ref k4, .ref k5, .ref k6, .ref k7, .ref k8, .ref k9, .ref ka, .ref kb, .int cc])), (k0, .inr (9, [.ref k00, .ref k01, .ref k02, .ref k03, .ref k04, .ref k05, .int c06, .int c07, .int c08])), (k00, .inl (cI, 12, .inl c00)), (k03, .inl (cI, 20, .inl c03)), (k04, .inr (8, [.ref k040, .ref k041, .ref k042, .ref k043, .ref k044, .ref k045, .ref k046, .ref k047, .ref k048, .int c049])), (k040, .inl (cI, 60, .inl c040)), (k041, .inl (cI, 60, .inl c041)), (k043, .inl (cI, 60, .inl c043)), (k045, .inl (cI, 60, .inl c045)), (k046, .inl (cI, 40, .inl c046))] sz) [(k, .inr (10, [.ref k0, .ref k1, .ref k2, .ref k3, .ref k4, .ref k5, .ref k6, .ref k7, .ref k8, .ref k9, .ref ka, .ref kb, .int cc])), (k0, .inr (9, [.ref k00, .ref k01, .ref k02, .ref k03, .ref k04, .ref k05, .int u, .int c07, .int c08])), (k00, .inl (cI, 12, .inl c00)), (k03, .inl (cI, 20, .inl c03)), (k04, .inr (8, [.ref k040, .ref k041, .ref k042, .ref k043, .ref k044, .ref k045, .ref k046, .ref k047, .ref k048, .int c049])), (k040, .inl (cI, 60, .inl c040)), (k041, .inl (cI, 60, .inl c041)), (k043, .inl (cI, 60, .inl c043)), (k045, .inl (cI, 60, .inl c045)), (k046, .inl (cI, 40, .inl c046))] t) (va_A [(k, .inr (10, [.ref k0, .ref k1, .ref k2, .ref k3, .ref k4, .ref k5, .ref k6, .ref k7, .ref k8, .ref k9, .ref ka, .ref kb, .int cc])), (k0, .inr (9, [.ref k00, .ref k01, .ref k02, .ref k03, .ref k04, .ref k05, .int c06, .int c07, .int c08])), (k00, .inl (cI, 12, .inl c00)), (k03, .inl (cI, 20, .inl c03)), (k04, .inr (8, [.ref k040, .ref k041, .ref k042, .ref k043, .ref k044, .ref k045, .ref k046, .ref k047, .ref k048, .int c049])), (k040, .inl (cI, 60, .inl c040)), (k041, .inl (cI, 60, .inl c041)), (k043, .inl (cI, 60, .inl c043)), (k045, .inl (cI, 60, .inl c045)), (k046, .inl (cI, 40, .inl c046))] sz)) 0 0 (va_A [(k, .inr (10, [.ref k0, .ref k1, .ref k2, .ref k3, .ref k4, .ref k5, .ref k6, .ref k7, .ref k8, .ref k9, .ref ka, .ref kb, .int cc])), (k0, .inr (9, [.ref k00, .ref k01, .ref k02, .ref k03, .ref k04, .ref k05, .int c06, .int c07, .int c08])), (k00, .inl (cI, 12, .inl c00)), (k03, .inl (cI, 20, .inl c03)), (k04, .inr (8, [.ref k040, .ref k041, .ref k042, .ref k043, .ref k044, .ref k045, .ref k046, .ref k047, .ref k048, .int c049])), (k040, .inl (cI, 60, .inl c040)), (k041, .inl (cI, 60, .inl c041)), (k043, .inl (cI, 60, .inl c043)), (k045, .inl (cI, 60, .inl c045)), (k046, .inl (cI, 40, .inl c046))] sz) := by
  refine kMetIX (own := RX10) (by decide) rfl (Nat.le_of_ble_eq_true rfl) ?_
  intro p e s m args below meth c hx hb hT hown hname hml A Q hK hP hD hS hA hN hXS hRet ls hl
  have hl : lv_has ls 3 [(0, .ref k)] := hl
  have lo_cc := k_lo cc
  have hi_cc := k_hi cc
  have lo_c06 := k_lo c06
  have hi_c06 := k_hi c06
  have lo_c07 := k_lo c07
  have hi_c07 := k_hi c07
  have lo_c08 := k_lo c08
  have hi_c08 := k_hi c08
  have lo_c049 := k_lo c049
  have hi_c049 := k_hi c049
  refine lv_iconst (v := 0) hx hb dX10_check_0 (by decide) ?_
  refine lv_istore_n (lv' := [(1, .int 0), (0, .ref k)]) hx hb dX10_check_1 rfl hl (by decide) rfl (fun ls hl => ?_)
  refine lv_iconst (v := 0) hx hb dX10_check_2 (by decide) ?_
  refine lv_istore_n (lv' := [(2, .int 0), (1, .int 0), (0, .ref k)]) hx hb dX10_check_3 rfl hl (by decide) rfl (fun ls hl => ?_)
  have hloop_4 : ∀ (fu_ : Nat) (l4_1 : Int32) (l4_2 : Int32), 0 ≤ l4_1.toInt → 0 ≤ l4_2.toInt → (20 - l4_2.toInt).toNat < fu_ → ∀ (ls : Array Slot) (H : Heap) (locs : List Loc), lv_has ls 3 [(2, .int l4_2), (1, .int l4_1), (0, .ref k)] → va_P D vwCl [(k, .inr (10, [.ref k0, .ref k1, .ref k2, .ref k3, .ref k4, .ref k5, .ref k6, .ref k7, .ref k8, .ref k9, .ref ka, .ref kb, .int cc])), (k0, .inr (9, [.ref k00, .ref k01, .ref k02, .ref k03, .ref k04, .ref k05, .int c06, .int c07, .int c08])), (k00, .inl (cI, 12, .inl c00)), (k03, .inl (cI, 20, .inl c03)), (k04, .inr (8, [.ref k040, .ref k041, .ref k042, .ref k043, .ref k044, .ref k045, .ref k046, .ref k047, .ref k048, .int c049])), (k040, .inl (cI, 60, .inl c040)), (k041, .inl (cI, 60, .inl c041)), (k043, .inl (cI, 60, .inl c043)), (k045, .inl (cI, 60, .inl c045)), (k046, .inl (cI, 40, .inl c046))] H → va_D A [(k, .inr (10, [.ref k0, .ref k1, .ref k2, .ref k3, .ref k4, .ref k5, .ref k6, .ref k7, .ref k8, .ref k9, .ref ka, .ref kb, .int cc])), (k0, .inr (9, [.ref k00, .ref k01, .ref k02, .ref k03, .ref k04, .ref k05, .int c06, .int c07, .int c08])), (k00, .inl (cI, 12, .inl c00)), (k03, .inl (cI, 20, .inl c03)), (k04, .inr (8, [.ref k040, .ref k041, .ref k042, .ref k043, .ref k044, .ref k045, .ref k046, .ref k047, .ref k048, .int c049])), (k040, .inl (cI, 60, .inl c040)), (k041, .inl (cI, 60, .inl c041)), (k043, .inl (cI, 60, .inl c043)), (k045, .inl (cI, 60, .inl c045)), (k046, .inl (cI, 40, .inl c046))] → va_S A s.heap H locs → W p l e ({ frames := 3, cells := 0, slots := 0, locals := 68 } : Room) s m args below meth c H locs 0 0 Q (F0 m 4 ls []) := by
    intro fu_; induction fu_ with
    | zero => intro l4_1 l4_2 i4_0 i4_1 hm; exact absurd hm (by omega)
    | succ fu_ ih4 =>
        intro l4_1 l4_2 i4_0 i4_1 hm ls H locs hl hP hD hS
        have lo_l4_1 := k_lo l4_1
        have hi_l4_1 := k_hi l4_1
        have lo_l4_2 := k_lo l4_2
        have hi_l4_2 := k_hi l4_2
        refine lv_iload_n hx hb dX10_check_4 rfl (lv_at hl 1 rfl) ?_
        refine b_if_ne hx hb rfl (tgt := 55) dX10_check_5 (by decide) (fun c_1 => ?_) (fun c_1 => ?_)
        · refine lv_aload_n hx hb dX10_check_55 rfl (lv_at hl 2 rfl) ?_
          refine va_get (D := D) (ci := 10) (v := .ref k0) (C := RX10) (T := TX10) (N := 13) hx hb hT giX10 hown hK hP 0 rfl rfl 0 (by decide) (hT (Cond.fieldLink RX10 12 "DesertWire" "now" "LDesertWire$World;") mw_291) (fun _ h9 => h9) rfl dX10_check_56 ?_
          refine lv_iconst (v := 0) hx hb dX10_check_59 (by decide) ?_
          refine va_put (D := D) (ci := 9) (v := .int 0) (ty := .int) (C := RX9) (T := TX9) (N := 9) hx hb hT giX9 tyX9 tyX9_ok nmX9 hown hK hP hD hS 1 rfl rfl 6 (by decide) (hT (Cond.fieldLink RX10 381 "DesertWire$World" "waiting" "I") mw_104) (fun _ h9 => h9) rfl (by decide +kernel) rfl rfl (Nat.le_of_ble_eq_true rfl) dX10_check_60 (fun H locs hP hD hS => ?_)
          have hP : va_P D vwCl [(k, .inr (10, [.ref k0, .ref k1, .ref k2, .ref k3, .ref k4, .ref k5, .ref k6, .ref k7, .ref k8, .ref k9, .ref ka, .ref kb, .int cc])), (k0, .inr (9, [.ref k00, .ref k01, .ref k02, .ref k03, .ref k04, .ref k05, .int 0, .int c07, .int c08])), (k00, .inl (cI, 12, .inl c00)), (k03, .inl (cI, 20, .inl c03)), (k04, .inr (8, [.ref k040, .ref k041, .ref k042, .ref k043, .ref k044, .ref k045, .ref k046, .ref k047, .ref k048, .int c049])), (k040, .inl (cI, 60, .inl c040)), (k041, .inl (cI, 60, .inl c041)), (k043, .inl (cI, 60, .inl c043)), (k045, .inl (cI, 60, .inl c045)), (k046, .inl (cI, 40, .inl c046))] H := hP
          have hD : va_D A [(k, .inr (10, [.ref k0, .ref k1, .ref k2, .ref k3, .ref k4, .ref k5, .ref k6, .ref k7, .ref k8, .ref k9, .ref ka, .ref kb, .int cc])), (k0, .inr (9, [.ref k00, .ref k01, .ref k02, .ref k03, .ref k04, .ref k05, .int 0, .int c07, .int c08])), (k00, .inl (cI, 12, .inl c00)), (k03, .inl (cI, 20, .inl c03)), (k04, .inr (8, [.ref k040, .ref k041, .ref k042, .ref k043, .ref k044, .ref k045, .ref k046, .ref k047, .ref k048, .int c049])), (k040, .inl (cI, 60, .inl c040)), (k041, .inl (cI, 60, .inl c041)), (k043, .inl (cI, 60, .inl c043)), (k045, .inl (cI, 60, .inl c045)), (k046, .inl (cI, 40, .inl c046))] := hD
          refine lv_iload_n hx hb dX10_check_63 rfl (lv_at hl 1 rfl) ?_
          exact hRet 0 [0, 1, 2, 3, 4, 5, 6, 7, 8, 9] trivial hP hD (by decide) rfl hS rfl dX10_check_64
        · refine lv_iload_n hx hb dX10_check_8 rfl (lv_at hl 0 rfl) ?_
          refine lv_aload_n hx hb dX10_check_9 rfl (lv_at hl 2 rfl) ?_
          refine va_get (D := D) (ci := 10) (v := .ref k0) (C := RX10) (T := TX10) (N := 13) hx hb hT giX10 hown hK hP 0 rfl rfl 0 (by decide) (hT (Cond.fieldLink RX10 12 "DesertWire" "now" "LDesertWire$World;") mw_291) (fun _ h9 => h9) rfl dX10_check_10 ?_
          refine va_get (D := D) (ci := 9) (v := .int c06) (C := RX9) (T := TX9) (N := 9) hx hb hT giX9 hown hK hP 1 rfl rfl 6 (by decide) (hT (Cond.fieldLink RX10 381 "DesertWire$World" "waiting" "I") mw_104) (fun _ h9 => h9) rfl dX10_check_13 ?_
          refine b_icmp_ge hx hb rfl rfl (tgt := 55) dX10_check_16 (by decide) (fun c_2 => ?_) (fun c_2 => ?_)
          · refine lv_aload_n hx hb dX10_check_55 rfl (lv_at hl 2 rfl) ?_
            refine va_get (D := D) (ci := 10) (v := .ref k0) (C := RX10) (T := TX10) (N := 13) hx hb hT giX10 hown hK hP 0 rfl rfl 0 (by decide) (hT (Cond.fieldLink RX10 12 "DesertWire" "now" "LDesertWire$World;") mw_291) (fun _ h9 => h9) rfl dX10_check_56 ?_
            refine lv_iconst (v := 0) hx hb dX10_check_59 (by decide) ?_
            refine va_put (D := D) (ci := 9) (v := .int 0) (ty := .int) (C := RX9) (T := TX9) (N := 9) hx hb hT giX9 tyX9 tyX9_ok nmX9 hown hK hP hD hS 1 rfl rfl 6 (by decide) (hT (Cond.fieldLink RX10 381 "DesertWire$World" "waiting" "I") mw_104) (fun _ h9 => h9) rfl (by decide +kernel) rfl rfl (Nat.le_of_ble_eq_true rfl) dX10_check_60 (fun H locs hP hD hS => ?_)
            have hP : va_P D vwCl [(k, .inr (10, [.ref k0, .ref k1, .ref k2, .ref k3, .ref k4, .ref k5, .ref k6, .ref k7, .ref k8, .ref k9, .ref ka, .ref kb, .int cc])), (k0, .inr (9, [.ref k00, .ref k01, .ref k02, .ref k03, .ref k04, .ref k05, .int 0, .int c07, .int c08])), (k00, .inl (cI, 12, .inl c00)), (k03, .inl (cI, 20, .inl c03)), (k04, .inr (8, [.ref k040, .ref k041, .ref k042, .ref k043, .ref k044, .ref k045, .ref k046, .ref k047, .ref k048, .int c049])), (k040, .inl (cI, 60, .inl c040)), (k041, .inl (cI, 60, .inl c041)), (k043, .inl (cI, 60, .inl c043)), (k045, .inl (cI, 60, .inl c045)), (k046, .inl (cI, 40, .inl c046))] H := hP
            have hD : va_D A [(k, .inr (10, [.ref k0, .ref k1, .ref k2, .ref k3, .ref k4, .ref k5, .ref k6, .ref k7, .ref k8, .ref k9, .ref ka, .ref kb, .int cc])), (k0, .inr (9, [.ref k00, .ref k01, .ref k02, .ref k03, .ref k04, .ref k05, .int 0, .int c07, .int c08])), (k00, .inl (cI, 12, .inl c00)), (k03, .inl (cI, 20, .inl c03)), (k04, .inr (8, [.ref k040, .ref k041, .ref k042, .ref k043, .ref k044, .ref k045, .ref k046, .ref k047, .ref k048, .int c049])), (k040, .inl (cI, 60, .inl c040)), (k041, .inl (cI, 60, .inl c041)), (k043, .inl (cI, 60, .inl c043)), (k045, .inl (cI, 60, .inl c045)), (k046, .inl (cI, 40, .inl c046))] := hD
            refine lv_iload_n hx hb dX10_check_63 rfl (lv_at hl 1 rfl) ?_
            exact hRet 0 [0, 1, 2, 3, 4, 5, 6, 7, 8, 9] trivial hP hD (by decide) rfl hS rfl dX10_check_64
          · refine lv_iload_n hx hb dX10_check_19 rfl (lv_at hl 0 rfl) ?_
            refine lv_bipush (v := 20) hx hb dX10_check_20 (by decide) ?_
            refine b_icmp_ge hx hb rfl zl_20 (tgt := 55) dX10_check_22 (by decide) (fun c_3 => ?_) (fun c_3 => ?_)
            · refine lv_aload_n hx hb dX10_check_55 rfl (lv_at hl 2 rfl) ?_
              refine va_get (D := D) (ci := 10) (v := .ref k0) (C := RX10) (T := TX10) (N := 13) hx hb hT giX10 hown hK hP 0 rfl rfl 0 (by decide) (hT (Cond.fieldLink RX10 12 "DesertWire" "now" "LDesertWire$World;") mw_291) (fun _ h9 => h9) rfl dX10_check_56 ?_
              refine lv_iconst (v := 0) hx hb dX10_check_59 (by decide) ?_
              refine va_put (D := D) (ci := 9) (v := .int 0) (ty := .int) (C := RX9) (T := TX9) (N := 9) hx hb hT giX9 tyX9 tyX9_ok nmX9 hown hK hP hD hS 1 rfl rfl 6 (by decide) (hT (Cond.fieldLink RX10 381 "DesertWire$World" "waiting" "I") mw_104) (fun _ h9 => h9) rfl (by decide +kernel) rfl rfl (Nat.le_of_ble_eq_true rfl) dX10_check_60 (fun H locs hP hD hS => ?_)
              have hP : va_P D vwCl [(k, .inr (10, [.ref k0, .ref k1, .ref k2, .ref k3, .ref k4, .ref k5, .ref k6, .ref k7, .ref k8, .ref k9, .ref ka, .ref kb, .int cc])), (k0, .inr (9, [.ref k00, .ref k01, .ref k02, .ref k03, .ref k04, .ref k05, .int 0, .int c07, .int c08])), (k00, .inl (cI, 12, .inl c00)), (k03, .inl (cI, 20, .inl c03)), (k04, .inr (8, [.ref k040, .ref k041, .ref k042, .ref k043, .ref k044, .ref k045, .ref k046, .ref k047, .ref k048, .int c049])), (k040, .inl (cI, 60, .inl c040)), (k041, .inl (cI, 60, .inl c041)), (k043, .inl (cI, 60, .inl c043)), (k045, .inl (cI, 60, .inl c045)), (k046, .inl (cI, 40, .inl c046))] H := hP
              have hD : va_D A [(k, .inr (10, [.ref k0, .ref k1, .ref k2, .ref k3, .ref k4, .ref k5, .ref k6, .ref k7, .ref k8, .ref k9, .ref ka, .ref kb, .int cc])), (k0, .inr (9, [.ref k00, .ref k01, .ref k02, .ref k03, .ref k04, .ref k05, .int 0, .int c07, .int c08])), (k00, .inl (cI, 12, .inl c00)), (k03, .inl (cI, 20, .inl c03)), (k04, .inr (8, [.ref k040, .ref k041, .ref k042, .ref k043, .ref k044, .ref k045, .ref k046, .ref k047, .ref k048, .int c049])), (k040, .inl (cI, 60, .inl c040)), (k041, .inl (cI, 60, .inl c041)), (k043, .inl (cI, 60, .inl c043)), (k045, .inl (cI, 60, .inl c045)), (k046, .inl (cI, 40, .inl c046))] := hD
              refine lv_iload_n hx hb dX10_check_63 rfl (lv_at hl 1 rfl) ?_
              exact hRet 0 [0, 1, 2, 3, 4, 5, 6, 7, 8, 9] trivial hP hD (by decide) rfl hS rfl dX10_check_64
            · refine lv_aload_n hx hb dX10_check_25 rfl (lv_at hl 2 rfl) ?_
              refine va_get (D := D) (ci := 10) (v := .ref k0) (C := RX10) (T := TX10) (N := 13) hx hb hT giX10 hown hK hP 0 rfl rfl 0 (by decide) (hT (Cond.fieldLink RX10 12 "DesertWire" "now" "LDesertWire$World;") mw_291) (fun _ h9 => h9) rfl dX10_check_26 ?_
              refine va_get (D := D) (ci := 9) (v := .ref k03) (C := RX9) (T := TX9) (N := 9) hx hb hT giX9 hown hK hP 1 rfl rfl 3 (by decide) (hT (Cond.fieldLink RX10 384 "DesertWire$World" "waits" "[I") mw_96) (fun _ h9 => h9) rfl dX10_check_29 ?_
              refine lv_iload_n hx hb dX10_check_32 rfl (lv_at hl 0 rfl) ?_
              refine k_iald (v := (c03 l4_2.toNatClampNeg)) hx hb hK hP 3 0 rfl rfl (k_in (by omega) (by omega)) rfl dX10_check_33 ?_
              refine lv_topi (fun v_4 ev_4 => ?_)
              have lo_v_4 := k_lo v_4
              have hi_v_4 := k_hi v_4
              have tv_4 : v_4.toInt = (c03 l4_2.toNatClampNeg).toInt := by rw [ev_4]
              refine lv_aload_n hx hb dX10_check_34 rfl (lv_at hl 2 rfl) ?_
              refine va_get (D := D) (ci := 10) (v := .ref k0) (C := RX10) (T := TX10) (N := 13) hx hb hT giX10 hown hK hP 0 rfl rfl 0 (by decide) (hT (Cond.fieldLink RX10 12 "DesertWire" "now" "LDesertWire$World;") mw_291) (fun _ h9 => h9) rfl dX10_check_35 ?_
              refine lv_iload_n hx hb dX10_check_38 rfl (lv_at hl 0 rfl) ?_
              refine kJi (wr := [(k, .inr (10, [.ref k0, .ref k1, .ref k2, .ref k3, .ref k4, .ref k5, .ref k6, .ref k7, .ref k8, .ref k9, .ref ka, .ref kb, .int cc])), (k03, .inl (cI, 20, .inl c03))]) (va_runV (As := [.int l4_2]) (rest := [.int v_4]) ⟨hx, hb, hml, hown, hT⟩ (c_X9_leakOfG l D cI aK aV k0 k00 k01 k02 k03 k04 k05 k040 k041 k042 k043 k044 k045 k046 k047 k048 H.size c06 c07 c08 c00 c049 c040 c041 c043 c045 c046 l4_2) (cwV 1 hT (gV_in mw_628 mw_625 mw_626 mw_627 mw_2) rfl rfl rfl (by decide +kernel) ⟨Nat.le_of_ble_eq_true rfl, Nat.le_of_ble_eq_true rfl⟩) (kRecvX (q0 := 1) (ci := 9) hK hP hD hN hXS hS hA rfl rfl [1, 2, 4, 5, 6, 7, 8, 9] rfl (by decide)) rfl rfl hl.1 rfl (lv_room (Nat.le_of_ble_eq_true rfl)) dX10_check_39 ⟨Nat.le_of_ble_eq_true rfl, Nat.le_of_ble_eq_true rfl⟩) hP hD hS hA [1, 2, 4, 5, 6, 7, 8, 9] [0, 3] rfl rfl (by decide) (by decide) (fun r_5 u_7 H locs w_6 hP hD hS => ?_)
              have hP : va_P D vwCl [(k, .inr (10, [.ref k0, .ref k1, .ref k2, .ref k3, .ref k4, .ref k5, .ref k6, .ref k7, .ref k8, .ref k9, .ref ka, .ref kb, .int cc])), (k03, .inl (cI, 20, .inl c03)), (k0, .inr (9, [.ref k00, .ref k01, .ref k02, .ref k03, .ref k04, .ref k05, .int c06, .int c07, .int c08])), (k00, .inl (cI, 12, .inl c00)), (k04, .inr (8, [.ref k040, .ref k041, .ref k042, .ref k043, .ref k044, .ref k045, .ref k046, .ref k047, .ref k048, .int c049])), (k040, .inl (cI, 60, .inl c040)), (k041, .inl (cI, 60, .inl c041)), (k043, .inl (cI, 60, .inl c043)), (k045, .inl (cI, 60, .inl c045)), (k046, .inl (cI, 40, .inl c046))] H := hP
              have hD : va_D A [(k, .inr (10, [.ref k0, .ref k1, .ref k2, .ref k3, .ref k4, .ref k5, .ref k6, .ref k7, .ref k8, .ref k9, .ref ka, .ref kb, .int cc])), (k03, .inl (cI, 20, .inl c03)), (k0, .inr (9, [.ref k00, .ref k01, .ref k02, .ref k03, .ref k04, .ref k05, .int c06, .int c07, .int c08])), (k00, .inl (cI, 12, .inl c00)), (k04, .inr (8, [.ref k040, .ref k041, .ref k042, .ref k043, .ref k044, .ref k045, .ref k046, .ref k047, .ref k048, .int c049])), (k040, .inl (cI, 60, .inl c040)), (k041, .inl (cI, 60, .inl c041)), (k043, .inl (cI, 60, .inl c043)), (k045, .inl (cI, 60, .inl c045)), (k046, .inl (cI, 40, .inl c046))] := hD
              have lo_r_5 := k_lo r_5
              have hi_r_5 := k_hi r_5
              refine b_icmp_eq hx hb rfl rfl (tgt := 49) dX10_check_42 (by decide) (fun c_8 => ?_) (fun c_8 => ?_)
              · obtain ⟨v_9, ev_9⟩ : ∃ y : Int32, y = l4_2 + 1 := ⟨_, rfl⟩
                have tv_9 : v_9.toInt = l4_2.toInt + 1 := by rw [ev_9]; exact k_addv rfl zl_1 (by omega) (by omega)
                refine lv_iinc (v := v_9) (lv' := [(2, .int v_9), (1, .int l4_1), (0, .ref k)]) hx hb dX10_check_49 hl (k := 0) rfl (by rw [ev_9]; rfl) (by decide) rfl (fun ls hl => ?_)
                refine lv_goto (tgt := 4) hx hb dX10_check_52 (by decide) ?_
                exact ih4 l4_1 v_9 (by first | omega | decide | assumption | rfl) (by first | omega | decide | assumption | rfl) (by omega) ls _ _ (lv_sub hl [0, 1, 2] rfl) (hP.sub [0, 2, 3, 1, 4, 5, 6, 7, 8, 9] rfl) (hD.sub [0, 2, 3, 1, 4, 5, 6, 7, 8, 9] (by decide) rfl) hS
              · refine lv_iconst (v := 1) hx hb dX10_check_45 (by decide) ?_
                refine lv_iload_n hx hb dX10_check_46 rfl (lv_at hl 0 rfl) ?_
                refine lv_iadd hx hb dX10_check_47 ?_
                refine lv_topi (fun v_10 ev_10 => ?_)
                have tv_10 : v_10.toInt = 1 + l4_2.toInt := by rw [ev_10]; exact k_addv zl_1 rfl (by omega) (by omega)
                refine lv_istore_n (lv' := [(1, .int v_10), (2, .int l4_2), (0, .ref k)]) hx hb dX10_check_48 rfl hl (by decide) rfl (fun ls hl => ?_)
                obtain ⟨v_11, ev_11⟩ : ∃ y : Int32, y = l4_2 + 1 := ⟨_, rfl⟩
                have tv_11 : v_11.toInt = l4_2.toInt + 1 := by rw [ev_11]; exact k_addv rfl zl_1 (by omega) (by omega)
                refine lv_iinc (v := v_11) (lv' := [(2, .int v_11), (1, .int v_10), (0, .ref k)]) hx hb dX10_check_49 hl (k := 1) rfl (by rw [ev_11]; rfl) (by decide) rfl (fun ls hl => ?_)
                refine lv_goto (tgt := 4) hx hb dX10_check_52 (by decide) ?_
                exact ih4 v_10 v_11 (by first | omega | decide | assumption | rfl) (by first | omega | decide | assumption | rfl) (by omega) ls _ _ (lv_sub hl [0, 1, 2] rfl) (hP.sub [0, 2, 3, 1, 4, 5, 6, 7, 8, 9] rfl) (hD.sub [0, 2, 3, 1, 4, 5, 6, 7, 8, 9] (by decide) rfl) hS
  exact hloop_4 _ 0 0 (by first | omega | (simp only [zl_0] <;> omega) | decide | assumption | rfl) (by first | omega | (simp only [zl_0] <;> omega) | decide | assumption | rfl) (Nat.lt_succ_self _) ls _ _ (lv_sub hl [0, 1, 2] rfl) hP hD hS
theorem dX10_sheet_0 : decode cX10_sheet 0 = .ok (.iload_n 1, 1) := by decide +kernel
theorem dX10_sheet_1 : decode cX10_sheet 1 = .ok (.invokestatic 173, 3) := by decide +kernel
theorem dX10_sheet_4 : decode cX10_sheet 4 = .ok (.ifCond .eq 25, 3) := by decide +kernel
theorem dX10_sheet_7 : decode cX10_sheet 7 = .ok (.iload_n 2, 1) := by decide +kernel
theorem dX10_sheet_8 : decode cX10_sheet 8 = .ok (.ifCond .eq 27, 3) := by decide +kernel
theorem dX10_sheet_11 : decode cX10_sheet 11 = .ok (.iload_n 2, 1) := by decide +kernel
theorem dX10_sheet_12 : decode cX10_sheet 12 = .ok (.bipush 8, 2) := by decide +kernel
theorem dX10_sheet_14 : decode cX10_sheet 14 = .ok (.if_icmp .eq 21, 3) := by decide +kernel
theorem dX10_sheet_17 : decode cX10_sheet 17 = .ok (.iload_n 2, 1) := by decide +kernel
theorem dX10_sheet_18 : decode cX10_sheet 18 = .ok (.bipush 16, 2) := by decide +kernel
theorem dX10_sheet_20 : decode cX10_sheet 20 = .ok (.if_icmp .eq 15, 3) := by decide +kernel
theorem dX10_sheet_23 : decode cX10_sheet 23 = .ok (.iload_n 2, 1) := by decide +kernel
theorem dX10_sheet_24 : decode cX10_sheet 24 = .ok (.bipush 32, 2) := by decide +kernel
theorem dX10_sheet_26 : decode cX10_sheet 26 = .ok (.if_icmp .eq 9, 3) := by decide +kernel
theorem dX10_sheet_29 : decode cX10_sheet 29 = .ok (.aload_n 0, 1) := by decide +kernel
theorem dX10_sheet_30 : decode cX10_sheet 30 = .ok (.iconst 1, 1) := by decide +kernel
theorem dX10_sheet_31 : decode cX10_sheet 31 = .ok (.invokevirtual 82, 3) := by decide +kernel
theorem dX10_sheet_34 : decode cX10_sheet 34 = .ok (.ireturn, 1) := by decide +kernel
theorem dX10_sheet_35 : decode cX10_sheet 35 = .ok (.iload_n 2, 1) := by decide +kernel
theorem dX10_sheet_36 : decode cX10_sheet 36 = .ok (.ifCond .eq 13, 3) := by decide +kernel
theorem dX10_sheet_39 : decode cX10_sheet 39 = .ok (.iload_n 3, 1) := by decide +kernel
theorem dX10_sheet_40 : decode cX10_sheet 40 = .ok (.ifCond .ge 9, 3) := by decide +kernel
theorem dX10_sheet_43 : decode cX10_sheet 43 = .ok (.aload_n 0, 1) := by decide +kernel
theorem dX10_sheet_44 : decode cX10_sheet 44 = .ok (.iconst 3, 1) := by decide +kernel
theorem dX10_sheet_45 : decode cX10_sheet 45 = .ok (.invokevirtual 82, 3) := by decide +kernel
theorem dX10_sheet_48 : decode cX10_sheet 48 = .ok (.ireturn, 1) := by decide +kernel
theorem dX10_sheet_49 : decode cX10_sheet 49 = .ok (.iload_n 2, 1) := by decide +kernel
theorem dX10_sheet_50 : decode cX10_sheet 50 = .ok (.ifCond .eq 15, 3) := by decide +kernel
theorem dX10_sheet_53 : decode cX10_sheet 53 = .ok (.iload_n 3, 1) := by decide +kernel
theorem dX10_sheet_54 : decode cX10_sheet 54 = .ok (.bipush 36, 2) := by decide +kernel
theorem dX10_sheet_56 : decode cX10_sheet 56 = .ok (.if_icmp .le 9, 3) := by decide +kernel
theorem dX10_sheet_59 : decode cX10_sheet 59 = .ok (.aload_n 0, 1) := by decide +kernel
theorem dX10_sheet_60 : decode cX10_sheet 60 = .ok (.iconst 1, 1) := by decide +kernel
theorem dX10_sheet_61 : decode cX10_sheet 61 = .ok (.invokevirtual 82, 3) := by decide +kernel
theorem dX10_sheet_64 : decode cX10_sheet 64 = .ok (.ireturn, 1) := by decide +kernel
theorem dX10_sheet_65 : decode cX10_sheet 65 = .ok (.aload_n 0, 1) := by decide +kernel
theorem dX10_sheet_66 : decode cX10_sheet 66 = .ok (.getfield 70, 3) := by decide +kernel
theorem dX10_sheet_69 : decode cX10_sheet 69 = .ok (.iload_n 1, 1) := by decide +kernel
theorem dX10_sheet_70 : decode cX10_sheet 70 = .ok (.iload_n 2, 1) := by decide +kernel
theorem dX10_sheet_71 : decode cX10_sheet 71 = .ok (.iload_n 2, 1) := by decide +kernel
theorem dX10_sheet_72 : decode cX10_sheet 72 = .ok (.ifCond .ne 7, 3) := by decide +kernel
theorem dX10_sheet_75 : decode cX10_sheet 75 = .ok (.iconst 0, 1) := by decide +kernel
theorem dX10_sheet_76 : decode cX10_sheet 76 = .ok (.goto 4, 3) := by decide +kernel
theorem dX10_sheet_79 : decode cX10_sheet 79 = .ok (.iload_n 3, 1) := by decide +kernel
theorem dX10_sheet_80 : decode cX10_sheet 80 = .ok (.invokevirtual 359, 3) := by decide +kernel
theorem dX10_sheet_83 : decode cX10_sheet 83 = .ok (.iconst 1, 1) := by decide +kernel
theorem dX10_sheet_84 : decode cX10_sheet 84 = .ok (.ireturn, 1) := by decide +kernel
set_option maxHeartbeats 4000000 in
set_option maxRecDepth 100000 in
theorem c_X10_sheetG (l : Launch) (D : va_G) (cI : ClassId) (aK aV : Nat → Nat) (k k0 k1 k2 k3 k4 k5 k6 k7 k8 k9 ka kb ka0 ka1 ka2 : Nat) (sz : Nat) (cc : Int32) (cb : Nat → Int32) (ca0 : Nat → Int32) (ca1 : Nat → Int32) (ca2 : Nat → Int32) (a0 : Int32) (a1 : Int32) (a2 : Int32) (pre0 : ∀ k : Nat, k < 4 → 0 ≤ (ca1 k).toInt ∧ (ca1 k).toInt ≤ 36) : Met l yX10_sheet (gW yX10_sheet cX10_sheet 4 (some .int)) ({ frames := 2, cells := 0, slots := 0, locals := 44 } : Room) (kPreX D cI aK aV [.ref k, .int a0, .int a1, .int a2] [(k, .inr (10, [.ref k0, .ref k1, .ref k2, .ref k3, .ref k4, .ref k5, .ref k6, .ref k7, .ref k8, .ref k9, .ref ka, .ref kb, .int cc])), (ka, .inr (6, [.ref ka0, .ref ka1, .ref ka2])), (kb, .inl (cI, 6, .inl cb)), (ka0, .inl (cI, 4, .inl ca0)), (ka1, .inl (cI, 4, .inl ca1)), (ka2, .inl (cI, 144, .inl ca2))] sz) (va_Qi (fun (r : Int32) (u : (Nat → Int32) × (Nat → Int32) × (Nat → Int32) × (Nat → Int32)) => (∀ k : Nat, k < 4 → 0 ≤ (u.2.2.1 k).toInt ∧ (u.2.2.1 k).toInt ≤ 36)) (fun u t => kWd D cI (va_A [(k, .inr (10, [.ref k0, .ref k1, .ref k2, .ref k3, .ref k4, .ref k5, .ref k6, .ref k7, .ref k8, .ref k9, .ref ka, .ref kb, .int cc])), (ka, .inr (6, [.ref ka0, .ref ka1, .ref ka2])), (kb, .inl (cI, 6, .inl cb)), (ka0, .inl (cI, 4, .inl ca0)), (ka1, .inl (cI, 4, .inl ca1)), (ka2, .inl (cI, 144, .inl ca2))] sz) [(k, .inr (10, [.ref k0, .ref k1, .ref k2, .ref k3, .ref k4, .ref k5, .ref k6, .ref k7, .ref k8, .ref k9, .ref ka, .ref kb, .int cc])), (ka, .inr (6, [.ref ka0, .ref ka1, .ref ka2])), (kb, .inl (cI, 6, .inl u.1)), (ka0, .inl (cI, 4, .inl u.2.1)), (ka1, .inl (cI, 4, .inl u.2.2.1)), (ka2, .inl (cI, 144, .inl u.2.2.2))] t) (va_A [(k, .inr (10, [.ref k0, .ref k1, .ref k2, .ref k3, .ref k4, .ref k5, .ref k6, .ref k7, .ref k8, .ref k9, .ref ka, .ref kb, .int cc])), (ka, .inr (6, [.ref ka0, .ref ka1, .ref ka2])), (kb, .inl (cI, 6, .inl cb)), (ka0, .inl (cI, 4, .inl ca0)), (ka1, .inl (cI, 4, .inl ca1)), (ka2, .inl (cI, 144, .inl ca2))] sz)) 0 0 (va_A [(k, .inr (10, [.ref k0, .ref k1, .ref k2, .ref k3, .ref k4, .ref k5, .ref k6, .ref k7, .ref k8, .ref k9, .ref ka, .ref kb, .int cc])), (ka, .inr (6, [.ref ka0, .ref ka1, .ref ka2])), (kb, .inl (cI, 6, .inl cb)), (ka0, .inl (cI, 4, .inl ca0)), (ka1, .inl (cI, 4, .inl ca1)), (ka2, .inl (cI, 144, .inl ca2))] sz) := by
  refine kMetIX (own := RX10) (by decide) rfl (Nat.le_of_ble_eq_true rfl) ?_
  intro p e s m args below meth c hx hb hT hown hname hml A Q hK hP hD hS hA hN hXS hRet ls hl
  have hl : lv_has ls 4 [(0, .ref k), (1, .int a0), (2, .int a1), (3, .int a2)] := hl
  have lo_a0 := k_lo a0
  have hi_a0 := k_hi a0
  have lo_a1 := k_lo a1
  have hi_a1 := k_hi a1
  have lo_a2 := k_lo a2
  have hi_a2 := k_hi a2
  have lo_cc := k_lo cc
  have hi_cc := k_hi cc
  refine lv_iload_n hx hb dX10_sheet_0 rfl (lv_at hl 1 rfl) ?_
  refine kJi (wr := [(k, .inr (10, [.ref k0, .ref k1, .ref k2, .ref k3, .ref k4, .ref k5, .ref k6, .ref k7, .ref k8, .ref k9, .ref ka, .ref kb, .int cc])), (ka, .inr (6, [.ref ka0, .ref ka1, .ref ka2])), (kb, .inl (cI, 6, .inl cb)), (ka0, .inl (cI, 4, .inl ca0)), (ka1, .inl (cI, 4, .inl ca1)), (ka2, .inl (cI, 144, .inl ca2))]) (va_runS (As := [.int a0]) (rest := []) ⟨hx, hb, hml, hown, hT⟩ (c_X10_isSheetG l D cI aK aV s.heap.size a0) (cwS 1 hT (gS_in mw_662 mw_660 mw_661 mw_1) rfl rfl rfl (by decide +kernel) ⟨Nat.le_of_ble_eq_true rfl, Nat.le_of_ble_eq_true rfl⟩) (kStatX hK hP hD hN hXS hS hA [] rfl (by decide)) rfl rfl hl.1 rfl (lv_room (Nat.le_of_ble_eq_true rfl)) dX10_sheet_1 ⟨Nat.le_of_ble_eq_true rfl, Nat.le_of_ble_eq_true rfl⟩) hP hD hS hA [] [0, 1, 2, 3, 4, 5] rfl rfl (by decide) (by decide) (fun r_1 u_3 H locs w_2 hP hD hS => ?_)
  have hP : va_P D vwCl [(k, .inr (10, [.ref k0, .ref k1, .ref k2, .ref k3, .ref k4, .ref k5, .ref k6, .ref k7, .ref k8, .ref k9, .ref ka, .ref kb, .int cc])), (ka, .inr (6, [.ref ka0, .ref ka1, .ref ka2])), (kb, .inl (cI, 6, .inl cb)), (ka0, .inl (cI, 4, .inl ca0)), (ka1, .inl (cI, 4, .inl ca1)), (ka2, .inl (cI, 144, .inl ca2))] H := hP
  have hD : va_D A [(k, .inr (10, [.ref k0, .ref k1, .ref k2, .ref k3, .ref k4, .ref k5, .ref k6, .ref k7, .ref k8, .ref k9, .ref ka, .ref kb, .int cc])), (ka, .inr (6, [.ref ka0, .ref ka1, .ref ka2])), (kb, .inl (cI, 6, .inl cb)), (ka0, .inl (cI, 4, .inl ca0)), (ka1, .inl (cI, 4, .inl ca1)), (ka2, .inl (cI, 144, .inl ca2))] := hD
  rcases w_2 with ⟨hr_1, h_4, h_5⟩ | ⟨hr_1, h_6⟩
  · have h_4 : 0 ≤ a0.toInt := h_4
    have h_5 : a0.toInt ≤ 3 := h_5
    obtain rfl : r_1 = 1 := hr_1.trans (by decide)
    refine b_if_eq hx hb zl_1 (tgt := 29) dX10_sheet_4 (by decide) (fun c_7 => by exfalso; omega) (fun c_7 => ?_)
    refine lv_iload_n hx hb dX10_sheet_7 rfl (lv_at hl 2 rfl) ?_
    refine b_if_eq hx hb rfl (tgt := 35) dX10_sheet_8 (by decide) (fun c_8 => ?_) (fun c_8 => ?_)
    · refine lv_iload_n hx hb dX10_sheet_35 rfl (lv_at hl 2 rfl) ?_
      refine b_if_eq hx hb rfl (tgt := 49) dX10_sheet_36 (by decide) (fun c_9 => ?_) (fun c_9 => by exfalso; omega)
      refine lv_iload_n hx hb dX10_sheet_49 rfl (lv_at hl 2 rfl) ?_
      refine b_if_eq hx hb rfl (tgt := 65) dX10_sheet_50 (by decide) (fun c_10 => ?_) (fun c_10 => by exfalso; omega)
      refine lv_aload_n hx hb dX10_sheet_65 rfl (lv_at hl 0 rfl) ?_
      refine va_get (D := D) (ci := 10) (v := .ref ka) (C := RX10) (T := TX10) (N := 13) hx hb hT giX10 hown hK hP 0 rfl rfl 10 (by decide) (hT (Cond.fieldLink RX10 70 "DesertWire" "sheets" "LDesertWire$Sheets;") mw_301) (fun _ h9 => h9) rfl dX10_sheet_66 ?_
      refine lv_iload_n hx hb dX10_sheet_69 rfl (lv_at hl 1 rfl) ?_
      refine lv_iload_n hx hb dX10_sheet_70 rfl (lv_at hl 2 rfl) ?_
      refine lv_iload_n hx hb dX10_sheet_71 rfl (lv_at hl 2 rfl) ?_
      refine b_if_ne hx hb rfl (tgt := 79) dX10_sheet_72 (by decide) (fun c_11 => by exfalso; omega) (fun c_11 => ?_)
      refine lv_iconst (v := 0) hx hb dX10_sheet_75 (by decide) ?_
      refine lv_goto (tgt := 80) hx hb dX10_sheet_76 (by decide) ?_
      refine kJv (wr := [(k, .inr (10, [.ref k0, .ref k1, .ref k2, .ref k3, .ref k4, .ref k5, .ref k6, .ref k7, .ref k8, .ref k9, .ref ka, .ref kb, .int cc])), (kb, .inl (cI, 6, .inl cb))]) (va_runV (As := [.int a0, .int a1, .int 0]) (rest := []) ⟨hx, hb, hml, hown, hT⟩ (c_X6_blankG l D cI aK aV ka ka0 ka1 ka2 H.size ca0 ca1 ca2 a0 a1 0 (by first | omega | (simp only [zl_0] <;> omega) | decide | assumption | rfl)) (cwV 3 hT (gV_in mw_1076 mw_1073 mw_1074 mw_1075 mw_11) rfl rfl rfl (by decide +kernel) ⟨Nat.le_of_ble_eq_true rfl, Nat.le_of_ble_eq_true rfl⟩) (kRecvX (q0 := 1) (ci := 6) hK hP hD hN hXS hS hA rfl rfl [1, 3, 4, 5] rfl (by decide)) rfl rfl hl.1 rfl (lv_room (Nat.le_of_ble_eq_true rfl)) dX10_sheet_80 ⟨Nat.le_of_ble_eq_true rfl, Nat.le_of_ble_eq_true rfl⟩) hP hD hS hA [1, 3, 4, 5] [0, 2] rfl rfl (by decide) (by decide) (fun u_17 H locs w_13 hP hD hS => ?_)
      obtain ⟨sc0_14, sc1_15, sc2_16⟩ := u_17
      have hP : va_P D vwCl [(k, .inr (10, [.ref k0, .ref k1, .ref k2, .ref k3, .ref k4, .ref k5, .ref k6, .ref k7, .ref k8, .ref k9, .ref ka, .ref kb, .int cc])), (kb, .inl (cI, 6, .inl cb)), (ka, .inr (6, [.ref ka0, .ref ka1, .ref ka2])), (ka0, .inl (cI, 4, .inl sc0_14)), (ka1, .inl (cI, 4, .inl sc1_15)), (ka2, .inl (cI, 144, .inl sc2_16))] H := hP
      have hD : va_D A [(k, .inr (10, [.ref k0, .ref k1, .ref k2, .ref k3, .ref k4, .ref k5, .ref k6, .ref k7, .ref k8, .ref k9, .ref ka, .ref kb, .int cc])), (kb, .inl (cI, 6, .inl cb)), (ka, .inr (6, [.ref ka0, .ref ka1, .ref ka2])), (ka0, .inl (cI, 4, .inl sc0_14)), (ka1, .inl (cI, 4, .inl sc1_15)), (ka2, .inl (cI, 144, .inl sc2_16))] := hD
      have h_18 := w_13
      try simp only [zl_0] at h_18
      have h_18 : ∀ ka : Nat, ka < 4 → 0 ≤ (sc1_15 ka).toInt ∧ (sc1_15 ka).toInt ≤ 36 := h_18
      refine lv_iconst (v := 1) hx hb dX10_sheet_83 (by decide) ?_
      exact hRet (cb, sc0_14, sc1_15, sc2_16) [0, 2, 1, 3, 4, 5] (by assumption) hP hD (by decide) rfl hS rfl dX10_sheet_84
    · refine lv_iload_n hx hb dX10_sheet_11 rfl (lv_at hl 2 rfl) ?_
      refine lv_bipush (v := 8) hx hb dX10_sheet_12 (by decide) ?_
      refine b_icmp_eq hx hb rfl zl_8 (tgt := 35) dX10_sheet_14 (by decide) (fun c_19 => ?_) (fun c_19 => ?_)
      · refine lv_iload_n hx hb dX10_sheet_35 rfl (lv_at hl 2 rfl) ?_
        refine b_if_eq hx hb rfl (tgt := 49) dX10_sheet_36 (by decide) (fun c_20 => by exfalso; omega) (fun c_20 => ?_)
        refine lv_iload_n hx hb dX10_sheet_39 rfl (lv_at hl 3 rfl) ?_
        refine b_if_ge hx hb rfl (tgt := 49) dX10_sheet_40 (by decide) (fun c_21 => ?_) (fun c_21 => ?_)
        · refine lv_iload_n hx hb dX10_sheet_49 rfl (lv_at hl 2 rfl) ?_
          refine b_if_eq hx hb rfl (tgt := 65) dX10_sheet_50 (by decide) (fun c_22 => by exfalso; omega) (fun c_22 => ?_)
          refine lv_iload_n hx hb dX10_sheet_53 rfl (lv_at hl 3 rfl) ?_
          refine lv_bipush (v := 36) hx hb dX10_sheet_54 (by decide) ?_
          refine b_icmp_le hx hb rfl zl_36 (tgt := 65) dX10_sheet_56 (by decide) (fun c_23 => ?_) (fun c_23 => ?_)
          · refine lv_aload_n hx hb dX10_sheet_65 rfl (lv_at hl 0 rfl) ?_
            refine va_get (D := D) (ci := 10) (v := .ref ka) (C := RX10) (T := TX10) (N := 13) hx hb hT giX10 hown hK hP 0 rfl rfl 10 (by decide) (hT (Cond.fieldLink RX10 70 "DesertWire" "sheets" "LDesertWire$Sheets;") mw_301) (fun _ h9 => h9) rfl dX10_sheet_66 ?_
            refine lv_iload_n hx hb dX10_sheet_69 rfl (lv_at hl 1 rfl) ?_
            refine lv_iload_n hx hb dX10_sheet_70 rfl (lv_at hl 2 rfl) ?_
            refine lv_iload_n hx hb dX10_sheet_71 rfl (lv_at hl 2 rfl) ?_
            refine b_if_ne hx hb rfl (tgt := 79) dX10_sheet_72 (by decide) (fun c_24 => ?_) (fun c_24 => by exfalso; omega)
            refine lv_iload_n hx hb dX10_sheet_79 rfl (lv_at hl 3 rfl) ?_
            refine kJv (wr := [(k, .inr (10, [.ref k0, .ref k1, .ref k2, .ref k3, .ref k4, .ref k5, .ref k6, .ref k7, .ref k8, .ref k9, .ref ka, .ref kb, .int cc])), (kb, .inl (cI, 6, .inl cb))]) (va_runV (As := [.int a0, .int a1, .int a2]) (rest := []) ⟨hx, hb, hml, hown, hT⟩ (c_X6_blankG l D cI aK aV ka ka0 ka1 ka2 H.size ca0 ca1 ca2 a0 a1 a2 (by first | omega | decide | assumption | rfl)) (cwV 3 hT (gV_in mw_1076 mw_1073 mw_1074 mw_1075 mw_11) rfl rfl rfl (by decide +kernel) ⟨Nat.le_of_ble_eq_true rfl, Nat.le_of_ble_eq_true rfl⟩) (kRecvX (q0 := 1) (ci := 6) hK hP hD hN hXS hS hA rfl rfl [1, 3, 4, 5] rfl (by decide)) rfl rfl hl.1 rfl (lv_room (Nat.le_of_ble_eq_true rfl)) dX10_sheet_80 ⟨Nat.le_of_ble_eq_true rfl, Nat.le_of_ble_eq_true rfl⟩) hP hD hS hA [1, 3, 4, 5] [0, 2] rfl rfl (by decide) (by decide) (fun u_30 H locs w_26 hP hD hS => ?_)
            obtain ⟨sc0_27, sc1_28, sc2_29⟩ := u_30
            have hP : va_P D vwCl [(k, .inr (10, [.ref k0, .ref k1, .ref k2, .ref k3, .ref k4, .ref k5, .ref k6, .ref k7, .ref k8, .ref k9, .ref ka, .ref kb, .int cc])), (kb, .inl (cI, 6, .inl cb)), (ka, .inr (6, [.ref ka0, .ref ka1, .ref ka2])), (ka0, .inl (cI, 4, .inl sc0_27)), (ka1, .inl (cI, 4, .inl sc1_28)), (ka2, .inl (cI, 144, .inl sc2_29))] H := hP
            have hD : va_D A [(k, .inr (10, [.ref k0, .ref k1, .ref k2, .ref k3, .ref k4, .ref k5, .ref k6, .ref k7, .ref k8, .ref k9, .ref ka, .ref kb, .int cc])), (kb, .inl (cI, 6, .inl cb)), (ka, .inr (6, [.ref ka0, .ref ka1, .ref ka2])), (ka0, .inl (cI, 4, .inl sc0_27)), (ka1, .inl (cI, 4, .inl sc1_28)), (ka2, .inl (cI, 144, .inl sc2_29))] := hD
            have h_31 := w_26
            have h_31 : ∀ ka : Nat, ka < 4 → 0 ≤ (sc1_28 ka).toInt ∧ (sc1_28 ka).toInt ≤ 36 := h_31
            refine lv_iconst (v := 1) hx hb dX10_sheet_83 (by decide) ?_
            exact hRet (cb, sc0_27, sc1_28, sc2_29) [0, 2, 1, 3, 4, 5] (by assumption) hP hD (by decide) rfl hS rfl dX10_sheet_84
          · refine lv_aload_n hx hb dX10_sheet_59 rfl (lv_at hl 0 rfl) ?_
            refine lv_iconst (v := 1) hx hb dX10_sheet_60 (by decide) ?_
            refine kJi (wr := [(ka, .inr (6, [.ref ka0, .ref ka1, .ref ka2])), (ka0, .inl (cI, 4, .inl ca0)), (ka1, .inl (cI, 4, .inl ca1)), (ka2, .inl (cI, 144, .inl ca2))]) (va_runV (As := [.int 1]) (rest := []) ⟨hx, hb, hml, hown, hT⟩ (c_X10_findingG l D cI aK aV k k0 k1 k2 k3 k4 k5 k6 k7 k8 k9 ka kb H.size cc cb 1) (cwV 1 hT (gV_in mw_338 mw_335 mw_337 mw_p1_0 mw_1) rfl rfl rfl (by decide +kernel) ⟨Nat.le_of_ble_eq_true rfl, Nat.le_of_ble_eq_true rfl⟩) (kRecvX (q0 := 0) (ci := 10) hK hP hD hN hXS hS hA rfl rfl [0, 2] rfl (by decide)) rfl rfl hl.1 rfl (lv_room (Nat.le_of_ble_eq_true rfl)) dX10_sheet_61 ⟨Nat.le_of_ble_eq_true rfl, Nat.le_of_ble_eq_true rfl⟩) hP hD hS hA [0, 2] [1, 3, 4, 5] rfl rfl (by decide) (by decide) (fun r_32 scb_34 H locs w_33 hP hD hS => ?_)
            have hP : va_P D vwCl [(ka, .inr (6, [.ref ka0, .ref ka1, .ref ka2])), (ka0, .inl (cI, 4, .inl ca0)), (ka1, .inl (cI, 4, .inl ca1)), (ka2, .inl (cI, 144, .inl ca2)), (k, .inr (10, [.ref k0, .ref k1, .ref k2, .ref k3, .ref k4, .ref k5, .ref k6, .ref k7, .ref k8, .ref k9, .ref ka, .ref kb, .int cc])), (kb, .inl (cI, 6, .inl scb_34))] H := hP
            have hD : va_D A [(ka, .inr (6, [.ref ka0, .ref ka1, .ref ka2])), (ka0, .inl (cI, 4, .inl ca0)), (ka1, .inl (cI, 4, .inl ca1)), (ka2, .inl (cI, 144, .inl ca2)), (k, .inr (10, [.ref k0, .ref k1, .ref k2, .ref k3, .ref k4, .ref k5, .ref k6, .ref k7, .ref k8, .ref k9, .ref ka, .ref kb, .int cc])), (kb, .inl (cI, 6, .inl scb_34))] := hD
            have lo_r_32 := k_lo r_32
            have hi_r_32 := k_hi r_32
            exact hRet (scb_34, ca0, ca1, ca2) [4, 0, 5, 1, 2, 3] (by assumption) hP hD (by decide) rfl hS rfl dX10_sheet_64
        · refine lv_aload_n hx hb dX10_sheet_43 rfl (lv_at hl 0 rfl) ?_
          refine lv_iconst (v := 3) hx hb dX10_sheet_44 (by decide) ?_
          refine kJi (wr := [(ka, .inr (6, [.ref ka0, .ref ka1, .ref ka2])), (ka0, .inl (cI, 4, .inl ca0)), (ka1, .inl (cI, 4, .inl ca1)), (ka2, .inl (cI, 144, .inl ca2))]) (va_runV (As := [.int 3]) (rest := []) ⟨hx, hb, hml, hown, hT⟩ (c_X10_findingG l D cI aK aV k k0 k1 k2 k3 k4 k5 k6 k7 k8 k9 ka kb H.size cc cb 3) (cwV 1 hT (gV_in mw_338 mw_335 mw_337 mw_p1_0 mw_1) rfl rfl rfl (by decide +kernel) ⟨Nat.le_of_ble_eq_true rfl, Nat.le_of_ble_eq_true rfl⟩) (kRecvX (q0 := 0) (ci := 10) hK hP hD hN hXS hS hA rfl rfl [0, 2] rfl (by decide)) rfl rfl hl.1 rfl (lv_room (Nat.le_of_ble_eq_true rfl)) dX10_sheet_45 ⟨Nat.le_of_ble_eq_true rfl, Nat.le_of_ble_eq_true rfl⟩) hP hD hS hA [0, 2] [1, 3, 4, 5] rfl rfl (by decide) (by decide) (fun r_35 scb_37 H locs w_36 hP hD hS => ?_)
          have hP : va_P D vwCl [(ka, .inr (6, [.ref ka0, .ref ka1, .ref ka2])), (ka0, .inl (cI, 4, .inl ca0)), (ka1, .inl (cI, 4, .inl ca1)), (ka2, .inl (cI, 144, .inl ca2)), (k, .inr (10, [.ref k0, .ref k1, .ref k2, .ref k3, .ref k4, .ref k5, .ref k6, .ref k7, .ref k8, .ref k9, .ref ka, .ref kb, .int cc])), (kb, .inl (cI, 6, .inl scb_37))] H := hP
          have hD : va_D A [(ka, .inr (6, [.ref ka0, .ref ka1, .ref ka2])), (ka0, .inl (cI, 4, .inl ca0)), (ka1, .inl (cI, 4, .inl ca1)), (ka2, .inl (cI, 144, .inl ca2)), (k, .inr (10, [.ref k0, .ref k1, .ref k2, .ref k3, .ref k4, .ref k5, .ref k6, .ref k7, .ref k8, .ref k9, .ref ka, .ref kb, .int cc])), (kb, .inl (cI, 6, .inl scb_37))] := hD
          have lo_r_35 := k_lo r_35
          have hi_r_35 := k_hi r_35
          exact hRet (scb_37, ca0, ca1, ca2) [4, 0, 5, 1, 2, 3] (by assumption) hP hD (by decide) rfl hS rfl dX10_sheet_48
      · refine lv_iload_n hx hb dX10_sheet_17 rfl (lv_at hl 2 rfl) ?_
        refine lv_bipush (v := 16) hx hb dX10_sheet_18 (by decide) ?_
        refine b_icmp_eq hx hb rfl zl_16 (tgt := 35) dX10_sheet_20 (by decide) (fun c_38 => ?_) (fun c_38 => ?_)
        · refine lv_iload_n hx hb dX10_sheet_35 rfl (lv_at hl 2 rfl) ?_
          refine b_if_eq hx hb rfl (tgt := 49) dX10_sheet_36 (by decide) (fun c_39 => by exfalso; omega) (fun c_39 => ?_)
          refine lv_iload_n hx hb dX10_sheet_39 rfl (lv_at hl 3 rfl) ?_
          refine b_if_ge hx hb rfl (tgt := 49) dX10_sheet_40 (by decide) (fun c_40 => ?_) (fun c_40 => ?_)
          · refine lv_iload_n hx hb dX10_sheet_49 rfl (lv_at hl 2 rfl) ?_
            refine b_if_eq hx hb rfl (tgt := 65) dX10_sheet_50 (by decide) (fun c_41 => by exfalso; omega) (fun c_41 => ?_)
            refine lv_iload_n hx hb dX10_sheet_53 rfl (lv_at hl 3 rfl) ?_
            refine lv_bipush (v := 36) hx hb dX10_sheet_54 (by decide) ?_
            refine b_icmp_le hx hb rfl zl_36 (tgt := 65) dX10_sheet_56 (by decide) (fun c_42 => ?_) (fun c_42 => ?_)
            · refine lv_aload_n hx hb dX10_sheet_65 rfl (lv_at hl 0 rfl) ?_
              refine va_get (D := D) (ci := 10) (v := .ref ka) (C := RX10) (T := TX10) (N := 13) hx hb hT giX10 hown hK hP 0 rfl rfl 10 (by decide) (hT (Cond.fieldLink RX10 70 "DesertWire" "sheets" "LDesertWire$Sheets;") mw_301) (fun _ h9 => h9) rfl dX10_sheet_66 ?_
              refine lv_iload_n hx hb dX10_sheet_69 rfl (lv_at hl 1 rfl) ?_
              refine lv_iload_n hx hb dX10_sheet_70 rfl (lv_at hl 2 rfl) ?_
              refine lv_iload_n hx hb dX10_sheet_71 rfl (lv_at hl 2 rfl) ?_
              refine b_if_ne hx hb rfl (tgt := 79) dX10_sheet_72 (by decide) (fun c_43 => ?_) (fun c_43 => by exfalso; omega)
              refine lv_iload_n hx hb dX10_sheet_79 rfl (lv_at hl 3 rfl) ?_
              refine kJv (wr := [(k, .inr (10, [.ref k0, .ref k1, .ref k2, .ref k3, .ref k4, .ref k5, .ref k6, .ref k7, .ref k8, .ref k9, .ref ka, .ref kb, .int cc])), (kb, .inl (cI, 6, .inl cb))]) (va_runV (As := [.int a0, .int a1, .int a2]) (rest := []) ⟨hx, hb, hml, hown, hT⟩ (c_X6_blankG l D cI aK aV ka ka0 ka1 ka2 H.size ca0 ca1 ca2 a0 a1 a2 (by first | omega | decide | assumption | rfl)) (cwV 3 hT (gV_in mw_1076 mw_1073 mw_1074 mw_1075 mw_11) rfl rfl rfl (by decide +kernel) ⟨Nat.le_of_ble_eq_true rfl, Nat.le_of_ble_eq_true rfl⟩) (kRecvX (q0 := 1) (ci := 6) hK hP hD hN hXS hS hA rfl rfl [1, 3, 4, 5] rfl (by decide)) rfl rfl hl.1 rfl (lv_room (Nat.le_of_ble_eq_true rfl)) dX10_sheet_80 ⟨Nat.le_of_ble_eq_true rfl, Nat.le_of_ble_eq_true rfl⟩) hP hD hS hA [1, 3, 4, 5] [0, 2] rfl rfl (by decide) (by decide) (fun u_49 H locs w_45 hP hD hS => ?_)
              obtain ⟨sc0_46, sc1_47, sc2_48⟩ := u_49
              have hP : va_P D vwCl [(k, .inr (10, [.ref k0, .ref k1, .ref k2, .ref k3, .ref k4, .ref k5, .ref k6, .ref k7, .ref k8, .ref k9, .ref ka, .ref kb, .int cc])), (kb, .inl (cI, 6, .inl cb)), (ka, .inr (6, [.ref ka0, .ref ka1, .ref ka2])), (ka0, .inl (cI, 4, .inl sc0_46)), (ka1, .inl (cI, 4, .inl sc1_47)), (ka2, .inl (cI, 144, .inl sc2_48))] H := hP
              have hD : va_D A [(k, .inr (10, [.ref k0, .ref k1, .ref k2, .ref k3, .ref k4, .ref k5, .ref k6, .ref k7, .ref k8, .ref k9, .ref ka, .ref kb, .int cc])), (kb, .inl (cI, 6, .inl cb)), (ka, .inr (6, [.ref ka0, .ref ka1, .ref ka2])), (ka0, .inl (cI, 4, .inl sc0_46)), (ka1, .inl (cI, 4, .inl sc1_47)), (ka2, .inl (cI, 144, .inl sc2_48))] := hD
              have h_50 := w_45
              have h_50 : ∀ ka : Nat, ka < 4 → 0 ≤ (sc1_47 ka).toInt ∧ (sc1_47 ka).toInt ≤ 36 := h_50
              refine lv_iconst (v := 1) hx hb dX10_sheet_83 (by decide) ?_
              exact hRet (cb, sc0_46, sc1_47, sc2_48) [0, 2, 1, 3, 4, 5] (by assumption) hP hD (by decide) rfl hS rfl dX10_sheet_84
            · refine lv_aload_n hx hb dX10_sheet_59 rfl (lv_at hl 0 rfl) ?_
              refine lv_iconst (v := 1) hx hb dX10_sheet_60 (by decide) ?_
              refine kJi (wr := [(ka, .inr (6, [.ref ka0, .ref ka1, .ref ka2])), (ka0, .inl (cI, 4, .inl ca0)), (ka1, .inl (cI, 4, .inl ca1)), (ka2, .inl (cI, 144, .inl ca2))]) (va_runV (As := [.int 1]) (rest := []) ⟨hx, hb, hml, hown, hT⟩ (c_X10_findingG l D cI aK aV k k0 k1 k2 k3 k4 k5 k6 k7 k8 k9 ka kb H.size cc cb 1) (cwV 1 hT (gV_in mw_338 mw_335 mw_337 mw_p1_0 mw_1) rfl rfl rfl (by decide +kernel) ⟨Nat.le_of_ble_eq_true rfl, Nat.le_of_ble_eq_true rfl⟩) (kRecvX (q0 := 0) (ci := 10) hK hP hD hN hXS hS hA rfl rfl [0, 2] rfl (by decide)) rfl rfl hl.1 rfl (lv_room (Nat.le_of_ble_eq_true rfl)) dX10_sheet_61 ⟨Nat.le_of_ble_eq_true rfl, Nat.le_of_ble_eq_true rfl⟩) hP hD hS hA [0, 2] [1, 3, 4, 5] rfl rfl (by decide) (by decide) (fun r_51 scb_53 H locs w_52 hP hD hS => ?_)
              have hP : va_P D vwCl [(ka, .inr (6, [.ref ka0, .ref ka1, .ref ka2])), (ka0, .inl (cI, 4, .inl ca0)), (ka1, .inl (cI, 4, .inl ca1)), (ka2, .inl (cI, 144, .inl ca2)), (k, .inr (10, [.ref k0, .ref k1, .ref k2, .ref k3, .ref k4, .ref k5, .ref k6, .ref k7, .ref k8, .ref k9, .ref ka, .ref kb, .int cc])), (kb, .inl (cI, 6, .inl scb_53))] H := hP
              have hD : va_D A [(ka, .inr (6, [.ref ka0, .ref ka1, .ref ka2])), (ka0, .inl (cI, 4, .inl ca0)), (ka1, .inl (cI, 4, .inl ca1)), (ka2, .inl (cI, 144, .inl ca2)), (k, .inr (10, [.ref k0, .ref k1, .ref k2, .ref k3, .ref k4, .ref k5, .ref k6, .ref k7, .ref k8, .ref k9, .ref ka, .ref kb, .int cc])), (kb, .inl (cI, 6, .inl scb_53))] := hD
              have lo_r_51 := k_lo r_51
              have hi_r_51 := k_hi r_51
              exact hRet (scb_53, ca0, ca1, ca2) [4, 0, 5, 1, 2, 3] (by assumption) hP hD (by decide) rfl hS rfl dX10_sheet_64
          · refine lv_aload_n hx hb dX10_sheet_43 rfl (lv_at hl 0 rfl) ?_
            refine lv_iconst (v := 3) hx hb dX10_sheet_44 (by decide) ?_
            refine kJi (wr := [(ka, .inr (6, [.ref ka0, .ref ka1, .ref ka2])), (ka0, .inl (cI, 4, .inl ca0)), (ka1, .inl (cI, 4, .inl ca1)), (ka2, .inl (cI, 144, .inl ca2))]) (va_runV (As := [.int 3]) (rest := []) ⟨hx, hb, hml, hown, hT⟩ (c_X10_findingG l D cI aK aV k k0 k1 k2 k3 k4 k5 k6 k7 k8 k9 ka kb H.size cc cb 3) (cwV 1 hT (gV_in mw_338 mw_335 mw_337 mw_p1_0 mw_1) rfl rfl rfl (by decide +kernel) ⟨Nat.le_of_ble_eq_true rfl, Nat.le_of_ble_eq_true rfl⟩) (kRecvX (q0 := 0) (ci := 10) hK hP hD hN hXS hS hA rfl rfl [0, 2] rfl (by decide)) rfl rfl hl.1 rfl (lv_room (Nat.le_of_ble_eq_true rfl)) dX10_sheet_45 ⟨Nat.le_of_ble_eq_true rfl, Nat.le_of_ble_eq_true rfl⟩) hP hD hS hA [0, 2] [1, 3, 4, 5] rfl rfl (by decide) (by decide) (fun r_54 scb_56 H locs w_55 hP hD hS => ?_)
            have hP : va_P D vwCl [(ka, .inr (6, [.ref ka0, .ref ka1, .ref ka2])), (ka0, .inl (cI, 4, .inl ca0)), (ka1, .inl (cI, 4, .inl ca1)), (ka2, .inl (cI, 144, .inl ca2)), (k, .inr (10, [.ref k0, .ref k1, .ref k2, .ref k3, .ref k4, .ref k5, .ref k6, .ref k7, .ref k8, .ref k9, .ref ka, .ref kb, .int cc])), (kb, .inl (cI, 6, .inl scb_56))] H := hP
            have hD : va_D A [(ka, .inr (6, [.ref ka0, .ref ka1, .ref ka2])), (ka0, .inl (cI, 4, .inl ca0)), (ka1, .inl (cI, 4, .inl ca1)), (ka2, .inl (cI, 144, .inl ca2)), (k, .inr (10, [.ref k0, .ref k1, .ref k2, .ref k3, .ref k4, .ref k5, .ref k6, .ref k7, .ref k8, .ref k9, .ref ka, .ref kb, .int cc])), (kb, .inl (cI, 6, .inl scb_56))] := hD
            have lo_r_54 := k_lo r_54
            have hi_r_54 := k_hi r_54
            exact hRet (scb_56, ca0, ca1, ca2) [4, 0, 5, 1, 2, 3] (by assumption) hP hD (by decide) rfl hS rfl dX10_sheet_48
        · refine lv_iload_n hx hb dX10_sheet_23 rfl (lv_at hl 2 rfl) ?_
          refine lv_bipush (v := 32) hx hb dX10_sheet_24 (by decide) ?_
          refine b_icmp_eq hx hb rfl zl_32 (tgt := 35) dX10_sheet_26 (by decide) (fun c_57 => ?_) (fun c_57 => ?_)
          · refine lv_iload_n hx hb dX10_sheet_35 rfl (lv_at hl 2 rfl) ?_
            refine b_if_eq hx hb rfl (tgt := 49) dX10_sheet_36 (by decide) (fun c_58 => by exfalso; omega) (fun c_58 => ?_)
            refine lv_iload_n hx hb dX10_sheet_39 rfl (lv_at hl 3 rfl) ?_
            refine b_if_ge hx hb rfl (tgt := 49) dX10_sheet_40 (by decide) (fun c_59 => ?_) (fun c_59 => ?_)
            · refine lv_iload_n hx hb dX10_sheet_49 rfl (lv_at hl 2 rfl) ?_
              refine b_if_eq hx hb rfl (tgt := 65) dX10_sheet_50 (by decide) (fun c_60 => by exfalso; omega) (fun c_60 => ?_)
              refine lv_iload_n hx hb dX10_sheet_53 rfl (lv_at hl 3 rfl) ?_
              refine lv_bipush (v := 36) hx hb dX10_sheet_54 (by decide) ?_
              refine b_icmp_le hx hb rfl zl_36 (tgt := 65) dX10_sheet_56 (by decide) (fun c_61 => ?_) (fun c_61 => ?_)
              · refine lv_aload_n hx hb dX10_sheet_65 rfl (lv_at hl 0 rfl) ?_
                refine va_get (D := D) (ci := 10) (v := .ref ka) (C := RX10) (T := TX10) (N := 13) hx hb hT giX10 hown hK hP 0 rfl rfl 10 (by decide) (hT (Cond.fieldLink RX10 70 "DesertWire" "sheets" "LDesertWire$Sheets;") mw_301) (fun _ h9 => h9) rfl dX10_sheet_66 ?_
                refine lv_iload_n hx hb dX10_sheet_69 rfl (lv_at hl 1 rfl) ?_
                refine lv_iload_n hx hb dX10_sheet_70 rfl (lv_at hl 2 rfl) ?_
                refine lv_iload_n hx hb dX10_sheet_71 rfl (lv_at hl 2 rfl) ?_
                refine b_if_ne hx hb rfl (tgt := 79) dX10_sheet_72 (by decide) (fun c_62 => ?_) (fun c_62 => by exfalso; omega)
                refine lv_iload_n hx hb dX10_sheet_79 rfl (lv_at hl 3 rfl) ?_
                refine kJv (wr := [(k, .inr (10, [.ref k0, .ref k1, .ref k2, .ref k3, .ref k4, .ref k5, .ref k6, .ref k7, .ref k8, .ref k9, .ref ka, .ref kb, .int cc])), (kb, .inl (cI, 6, .inl cb))]) (va_runV (As := [.int a0, .int a1, .int a2]) (rest := []) ⟨hx, hb, hml, hown, hT⟩ (c_X6_blankG l D cI aK aV ka ka0 ka1 ka2 H.size ca0 ca1 ca2 a0 a1 a2 (by first | omega | decide | assumption | rfl)) (cwV 3 hT (gV_in mw_1076 mw_1073 mw_1074 mw_1075 mw_11) rfl rfl rfl (by decide +kernel) ⟨Nat.le_of_ble_eq_true rfl, Nat.le_of_ble_eq_true rfl⟩) (kRecvX (q0 := 1) (ci := 6) hK hP hD hN hXS hS hA rfl rfl [1, 3, 4, 5] rfl (by decide)) rfl rfl hl.1 rfl (lv_room (Nat.le_of_ble_eq_true rfl)) dX10_sheet_80 ⟨Nat.le_of_ble_eq_true rfl, Nat.le_of_ble_eq_true rfl⟩) hP hD hS hA [1, 3, 4, 5] [0, 2] rfl rfl (by decide) (by decide) (fun u_68 H locs w_64 hP hD hS => ?_)
                obtain ⟨sc0_65, sc1_66, sc2_67⟩ := u_68
                have hP : va_P D vwCl [(k, .inr (10, [.ref k0, .ref k1, .ref k2, .ref k3, .ref k4, .ref k5, .ref k6, .ref k7, .ref k8, .ref k9, .ref ka, .ref kb, .int cc])), (kb, .inl (cI, 6, .inl cb)), (ka, .inr (6, [.ref ka0, .ref ka1, .ref ka2])), (ka0, .inl (cI, 4, .inl sc0_65)), (ka1, .inl (cI, 4, .inl sc1_66)), (ka2, .inl (cI, 144, .inl sc2_67))] H := hP
                have hD : va_D A [(k, .inr (10, [.ref k0, .ref k1, .ref k2, .ref k3, .ref k4, .ref k5, .ref k6, .ref k7, .ref k8, .ref k9, .ref ka, .ref kb, .int cc])), (kb, .inl (cI, 6, .inl cb)), (ka, .inr (6, [.ref ka0, .ref ka1, .ref ka2])), (ka0, .inl (cI, 4, .inl sc0_65)), (ka1, .inl (cI, 4, .inl sc1_66)), (ka2, .inl (cI, 144, .inl sc2_67))] := hD
                have h_69 := w_64
                have h_69 : ∀ ka : Nat, ka < 4 → 0 ≤ (sc1_66 ka).toInt ∧ (sc1_66 ka).toInt ≤ 36 := h_69
                refine lv_iconst (v := 1) hx hb dX10_sheet_83 (by decide) ?_
                exact hRet (cb, sc0_65, sc1_66, sc2_67) [0, 2, 1, 3, 4, 5] (by assumption) hP hD (by decide) rfl hS rfl dX10_sheet_84
              · refine lv_aload_n hx hb dX10_sheet_59 rfl (lv_at hl 0 rfl) ?_
                refine lv_iconst (v := 1) hx hb dX10_sheet_60 (by decide) ?_
                refine kJi (wr := [(ka, .inr (6, [.ref ka0, .ref ka1, .ref ka2])), (ka0, .inl (cI, 4, .inl ca0)), (ka1, .inl (cI, 4, .inl ca1)), (ka2, .inl (cI, 144, .inl ca2))]) (va_runV (As := [.int 1]) (rest := []) ⟨hx, hb, hml, hown, hT⟩ (c_X10_findingG l D cI aK aV k k0 k1 k2 k3 k4 k5 k6 k7 k8 k9 ka kb H.size cc cb 1) (cwV 1 hT (gV_in mw_338 mw_335 mw_337 mw_p1_0 mw_1) rfl rfl rfl (by decide +kernel) ⟨Nat.le_of_ble_eq_true rfl, Nat.le_of_ble_eq_true rfl⟩) (kRecvX (q0 := 0) (ci := 10) hK hP hD hN hXS hS hA rfl rfl [0, 2] rfl (by decide)) rfl rfl hl.1 rfl (lv_room (Nat.le_of_ble_eq_true rfl)) dX10_sheet_61 ⟨Nat.le_of_ble_eq_true rfl, Nat.le_of_ble_eq_true rfl⟩) hP hD hS hA [0, 2] [1, 3, 4, 5] rfl rfl (by decide) (by decide) (fun r_70 scb_72 H locs w_71 hP hD hS => ?_)
                have hP : va_P D vwCl [(ka, .inr (6, [.ref ka0, .ref ka1, .ref ka2])), (ka0, .inl (cI, 4, .inl ca0)), (ka1, .inl (cI, 4, .inl ca1)), (ka2, .inl (cI, 144, .inl ca2)), (k, .inr (10, [.ref k0, .ref k1, .ref k2, .ref k3, .ref k4, .ref k5, .ref k6, .ref k7, .ref k8, .ref k9, .ref ka, .ref kb, .int cc])), (kb, .inl (cI, 6, .inl scb_72))] H := hP
                have hD : va_D A [(ka, .inr (6, [.ref ka0, .ref ka1, .ref ka2])), (ka0, .inl (cI, 4, .inl ca0)), (ka1, .inl (cI, 4, .inl ca1)), (ka2, .inl (cI, 144, .inl ca2)), (k, .inr (10, [.ref k0, .ref k1, .ref k2, .ref k3, .ref k4, .ref k5, .ref k6, .ref k7, .ref k8, .ref k9, .ref ka, .ref kb, .int cc])), (kb, .inl (cI, 6, .inl scb_72))] := hD
                have lo_r_70 := k_lo r_70
                have hi_r_70 := k_hi r_70
                exact hRet (scb_72, ca0, ca1, ca2) [4, 0, 5, 1, 2, 3] (by assumption) hP hD (by decide) rfl hS rfl dX10_sheet_64
            · refine lv_aload_n hx hb dX10_sheet_43 rfl (lv_at hl 0 rfl) ?_
              refine lv_iconst (v := 3) hx hb dX10_sheet_44 (by decide) ?_
              refine kJi (wr := [(ka, .inr (6, [.ref ka0, .ref ka1, .ref ka2])), (ka0, .inl (cI, 4, .inl ca0)), (ka1, .inl (cI, 4, .inl ca1)), (ka2, .inl (cI, 144, .inl ca2))]) (va_runV (As := [.int 3]) (rest := []) ⟨hx, hb, hml, hown, hT⟩ (c_X10_findingG l D cI aK aV k k0 k1 k2 k3 k4 k5 k6 k7 k8 k9 ka kb H.size cc cb 3) (cwV 1 hT (gV_in mw_338 mw_335 mw_337 mw_p1_0 mw_1) rfl rfl rfl (by decide +kernel) ⟨Nat.le_of_ble_eq_true rfl, Nat.le_of_ble_eq_true rfl⟩) (kRecvX (q0 := 0) (ci := 10) hK hP hD hN hXS hS hA rfl rfl [0, 2] rfl (by decide)) rfl rfl hl.1 rfl (lv_room (Nat.le_of_ble_eq_true rfl)) dX10_sheet_45 ⟨Nat.le_of_ble_eq_true rfl, Nat.le_of_ble_eq_true rfl⟩) hP hD hS hA [0, 2] [1, 3, 4, 5] rfl rfl (by decide) (by decide) (fun r_73 scb_75 H locs w_74 hP hD hS => ?_)
              have hP : va_P D vwCl [(ka, .inr (6, [.ref ka0, .ref ka1, .ref ka2])), (ka0, .inl (cI, 4, .inl ca0)), (ka1, .inl (cI, 4, .inl ca1)), (ka2, .inl (cI, 144, .inl ca2)), (k, .inr (10, [.ref k0, .ref k1, .ref k2, .ref k3, .ref k4, .ref k5, .ref k6, .ref k7, .ref k8, .ref k9, .ref ka, .ref kb, .int cc])), (kb, .inl (cI, 6, .inl scb_75))] H := hP
              have hD : va_D A [(ka, .inr (6, [.ref ka0, .ref ka1, .ref ka2])), (ka0, .inl (cI, 4, .inl ca0)), (ka1, .inl (cI, 4, .inl ca1)), (ka2, .inl (cI, 144, .inl ca2)), (k, .inr (10, [.ref k0, .ref k1, .ref k2, .ref k3, .ref k4, .ref k5, .ref k6, .ref k7, .ref k8, .ref k9, .ref ka, .ref kb, .int cc])), (kb, .inl (cI, 6, .inl scb_75))] := hD
              have lo_r_73 := k_lo r_73
              have hi_r_73 := k_hi r_73
              exact hRet (scb_75, ca0, ca1, ca2) [4, 0, 5, 1, 2, 3] (by assumption) hP hD (by decide) rfl hS rfl dX10_sheet_48
          · refine lv_aload_n hx hb dX10_sheet_29 rfl (lv_at hl 0 rfl) ?_
            refine lv_iconst (v := 1) hx hb dX10_sheet_30 (by decide) ?_
            refine kJi (wr := [(ka, .inr (6, [.ref ka0, .ref ka1, .ref ka2])), (ka0, .inl (cI, 4, .inl ca0)), (ka1, .inl (cI, 4, .inl ca1)), (ka2, .inl (cI, 144, .inl ca2))]) (va_runV (As := [.int 1]) (rest := []) ⟨hx, hb, hml, hown, hT⟩ (c_X10_findingG l D cI aK aV k k0 k1 k2 k3 k4 k5 k6 k7 k8 k9 ka kb H.size cc cb 1) (cwV 1 hT (gV_in mw_338 mw_335 mw_337 mw_p1_0 mw_1) rfl rfl rfl (by decide +kernel) ⟨Nat.le_of_ble_eq_true rfl, Nat.le_of_ble_eq_true rfl⟩) (kRecvX (q0 := 0) (ci := 10) hK hP hD hN hXS hS hA rfl rfl [0, 2] rfl (by decide)) rfl rfl hl.1 rfl (lv_room (Nat.le_of_ble_eq_true rfl)) dX10_sheet_31 ⟨Nat.le_of_ble_eq_true rfl, Nat.le_of_ble_eq_true rfl⟩) hP hD hS hA [0, 2] [1, 3, 4, 5] rfl rfl (by decide) (by decide) (fun r_76 scb_78 H locs w_77 hP hD hS => ?_)
            have hP : va_P D vwCl [(ka, .inr (6, [.ref ka0, .ref ka1, .ref ka2])), (ka0, .inl (cI, 4, .inl ca0)), (ka1, .inl (cI, 4, .inl ca1)), (ka2, .inl (cI, 144, .inl ca2)), (k, .inr (10, [.ref k0, .ref k1, .ref k2, .ref k3, .ref k4, .ref k5, .ref k6, .ref k7, .ref k8, .ref k9, .ref ka, .ref kb, .int cc])), (kb, .inl (cI, 6, .inl scb_78))] H := hP
            have hD : va_D A [(ka, .inr (6, [.ref ka0, .ref ka1, .ref ka2])), (ka0, .inl (cI, 4, .inl ca0)), (ka1, .inl (cI, 4, .inl ca1)), (ka2, .inl (cI, 144, .inl ca2)), (k, .inr (10, [.ref k0, .ref k1, .ref k2, .ref k3, .ref k4, .ref k5, .ref k6, .ref k7, .ref k8, .ref k9, .ref ka, .ref kb, .int cc])), (kb, .inl (cI, 6, .inl scb_78))] := hD
            have lo_r_76 := k_lo r_76
            have hi_r_76 := k_hi r_76
            exact hRet (scb_78, ca0, ca1, ca2) [4, 0, 5, 1, 2, 3] (by assumption) hP hD (by decide) rfl hS rfl dX10_sheet_34
  · have h_6 : a0.toInt < 0 ∨ 3 < a0.toInt := h_6
    obtain rfl : r_1 = 0 := hr_1.trans (by decide)
    refine b_if_eq hx hb zl_0 (tgt := 29) dX10_sheet_4 (by decide) (fun c_79 => ?_) (fun c_79 => by exfalso; omega)
    refine lv_aload_n hx hb dX10_sheet_29 rfl (lv_at hl 0 rfl) ?_
    refine lv_iconst (v := 1) hx hb dX10_sheet_30 (by decide) ?_
    refine kJi (wr := [(ka, .inr (6, [.ref ka0, .ref ka1, .ref ka2])), (ka0, .inl (cI, 4, .inl ca0)), (ka1, .inl (cI, 4, .inl ca1)), (ka2, .inl (cI, 144, .inl ca2))]) (va_runV (As := [.int 1]) (rest := []) ⟨hx, hb, hml, hown, hT⟩ (c_X10_findingG l D cI aK aV k k0 k1 k2 k3 k4 k5 k6 k7 k8 k9 ka kb H.size cc cb 1) (cwV 1 hT (gV_in mw_338 mw_335 mw_337 mw_p1_0 mw_1) rfl rfl rfl (by decide +kernel) ⟨Nat.le_of_ble_eq_true rfl, Nat.le_of_ble_eq_true rfl⟩) (kRecvX (q0 := 0) (ci := 10) hK hP hD hN hXS hS hA rfl rfl [0, 2] rfl (by decide)) rfl rfl hl.1 rfl (lv_room (Nat.le_of_ble_eq_true rfl)) dX10_sheet_31 ⟨Nat.le_of_ble_eq_true rfl, Nat.le_of_ble_eq_true rfl⟩) hP hD hS hA [0, 2] [1, 3, 4, 5] rfl rfl (by decide) (by decide) (fun r_80 scb_82 H locs w_81 hP hD hS => ?_)
    have hP : va_P D vwCl [(ka, .inr (6, [.ref ka0, .ref ka1, .ref ka2])), (ka0, .inl (cI, 4, .inl ca0)), (ka1, .inl (cI, 4, .inl ca1)), (ka2, .inl (cI, 144, .inl ca2)), (k, .inr (10, [.ref k0, .ref k1, .ref k2, .ref k3, .ref k4, .ref k5, .ref k6, .ref k7, .ref k8, .ref k9, .ref ka, .ref kb, .int cc])), (kb, .inl (cI, 6, .inl scb_82))] H := hP
    have hD : va_D A [(ka, .inr (6, [.ref ka0, .ref ka1, .ref ka2])), (ka0, .inl (cI, 4, .inl ca0)), (ka1, .inl (cI, 4, .inl ca1)), (ka2, .inl (cI, 144, .inl ca2)), (k, .inr (10, [.ref k0, .ref k1, .ref k2, .ref k3, .ref k4, .ref k5, .ref k6, .ref k7, .ref k8, .ref k9, .ref ka, .ref kb, .int cc])), (kb, .inl (cI, 6, .inl scb_82))] := hD
    have lo_r_80 := k_lo r_80
    have hi_r_80 := k_hi r_80
    exact hRet (scb_82, ca0, ca1, ca2) [4, 0, 5, 1, 2, 3] (by assumption) hP hD (by decide) rfl hS rfl dX10_sheet_34
theorem dX10_put_0 : decode cX10_put 0 = .ok (.iload_n 1, 1) := by decide +kernel
theorem dX10_put_1 : decode cX10_put 1 = .ok (.invokestatic 173, 3) := by decide +kernel
theorem dX10_put_4 : decode cX10_put 4 = .ok (.ifCond .ne 9, 3) := by decide +kernel
theorem dX10_put_7 : decode cX10_put 7 = .ok (.aload_n 0, 1) := by decide +kernel
theorem dX10_put_8 : decode cX10_put 8 = .ok (.iconst 1, 1) := by decide +kernel
theorem dX10_put_9 : decode cX10_put 9 = .ok (.invokevirtual 82, 3) := by decide +kernel
theorem dX10_put_12 : decode cX10_put 12 = .ok (.ireturn, 1) := by decide +kernel
theorem dX10_put_13 : decode cX10_put 13 = .ok (.aload_n 0, 1) := by decide +kernel
theorem dX10_put_14 : decode cX10_put 14 = .ok (.getfield 70, 3) := by decide +kernel
theorem dX10_put_17 : decode cX10_put 17 = .ok (.iload_n 1, 1) := by decide +kernel
theorem dX10_put_18 : decode cX10_put 18 = .ok (.invokevirtual 176, 3) := by decide +kernel
theorem dX10_put_21 : decode cX10_put 21 = .ok (.ifCond .eq 9, 3) := by decide +kernel
theorem dX10_put_24 : decode cX10_put 24 = .ok (.aload_n 0, 1) := by decide +kernel
theorem dX10_put_25 : decode cX10_put 25 = .ok (.iconst 2, 1) := by decide +kernel
theorem dX10_put_26 : decode cX10_put 26 = .ok (.invokevirtual 82, 3) := by decide +kernel
theorem dX10_put_29 : decode cX10_put 29 = .ok (.ireturn, 1) := by decide +kernel
theorem dX10_put_30 : decode cX10_put 30 = .ok (.aload_n 0, 1) := by decide +kernel
theorem dX10_put_31 : decode cX10_put 31 = .ok (.getfield 70, 3) := by decide +kernel
theorem dX10_put_34 : decode cX10_put 34 = .ok (.iload_n 1, 1) := by decide +kernel
theorem dX10_put_35 : decode cX10_put 35 = .ok (.iload_n 2, 1) := by decide +kernel
theorem dX10_put_36 : decode cX10_put 36 = .ok (.invokevirtual 362, 3) := by decide +kernel
theorem dX10_put_39 : decode cX10_put 39 = .ok (.ifCond .ne 9, 3) := by decide +kernel
theorem dX10_put_42 : decode cX10_put 42 = .ok (.aload_n 0, 1) := by decide +kernel
theorem dX10_put_43 : decode cX10_put 43 = .ok (.iconst 1, 1) := by decide +kernel
theorem dX10_put_44 : decode cX10_put 44 = .ok (.invokevirtual 82, 3) := by decide +kernel
theorem dX10_put_47 : decode cX10_put 47 = .ok (.ireturn, 1) := by decide +kernel
theorem dX10_put_48 : decode cX10_put 48 = .ok (.aload_n 0, 1) := by decide +kernel
theorem dX10_put_49 : decode cX10_put 49 = .ok (.getfield 70, 3) := by decide +kernel
theorem dX10_put_52 : decode cX10_put 52 = .ok (.iload_n 1, 1) := by decide +kernel
theorem dX10_put_53 : decode cX10_put 53 = .ok (.iload_n 2, 1) := by decide +kernel
theorem dX10_put_54 : decode cX10_put 54 = .ok (.iload_n 3, 1) := by decide +kernel
theorem dX10_put_55 : decode cX10_put 55 = .ok (.invokevirtual 365, 3) := by decide +kernel
theorem dX10_put_58 : decode cX10_put 58 = .ok (.iconst 1, 1) := by decide +kernel
theorem dX10_put_59 : decode cX10_put 59 = .ok (.ireturn, 1) := by decide +kernel
set_option maxHeartbeats 4000000 in
set_option maxRecDepth 100000 in
theorem c_X10_putG (l : Launch) (D : va_G) (cI : ClassId) (aK aV : Nat → Nat) (k k0 k1 k2 k3 k4 k5 k6 k7 k8 k9 ka kb ka0 ka1 ka2 : Nat) (sz : Nat) (cc : Int32) (cb : Nat → Int32) (ca0 : Nat → Int32) (ca1 : Nat → Int32) (ca2 : Nat → Int32) (a0 : Int32) (a1 : Int32) (a2 : Int32) (pre0 : ∀ k : Nat, k < 4 → 0 ≤ (ca1 k).toInt ∧ (ca1 k).toInt ≤ 36) : Met l yX10_put (gW yX10_put cX10_put 4 (some .int)) ({ frames := 4, cells := 0, slots := 0, locals := 87 } : Room) (kPreX D cI aK aV [.ref k, .int a0, .int a1, .int a2] [(k, .inr (10, [.ref k0, .ref k1, .ref k2, .ref k3, .ref k4, .ref k5, .ref k6, .ref k7, .ref k8, .ref k9, .ref ka, .ref kb, .int cc])), (ka, .inr (6, [.ref ka0, .ref ka1, .ref ka2])), (kb, .inl (cI, 6, .inl cb)), (ka0, .inl (cI, 4, .inl ca0)), (ka1, .inl (cI, 4, .inl ca1)), (ka2, .inl (cI, 144, .inl ca2))] sz) (va_Qi (fun (r : Int32) (u : (Nat → Int32) × (Nat → Int32)) => True) (fun u t => kWd D cI (va_A [(k, .inr (10, [.ref k0, .ref k1, .ref k2, .ref k3, .ref k4, .ref k5, .ref k6, .ref k7, .ref k8, .ref k9, .ref ka, .ref kb, .int cc])), (ka, .inr (6, [.ref ka0, .ref ka1, .ref ka2])), (kb, .inl (cI, 6, .inl cb)), (ka0, .inl (cI, 4, .inl ca0)), (ka1, .inl (cI, 4, .inl ca1)), (ka2, .inl (cI, 144, .inl ca2))] sz) [(k, .inr (10, [.ref k0, .ref k1, .ref k2, .ref k3, .ref k4, .ref k5, .ref k6, .ref k7, .ref k8, .ref k9, .ref ka, .ref kb, .int cc])), (ka, .inr (6, [.ref ka0, .ref ka1, .ref ka2])), (kb, .inl (cI, 6, .inl u.1)), (ka0, .inl (cI, 4, .inl ca0)), (ka1, .inl (cI, 4, .inl ca1)), (ka2, .inl (cI, 144, .inl u.2))] t) (va_A [(k, .inr (10, [.ref k0, .ref k1, .ref k2, .ref k3, .ref k4, .ref k5, .ref k6, .ref k7, .ref k8, .ref k9, .ref ka, .ref kb, .int cc])), (ka, .inr (6, [.ref ka0, .ref ka1, .ref ka2])), (kb, .inl (cI, 6, .inl cb)), (ka0, .inl (cI, 4, .inl ca0)), (ka1, .inl (cI, 4, .inl ca1)), (ka2, .inl (cI, 144, .inl ca2))] sz)) 0 0 (va_A [(k, .inr (10, [.ref k0, .ref k1, .ref k2, .ref k3, .ref k4, .ref k5, .ref k6, .ref k7, .ref k8, .ref k9, .ref ka, .ref kb, .int cc])), (ka, .inr (6, [.ref ka0, .ref ka1, .ref ka2])), (kb, .inl (cI, 6, .inl cb)), (ka0, .inl (cI, 4, .inl ca0)), (ka1, .inl (cI, 4, .inl ca1)), (ka2, .inl (cI, 144, .inl ca2))] sz) := by
  refine kMetIX (own := RX10) (by decide) rfl (Nat.le_of_ble_eq_true rfl) ?_
  intro p e s m args below meth c hx hb hT hown hname hml A Q hK hP hD hS hA hN hXS hRet ls hl
  have hl : lv_has ls 4 [(0, .ref k), (1, .int a0), (2, .int a1), (3, .int a2)] := hl
  have lo_a0 := k_lo a0
  have hi_a0 := k_hi a0
  have lo_a1 := k_lo a1
  have hi_a1 := k_hi a1
  have lo_a2 := k_lo a2
  have hi_a2 := k_hi a2
  have lo_cc := k_lo cc
  have hi_cc := k_hi cc
  refine lv_iload_n hx hb dX10_put_0 rfl (lv_at hl 1 rfl) ?_
  refine kJi (wr := [(k, .inr (10, [.ref k0, .ref k1, .ref k2, .ref k3, .ref k4, .ref k5, .ref k6, .ref k7, .ref k8, .ref k9, .ref ka, .ref kb, .int cc])), (ka, .inr (6, [.ref ka0, .ref ka1, .ref ka2])), (kb, .inl (cI, 6, .inl cb)), (ka0, .inl (cI, 4, .inl ca0)), (ka1, .inl (cI, 4, .inl ca1)), (ka2, .inl (cI, 144, .inl ca2))]) (va_runS (As := [.int a0]) (rest := []) ⟨hx, hb, hml, hown, hT⟩ (c_X10_isSheetG l D cI aK aV s.heap.size a0) (cwS 1 hT (gS_in mw_662 mw_660 mw_661 mw_1) rfl rfl rfl (by decide +kernel) ⟨Nat.le_of_ble_eq_true rfl, Nat.le_of_ble_eq_true rfl⟩) (kStatX hK hP hD hN hXS hS hA [] rfl (by decide)) rfl rfl hl.1 rfl (lv_room (Nat.le_of_ble_eq_true rfl)) dX10_put_1 ⟨Nat.le_of_ble_eq_true rfl, Nat.le_of_ble_eq_true rfl⟩) hP hD hS hA [] [0, 1, 2, 3, 4, 5] rfl rfl (by decide) (by decide) (fun r_1 u_3 H locs w_2 hP hD hS => ?_)
  have hP : va_P D vwCl [(k, .inr (10, [.ref k0, .ref k1, .ref k2, .ref k3, .ref k4, .ref k5, .ref k6, .ref k7, .ref k8, .ref k9, .ref ka, .ref kb, .int cc])), (ka, .inr (6, [.ref ka0, .ref ka1, .ref ka2])), (kb, .inl (cI, 6, .inl cb)), (ka0, .inl (cI, 4, .inl ca0)), (ka1, .inl (cI, 4, .inl ca1)), (ka2, .inl (cI, 144, .inl ca2))] H := hP
  have hD : va_D A [(k, .inr (10, [.ref k0, .ref k1, .ref k2, .ref k3, .ref k4, .ref k5, .ref k6, .ref k7, .ref k8, .ref k9, .ref ka, .ref kb, .int cc])), (ka, .inr (6, [.ref ka0, .ref ka1, .ref ka2])), (kb, .inl (cI, 6, .inl cb)), (ka0, .inl (cI, 4, .inl ca0)), (ka1, .inl (cI, 4, .inl ca1)), (ka2, .inl (cI, 144, .inl ca2))] := hD
  rcases w_2 with ⟨hr_1, h_4, h_5⟩ | ⟨hr_1, h_6⟩
  · have h_4 : 0 ≤ a0.toInt := h_4
    have h_5 : a0.toInt ≤ 3 := h_5
    obtain rfl : r_1 = 1 := hr_1.trans (by decide)
    refine b_if_ne hx hb zl_1 (tgt := 13) dX10_put_4 (by decide) (fun c_7 => ?_) (fun c_7 => by exfalso; omega)
    refine lv_aload_n hx hb dX10_put_13 rfl (lv_at hl 0 rfl) ?_
    refine va_get (D := D) (ci := 10) (v := .ref ka) (C := RX10) (T := TX10) (N := 13) hx hb hT giX10 hown hK hP 0 rfl rfl 10 (by decide) (hT (Cond.fieldLink RX10 70 "DesertWire" "sheets" "LDesertWire$Sheets;") mw_301) (fun _ h9 => h9) rfl dX10_put_14 ?_
    refine lv_iload_n hx hb dX10_put_17 rfl (lv_at hl 1 rfl) ?_
    refine kJi (wr := [(k, .inr (10, [.ref k0, .ref k1, .ref k2, .ref k3, .ref k4, .ref k5, .ref k6, .ref k7, .ref k8, .ref k9, .ref ka, .ref kb, .int cc])), (kb, .inl (cI, 6, .inl cb)), (ka1, .inl (cI, 4, .inl ca1)), (ka2, .inl (cI, 144, .inl ca2))]) (va_runV (As := [.int a0]) (rest := []) ⟨hx, hb, hml, hown, hT⟩ (c_X6_isMissingG l D cI aK aV ka ka0 ka1 ka2 H.size ca0 a0) (cwV 1 hT (gV_in mw_666 mw_663 mw_664 mw_665 mw_11) rfl rfl rfl (by decide +kernel) ⟨Nat.le_of_ble_eq_true rfl, Nat.le_of_ble_eq_true rfl⟩) (kRecvX (q0 := 1) (ci := 6) hK hP hD hN hXS hS hA rfl rfl [1, 3] rfl (by decide)) rfl rfl hl.1 rfl (lv_room (Nat.le_of_ble_eq_true rfl)) dX10_put_18 ⟨Nat.le_of_ble_eq_true rfl, Nat.le_of_ble_eq_true rfl⟩) hP hD hS hA [1, 3] [0, 2, 4, 5] rfl rfl (by decide) (by decide) (fun r_8 u_10 H locs w_9 hP hD hS => ?_)
    have hP : va_P D vwCl [(k, .inr (10, [.ref k0, .ref k1, .ref k2, .ref k3, .ref k4, .ref k5, .ref k6, .ref k7, .ref k8, .ref k9, .ref ka, .ref kb, .int cc])), (kb, .inl (cI, 6, .inl cb)), (ka1, .inl (cI, 4, .inl ca1)), (ka2, .inl (cI, 144, .inl ca2)), (ka, .inr (6, [.ref ka0, .ref ka1, .ref ka2])), (ka0, .inl (cI, 4, .inl ca0))] H := hP
    have hD : va_D A [(k, .inr (10, [.ref k0, .ref k1, .ref k2, .ref k3, .ref k4, .ref k5, .ref k6, .ref k7, .ref k8, .ref k9, .ref ka, .ref kb, .int cc])), (kb, .inl (cI, 6, .inl cb)), (ka1, .inl (cI, 4, .inl ca1)), (ka2, .inl (cI, 144, .inl ca2)), (ka, .inr (6, [.ref ka0, .ref ka1, .ref ka2])), (ka0, .inl (cI, 4, .inl ca0))] := hD
    have lo_r_8 := k_lo r_8
    have hi_r_8 := k_hi r_8
    refine b_if_eq hx hb rfl (tgt := 30) dX10_put_21 (by decide) (fun c_11 => ?_) (fun c_11 => ?_)
    · refine lv_aload_n hx hb dX10_put_30 rfl (lv_at hl 0 rfl) ?_
      refine va_get (D := D) (ci := 10) (v := .ref ka) (C := RX10) (T := TX10) (N := 13) hx hb hT giX10 hown hK hP 0 rfl rfl 10 (by decide) (hT (Cond.fieldLink RX10 70 "DesertWire" "sheets" "LDesertWire$Sheets;") mw_301) (fun _ h9 => h9) rfl dX10_put_31 ?_
      refine lv_iload_n hx hb dX10_put_34 rfl (lv_at hl 1 rfl) ?_
      refine lv_iload_n hx hb dX10_put_35 rfl (lv_at hl 2 rfl) ?_
      refine kJi (wr := [(k, .inr (10, [.ref k0, .ref k1, .ref k2, .ref k3, .ref k4, .ref k5, .ref k6, .ref k7, .ref k8, .ref k9, .ref ka, .ref kb, .int cc])), (kb, .inl (cI, 6, .inl cb)), (ka2, .inl (cI, 144, .inl ca2)), (ka0, .inl (cI, 4, .inl ca0))]) (va_runV (As := [.int a0, .int a1]) (rest := []) ⟨hx, hb, hml, hown, hT⟩ (c_X6_holdsG l D cI aK aV ka ka0 ka1 ka2 H.size ca1 a0 a1 (by first | omega | decide | assumption | rfl)) (cwV 2 hT (gV_in mw_688 mw_1081 mw_686 mw_687 mw_11) rfl rfl rfl (by decide +kernel) ⟨Nat.le_of_ble_eq_true rfl, Nat.le_of_ble_eq_true rfl⟩) (kRecvX (q0 := 4) (ci := 6) hK hP hD hN hXS hS hA rfl rfl [4, 2] rfl (by decide)) rfl rfl hl.1 rfl (lv_room (Nat.le_of_ble_eq_true rfl)) dX10_put_36 ⟨Nat.le_of_ble_eq_true rfl, Nat.le_of_ble_eq_true rfl⟩) hP hD hS hA [4, 2] [0, 1, 3, 5] rfl rfl (by decide) (by decide) (fun r_12 u_14 H locs w_13 hP hD hS => ?_)
      have hP : va_P D vwCl [(k, .inr (10, [.ref k0, .ref k1, .ref k2, .ref k3, .ref k4, .ref k5, .ref k6, .ref k7, .ref k8, .ref k9, .ref ka, .ref kb, .int cc])), (kb, .inl (cI, 6, .inl cb)), (ka2, .inl (cI, 144, .inl ca2)), (ka0, .inl (cI, 4, .inl ca0)), (ka, .inr (6, [.ref ka0, .ref ka1, .ref ka2])), (ka1, .inl (cI, 4, .inl ca1))] H := hP
      have hD : va_D A [(k, .inr (10, [.ref k0, .ref k1, .ref k2, .ref k3, .ref k4, .ref k5, .ref k6, .ref k7, .ref k8, .ref k9, .ref ka, .ref kb, .int cc])), (kb, .inl (cI, 6, .inl cb)), (ka2, .inl (cI, 144, .inl ca2)), (ka0, .inl (cI, 4, .inl ca0)), (ka, .inr (6, [.ref ka0, .ref ka1, .ref ka2])), (ka1, .inl (cI, 4, .inl ca1))] := hD
      rcases w_13 with ⟨hr_12, h_15, h_16, h_17, h_18⟩ | hr_12
      · have h_15 : 0 ≤ a0.toInt := h_15
        have h_16 : a0.toInt ≤ 3 := h_16
        have h_17 : 0 ≤ a1.toInt := h_17
        have h_18 : a1.toInt ≤ 35 := h_18
        obtain rfl : r_12 = 1 := hr_12.trans (by decide)
        refine b_if_ne hx hb zl_1 (tgt := 48) dX10_put_39 (by decide) (fun c_19 => ?_) (fun c_19 => by exfalso; omega)
        refine lv_aload_n hx hb dX10_put_48 rfl (lv_at hl 0 rfl) ?_
        refine va_get (D := D) (ci := 10) (v := .ref ka) (C := RX10) (T := TX10) (N := 13) hx hb hT giX10 hown hK hP 0 rfl rfl 10 (by decide) (hT (Cond.fieldLink RX10 70 "DesertWire" "sheets" "LDesertWire$Sheets;") mw_301) (fun _ h9 => h9) rfl dX10_put_49 ?_
        refine lv_iload_n hx hb dX10_put_52 rfl (lv_at hl 1 rfl) ?_
        refine lv_iload_n hx hb dX10_put_53 rfl (lv_at hl 2 rfl) ?_
        refine lv_iload_n hx hb dX10_put_54 rfl (lv_at hl 3 rfl) ?_
        refine kJv (wr := [(k, .inr (10, [.ref k0, .ref k1, .ref k2, .ref k3, .ref k4, .ref k5, .ref k6, .ref k7, .ref k8, .ref k9, .ref ka, .ref kb, .int cc])), (kb, .inl (cI, 6, .inl cb))]) (va_runV (As := [.int a0, .int a1, .int a2]) (rest := []) ⟨hx, hb, hml, hown, hT⟩ (c_X6_writeG l D cI aK aV ka ka0 ka1 ka2 H.size ca0 ca1 ca2 a0 a1 a2 (by first | omega | decide | assumption | rfl)) (cwV 3 hT (gV_in mw_1085 mw_1082 mw_1083 mw_1084 mw_11) rfl rfl rfl (by decide +kernel) ⟨Nat.le_of_ble_eq_true rfl, Nat.le_of_ble_eq_true rfl⟩) (kRecvX (q0 := 4) (ci := 6) hK hP hD hN hXS hS hA rfl rfl [4, 3, 5, 2] rfl (by decide)) rfl rfl hl.1 rfl (lv_room (Nat.le_of_ble_eq_true rfl)) dX10_put_55 ⟨Nat.le_of_ble_eq_true rfl, Nat.le_of_ble_eq_true rfl⟩) hP hD hS hA [4, 3, 5, 2] [0, 1] rfl rfl (by decide) (by decide) (fun sc2_22 H locs w_21 hP hD hS => ?_)
        have hP : va_P D vwCl [(k, .inr (10, [.ref k0, .ref k1, .ref k2, .ref k3, .ref k4, .ref k5, .ref k6, .ref k7, .ref k8, .ref k9, .ref ka, .ref kb, .int cc])), (kb, .inl (cI, 6, .inl cb)), (ka, .inr (6, [.ref ka0, .ref ka1, .ref ka2])), (ka0, .inl (cI, 4, .inl ca0)), (ka1, .inl (cI, 4, .inl ca1)), (ka2, .inl (cI, 144, .inl sc2_22))] H := hP
        have hD : va_D A [(k, .inr (10, [.ref k0, .ref k1, .ref k2, .ref k3, .ref k4, .ref k5, .ref k6, .ref k7, .ref k8, .ref k9, .ref ka, .ref kb, .int cc])), (kb, .inl (cI, 6, .inl cb)), (ka, .inr (6, [.ref ka0, .ref ka1, .ref ka2])), (ka0, .inl (cI, 4, .inl ca0)), (ka1, .inl (cI, 4, .inl ca1)), (ka2, .inl (cI, 144, .inl sc2_22))] := hD
        refine lv_iconst (v := 1) hx hb dX10_put_58 (by decide) ?_
        exact hRet (cb, sc2_22) [0, 2, 1, 3, 4, 5] trivial hP hD (by decide) rfl hS rfl dX10_put_59
      · obtain rfl : r_12 = 0 := hr_12.trans (by decide)
        refine b_if_ne hx hb zl_0 (tgt := 48) dX10_put_39 (by decide) (fun c_23 => by exfalso; omega) (fun c_23 => ?_)
        refine lv_aload_n hx hb dX10_put_42 rfl (lv_at hl 0 rfl) ?_
        refine lv_iconst (v := 1) hx hb dX10_put_43 (by decide) ?_
        refine kJi (wr := [(ka2, .inl (cI, 144, .inl ca2)), (ka0, .inl (cI, 4, .inl ca0)), (ka, .inr (6, [.ref ka0, .ref ka1, .ref ka2])), (ka1, .inl (cI, 4, .inl ca1))]) (va_runV (As := [.int 1]) (rest := []) ⟨hx, hb, hml, hown, hT⟩ (c_X10_findingG l D cI aK aV k k0 k1 k2 k3 k4 k5 k6 k7 k8 k9 ka kb H.size cc cb 1) (cwV 1 hT (gV_in mw_338 mw_335 mw_337 mw_p1_0 mw_1) rfl rfl rfl (by decide +kernel) ⟨Nat.le_of_ble_eq_true rfl, Nat.le_of_ble_eq_true rfl⟩) (kRecvX (q0 := 0) (ci := 10) hK hP hD hN hXS hS hA rfl rfl [0, 1] rfl (by decide)) rfl rfl hl.1 rfl (lv_room (Nat.le_of_ble_eq_true rfl)) dX10_put_44 ⟨Nat.le_of_ble_eq_true rfl, Nat.le_of_ble_eq_true rfl⟩) hP hD hS hA [0, 1] [2, 3, 4, 5] rfl rfl (by decide) (by decide) (fun r_24 scb_26 H locs w_25 hP hD hS => ?_)
        have hP : va_P D vwCl [(ka2, .inl (cI, 144, .inl ca2)), (ka0, .inl (cI, 4, .inl ca0)), (ka, .inr (6, [.ref ka0, .ref ka1, .ref ka2])), (ka1, .inl (cI, 4, .inl ca1)), (k, .inr (10, [.ref k0, .ref k1, .ref k2, .ref k3, .ref k4, .ref k5, .ref k6, .ref k7, .ref k8, .ref k9, .ref ka, .ref kb, .int cc])), (kb, .inl (cI, 6, .inl scb_26))] H := hP
        have hD : va_D A [(ka2, .inl (cI, 144, .inl ca2)), (ka0, .inl (cI, 4, .inl ca0)), (ka, .inr (6, [.ref ka0, .ref ka1, .ref ka2])), (ka1, .inl (cI, 4, .inl ca1)), (k, .inr (10, [.ref k0, .ref k1, .ref k2, .ref k3, .ref k4, .ref k5, .ref k6, .ref k7, .ref k8, .ref k9, .ref ka, .ref kb, .int cc])), (kb, .inl (cI, 6, .inl scb_26))] := hD
        have lo_r_24 := k_lo r_24
        have hi_r_24 := k_hi r_24
        exact hRet (scb_26, ca2) [4, 2, 5, 1, 3, 0] trivial hP hD (by decide) rfl hS rfl dX10_put_47
    · refine lv_aload_n hx hb dX10_put_24 rfl (lv_at hl 0 rfl) ?_
      refine lv_iconst (v := 2) hx hb dX10_put_25 (by decide) ?_
      refine kJi (wr := [(ka1, .inl (cI, 4, .inl ca1)), (ka2, .inl (cI, 144, .inl ca2)), (ka, .inr (6, [.ref ka0, .ref ka1, .ref ka2])), (ka0, .inl (cI, 4, .inl ca0))]) (va_runV (As := [.int 2]) (rest := []) ⟨hx, hb, hml, hown, hT⟩ (c_X10_findingG l D cI aK aV k k0 k1 k2 k3 k4 k5 k6 k7 k8 k9 ka kb H.size cc cb 2) (cwV 1 hT (gV_in mw_338 mw_335 mw_337 mw_p1_0 mw_1) rfl rfl rfl (by decide +kernel) ⟨Nat.le_of_ble_eq_true rfl, Nat.le_of_ble_eq_true rfl⟩) (kRecvX (q0 := 0) (ci := 10) hK hP hD hN hXS hS hA rfl rfl [0, 1] rfl (by decide)) rfl rfl hl.1 rfl (lv_room (Nat.le_of_ble_eq_true rfl)) dX10_put_26 ⟨Nat.le_of_ble_eq_true rfl, Nat.le_of_ble_eq_true rfl⟩) hP hD hS hA [0, 1] [2, 3, 4, 5] rfl rfl (by decide) (by decide) (fun r_27 scb_29 H locs w_28 hP hD hS => ?_)
      have hP : va_P D vwCl [(ka1, .inl (cI, 4, .inl ca1)), (ka2, .inl (cI, 144, .inl ca2)), (ka, .inr (6, [.ref ka0, .ref ka1, .ref ka2])), (ka0, .inl (cI, 4, .inl ca0)), (k, .inr (10, [.ref k0, .ref k1, .ref k2, .ref k3, .ref k4, .ref k5, .ref k6, .ref k7, .ref k8, .ref k9, .ref ka, .ref kb, .int cc])), (kb, .inl (cI, 6, .inl scb_29))] H := hP
      have hD : va_D A [(ka1, .inl (cI, 4, .inl ca1)), (ka2, .inl (cI, 144, .inl ca2)), (ka, .inr (6, [.ref ka0, .ref ka1, .ref ka2])), (ka0, .inl (cI, 4, .inl ca0)), (k, .inr (10, [.ref k0, .ref k1, .ref k2, .ref k3, .ref k4, .ref k5, .ref k6, .ref k7, .ref k8, .ref k9, .ref ka, .ref kb, .int cc])), (kb, .inl (cI, 6, .inl scb_29))] := hD
      have lo_r_27 := k_lo r_27
      have hi_r_27 := k_hi r_27
      exact hRet (scb_29, ca2) [4, 2, 5, 3, 0, 1] trivial hP hD (by decide) rfl hS rfl dX10_put_29
  · have h_6 : a0.toInt < 0 ∨ 3 < a0.toInt := h_6
    obtain rfl : r_1 = 0 := hr_1.trans (by decide)
    refine b_if_ne hx hb zl_0 (tgt := 13) dX10_put_4 (by decide) (fun c_30 => by exfalso; omega) (fun c_30 => ?_)
    refine lv_aload_n hx hb dX10_put_7 rfl (lv_at hl 0 rfl) ?_
    refine lv_iconst (v := 1) hx hb dX10_put_8 (by decide) ?_
    refine kJi (wr := [(ka, .inr (6, [.ref ka0, .ref ka1, .ref ka2])), (ka0, .inl (cI, 4, .inl ca0)), (ka1, .inl (cI, 4, .inl ca1)), (ka2, .inl (cI, 144, .inl ca2))]) (va_runV (As := [.int 1]) (rest := []) ⟨hx, hb, hml, hown, hT⟩ (c_X10_findingG l D cI aK aV k k0 k1 k2 k3 k4 k5 k6 k7 k8 k9 ka kb H.size cc cb 1) (cwV 1 hT (gV_in mw_338 mw_335 mw_337 mw_p1_0 mw_1) rfl rfl rfl (by decide +kernel) ⟨Nat.le_of_ble_eq_true rfl, Nat.le_of_ble_eq_true rfl⟩) (kRecvX (q0 := 0) (ci := 10) hK hP hD hN hXS hS hA rfl rfl [0, 2] rfl (by decide)) rfl rfl hl.1 rfl (lv_room (Nat.le_of_ble_eq_true rfl)) dX10_put_9 ⟨Nat.le_of_ble_eq_true rfl, Nat.le_of_ble_eq_true rfl⟩) hP hD hS hA [0, 2] [1, 3, 4, 5] rfl rfl (by decide) (by decide) (fun r_31 scb_33 H locs w_32 hP hD hS => ?_)
    have hP : va_P D vwCl [(ka, .inr (6, [.ref ka0, .ref ka1, .ref ka2])), (ka0, .inl (cI, 4, .inl ca0)), (ka1, .inl (cI, 4, .inl ca1)), (ka2, .inl (cI, 144, .inl ca2)), (k, .inr (10, [.ref k0, .ref k1, .ref k2, .ref k3, .ref k4, .ref k5, .ref k6, .ref k7, .ref k8, .ref k9, .ref ka, .ref kb, .int cc])), (kb, .inl (cI, 6, .inl scb_33))] H := hP
    have hD : va_D A [(ka, .inr (6, [.ref ka0, .ref ka1, .ref ka2])), (ka0, .inl (cI, 4, .inl ca0)), (ka1, .inl (cI, 4, .inl ca1)), (ka2, .inl (cI, 144, .inl ca2)), (k, .inr (10, [.ref k0, .ref k1, .ref k2, .ref k3, .ref k4, .ref k5, .ref k6, .ref k7, .ref k8, .ref k9, .ref ka, .ref kb, .int cc])), (kb, .inl (cI, 6, .inl scb_33))] := hD
    have lo_r_31 := k_lo r_31
    have hi_r_31 := k_hi r_31
    exact hRet (scb_33, ca2) [4, 0, 5, 1, 2, 3] trivial hP hD (by decide) rfl hS rfl dX10_put_12
theorem dX10_move_0 : decode cX10_move 0 = .ok (.iload_n 1, 1) := by decide +kernel
theorem dX10_move_1 : decode cX10_move 1 = .ok (.invokestatic 173, 3) := by decide +kernel
theorem dX10_move_4 : decode cX10_move 4 = .ok (.ifCond .eq 10, 3) := by decide +kernel
theorem dX10_move_7 : decode cX10_move 7 = .ok (.iload_n 3, 1) := by decide +kernel
theorem dX10_move_8 : decode cX10_move 8 = .ok (.invokestatic 173, 3) := by decide +kernel
theorem dX10_move_11 : decode cX10_move 11 = .ok (.ifCond .ne 9, 3) := by decide +kernel
theorem dX10_move_14 : decode cX10_move 14 = .ok (.aload_n 0, 1) := by decide +kernel
theorem dX10_move_15 : decode cX10_move 15 = .ok (.iconst 1, 1) := by decide +kernel
theorem dX10_move_16 : decode cX10_move 16 = .ok (.invokevirtual 82, 3) := by decide +kernel
theorem dX10_move_19 : decode cX10_move 19 = .ok (.ireturn, 1) := by decide +kernel
theorem dX10_move_20 : decode cX10_move 20 = .ok (.aload_n 0, 1) := by decide +kernel
theorem dX10_move_21 : decode cX10_move 21 = .ok (.getfield 70, 3) := by decide +kernel
theorem dX10_move_24 : decode cX10_move 24 = .ok (.iload_n 1, 1) := by decide +kernel
theorem dX10_move_25 : decode cX10_move 25 = .ok (.invokevirtual 176, 3) := by decide +kernel
theorem dX10_move_28 : decode cX10_move 28 = .ok (.ifCond .ne 14, 3) := by decide +kernel
theorem dX10_move_31 : decode cX10_move 31 = .ok (.aload_n 0, 1) := by decide +kernel
theorem dX10_move_32 : decode cX10_move 32 = .ok (.getfield 70, 3) := by decide +kernel
theorem dX10_move_35 : decode cX10_move 35 = .ok (.iload_n 3, 1) := by decide +kernel
theorem dX10_move_36 : decode cX10_move 36 = .ok (.invokevirtual 176, 3) := by decide +kernel
theorem dX10_move_39 : decode cX10_move 39 = .ok (.ifCond .eq 9, 3) := by decide +kernel
theorem dX10_move_42 : decode cX10_move 42 = .ok (.aload_n 0, 1) := by decide +kernel
theorem dX10_move_43 : decode cX10_move 43 = .ok (.iconst 2, 1) := by decide +kernel
theorem dX10_move_44 : decode cX10_move 44 = .ok (.invokevirtual 82, 3) := by decide +kernel
theorem dX10_move_47 : decode cX10_move 47 = .ok (.ireturn, 1) := by decide +kernel
theorem dX10_move_48 : decode cX10_move 48 = .ok (.aload_n 0, 1) := by decide +kernel
theorem dX10_move_49 : decode cX10_move 49 = .ok (.getfield 70, 3) := by decide +kernel
theorem dX10_move_52 : decode cX10_move 52 = .ok (.iload_n 1, 1) := by decide +kernel
theorem dX10_move_53 : decode cX10_move 53 = .ok (.invokevirtual 368, 3) := by decide +kernel
theorem dX10_move_56 : decode cX10_move 56 = .ok (.aload_n 0, 1) := by decide +kernel
theorem dX10_move_57 : decode cX10_move 57 = .ok (.getfield 70, 3) := by decide +kernel
theorem dX10_move_60 : decode cX10_move 60 = .ok (.iload_n 3, 1) := by decide +kernel
theorem dX10_move_61 : decode cX10_move 61 = .ok (.invokevirtual 368, 3) := by decide +kernel
theorem dX10_move_64 : decode cX10_move 64 = .ok (.if_icmp .eq 9, 3) := by decide +kernel
theorem dX10_move_67 : decode cX10_move 67 = .ok (.aload_n 0, 1) := by decide +kernel
theorem dX10_move_68 : decode cX10_move 68 = .ok (.iconst 5, 1) := by decide +kernel
theorem dX10_move_69 : decode cX10_move 69 = .ok (.invokevirtual 82, 3) := by decide +kernel
theorem dX10_move_72 : decode cX10_move 72 = .ok (.ireturn, 1) := by decide +kernel
theorem dX10_move_73 : decode cX10_move 73 = .ok (.aload_n 0, 1) := by decide +kernel
theorem dX10_move_74 : decode cX10_move 74 = .ok (.getfield 70, 3) := by decide +kernel
theorem dX10_move_77 : decode cX10_move 77 = .ok (.iload_n 1, 1) := by decide +kernel
theorem dX10_move_78 : decode cX10_move 78 = .ok (.iload_n 2, 1) := by decide +kernel
theorem dX10_move_79 : decode cX10_move 79 = .ok (.iload 5, 2) := by decide +kernel
theorem dX10_move_81 : decode cX10_move 81 = .ok (.invokevirtual 371, 3) := by decide +kernel
theorem dX10_move_84 : decode cX10_move 84 = .ok (.ifCond .eq 18, 3) := by decide +kernel
theorem dX10_move_87 : decode cX10_move 87 = .ok (.aload_n 0, 1) := by decide +kernel
theorem dX10_move_88 : decode cX10_move 88 = .ok (.getfield 70, 3) := by decide +kernel
theorem dX10_move_91 : decode cX10_move 91 = .ok (.iload_n 3, 1) := by decide +kernel
theorem dX10_move_92 : decode cX10_move 92 = .ok (.iload 4, 2) := by decide +kernel
theorem dX10_move_94 : decode cX10_move 94 = .ok (.iload 5, 2) := by decide +kernel
theorem dX10_move_96 : decode cX10_move 96 = .ok (.invokevirtual 371, 3) := by decide +kernel
theorem dX10_move_99 : decode cX10_move 99 = .ok (.ifCond .ne 9, 3) := by decide +kernel
theorem dX10_move_102 : decode cX10_move 102 = .ok (.aload_n 0, 1) := by decide +kernel
theorem dX10_move_103 : decode cX10_move 103 = .ok (.iconst 1, 1) := by decide +kernel
theorem dX10_move_104 : decode cX10_move 104 = .ok (.invokevirtual 82, 3) := by decide +kernel
theorem dX10_move_107 : decode cX10_move 107 = .ok (.ireturn, 1) := by decide +kernel
theorem dX10_move_108 : decode cX10_move 108 = .ok (.aload_n 0, 1) := by decide +kernel
theorem dX10_move_109 : decode cX10_move 109 = .ok (.getfield 70, 3) := by decide +kernel
theorem dX10_move_112 : decode cX10_move 112 = .ok (.iload_n 1, 1) := by decide +kernel
theorem dX10_move_113 : decode cX10_move 113 = .ok (.iload_n 2, 1) := by decide +kernel
theorem dX10_move_114 : decode cX10_move 114 = .ok (.iload_n 3, 1) := by decide +kernel
theorem dX10_move_115 : decode cX10_move 115 = .ok (.iload 4, 2) := by decide +kernel
theorem dX10_move_117 : decode cX10_move 117 = .ok (.iload 5, 2) := by decide +kernel
theorem dX10_move_119 : decode cX10_move 119 = .ok (.invokevirtual 374, 3) := by decide +kernel
theorem dX10_move_122 : decode cX10_move 122 = .ok (.iload 5, 2) := by decide +kernel
theorem dX10_move_124 : decode cX10_move 124 = .ok (.ireturn, 1) := by decide +kernel
set_option maxHeartbeats 4000000 in
set_option maxRecDepth 100000 in
theorem c_X10_moveG (l : Launch) (D : va_G) (cI : ClassId) (aK aV : Nat → Nat) (k k0 k1 k2 k3 k4 k5 k6 k7 k8 k9 ka kb ka0 ka1 ka2 : Nat) (sz : Nat) (cc : Int32) (cb : Nat → Int32) (ca0 : Nat → Int32) (ca1 : Nat → Int32) (ca2 : Nat → Int32) (a0 : Int32) (a1 : Int32) (a2 : Int32) (a3 : Int32) (a4 : Int32) (pre0 : ∀ k : Nat, k < 4 → 0 ≤ (ca1 k).toInt ∧ (ca1 k).toInt ≤ 36) : Met l yX10_move (gW yX10_move cX10_move 6 (some .int)) ({ frames := 4, cells := 0, slots := 0, locals := 89 } : Room) (kPreX D cI aK aV [.ref k, .int a0, .int a1, .int a2, .int a3, .int a4] [(k, .inr (10, [.ref k0, .ref k1, .ref k2, .ref k3, .ref k4, .ref k5, .ref k6, .ref k7, .ref k8, .ref k9, .ref ka, .ref kb, .int cc])), (ka, .inr (6, [.ref ka0, .ref ka1, .ref ka2])), (kb, .inl (cI, 6, .inl cb)), (ka0, .inl (cI, 4, .inl ca0)), (ka1, .inl (cI, 4, .inl ca1)), (ka2, .inl (cI, 144, .inl ca2))] sz) (va_Qi (fun (r : Int32) (u : (Nat → Int32) × (Nat → Int32)) => True) (fun u t => kWd D cI (va_A [(k, .inr (10, [.ref k0, .ref k1, .ref k2, .ref k3, .ref k4, .ref k5, .ref k6, .ref k7, .ref k8, .ref k9, .ref ka, .ref kb, .int cc])), (ka, .inr (6, [.ref ka0, .ref ka1, .ref ka2])), (kb, .inl (cI, 6, .inl cb)), (ka0, .inl (cI, 4, .inl ca0)), (ka1, .inl (cI, 4, .inl ca1)), (ka2, .inl (cI, 144, .inl ca2))] sz) [(k, .inr (10, [.ref k0, .ref k1, .ref k2, .ref k3, .ref k4, .ref k5, .ref k6, .ref k7, .ref k8, .ref k9, .ref ka, .ref kb, .int cc])), (ka, .inr (6, [.ref ka0, .ref ka1, .ref ka2])), (kb, .inl (cI, 6, .inl u.1)), (ka0, .inl (cI, 4, .inl ca0)), (ka1, .inl (cI, 4, .inl ca1)), (ka2, .inl (cI, 144, .inl u.2))] t) (va_A [(k, .inr (10, [.ref k0, .ref k1, .ref k2, .ref k3, .ref k4, .ref k5, .ref k6, .ref k7, .ref k8, .ref k9, .ref ka, .ref kb, .int cc])), (ka, .inr (6, [.ref ka0, .ref ka1, .ref ka2])), (kb, .inl (cI, 6, .inl cb)), (ka0, .inl (cI, 4, .inl ca0)), (ka1, .inl (cI, 4, .inl ca1)), (ka2, .inl (cI, 144, .inl ca2))] sz)) 0 0 (va_A [(k, .inr (10, [.ref k0, .ref k1, .ref k2, .ref k3, .ref k4, .ref k5, .ref k6, .ref k7, .ref k8, .ref k9, .ref ka, .ref kb, .int cc])), (ka, .inr (6, [.ref ka0, .ref ka1, .ref ka2])), (kb, .inl (cI, 6, .inl cb)), (ka0, .inl (cI, 4, .inl ca0)), (ka1, .inl (cI, 4, .inl ca1)), (ka2, .inl (cI, 144, .inl ca2))] sz) := by
  refine kMetIX (own := RX10) (by decide) rfl (Nat.le_of_ble_eq_true rfl) ?_
  intro p e s m args below meth c hx hb hT hown hname hml A Q hK hP hD hS hA hN hXS hRet ls hl
  have hl : lv_has ls 6 [(0, .ref k), (1, .int a0), (2, .int a1), (3, .int a2), (4, .int a3), (5, .int a4)] := hl
  have lo_a0 := k_lo a0
  have hi_a0 := k_hi a0
  have lo_a1 := k_lo a1
  have hi_a1 := k_hi a1
  have lo_a2 := k_lo a2
  have hi_a2 := k_hi a2
  have lo_a3 := k_lo a3
  have hi_a3 := k_hi a3
  have lo_a4 := k_lo a4
  have hi_a4 := k_hi a4
  have lo_cc := k_lo cc
  have hi_cc := k_hi cc
  refine lv_iload_n hx hb dX10_move_0 rfl (lv_at hl 1 rfl) ?_
  refine kJi (wr := [(k, .inr (10, [.ref k0, .ref k1, .ref k2, .ref k3, .ref k4, .ref k5, .ref k6, .ref k7, .ref k8, .ref k9, .ref ka, .ref kb, .int cc])), (ka, .inr (6, [.ref ka0, .ref ka1, .ref ka2])), (kb, .inl (cI, 6, .inl cb)), (ka0, .inl (cI, 4, .inl ca0)), (ka1, .inl (cI, 4, .inl ca1)), (ka2, .inl (cI, 144, .inl ca2))]) (va_runS (As := [.int a0]) (rest := []) ⟨hx, hb, hml, hown, hT⟩ (c_X10_isSheetG l D cI aK aV s.heap.size a0) (cwS 1 hT (gS_in mw_662 mw_660 mw_661 mw_1) rfl rfl rfl (by decide +kernel) ⟨Nat.le_of_ble_eq_true rfl, Nat.le_of_ble_eq_true rfl⟩) (kStatX hK hP hD hN hXS hS hA [] rfl (by decide)) rfl rfl hl.1 rfl (lv_room (Nat.le_of_ble_eq_true rfl)) dX10_move_1 ⟨Nat.le_of_ble_eq_true rfl, Nat.le_of_ble_eq_true rfl⟩) hP hD hS hA [] [0, 1, 2, 3, 4, 5] rfl rfl (by decide) (by decide) (fun r_1 u_3 H locs w_2 hP hD hS => ?_)
  have hP : va_P D vwCl [(k, .inr (10, [.ref k0, .ref k1, .ref k2, .ref k3, .ref k4, .ref k5, .ref k6, .ref k7, .ref k8, .ref k9, .ref ka, .ref kb, .int cc])), (ka, .inr (6, [.ref ka0, .ref ka1, .ref ka2])), (kb, .inl (cI, 6, .inl cb)), (ka0, .inl (cI, 4, .inl ca0)), (ka1, .inl (cI, 4, .inl ca1)), (ka2, .inl (cI, 144, .inl ca2))] H := hP
  have hD : va_D A [(k, .inr (10, [.ref k0, .ref k1, .ref k2, .ref k3, .ref k4, .ref k5, .ref k6, .ref k7, .ref k8, .ref k9, .ref ka, .ref kb, .int cc])), (ka, .inr (6, [.ref ka0, .ref ka1, .ref ka2])), (kb, .inl (cI, 6, .inl cb)), (ka0, .inl (cI, 4, .inl ca0)), (ka1, .inl (cI, 4, .inl ca1)), (ka2, .inl (cI, 144, .inl ca2))] := hD
  rcases w_2 with ⟨hr_1, h_4, h_5⟩ | ⟨hr_1, h_6⟩
  · have h_4 : 0 ≤ a0.toInt := h_4
    have h_5 : a0.toInt ≤ 3 := h_5
    obtain rfl : r_1 = 1 := hr_1.trans (by decide)
    refine b_if_eq hx hb zl_1 (tgt := 14) dX10_move_4 (by decide) (fun c_7 => by exfalso; omega) (fun c_7 => ?_)
    refine lv_iload_n hx hb dX10_move_7 rfl (lv_at hl 3 rfl) ?_
    refine kJi (wr := [(k, .inr (10, [.ref k0, .ref k1, .ref k2, .ref k3, .ref k4, .ref k5, .ref k6, .ref k7, .ref k8, .ref k9, .ref ka, .ref kb, .int cc])), (ka, .inr (6, [.ref ka0, .ref ka1, .ref ka2])), (kb, .inl (cI, 6, .inl cb)), (ka0, .inl (cI, 4, .inl ca0)), (ka1, .inl (cI, 4, .inl ca1)), (ka2, .inl (cI, 144, .inl ca2))]) (va_runS (As := [.int a2]) (rest := []) ⟨hx, hb, hml, hown, hT⟩ (c_X10_isSheetG l D cI aK aV H.size a2) (cwS 1 hT (gS_in mw_662 mw_660 mw_661 mw_1) rfl rfl rfl (by decide +kernel) ⟨Nat.le_of_ble_eq_true rfl, Nat.le_of_ble_eq_true rfl⟩) (kStatX hK hP hD hN hXS hS hA [] rfl (by decide)) rfl rfl hl.1 rfl (lv_room (Nat.le_of_ble_eq_true rfl)) dX10_move_8 ⟨Nat.le_of_ble_eq_true rfl, Nat.le_of_ble_eq_true rfl⟩) hP hD hS hA [] [0, 1, 2, 3, 4, 5] rfl rfl (by decide) (by decide) (fun r_8 u_10 H locs w_9 hP hD hS => ?_)
    have hP : va_P D vwCl [(k, .inr (10, [.ref k0, .ref k1, .ref k2, .ref k3, .ref k4, .ref k5, .ref k6, .ref k7, .ref k8, .ref k9, .ref ka, .ref kb, .int cc])), (ka, .inr (6, [.ref ka0, .ref ka1, .ref ka2])), (kb, .inl (cI, 6, .inl cb)), (ka0, .inl (cI, 4, .inl ca0)), (ka1, .inl (cI, 4, .inl ca1)), (ka2, .inl (cI, 144, .inl ca2))] H := hP
    have hD : va_D A [(k, .inr (10, [.ref k0, .ref k1, .ref k2, .ref k3, .ref k4, .ref k5, .ref k6, .ref k7, .ref k8, .ref k9, .ref ka, .ref kb, .int cc])), (ka, .inr (6, [.ref ka0, .ref ka1, .ref ka2])), (kb, .inl (cI, 6, .inl cb)), (ka0, .inl (cI, 4, .inl ca0)), (ka1, .inl (cI, 4, .inl ca1)), (ka2, .inl (cI, 144, .inl ca2))] := hD
    rcases w_9 with ⟨hr_8, h_11, h_12⟩ | ⟨hr_8, h_13⟩
    · have h_11 : 0 ≤ a2.toInt := h_11
      have h_12 : a2.toInt ≤ 3 := h_12
      obtain rfl : r_8 = 1 := hr_8.trans (by decide)
      refine b_if_ne hx hb zl_1 (tgt := 20) dX10_move_11 (by decide) (fun c_14 => ?_) (fun c_14 => by exfalso; omega)
      refine lv_aload_n hx hb dX10_move_20 rfl (lv_at hl 0 rfl) ?_
      refine va_get (D := D) (ci := 10) (v := .ref ka) (C := RX10) (T := TX10) (N := 13) hx hb hT giX10 hown hK hP 0 rfl rfl 10 (by decide) (hT (Cond.fieldLink RX10 70 "DesertWire" "sheets" "LDesertWire$Sheets;") mw_301) (fun _ h9 => h9) rfl dX10_move_21 ?_
      refine lv_iload_n hx hb dX10_move_24 rfl (lv_at hl 1 rfl) ?_
      refine kJi (wr := [(k, .inr (10, [.ref k0, .ref k1, .ref k2, .ref k3, .ref k4, .ref k5, .ref k6, .ref k7, .ref k8, .ref k9, .ref ka, .ref kb, .int cc])), (kb, .inl (cI, 6, .inl cb)), (ka1, .inl (cI, 4, .inl ca1)), (ka2, .inl (cI, 144, .inl ca2))]) (va_runV (As := [.int a0]) (rest := []) ⟨hx, hb, hml, hown, hT⟩ (c_X6_isMissingG l D cI aK aV ka ka0 ka1 ka2 H.size ca0 a0) (cwV 1 hT (gV_in mw_666 mw_663 mw_664 mw_665 mw_11) rfl rfl rfl (by decide +kernel) ⟨Nat.le_of_ble_eq_true rfl, Nat.le_of_ble_eq_true rfl⟩) (kRecvX (q0 := 1) (ci := 6) hK hP hD hN hXS hS hA rfl rfl [1, 3] rfl (by decide)) rfl rfl hl.1 rfl (lv_room (Nat.le_of_ble_eq_true rfl)) dX10_move_25 ⟨Nat.le_of_ble_eq_true rfl, Nat.le_of_ble_eq_true rfl⟩) hP hD hS hA [1, 3] [0, 2, 4, 5] rfl rfl (by decide) (by decide) (fun r_15 u_17 H locs w_16 hP hD hS => ?_)
      have hP : va_P D vwCl [(k, .inr (10, [.ref k0, .ref k1, .ref k2, .ref k3, .ref k4, .ref k5, .ref k6, .ref k7, .ref k8, .ref k9, .ref ka, .ref kb, .int cc])), (kb, .inl (cI, 6, .inl cb)), (ka1, .inl (cI, 4, .inl ca1)), (ka2, .inl (cI, 144, .inl ca2)), (ka, .inr (6, [.ref ka0, .ref ka1, .ref ka2])), (ka0, .inl (cI, 4, .inl ca0))] H := hP
      have hD : va_D A [(k, .inr (10, [.ref k0, .ref k1, .ref k2, .ref k3, .ref k4, .ref k5, .ref k6, .ref k7, .ref k8, .ref k9, .ref ka, .ref kb, .int cc])), (kb, .inl (cI, 6, .inl cb)), (ka1, .inl (cI, 4, .inl ca1)), (ka2, .inl (cI, 144, .inl ca2)), (ka, .inr (6, [.ref ka0, .ref ka1, .ref ka2])), (ka0, .inl (cI, 4, .inl ca0))] := hD
      have lo_r_15 := k_lo r_15
      have hi_r_15 := k_hi r_15
      refine b_if_ne hx hb rfl (tgt := 42) dX10_move_28 (by decide) (fun c_18 => ?_) (fun c_18 => ?_)
      · refine lv_aload_n hx hb dX10_move_42 rfl (lv_at hl 0 rfl) ?_
        refine lv_iconst (v := 2) hx hb dX10_move_43 (by decide) ?_
        refine kJi (wr := [(ka1, .inl (cI, 4, .inl ca1)), (ka2, .inl (cI, 144, .inl ca2)), (ka, .inr (6, [.ref ka0, .ref ka1, .ref ka2])), (ka0, .inl (cI, 4, .inl ca0))]) (va_runV (As := [.int 2]) (rest := []) ⟨hx, hb, hml, hown, hT⟩ (c_X10_findingG l D cI aK aV k k0 k1 k2 k3 k4 k5 k6 k7 k8 k9 ka kb H.size cc cb 2) (cwV 1 hT (gV_in mw_338 mw_335 mw_337 mw_p1_0 mw_1) rfl rfl rfl (by decide +kernel) ⟨Nat.le_of_ble_eq_true rfl, Nat.le_of_ble_eq_true rfl⟩) (kRecvX (q0 := 0) (ci := 10) hK hP hD hN hXS hS hA rfl rfl [0, 1] rfl (by decide)) rfl rfl hl.1 rfl (lv_room (Nat.le_of_ble_eq_true rfl)) dX10_move_44 ⟨Nat.le_of_ble_eq_true rfl, Nat.le_of_ble_eq_true rfl⟩) hP hD hS hA [0, 1] [2, 3, 4, 5] rfl rfl (by decide) (by decide) (fun r_19 scb_21 H locs w_20 hP hD hS => ?_)
        have hP : va_P D vwCl [(ka1, .inl (cI, 4, .inl ca1)), (ka2, .inl (cI, 144, .inl ca2)), (ka, .inr (6, [.ref ka0, .ref ka1, .ref ka2])), (ka0, .inl (cI, 4, .inl ca0)), (k, .inr (10, [.ref k0, .ref k1, .ref k2, .ref k3, .ref k4, .ref k5, .ref k6, .ref k7, .ref k8, .ref k9, .ref ka, .ref kb, .int cc])), (kb, .inl (cI, 6, .inl scb_21))] H := hP
        have hD : va_D A [(ka1, .inl (cI, 4, .inl ca1)), (ka2, .inl (cI, 144, .inl ca2)), (ka, .inr (6, [.ref ka0, .ref ka1, .ref ka2])), (ka0, .inl (cI, 4, .inl ca0)), (k, .inr (10, [.ref k0, .ref k1, .ref k2, .ref k3, .ref k4, .ref k5, .ref k6, .ref k7, .ref k8, .ref k9, .ref ka, .ref kb, .int cc])), (kb, .inl (cI, 6, .inl scb_21))] := hD
        have lo_r_19 := k_lo r_19
        have hi_r_19 := k_hi r_19
        exact hRet (scb_21, ca2) [4, 2, 5, 3, 0, 1] trivial hP hD (by decide) rfl hS rfl dX10_move_47
      · refine lv_aload_n hx hb dX10_move_31 rfl (lv_at hl 0 rfl) ?_
        refine va_get (D := D) (ci := 10) (v := .ref ka) (C := RX10) (T := TX10) (N := 13) hx hb hT giX10 hown hK hP 0 rfl rfl 10 (by decide) (hT (Cond.fieldLink RX10 70 "DesertWire" "sheets" "LDesertWire$Sheets;") mw_301) (fun _ h9 => h9) rfl dX10_move_32 ?_
        refine lv_iload_n hx hb dX10_move_35 rfl (lv_at hl 3 rfl) ?_
        refine kJi (wr := [(k, .inr (10, [.ref k0, .ref k1, .ref k2, .ref k3, .ref k4, .ref k5, .ref k6, .ref k7, .ref k8, .ref k9, .ref ka, .ref kb, .int cc])), (kb, .inl (cI, 6, .inl cb)), (ka1, .inl (cI, 4, .inl ca1)), (ka2, .inl (cI, 144, .inl ca2))]) (va_runV (As := [.int a2]) (rest := []) ⟨hx, hb, hml, hown, hT⟩ (c_X6_isMissingG l D cI aK aV ka ka0 ka1 ka2 H.size ca0 a2) (cwV 1 hT (gV_in mw_666 mw_663 mw_664 mw_665 mw_11) rfl rfl rfl (by decide +kernel) ⟨Nat.le_of_ble_eq_true rfl, Nat.le_of_ble_eq_true rfl⟩) (kRecvX (q0 := 4) (ci := 6) hK hP hD hN hXS hS hA rfl rfl [4, 5] rfl (by decide)) rfl rfl hl.1 rfl (lv_room (Nat.le_of_ble_eq_true rfl)) dX10_move_36 ⟨Nat.le_of_ble_eq_true rfl, Nat.le_of_ble_eq_true rfl⟩) hP hD hS hA [4, 5] [0, 1, 2, 3] rfl rfl (by decide) (by decide) (fun r_22 u_24 H locs w_23 hP hD hS => ?_)
        have hP : va_P D vwCl [(k, .inr (10, [.ref k0, .ref k1, .ref k2, .ref k3, .ref k4, .ref k5, .ref k6, .ref k7, .ref k8, .ref k9, .ref ka, .ref kb, .int cc])), (kb, .inl (cI, 6, .inl cb)), (ka1, .inl (cI, 4, .inl ca1)), (ka2, .inl (cI, 144, .inl ca2)), (ka, .inr (6, [.ref ka0, .ref ka1, .ref ka2])), (ka0, .inl (cI, 4, .inl ca0))] H := hP
        have hD : va_D A [(k, .inr (10, [.ref k0, .ref k1, .ref k2, .ref k3, .ref k4, .ref k5, .ref k6, .ref k7, .ref k8, .ref k9, .ref ka, .ref kb, .int cc])), (kb, .inl (cI, 6, .inl cb)), (ka1, .inl (cI, 4, .inl ca1)), (ka2, .inl (cI, 144, .inl ca2)), (ka, .inr (6, [.ref ka0, .ref ka1, .ref ka2])), (ka0, .inl (cI, 4, .inl ca0))] := hD
        have lo_r_22 := k_lo r_22
        have hi_r_22 := k_hi r_22
        refine b_if_eq hx hb rfl (tgt := 48) dX10_move_39 (by decide) (fun c_25 => ?_) (fun c_25 => ?_)
        · refine lv_aload_n hx hb dX10_move_48 rfl (lv_at hl 0 rfl) ?_
          refine va_get (D := D) (ci := 10) (v := .ref ka) (C := RX10) (T := TX10) (N := 13) hx hb hT giX10 hown hK hP 0 rfl rfl 10 (by decide) (hT (Cond.fieldLink RX10 70 "DesertWire" "sheets" "LDesertWire$Sheets;") mw_301) (fun _ h9 => h9) rfl dX10_move_49 ?_
          refine lv_iload_n hx hb dX10_move_52 rfl (lv_at hl 1 rfl) ?_
          refine kJi (wr := [(k, .inr (10, [.ref k0, .ref k1, .ref k2, .ref k3, .ref k4, .ref k5, .ref k6, .ref k7, .ref k8, .ref k9, .ref ka, .ref kb, .int cc])), (kb, .inl (cI, 6, .inl cb)), (ka1, .inl (cI, 4, .inl ca1)), (ka2, .inl (cI, 144, .inl ca2))]) (va_runV (As := [.int a0]) (rest := []) ⟨hx, hb, hml, hown, hT⟩ (c_X6_bitsOfG l D cI aK aV ka ka0 ka1 ka2 H.size ca0 a0) (cwV 1 hT (gV_in mw_670 mw_1090 mw_668 mw_669 mw_11) rfl rfl rfl (by decide +kernel) ⟨Nat.le_of_ble_eq_true rfl, Nat.le_of_ble_eq_true rfl⟩) (kRecvX (q0 := 4) (ci := 6) hK hP hD hN hXS hS hA rfl rfl [4, 5] rfl (by decide)) rfl rfl hl.1 rfl (lv_room (Nat.le_of_ble_eq_true rfl)) dX10_move_53 ⟨Nat.le_of_ble_eq_true rfl, Nat.le_of_ble_eq_true rfl⟩) hP hD hS hA [4, 5] [0, 1, 2, 3] rfl rfl (by decide) (by decide) (fun r_26 u_28 H locs w_27 hP hD hS => ?_)
          have hP : va_P D vwCl [(k, .inr (10, [.ref k0, .ref k1, .ref k2, .ref k3, .ref k4, .ref k5, .ref k6, .ref k7, .ref k8, .ref k9, .ref ka, .ref kb, .int cc])), (kb, .inl (cI, 6, .inl cb)), (ka1, .inl (cI, 4, .inl ca1)), (ka2, .inl (cI, 144, .inl ca2)), (ka, .inr (6, [.ref ka0, .ref ka1, .ref ka2])), (ka0, .inl (cI, 4, .inl ca0))] H := hP
          have hD : va_D A [(k, .inr (10, [.ref k0, .ref k1, .ref k2, .ref k3, .ref k4, .ref k5, .ref k6, .ref k7, .ref k8, .ref k9, .ref ka, .ref kb, .int cc])), (kb, .inl (cI, 6, .inl cb)), (ka1, .inl (cI, 4, .inl ca1)), (ka2, .inl (cI, 144, .inl ca2)), (ka, .inr (6, [.ref ka0, .ref ka1, .ref ka2])), (ka0, .inl (cI, 4, .inl ca0))] := hD
          have lo_r_26 := k_lo r_26
          have hi_r_26 := k_hi r_26
          refine lv_aload_n hx hb dX10_move_56 rfl (lv_at hl 0 rfl) ?_
          refine va_get (D := D) (ci := 10) (v := .ref ka) (C := RX10) (T := TX10) (N := 13) hx hb hT giX10 hown hK hP 0 rfl rfl 10 (by decide) (hT (Cond.fieldLink RX10 70 "DesertWire" "sheets" "LDesertWire$Sheets;") mw_301) (fun _ h9 => h9) rfl dX10_move_57 ?_
          refine lv_iload_n hx hb dX10_move_60 rfl (lv_at hl 3 rfl) ?_
          refine kJi (wr := [(k, .inr (10, [.ref k0, .ref k1, .ref k2, .ref k3, .ref k4, .ref k5, .ref k6, .ref k7, .ref k8, .ref k9, .ref ka, .ref kb, .int cc])), (kb, .inl (cI, 6, .inl cb)), (ka1, .inl (cI, 4, .inl ca1)), (ka2, .inl (cI, 144, .inl ca2))]) (va_runV (As := [.int a2]) (rest := [.int r_26]) ⟨hx, hb, hml, hown, hT⟩ (c_X6_bitsOfG l D cI aK aV ka ka0 ka1 ka2 H.size ca0 a2) (cwV 1 hT (gV_in mw_670 mw_1090 mw_668 mw_669 mw_11) rfl rfl rfl (by decide +kernel) ⟨Nat.le_of_ble_eq_true rfl, Nat.le_of_ble_eq_true rfl⟩) (kRecvX (q0 := 4) (ci := 6) hK hP hD hN hXS hS hA rfl rfl [4, 5] rfl (by decide)) rfl rfl hl.1 rfl (lv_room (Nat.le_of_ble_eq_true rfl)) dX10_move_61 ⟨Nat.le_of_ble_eq_true rfl, Nat.le_of_ble_eq_true rfl⟩) hP hD hS hA [4, 5] [0, 1, 2, 3] rfl rfl (by decide) (by decide) (fun r_29 u_31 H locs w_30 hP hD hS => ?_)
          have hP : va_P D vwCl [(k, .inr (10, [.ref k0, .ref k1, .ref k2, .ref k3, .ref k4, .ref k5, .ref k6, .ref k7, .ref k8, .ref k9, .ref ka, .ref kb, .int cc])), (kb, .inl (cI, 6, .inl cb)), (ka1, .inl (cI, 4, .inl ca1)), (ka2, .inl (cI, 144, .inl ca2)), (ka, .inr (6, [.ref ka0, .ref ka1, .ref ka2])), (ka0, .inl (cI, 4, .inl ca0))] H := hP
          have hD : va_D A [(k, .inr (10, [.ref k0, .ref k1, .ref k2, .ref k3, .ref k4, .ref k5, .ref k6, .ref k7, .ref k8, .ref k9, .ref ka, .ref kb, .int cc])), (kb, .inl (cI, 6, .inl cb)), (ka1, .inl (cI, 4, .inl ca1)), (ka2, .inl (cI, 144, .inl ca2)), (ka, .inr (6, [.ref ka0, .ref ka1, .ref ka2])), (ka0, .inl (cI, 4, .inl ca0))] := hD
          have lo_r_29 := k_lo r_29
          have hi_r_29 := k_hi r_29
          refine b_icmp_eq hx hb rfl rfl (tgt := 73) dX10_move_64 (by decide) (fun c_32 => ?_) (fun c_32 => ?_)
          · refine lv_aload_n hx hb dX10_move_73 rfl (lv_at hl 0 rfl) ?_
            refine va_get (D := D) (ci := 10) (v := .ref ka) (C := RX10) (T := TX10) (N := 13) hx hb hT giX10 hown hK hP 0 rfl rfl 10 (by decide) (hT (Cond.fieldLink RX10 70 "DesertWire" "sheets" "LDesertWire$Sheets;") mw_301) (fun _ h9 => h9) rfl dX10_move_74 ?_
            refine lv_iload_n hx hb dX10_move_77 rfl (lv_at hl 1 rfl) ?_
            refine lv_iload_n hx hb dX10_move_78 rfl (lv_at hl 2 rfl) ?_
            refine lv_iload hx hb dX10_move_79 (lv_at hl 5 rfl) ?_
            refine kJi (wr := [(k, .inr (10, [.ref k0, .ref k1, .ref k2, .ref k3, .ref k4, .ref k5, .ref k6, .ref k7, .ref k8, .ref k9, .ref ka, .ref kb, .int cc])), (kb, .inl (cI, 6, .inl cb)), (ka2, .inl (cI, 144, .inl ca2)), (ka0, .inl (cI, 4, .inl ca0))]) (va_runV (As := [.int a0, .int a1, .int a4]) (rest := []) ⟨hx, hb, hml, hown, hT⟩ (c_X6_spansG l D cI aK aV ka ka0 ka1 ka2 H.size ca1 a0 a1 a4 (by first | omega | decide | assumption | rfl)) (cwV 3 hT (gV_in mw_1094 mw_1091 mw_1092 mw_1093 mw_11) rfl rfl rfl (by decide +kernel) ⟨Nat.le_of_ble_eq_true rfl, Nat.le_of_ble_eq_true rfl⟩) (kRecvX (q0 := 4) (ci := 6) hK hP hD hN hXS hS hA rfl rfl [4, 2] rfl (by decide)) rfl rfl hl.1 rfl (lv_room (Nat.le_of_ble_eq_true rfl)) dX10_move_81 ⟨Nat.le_of_ble_eq_true rfl, Nat.le_of_ble_eq_true rfl⟩) hP hD hS hA [4, 2] [0, 1, 3, 5] rfl rfl (by decide) (by decide) (fun r_33 u_35 H locs w_34 hP hD hS => ?_)
            have hP : va_P D vwCl [(k, .inr (10, [.ref k0, .ref k1, .ref k2, .ref k3, .ref k4, .ref k5, .ref k6, .ref k7, .ref k8, .ref k9, .ref ka, .ref kb, .int cc])), (kb, .inl (cI, 6, .inl cb)), (ka2, .inl (cI, 144, .inl ca2)), (ka0, .inl (cI, 4, .inl ca0)), (ka, .inr (6, [.ref ka0, .ref ka1, .ref ka2])), (ka1, .inl (cI, 4, .inl ca1))] H := hP
            have hD : va_D A [(k, .inr (10, [.ref k0, .ref k1, .ref k2, .ref k3, .ref k4, .ref k5, .ref k6, .ref k7, .ref k8, .ref k9, .ref ka, .ref kb, .int cc])), (kb, .inl (cI, 6, .inl cb)), (ka2, .inl (cI, 144, .inl ca2)), (ka0, .inl (cI, 4, .inl ca0)), (ka, .inr (6, [.ref ka0, .ref ka1, .ref ka2])), (ka1, .inl (cI, 4, .inl ca1))] := hD
            rcases w_34 with ⟨hr_33, h_36, h_37, h_38⟩ | hr_33
            · have h_36 : 0 ≤ a1.toInt := h_36
              have h_37 : 0 ≤ a4.toInt := h_37
              have h_38 : a1.toInt + a4.toInt ≤ 36 := h_38
              obtain rfl : r_33 = 1 := hr_33.trans (by decide)
              refine b_if_eq hx hb zl_1 (tgt := 102) dX10_move_84 (by decide) (fun c_39 => by exfalso; omega) (fun c_39 => ?_)
              refine lv_aload_n hx hb dX10_move_87 rfl (lv_at hl 0 rfl) ?_
              refine va_get (D := D) (ci := 10) (v := .ref ka) (C := RX10) (T := TX10) (N := 13) hx hb hT giX10 hown hK hP 0 rfl rfl 10 (by decide) (hT (Cond.fieldLink RX10 70 "DesertWire" "sheets" "LDesertWire$Sheets;") mw_301) (fun _ h9 => h9) rfl dX10_move_88 ?_
              refine lv_iload_n hx hb dX10_move_91 rfl (lv_at hl 3 rfl) ?_
              refine lv_iload hx hb dX10_move_92 (lv_at hl 4 rfl) ?_
              refine lv_iload hx hb dX10_move_94 (lv_at hl 5 rfl) ?_
              refine kJi (wr := [(k, .inr (10, [.ref k0, .ref k1, .ref k2, .ref k3, .ref k4, .ref k5, .ref k6, .ref k7, .ref k8, .ref k9, .ref ka, .ref kb, .int cc])), (kb, .inl (cI, 6, .inl cb)), (ka2, .inl (cI, 144, .inl ca2)), (ka0, .inl (cI, 4, .inl ca0))]) (va_runV (As := [.int a2, .int a3, .int a4]) (rest := []) ⟨hx, hb, hml, hown, hT⟩ (c_X6_spansG l D cI aK aV ka ka0 ka1 ka2 H.size ca1 a2 a3 a4 (by first | omega | decide | assumption | rfl)) (cwV 3 hT (gV_in mw_1094 mw_1091 mw_1092 mw_1093 mw_11) rfl rfl rfl (by decide +kernel) ⟨Nat.le_of_ble_eq_true rfl, Nat.le_of_ble_eq_true rfl⟩) (kRecvX (q0 := 4) (ci := 6) hK hP hD hN hXS hS hA rfl rfl [4, 5] rfl (by decide)) rfl rfl hl.1 rfl (lv_room (Nat.le_of_ble_eq_true rfl)) dX10_move_96 ⟨Nat.le_of_ble_eq_true rfl, Nat.le_of_ble_eq_true rfl⟩) hP hD hS hA [4, 5] [0, 1, 2, 3] rfl rfl (by decide) (by decide) (fun r_40 u_42 H locs w_41 hP hD hS => ?_)
              have hP : va_P D vwCl [(k, .inr (10, [.ref k0, .ref k1, .ref k2, .ref k3, .ref k4, .ref k5, .ref k6, .ref k7, .ref k8, .ref k9, .ref ka, .ref kb, .int cc])), (kb, .inl (cI, 6, .inl cb)), (ka2, .inl (cI, 144, .inl ca2)), (ka0, .inl (cI, 4, .inl ca0)), (ka, .inr (6, [.ref ka0, .ref ka1, .ref ka2])), (ka1, .inl (cI, 4, .inl ca1))] H := hP
              have hD : va_D A [(k, .inr (10, [.ref k0, .ref k1, .ref k2, .ref k3, .ref k4, .ref k5, .ref k6, .ref k7, .ref k8, .ref k9, .ref ka, .ref kb, .int cc])), (kb, .inl (cI, 6, .inl cb)), (ka2, .inl (cI, 144, .inl ca2)), (ka0, .inl (cI, 4, .inl ca0)), (ka, .inr (6, [.ref ka0, .ref ka1, .ref ka2])), (ka1, .inl (cI, 4, .inl ca1))] := hD
              rcases w_41 with ⟨hr_40, h_43, h_44, h_45⟩ | hr_40
              · have h_43 : 0 ≤ a3.toInt := h_43
                have h_44 : 0 ≤ a4.toInt := h_44
                have h_45 : a3.toInt + a4.toInt ≤ 36 := h_45
                obtain rfl : r_40 = 1 := hr_40.trans (by decide)
                refine b_if_ne hx hb zl_1 (tgt := 108) dX10_move_99 (by decide) (fun c_46 => ?_) (fun c_46 => by exfalso; omega)
                refine lv_aload_n hx hb dX10_move_108 rfl (lv_at hl 0 rfl) ?_
                refine va_get (D := D) (ci := 10) (v := .ref ka) (C := RX10) (T := TX10) (N := 13) hx hb hT giX10 hown hK hP 0 rfl rfl 10 (by decide) (hT (Cond.fieldLink RX10 70 "DesertWire" "sheets" "LDesertWire$Sheets;") mw_301) (fun _ h9 => h9) rfl dX10_move_109 ?_
                refine lv_iload_n hx hb dX10_move_112 rfl (lv_at hl 1 rfl) ?_
                refine lv_iload_n hx hb dX10_move_113 rfl (lv_at hl 2 rfl) ?_
                refine lv_iload_n hx hb dX10_move_114 rfl (lv_at hl 3 rfl) ?_
                refine lv_iload hx hb dX10_move_115 (lv_at hl 4 rfl) ?_
                refine lv_iload hx hb dX10_move_117 (lv_at hl 5 rfl) ?_
                refine kJv (wr := [(k, .inr (10, [.ref k0, .ref k1, .ref k2, .ref k3, .ref k4, .ref k5, .ref k6, .ref k7, .ref k8, .ref k9, .ref ka, .ref kb, .int cc])), (kb, .inl (cI, 6, .inl cb)), (ka0, .inl (cI, 4, .inl ca0))]) (va_runV (As := [.int a0, .int a1, .int a2, .int a3, .int a4]) (rest := []) ⟨hx, hb, hml, hown, hT⟩ (c_X6_transferG l D cI aK aV ka ka0 ka1 ka2 H.size ca1 ca2 a0 a1 a2 a3 a4 (by first | omega | decide | assumption | rfl)) (cwV 5 hT (gV_in mw_1098 mw_1095 mw_1096 mw_1097 mw_11) rfl rfl rfl (by decide +kernel) ⟨Nat.le_of_ble_eq_true rfl, Nat.le_of_ble_eq_true rfl⟩) (kRecvX (q0 := 4) (ci := 6) hK hP hD hN hXS hS hA rfl rfl [4, 5, 2] rfl (by decide)) rfl rfl hl.1 rfl (lv_room (Nat.le_of_ble_eq_true rfl)) dX10_move_119 ⟨Nat.le_of_ble_eq_true rfl, Nat.le_of_ble_eq_true rfl⟩) hP hD hS hA [4, 5, 2] [0, 1, 3] rfl rfl (by decide) (by decide) (fun sc2_49 H locs w_48 hP hD hS => ?_)
                have hP : va_P D vwCl [(k, .inr (10, [.ref k0, .ref k1, .ref k2, .ref k3, .ref k4, .ref k5, .ref k6, .ref k7, .ref k8, .ref k9, .ref ka, .ref kb, .int cc])), (kb, .inl (cI, 6, .inl cb)), (ka0, .inl (cI, 4, .inl ca0)), (ka, .inr (6, [.ref ka0, .ref ka1, .ref ka2])), (ka1, .inl (cI, 4, .inl ca1)), (ka2, .inl (cI, 144, .inl sc2_49))] H := hP
                have hD : va_D A [(k, .inr (10, [.ref k0, .ref k1, .ref k2, .ref k3, .ref k4, .ref k5, .ref k6, .ref k7, .ref k8, .ref k9, .ref ka, .ref kb, .int cc])), (kb, .inl (cI, 6, .inl cb)), (ka0, .inl (cI, 4, .inl ca0)), (ka, .inr (6, [.ref ka0, .ref ka1, .ref ka2])), (ka1, .inl (cI, 4, .inl ca1)), (ka2, .inl (cI, 144, .inl sc2_49))] := hD
                refine lv_iload hx hb dX10_move_122 (lv_at hl 5 rfl) ?_
                exact hRet (cb, sc2_49) [0, 3, 1, 2, 4, 5] trivial hP hD (by decide) rfl hS rfl dX10_move_124
              · obtain rfl : r_40 = 0 := hr_40.trans (by decide)
                refine b_if_ne hx hb zl_0 (tgt := 108) dX10_move_99 (by decide) (fun c_50 => by exfalso; omega) (fun c_50 => ?_)
                refine lv_aload_n hx hb dX10_move_102 rfl (lv_at hl 0 rfl) ?_
                refine lv_iconst (v := 1) hx hb dX10_move_103 (by decide) ?_
                refine kJi (wr := [(ka2, .inl (cI, 144, .inl ca2)), (ka0, .inl (cI, 4, .inl ca0)), (ka, .inr (6, [.ref ka0, .ref ka1, .ref ka2])), (ka1, .inl (cI, 4, .inl ca1))]) (va_runV (As := [.int 1]) (rest := []) ⟨hx, hb, hml, hown, hT⟩ (c_X10_findingG l D cI aK aV k k0 k1 k2 k3 k4 k5 k6 k7 k8 k9 ka kb H.size cc cb 1) (cwV 1 hT (gV_in mw_338 mw_335 mw_337 mw_p1_0 mw_1) rfl rfl rfl (by decide +kernel) ⟨Nat.le_of_ble_eq_true rfl, Nat.le_of_ble_eq_true rfl⟩) (kRecvX (q0 := 0) (ci := 10) hK hP hD hN hXS hS hA rfl rfl [0, 1] rfl (by decide)) rfl rfl hl.1 rfl (lv_room (Nat.le_of_ble_eq_true rfl)) dX10_move_104 ⟨Nat.le_of_ble_eq_true rfl, Nat.le_of_ble_eq_true rfl⟩) hP hD hS hA [0, 1] [2, 3, 4, 5] rfl rfl (by decide) (by decide) (fun r_51 scb_53 H locs w_52 hP hD hS => ?_)
                have hP : va_P D vwCl [(ka2, .inl (cI, 144, .inl ca2)), (ka0, .inl (cI, 4, .inl ca0)), (ka, .inr (6, [.ref ka0, .ref ka1, .ref ka2])), (ka1, .inl (cI, 4, .inl ca1)), (k, .inr (10, [.ref k0, .ref k1, .ref k2, .ref k3, .ref k4, .ref k5, .ref k6, .ref k7, .ref k8, .ref k9, .ref ka, .ref kb, .int cc])), (kb, .inl (cI, 6, .inl scb_53))] H := hP
                have hD : va_D A [(ka2, .inl (cI, 144, .inl ca2)), (ka0, .inl (cI, 4, .inl ca0)), (ka, .inr (6, [.ref ka0, .ref ka1, .ref ka2])), (ka1, .inl (cI, 4, .inl ca1)), (k, .inr (10, [.ref k0, .ref k1, .ref k2, .ref k3, .ref k4, .ref k5, .ref k6, .ref k7, .ref k8, .ref k9, .ref ka, .ref kb, .int cc])), (kb, .inl (cI, 6, .inl scb_53))] := hD
                have lo_r_51 := k_lo r_51
                have hi_r_51 := k_hi r_51
                exact hRet (scb_53, ca2) [4, 2, 5, 1, 3, 0] trivial hP hD (by decide) rfl hS rfl dX10_move_107
            · obtain rfl : r_33 = 0 := hr_33.trans (by decide)
              refine b_if_eq hx hb zl_0 (tgt := 102) dX10_move_84 (by decide) (fun c_54 => ?_) (fun c_54 => by exfalso; omega)
              refine lv_aload_n hx hb dX10_move_102 rfl (lv_at hl 0 rfl) ?_
              refine lv_iconst (v := 1) hx hb dX10_move_103 (by decide) ?_
              refine kJi (wr := [(ka2, .inl (cI, 144, .inl ca2)), (ka0, .inl (cI, 4, .inl ca0)), (ka, .inr (6, [.ref ka0, .ref ka1, .ref ka2])), (ka1, .inl (cI, 4, .inl ca1))]) (va_runV (As := [.int 1]) (rest := []) ⟨hx, hb, hml, hown, hT⟩ (c_X10_findingG l D cI aK aV k k0 k1 k2 k3 k4 k5 k6 k7 k8 k9 ka kb H.size cc cb 1) (cwV 1 hT (gV_in mw_338 mw_335 mw_337 mw_p1_0 mw_1) rfl rfl rfl (by decide +kernel) ⟨Nat.le_of_ble_eq_true rfl, Nat.le_of_ble_eq_true rfl⟩) (kRecvX (q0 := 0) (ci := 10) hK hP hD hN hXS hS hA rfl rfl [0, 1] rfl (by decide)) rfl rfl hl.1 rfl (lv_room (Nat.le_of_ble_eq_true rfl)) dX10_move_104 ⟨Nat.le_of_ble_eq_true rfl, Nat.le_of_ble_eq_true rfl⟩) hP hD hS hA [0, 1] [2, 3, 4, 5] rfl rfl (by decide) (by decide) (fun r_55 scb_57 H locs w_56 hP hD hS => ?_)
              have hP : va_P D vwCl [(ka2, .inl (cI, 144, .inl ca2)), (ka0, .inl (cI, 4, .inl ca0)), (ka, .inr (6, [.ref ka0, .ref ka1, .ref ka2])), (ka1, .inl (cI, 4, .inl ca1)), (k, .inr (10, [.ref k0, .ref k1, .ref k2, .ref k3, .ref k4, .ref k5, .ref k6, .ref k7, .ref k8, .ref k9, .ref ka, .ref kb, .int cc])), (kb, .inl (cI, 6, .inl scb_57))] H := hP
              have hD : va_D A [(ka2, .inl (cI, 144, .inl ca2)), (ka0, .inl (cI, 4, .inl ca0)), (ka, .inr (6, [.ref ka0, .ref ka1, .ref ka2])), (ka1, .inl (cI, 4, .inl ca1)), (k, .inr (10, [.ref k0, .ref k1, .ref k2, .ref k3, .ref k4, .ref k5, .ref k6, .ref k7, .ref k8, .ref k9, .ref ka, .ref kb, .int cc])), (kb, .inl (cI, 6, .inl scb_57))] := hD
              have lo_r_55 := k_lo r_55
              have hi_r_55 := k_hi r_55
              exact hRet (scb_57, ca2) [4, 2, 5, 1, 3, 0] trivial hP hD (by decide) rfl hS rfl dX10_move_107
          · refine lv_aload_n hx hb dX10_move_67 rfl (lv_at hl 0 rfl) ?_
            refine lv_iconst (v := 5) hx hb dX10_move_68 (by decide) ?_
            refine kJi (wr := [(ka1, .inl (cI, 4, .inl ca1)), (ka2, .inl (cI, 144, .inl ca2)), (ka, .inr (6, [.ref ka0, .ref ka1, .ref ka2])), (ka0, .inl (cI, 4, .inl ca0))]) (va_runV (As := [.int 5]) (rest := []) ⟨hx, hb, hml, hown, hT⟩ (c_X10_findingG l D cI aK aV k k0 k1 k2 k3 k4 k5 k6 k7 k8 k9 ka kb H.size cc cb 5) (cwV 1 hT (gV_in mw_338 mw_335 mw_337 mw_p1_0 mw_1) rfl rfl rfl (by decide +kernel) ⟨Nat.le_of_ble_eq_true rfl, Nat.le_of_ble_eq_true rfl⟩) (kRecvX (q0 := 0) (ci := 10) hK hP hD hN hXS hS hA rfl rfl [0, 1] rfl (by decide)) rfl rfl hl.1 rfl (lv_room (Nat.le_of_ble_eq_true rfl)) dX10_move_69 ⟨Nat.le_of_ble_eq_true rfl, Nat.le_of_ble_eq_true rfl⟩) hP hD hS hA [0, 1] [2, 3, 4, 5] rfl rfl (by decide) (by decide) (fun r_58 scb_60 H locs w_59 hP hD hS => ?_)
            have hP : va_P D vwCl [(ka1, .inl (cI, 4, .inl ca1)), (ka2, .inl (cI, 144, .inl ca2)), (ka, .inr (6, [.ref ka0, .ref ka1, .ref ka2])), (ka0, .inl (cI, 4, .inl ca0)), (k, .inr (10, [.ref k0, .ref k1, .ref k2, .ref k3, .ref k4, .ref k5, .ref k6, .ref k7, .ref k8, .ref k9, .ref ka, .ref kb, .int cc])), (kb, .inl (cI, 6, .inl scb_60))] H := hP
            have hD : va_D A [(ka1, .inl (cI, 4, .inl ca1)), (ka2, .inl (cI, 144, .inl ca2)), (ka, .inr (6, [.ref ka0, .ref ka1, .ref ka2])), (ka0, .inl (cI, 4, .inl ca0)), (k, .inr (10, [.ref k0, .ref k1, .ref k2, .ref k3, .ref k4, .ref k5, .ref k6, .ref k7, .ref k8, .ref k9, .ref ka, .ref kb, .int cc])), (kb, .inl (cI, 6, .inl scb_60))] := hD
            have lo_r_58 := k_lo r_58
            have hi_r_58 := k_hi r_58
            exact hRet (scb_60, ca2) [4, 2, 5, 3, 0, 1] trivial hP hD (by decide) rfl hS rfl dX10_move_72
        · refine lv_aload_n hx hb dX10_move_42 rfl (lv_at hl 0 rfl) ?_
          refine lv_iconst (v := 2) hx hb dX10_move_43 (by decide) ?_
          refine kJi (wr := [(ka1, .inl (cI, 4, .inl ca1)), (ka2, .inl (cI, 144, .inl ca2)), (ka, .inr (6, [.ref ka0, .ref ka1, .ref ka2])), (ka0, .inl (cI, 4, .inl ca0))]) (va_runV (As := [.int 2]) (rest := []) ⟨hx, hb, hml, hown, hT⟩ (c_X10_findingG l D cI aK aV k k0 k1 k2 k3 k4 k5 k6 k7 k8 k9 ka kb H.size cc cb 2) (cwV 1 hT (gV_in mw_338 mw_335 mw_337 mw_p1_0 mw_1) rfl rfl rfl (by decide +kernel) ⟨Nat.le_of_ble_eq_true rfl, Nat.le_of_ble_eq_true rfl⟩) (kRecvX (q0 := 0) (ci := 10) hK hP hD hN hXS hS hA rfl rfl [0, 1] rfl (by decide)) rfl rfl hl.1 rfl (lv_room (Nat.le_of_ble_eq_true rfl)) dX10_move_44 ⟨Nat.le_of_ble_eq_true rfl, Nat.le_of_ble_eq_true rfl⟩) hP hD hS hA [0, 1] [2, 3, 4, 5] rfl rfl (by decide) (by decide) (fun r_61 scb_63 H locs w_62 hP hD hS => ?_)
          have hP : va_P D vwCl [(ka1, .inl (cI, 4, .inl ca1)), (ka2, .inl (cI, 144, .inl ca2)), (ka, .inr (6, [.ref ka0, .ref ka1, .ref ka2])), (ka0, .inl (cI, 4, .inl ca0)), (k, .inr (10, [.ref k0, .ref k1, .ref k2, .ref k3, .ref k4, .ref k5, .ref k6, .ref k7, .ref k8, .ref k9, .ref ka, .ref kb, .int cc])), (kb, .inl (cI, 6, .inl scb_63))] H := hP
          have hD : va_D A [(ka1, .inl (cI, 4, .inl ca1)), (ka2, .inl (cI, 144, .inl ca2)), (ka, .inr (6, [.ref ka0, .ref ka1, .ref ka2])), (ka0, .inl (cI, 4, .inl ca0)), (k, .inr (10, [.ref k0, .ref k1, .ref k2, .ref k3, .ref k4, .ref k5, .ref k6, .ref k7, .ref k8, .ref k9, .ref ka, .ref kb, .int cc])), (kb, .inl (cI, 6, .inl scb_63))] := hD
          have lo_r_61 := k_lo r_61
          have hi_r_61 := k_hi r_61
          exact hRet (scb_63, ca2) [4, 2, 5, 3, 0, 1] trivial hP hD (by decide) rfl hS rfl dX10_move_47
    · have h_13 : a2.toInt < 0 ∨ 3 < a2.toInt := h_13
      obtain rfl : r_8 = 0 := hr_8.trans (by decide)
      refine b_if_ne hx hb zl_0 (tgt := 20) dX10_move_11 (by decide) (fun c_64 => by exfalso; omega) (fun c_64 => ?_)
      refine lv_aload_n hx hb dX10_move_14 rfl (lv_at hl 0 rfl) ?_
      refine lv_iconst (v := 1) hx hb dX10_move_15 (by decide) ?_
      refine kJi (wr := [(ka, .inr (6, [.ref ka0, .ref ka1, .ref ka2])), (ka0, .inl (cI, 4, .inl ca0)), (ka1, .inl (cI, 4, .inl ca1)), (ka2, .inl (cI, 144, .inl ca2))]) (va_runV (As := [.int 1]) (rest := []) ⟨hx, hb, hml, hown, hT⟩ (c_X10_findingG l D cI aK aV k k0 k1 k2 k3 k4 k5 k6 k7 k8 k9 ka kb H.size cc cb 1) (cwV 1 hT (gV_in mw_338 mw_335 mw_337 mw_p1_0 mw_1) rfl rfl rfl (by decide +kernel) ⟨Nat.le_of_ble_eq_true rfl, Nat.le_of_ble_eq_true rfl⟩) (kRecvX (q0 := 0) (ci := 10) hK hP hD hN hXS hS hA rfl rfl [0, 2] rfl (by decide)) rfl rfl hl.1 rfl (lv_room (Nat.le_of_ble_eq_true rfl)) dX10_move_16 ⟨Nat.le_of_ble_eq_true rfl, Nat.le_of_ble_eq_true rfl⟩) hP hD hS hA [0, 2] [1, 3, 4, 5] rfl rfl (by decide) (by decide) (fun r_65 scb_67 H locs w_66 hP hD hS => ?_)
      have hP : va_P D vwCl [(ka, .inr (6, [.ref ka0, .ref ka1, .ref ka2])), (ka0, .inl (cI, 4, .inl ca0)), (ka1, .inl (cI, 4, .inl ca1)), (ka2, .inl (cI, 144, .inl ca2)), (k, .inr (10, [.ref k0, .ref k1, .ref k2, .ref k3, .ref k4, .ref k5, .ref k6, .ref k7, .ref k8, .ref k9, .ref ka, .ref kb, .int cc])), (kb, .inl (cI, 6, .inl scb_67))] H := hP
      have hD : va_D A [(ka, .inr (6, [.ref ka0, .ref ka1, .ref ka2])), (ka0, .inl (cI, 4, .inl ca0)), (ka1, .inl (cI, 4, .inl ca1)), (ka2, .inl (cI, 144, .inl ca2)), (k, .inr (10, [.ref k0, .ref k1, .ref k2, .ref k3, .ref k4, .ref k5, .ref k6, .ref k7, .ref k8, .ref k9, .ref ka, .ref kb, .int cc])), (kb, .inl (cI, 6, .inl scb_67))] := hD
      have lo_r_65 := k_lo r_65
      have hi_r_65 := k_hi r_65
      exact hRet (scb_67, ca2) [4, 0, 5, 1, 2, 3] trivial hP hD (by decide) rfl hS rfl dX10_move_19
  · have h_6 : a0.toInt < 0 ∨ 3 < a0.toInt := h_6
    obtain rfl : r_1 = 0 := hr_1.trans (by decide)
    refine b_if_eq hx hb zl_0 (tgt := 14) dX10_move_4 (by decide) (fun c_68 => ?_) (fun c_68 => by exfalso; omega)
    refine lv_aload_n hx hb dX10_move_14 rfl (lv_at hl 0 rfl) ?_
    refine lv_iconst (v := 1) hx hb dX10_move_15 (by decide) ?_
    refine kJi (wr := [(ka, .inr (6, [.ref ka0, .ref ka1, .ref ka2])), (ka0, .inl (cI, 4, .inl ca0)), (ka1, .inl (cI, 4, .inl ca1)), (ka2, .inl (cI, 144, .inl ca2))]) (va_runV (As := [.int 1]) (rest := []) ⟨hx, hb, hml, hown, hT⟩ (c_X10_findingG l D cI aK aV k k0 k1 k2 k3 k4 k5 k6 k7 k8 k9 ka kb H.size cc cb 1) (cwV 1 hT (gV_in mw_338 mw_335 mw_337 mw_p1_0 mw_1) rfl rfl rfl (by decide +kernel) ⟨Nat.le_of_ble_eq_true rfl, Nat.le_of_ble_eq_true rfl⟩) (kRecvX (q0 := 0) (ci := 10) hK hP hD hN hXS hS hA rfl rfl [0, 2] rfl (by decide)) rfl rfl hl.1 rfl (lv_room (Nat.le_of_ble_eq_true rfl)) dX10_move_16 ⟨Nat.le_of_ble_eq_true rfl, Nat.le_of_ble_eq_true rfl⟩) hP hD hS hA [0, 2] [1, 3, 4, 5] rfl rfl (by decide) (by decide) (fun r_69 scb_71 H locs w_70 hP hD hS => ?_)
    have hP : va_P D vwCl [(ka, .inr (6, [.ref ka0, .ref ka1, .ref ka2])), (ka0, .inl (cI, 4, .inl ca0)), (ka1, .inl (cI, 4, .inl ca1)), (ka2, .inl (cI, 144, .inl ca2)), (k, .inr (10, [.ref k0, .ref k1, .ref k2, .ref k3, .ref k4, .ref k5, .ref k6, .ref k7, .ref k8, .ref k9, .ref ka, .ref kb, .int cc])), (kb, .inl (cI, 6, .inl scb_71))] H := hP
    have hD : va_D A [(ka, .inr (6, [.ref ka0, .ref ka1, .ref ka2])), (ka0, .inl (cI, 4, .inl ca0)), (ka1, .inl (cI, 4, .inl ca1)), (ka2, .inl (cI, 144, .inl ca2)), (k, .inr (10, [.ref k0, .ref k1, .ref k2, .ref k3, .ref k4, .ref k5, .ref k6, .ref k7, .ref k8, .ref k9, .ref ka, .ref kb, .int cc])), (kb, .inl (cI, 6, .inl scb_71))] := hD
    have lo_r_69 := k_lo r_69
    have hi_r_69 := k_hi r_69
    exact hRet (scb_71, ca2) [4, 0, 5, 1, 2, 3] trivial hP hD (by decide) rfl hS rfl dX10_move_19
theorem dX10_whyNoMeeting_0 : decode cX10_whyNoMeeting 0 = .ok (.aload_n 0, 1) := by decide +kernel
theorem dX10_whyNoMeeting_1 : decode cX10_whyNoMeeting 1 = .ok (.getfield 70, 3) := by decide +kernel
theorem dX10_whyNoMeeting_4 : decode cX10_whyNoMeeting 4 = .ok (.iload_n 3, 1) := by decide +kernel
theorem dX10_whyNoMeeting_5 : decode cX10_whyNoMeeting 5 = .ok (.invokevirtual 176, 3) := by decide +kernel
theorem dX10_whyNoMeeting_8 : decode cX10_whyNoMeeting 8 = .ok (.ifCond .eq 5, 3) := by decide +kernel
theorem dX10_whyNoMeeting_11 : decode cX10_whyNoMeeting 11 = .ok (.iconst 2, 1) := by decide +kernel
theorem dX10_whyNoMeeting_12 : decode cX10_whyNoMeeting 12 = .ok (.ireturn, 1) := by decide +kernel
theorem dX10_whyNoMeeting_13 : decode cX10_whyNoMeeting 13 = .ok (.aload_n 0, 1) := by decide +kernel
theorem dX10_whyNoMeeting_14 : decode cX10_whyNoMeeting 14 = .ok (.getfield 70, 3) := by decide +kernel
theorem dX10_whyNoMeeting_17 : decode cX10_whyNoMeeting 17 = .ok (.iload_n 3, 1) := by decide +kernel
theorem dX10_whyNoMeeting_18 : decode cX10_whyNoMeeting 18 = .ok (.invokevirtual 179, 3) := by decide +kernel
theorem dX10_whyNoMeeting_21 : decode cX10_whyNoMeeting 21 = .ok (.istore 4, 2) := by decide +kernel
theorem dX10_whyNoMeeting_23 : decode cX10_whyNoMeeting 23 = .ok (.iload 4, 2) := by decide +kernel
theorem dX10_whyNoMeeting_25 : decode cX10_whyNoMeeting 25 = .ok (.ifCond .eq 25, 3) := by decide +kernel
theorem dX10_whyNoMeeting_28 : decode cX10_whyNoMeeting 28 = .ok (.iload 4, 2) := by decide +kernel
theorem dX10_whyNoMeeting_30 : decode cX10_whyNoMeeting 30 = .ok (.bipush 12, 2) := by decide +kernel
theorem dX10_whyNoMeeting_32 : decode cX10_whyNoMeeting 32 = .ok (.irem, 1) := by decide +kernel
theorem dX10_whyNoMeeting_33 : decode cX10_whyNoMeeting 33 = .ok (.ifCond .ne 17, 3) := by decide +kernel
theorem dX10_whyNoMeeting_36 : decode cX10_whyNoMeeting 36 = .ok (.aload_n 0, 1) := by decide +kernel
theorem dX10_whyNoMeeting_37 : decode cX10_whyNoMeeting 37 = .ok (.getfield 70, 3) := by decide +kernel
theorem dX10_whyNoMeeting_40 : decode cX10_whyNoMeeting 40 = .ok (.iload_n 3, 1) := by decide +kernel
theorem dX10_whyNoMeeting_41 : decode cX10_whyNoMeeting 41 = .ok (.iconst 0, 1) := by decide +kernel
theorem dX10_whyNoMeeting_42 : decode cX10_whyNoMeeting 42 = .ok (.bipush 9, 2) := by decide +kernel
theorem dX10_whyNoMeeting_44 : decode cX10_whyNoMeeting 44 = .ok (.invokevirtual 182, 3) := by decide +kernel
theorem dX10_whyNoMeeting_47 : decode cX10_whyNoMeeting 47 = .ok (.ifCond .ne 5, 3) := by decide +kernel
theorem dX10_whyNoMeeting_50 : decode cX10_whyNoMeeting 50 = .ok (.iconst 5, 1) := by decide +kernel
theorem dX10_whyNoMeeting_51 : decode cX10_whyNoMeeting 51 = .ok (.ireturn, 1) := by decide +kernel
theorem dX10_whyNoMeeting_52 : decode cX10_whyNoMeeting 52 = .ok (.aload_n 0, 1) := by decide +kernel
theorem dX10_whyNoMeeting_53 : decode cX10_whyNoMeeting 53 = .ok (.getfield 12, 3) := by decide +kernel
theorem dX10_whyNoMeeting_56 : decode cX10_whyNoMeeting 56 = .ok (.getfield 193, 3) := by decide +kernel
theorem dX10_whyNoMeeting_59 : decode cX10_whyNoMeeting 59 = .ok (.astore 5, 2) := by decide +kernel
theorem dX10_whyNoMeeting_61 : decode cX10_whyNoMeeting 61 = .ok (.aload 5, 2) := by decide +kernel
theorem dX10_whyNoMeeting_63 : decode cX10_whyNoMeeting 63 = .ok (.iload_n 1, 1) := by decide +kernel
theorem dX10_whyNoMeeting_64 : decode cX10_whyNoMeeting 64 = .ok (.invokevirtual 211, 3) := by decide +kernel
theorem dX10_whyNoMeeting_67 : decode cX10_whyNoMeeting 67 = .ok (.ifCond .ne 12, 3) := by decide +kernel
theorem dX10_whyNoMeeting_70 : decode cX10_whyNoMeeting 70 = .ok (.aload 5, 2) := by decide +kernel
theorem dX10_whyNoMeeting_72 : decode cX10_whyNoMeeting 72 = .ok (.iload_n 2, 1) := by decide +kernel
theorem dX10_whyNoMeeting_73 : decode cX10_whyNoMeeting 73 = .ok (.invokevirtual 211, 3) := by decide +kernel
theorem dX10_whyNoMeeting_76 : decode cX10_whyNoMeeting 76 = .ok (.ifCond .eq 7, 3) := by decide +kernel
theorem dX10_whyNoMeeting_79 : decode cX10_whyNoMeeting 79 = .ok (.iconst 1, 1) := by decide +kernel
theorem dX10_whyNoMeeting_80 : decode cX10_whyNoMeeting 80 = .ok (.goto 4, 3) := by decide +kernel
theorem dX10_whyNoMeeting_83 : decode cX10_whyNoMeeting 83 = .ok (.iconst 0, 1) := by decide +kernel
theorem dX10_whyNoMeeting_84 : decode cX10_whyNoMeeting 84 = .ok (.istore 6, 2) := by decide +kernel
theorem dX10_whyNoMeeting_86 : decode cX10_whyNoMeeting 86 = .ok (.aload 5, 2) := by decide +kernel
theorem dX10_whyNoMeeting_88 : decode cX10_whyNoMeeting 88 = .ok (.iload_n 1, 1) := by decide +kernel
theorem dX10_whyNoMeeting_89 : decode cX10_whyNoMeeting 89 = .ok (.iconst 1, 1) := by decide +kernel
theorem dX10_whyNoMeeting_90 : decode cX10_whyNoMeeting 90 = .ok (.invokevirtual 208, 3) := by decide +kernel
theorem dX10_whyNoMeeting_93 : decode cX10_whyNoMeeting 93 = .ok (.iconst 1, 1) := by decide +kernel
theorem dX10_whyNoMeeting_94 : decode cX10_whyNoMeeting 94 = .ok (.if_icmp .ne 18, 3) := by decide +kernel
theorem dX10_whyNoMeeting_97 : decode cX10_whyNoMeeting 97 = .ok (.aload 5, 2) := by decide +kernel
theorem dX10_whyNoMeeting_99 : decode cX10_whyNoMeeting 99 = .ok (.iload_n 2, 1) := by decide +kernel
theorem dX10_whyNoMeeting_100 : decode cX10_whyNoMeeting 100 = .ok (.iconst 1, 1) := by decide +kernel
theorem dX10_whyNoMeeting_101 : decode cX10_whyNoMeeting 101 = .ok (.invokevirtual 208, 3) := by decide +kernel
theorem dX10_whyNoMeeting_104 : decode cX10_whyNoMeeting 104 = .ok (.iconst (-1), 1) := by decide +kernel
theorem dX10_whyNoMeeting_105 : decode cX10_whyNoMeeting 105 = .ok (.if_icmp .ne 7, 3) := by decide +kernel
theorem dX10_whyNoMeeting_108 : decode cX10_whyNoMeeting 108 = .ok (.iconst 1, 1) := by decide +kernel
theorem dX10_whyNoMeeting_109 : decode cX10_whyNoMeeting 109 = .ok (.goto 4, 3) := by decide +kernel
theorem dX10_whyNoMeeting_112 : decode cX10_whyNoMeeting 112 = .ok (.iconst 0, 1) := by decide +kernel
theorem dX10_whyNoMeeting_113 : decode cX10_whyNoMeeting 113 = .ok (.istore 7, 2) := by decide +kernel
theorem dX10_whyNoMeeting_115 : decode cX10_whyNoMeeting 115 = .ok (.iload 6, 2) := by decide +kernel
theorem dX10_whyNoMeeting_117 : decode cX10_whyNoMeeting 117 = .ok (.ifCond .ne 25, 3) := by decide +kernel
theorem dX10_whyNoMeeting_120 : decode cX10_whyNoMeeting 120 = .ok (.iload 7, 2) := by decide +kernel
theorem dX10_whyNoMeeting_122 : decode cX10_whyNoMeeting 122 = .ok (.ifCond .eq 20, 3) := by decide +kernel
theorem dX10_whyNoMeeting_125 : decode cX10_whyNoMeeting 125 = .ok (.aload 5, 2) := by decide +kernel
theorem dX10_whyNoMeeting_127 : decode cX10_whyNoMeeting 127 = .ok (.iload_n 1, 1) := by decide +kernel
theorem dX10_whyNoMeeting_128 : decode cX10_whyNoMeeting 128 = .ok (.iconst 0, 1) := by decide +kernel
theorem dX10_whyNoMeeting_129 : decode cX10_whyNoMeeting 129 = .ok (.invokevirtual 208, 3) := by decide +kernel
theorem dX10_whyNoMeeting_132 : decode cX10_whyNoMeeting 132 = .ok (.aload 5, 2) := by decide +kernel
theorem dX10_whyNoMeeting_134 : decode cX10_whyNoMeeting 134 = .ok (.iload_n 2, 1) := by decide +kernel
theorem dX10_whyNoMeeting_135 : decode cX10_whyNoMeeting 135 = .ok (.iconst 0, 1) := by decide +kernel
theorem dX10_whyNoMeeting_136 : decode cX10_whyNoMeeting 136 = .ok (.invokevirtual 208, 3) := by decide +kernel
theorem dX10_whyNoMeeting_139 : decode cX10_whyNoMeeting 139 = .ok (.if_icmp .lt 5, 3) := by decide +kernel
theorem dX10_whyNoMeeting_142 : decode cX10_whyNoMeeting 142 = .ok (.iconst 3, 1) := by decide +kernel
theorem dX10_whyNoMeeting_143 : decode cX10_whyNoMeeting 143 = .ok (.ireturn, 1) := by decide +kernel
theorem dX10_whyNoMeeting_144 : decode cX10_whyNoMeeting 144 = .ok (.iconst 0, 1) := by decide +kernel
theorem dX10_whyNoMeeting_145 : decode cX10_whyNoMeeting 145 = .ok (.ireturn, 1) := by decide +kernel
set_option maxHeartbeats 4000000 in
set_option maxRecDepth 100000 in
theorem c_X10_whyNoMeetingG (l : Launch) (D : va_G) (cI : ClassId) (aK aV : Nat → Nat) (k k0 k1 k2 k3 k4 k5 k6 k7 k8 k9 ka kb k00 k01 k02 k03 k04 k05 ka0 ka1 ka2 k050 : Nat) (sz : Nat) (cc : Int32) (c06 : Int32) (c07 : Int32) (c08 : Int32) (c051 : Int32) (ca0 : Nat → Int32) (ca1 : Nat → Int32) (ca2 : Nat → Int32) (c050 : Nat → Int32) (a0 : Int32) (a1 : Int32) (a2 : Int32) (pre0 : ∀ k : Nat, k < 4 → 0 ≤ (ca1 k).toInt ∧ (ca1 k).toInt ≤ 36) : Met l yX10_whyNoMeeting (gW yX10_whyNoMeeting cX10_whyNoMeeting 8 (some .int)) ({ frames := 5, cells := 0, slots := 0, locals := 109 } : Room) (kPreX D cI aK aV [.ref k, .int a0, .int a1, .int a2] [(k, .inr (10, [.ref k0, .ref k1, .ref k2, .ref k3, .ref k4, .ref k5, .ref k6, .ref k7, .ref k8, .ref k9, .ref ka, .ref kb, .int cc])), (k0, .inr (9, [.ref k00, .ref k01, .ref k02, .ref k03, .ref k04, .ref k05, .int c06, .int c07, .int c08])), (ka, .inr (6, [.ref ka0, .ref ka1, .ref ka2])), (k05, .inr (3, [.ref k050, .int c051])), (ka0, .inl (cI, 4, .inl ca0)), (ka1, .inl (cI, 4, .inl ca1)), (ka2, .inl (cI, 144, .inl ca2)), (k050, .inl (cI, 36, .inl c050))] sz) (va_Qi (fun (r : Int32) (u : Unit) => True) (fun u t => kWd D cI (va_A [(k, .inr (10, [.ref k0, .ref k1, .ref k2, .ref k3, .ref k4, .ref k5, .ref k6, .ref k7, .ref k8, .ref k9, .ref ka, .ref kb, .int cc])), (k0, .inr (9, [.ref k00, .ref k01, .ref k02, .ref k03, .ref k04, .ref k05, .int c06, .int c07, .int c08])), (ka, .inr (6, [.ref ka0, .ref ka1, .ref ka2])), (k05, .inr (3, [.ref k050, .int c051])), (ka0, .inl (cI, 4, .inl ca0)), (ka1, .inl (cI, 4, .inl ca1)), (ka2, .inl (cI, 144, .inl ca2)), (k050, .inl (cI, 36, .inl c050))] sz) [(k, .inr (10, [.ref k0, .ref k1, .ref k2, .ref k3, .ref k4, .ref k5, .ref k6, .ref k7, .ref k8, .ref k9, .ref ka, .ref kb, .int cc])), (k0, .inr (9, [.ref k00, .ref k01, .ref k02, .ref k03, .ref k04, .ref k05, .int c06, .int c07, .int c08])), (ka, .inr (6, [.ref ka0, .ref ka1, .ref ka2])), (k05, .inr (3, [.ref k050, .int c051])), (ka0, .inl (cI, 4, .inl ca0)), (ka1, .inl (cI, 4, .inl ca1)), (ka2, .inl (cI, 144, .inl ca2)), (k050, .inl (cI, 36, .inl c050))] t) (va_A [(k, .inr (10, [.ref k0, .ref k1, .ref k2, .ref k3, .ref k4, .ref k5, .ref k6, .ref k7, .ref k8, .ref k9, .ref ka, .ref kb, .int cc])), (k0, .inr (9, [.ref k00, .ref k01, .ref k02, .ref k03, .ref k04, .ref k05, .int c06, .int c07, .int c08])), (ka, .inr (6, [.ref ka0, .ref ka1, .ref ka2])), (k05, .inr (3, [.ref k050, .int c051])), (ka0, .inl (cI, 4, .inl ca0)), (ka1, .inl (cI, 4, .inl ca1)), (ka2, .inl (cI, 144, .inl ca2)), (k050, .inl (cI, 36, .inl c050))] sz)) 0 0 (va_A [(k, .inr (10, [.ref k0, .ref k1, .ref k2, .ref k3, .ref k4, .ref k5, .ref k6, .ref k7, .ref k8, .ref k9, .ref ka, .ref kb, .int cc])), (k0, .inr (9, [.ref k00, .ref k01, .ref k02, .ref k03, .ref k04, .ref k05, .int c06, .int c07, .int c08])), (ka, .inr (6, [.ref ka0, .ref ka1, .ref ka2])), (k05, .inr (3, [.ref k050, .int c051])), (ka0, .inl (cI, 4, .inl ca0)), (ka1, .inl (cI, 4, .inl ca1)), (ka2, .inl (cI, 144, .inl ca2)), (k050, .inl (cI, 36, .inl c050))] sz) := by
  refine kMetIX (own := RX10) (by decide) rfl (Nat.le_of_ble_eq_true rfl) ?_
  intro p e s m args below meth c hx hb hT hown hname hml A Q hK hP hD hS hA hN hXS hRet ls hl
  have hl : lv_has ls 8 [(0, .ref k), (1, .int a0), (2, .int a1), (3, .int a2)] := hl
  have lo_a0 := k_lo a0
  have hi_a0 := k_hi a0
  have lo_a1 := k_lo a1
  have hi_a1 := k_hi a1
  have lo_a2 := k_lo a2
  have hi_a2 := k_hi a2
  have lo_cc := k_lo cc
  have hi_cc := k_hi cc
  have lo_c06 := k_lo c06
  have hi_c06 := k_hi c06
  have lo_c07 := k_lo c07
  have hi_c07 := k_hi c07
  have lo_c08 := k_lo c08
  have hi_c08 := k_hi c08
  have lo_c051 := k_lo c051
  have hi_c051 := k_hi c051
  refine lv_aload_n hx hb dX10_whyNoMeeting_0 rfl (lv_at hl 0 rfl) ?_
  refine va_get (D := D) (ci := 10) (v := .ref ka) (C := RX10) (T := TX10) (N := 13) hx hb hT giX10 hown hK hP 0 rfl rfl 10 (by decide) (hT (Cond.fieldLink RX10 70 "DesertWire" "sheets" "LDesertWire$Sheets;") mw_301) (fun _ h9 => h9) rfl dX10_whyNoMeeting_1 ?_
  refine lv_iload_n hx hb dX10_whyNoMeeting_4 rfl (lv_at hl 3 rfl) ?_
  refine kJi (wr := [(k, .inr (10, [.ref k0, .ref k1, .ref k2, .ref k3, .ref k4, .ref k5, .ref k6, .ref k7, .ref k8, .ref k9, .ref ka, .ref kb, .int cc])), (k0, .inr (9, [.ref k00, .ref k01, .ref k02, .ref k03, .ref k04, .ref k05, .int c06, .int c07, .int c08])), (k05, .inr (3, [.ref k050, .int c051])), (ka1, .inl (cI, 4, .inl ca1)), (ka2, .inl (cI, 144, .inl ca2)), (k050, .inl (cI, 36, .inl c050))]) (va_runV (As := [.int a2]) (rest := []) ⟨hx, hb, hml, hown, hT⟩ (c_X6_isMissingG l D cI aK aV ka ka0 ka1 ka2 s.heap.size ca0 a2) (cwV 1 hT (gV_in mw_666 mw_663 mw_664 mw_665 mw_11) rfl rfl rfl (by decide +kernel) ⟨Nat.le_of_ble_eq_true rfl, Nat.le_of_ble_eq_true rfl⟩) (kRecvX (q0 := 2) (ci := 6) hK hP hD hN hXS hS hA rfl rfl [2, 4] rfl (by decide)) rfl rfl hl.1 rfl (lv_room (Nat.le_of_ble_eq_true rfl)) dX10_whyNoMeeting_5 ⟨Nat.le_of_ble_eq_true rfl, Nat.le_of_ble_eq_true rfl⟩) hP hD hS hA [2, 4] [0, 1, 3, 5, 6, 7] rfl rfl (by decide) (by decide) (fun r_1 u_3 H locs w_2 hP hD hS => ?_)
  have hP : va_P D vwCl [(k, .inr (10, [.ref k0, .ref k1, .ref k2, .ref k3, .ref k4, .ref k5, .ref k6, .ref k7, .ref k8, .ref k9, .ref ka, .ref kb, .int cc])), (k0, .inr (9, [.ref k00, .ref k01, .ref k02, .ref k03, .ref k04, .ref k05, .int c06, .int c07, .int c08])), (k05, .inr (3, [.ref k050, .int c051])), (ka1, .inl (cI, 4, .inl ca1)), (ka2, .inl (cI, 144, .inl ca2)), (k050, .inl (cI, 36, .inl c050)), (ka, .inr (6, [.ref ka0, .ref ka1, .ref ka2])), (ka0, .inl (cI, 4, .inl ca0))] H := hP
  have hD : va_D A [(k, .inr (10, [.ref k0, .ref k1, .ref k2, .ref k3, .ref k4, .ref k5, .ref k6, .ref k7, .ref k8, .ref k9, .ref ka, .ref kb, .int cc])), (k0, .inr (9, [.ref k00, .ref k01, .ref k02, .ref k03, .ref k04, .ref k05, .int c06, .int c07, .int c08])), (k05, .inr (3, [.ref k050, .int c051])), (ka1, .inl (cI, 4, .inl ca1)), (ka2, .inl (cI, 144, .inl ca2)), (k050, .inl (cI, 36, .inl c050)), (ka, .inr (6, [.ref ka0, .ref ka1, .ref ka2])), (ka0, .inl (cI, 4, .inl ca0))] := hD
  have lo_r_1 := k_lo r_1
  have hi_r_1 := k_hi r_1
  refine b_if_eq hx hb rfl (tgt := 13) dX10_whyNoMeeting_8 (by decide) (fun c_4 => ?_) (fun c_4 => ?_)
  · refine lv_aload_n hx hb dX10_whyNoMeeting_13 rfl (lv_at hl 0 rfl) ?_
    refine va_get (D := D) (ci := 10) (v := .ref ka) (C := RX10) (T := TX10) (N := 13) hx hb hT giX10 hown hK hP 0 rfl rfl 10 (by decide) (hT (Cond.fieldLink RX10 70 "DesertWire" "sheets" "LDesertWire$Sheets;") mw_301) (fun _ h9 => h9) rfl dX10_whyNoMeeting_14 ?_
    refine lv_iload_n hx hb dX10_whyNoMeeting_17 rfl (lv_at hl 3 rfl) ?_
    refine kJi (wr := [(k, .inr (10, [.ref k0, .ref k1, .ref k2, .ref k3, .ref k4, .ref k5, .ref k6, .ref k7, .ref k8, .ref k9, .ref ka, .ref kb, .int cc])), (k0, .inr (9, [.ref k00, .ref k01, .ref k02, .ref k03, .ref k04, .ref k05, .int c06, .int c07, .int c08])), (k05, .inr (3, [.ref k050, .int c051])), (ka2, .inl (cI, 144, .inl ca2)), (k050, .inl (cI, 36, .inl c050)), (ka0, .inl (cI, 4, .inl ca0))]) (va_runV (As := [.int a2]) (rest := []) ⟨hx, hb, hml, hown, hT⟩ (c_X6_lengthOfG l D cI aK aV ka ka0 ka1 ka2 H.size ca1 a2 (by first | omega | decide | assumption | rfl)) (cwV 1 hT (gV_in mw_675 mw_672 mw_673 mw_674 mw_11) rfl rfl rfl (by decide +kernel) ⟨Nat.le_of_ble_eq_true rfl, Nat.le_of_ble_eq_true rfl⟩) (kRecvX (q0 := 6) (ci := 6) hK hP hD hN hXS hS hA rfl rfl [6, 3] rfl (by decide)) rfl rfl hl.1 rfl (lv_room (Nat.le_of_ble_eq_true rfl)) dX10_whyNoMeeting_18 ⟨Nat.le_of_ble_eq_true rfl, Nat.le_of_ble_eq_true rfl⟩) hP hD hS hA [6, 3] [0, 1, 2, 4, 5, 7] rfl rfl (by decide) (by decide) (fun r_5 u_7 H locs w_6 hP hD hS => ?_)
    have hP : va_P D vwCl [(k, .inr (10, [.ref k0, .ref k1, .ref k2, .ref k3, .ref k4, .ref k5, .ref k6, .ref k7, .ref k8, .ref k9, .ref ka, .ref kb, .int cc])), (k0, .inr (9, [.ref k00, .ref k01, .ref k02, .ref k03, .ref k04, .ref k05, .int c06, .int c07, .int c08])), (k05, .inr (3, [.ref k050, .int c051])), (ka2, .inl (cI, 144, .inl ca2)), (k050, .inl (cI, 36, .inl c050)), (ka0, .inl (cI, 4, .inl ca0)), (ka, .inr (6, [.ref ka0, .ref ka1, .ref ka2])), (ka1, .inl (cI, 4, .inl ca1))] H := hP
    have hD : va_D A [(k, .inr (10, [.ref k0, .ref k1, .ref k2, .ref k3, .ref k4, .ref k5, .ref k6, .ref k7, .ref k8, .ref k9, .ref ka, .ref kb, .int cc])), (k0, .inr (9, [.ref k00, .ref k01, .ref k02, .ref k03, .ref k04, .ref k05, .int c06, .int c07, .int c08])), (k05, .inr (3, [.ref k050, .int c051])), (ka2, .inl (cI, 144, .inl ca2)), (k050, .inl (cI, 36, .inl c050)), (ka0, .inl (cI, 4, .inl ca0)), (ka, .inr (6, [.ref ka0, .ref ka1, .ref ka2])), (ka1, .inl (cI, 4, .inl ca1))] := hD
    rcases w_6 with ⟨h_8, h_9, h_10, h_11⟩ | ⟨hr_5, h_12⟩
    · have h_8 : 0 ≤ a2.toInt := h_8
      have h_9 : a2.toInt ≤ 3 := h_9
      have h_10 : 0 ≤ r_5.toInt := h_10
      have h_11 : r_5.toInt ≤ 36 := h_11
      have lo_r_5 := k_lo r_5
      have hi_r_5 := k_hi r_5
      refine lv_istore (lv' := [(4, .int r_5), (0, .ref k), (1, .int a0), (2, .int a1), (3, .int a2)]) hx hb dX10_whyNoMeeting_21 hl (by decide) rfl (fun ls hl => ?_)
      refine lv_iload hx hb dX10_whyNoMeeting_23 (lv_at hl 0 rfl) ?_
      refine b_if_eq hx hb rfl (tgt := 50) dX10_whyNoMeeting_25 (by decide) (fun c_13 => ?_) (fun c_13 => ?_)
      · refine lv_iconst (v := 5) hx hb dX10_whyNoMeeting_50 (by decide) ?_
        exact hRet () [0, 1, 6, 2, 5, 7, 3, 4] trivial hP hD (by decide) rfl hS rfl dX10_whyNoMeeting_51
      · refine lv_iload hx hb dX10_whyNoMeeting_28 (lv_at hl 0 rfl) ?_
        refine lv_bipush (v := 12) hx hb dX10_whyNoMeeting_30 (by decide) ?_
        refine lv_irem hx hb dX10_whyNoMeeting_32 (by decide) ?_
        refine lv_topi (fun v_14 ev_14 => ?_)
        have tv_14 : v_14.toInt = r_5.toInt % 12 := k_remv (w := 0) ev_14 zl_12 (by omega) (by decide)
        have lo_v_14 := k_lo v_14
        have hi_v_14 := k_hi v_14
        refine b_if_ne hx hb rfl (tgt := 50) dX10_whyNoMeeting_33 (by decide) (fun c_15 => ?_) (fun c_15 => ?_)
        · refine lv_iconst (v := 5) hx hb dX10_whyNoMeeting_50 (by decide) ?_
          exact hRet () [0, 1, 6, 2, 5, 7, 3, 4] trivial hP hD (by decide) rfl hS rfl dX10_whyNoMeeting_51
        · refine lv_aload_n hx hb dX10_whyNoMeeting_36 rfl (lv_at hl 1 rfl) ?_
          refine va_get (D := D) (ci := 10) (v := .ref ka) (C := RX10) (T := TX10) (N := 13) hx hb hT giX10 hown hK hP 0 rfl rfl 10 (by decide) (hT (Cond.fieldLink RX10 70 "DesertWire" "sheets" "LDesertWire$Sheets;") mw_301) (fun _ h9 => h9) rfl dX10_whyNoMeeting_37 ?_
          refine lv_iload_n hx hb dX10_whyNoMeeting_40 rfl (lv_at hl 4 rfl) ?_
          refine lv_iconst (v := 0) hx hb dX10_whyNoMeeting_41 (by decide) ?_
          refine lv_bipush (v := 9) hx hb dX10_whyNoMeeting_42 (by decide) ?_
          refine kJi (wr := [(k, .inr (10, [.ref k0, .ref k1, .ref k2, .ref k3, .ref k4, .ref k5, .ref k6, .ref k7, .ref k8, .ref k9, .ref ka, .ref kb, .int cc])), (k0, .inr (9, [.ref k00, .ref k01, .ref k02, .ref k03, .ref k04, .ref k05, .int c06, .int c07, .int c08])), (k05, .inr (3, [.ref k050, .int c051])), (k050, .inl (cI, 36, .inl c050)), (ka0, .inl (cI, 4, .inl ca0))]) (va_runV (As := [.int a2, .int 0, .int 9]) (rest := []) ⟨hx, hb, hml, hown, hT⟩ (c_X6_allWithinG l D cI aK aV ka ka0 ka1 ka2 H.size ca1 ca2 a2 0 9 (by first | omega | (simp only [zl_0, zl_9] <;> omega) | decide | assumption | rfl)) (cwV 3 hT (gV_in mw_679 mw_676 mw_677 mw_678 mw_11) rfl rfl rfl (by decide +kernel) ⟨Nat.le_of_ble_eq_true rfl, Nat.le_of_ble_eq_true rfl⟩) (kRecvX (q0 := 6) (ci := 6) hK hP hD hN hXS hS hA rfl rfl [6, 7, 3] rfl (by decide)) rfl rfl hl.1 rfl (lv_room (Nat.le_of_ble_eq_true rfl)) dX10_whyNoMeeting_44 ⟨Nat.le_of_ble_eq_true rfl, Nat.le_of_ble_eq_true rfl⟩) hP hD hS hA [6, 7, 3] [0, 1, 2, 4, 5] rfl rfl (by decide) (by decide) (fun r_16 u_18 H locs w_17 hP hD hS => ?_)
          have hP : va_P D vwCl [(k, .inr (10, [.ref k0, .ref k1, .ref k2, .ref k3, .ref k4, .ref k5, .ref k6, .ref k7, .ref k8, .ref k9, .ref ka, .ref kb, .int cc])), (k0, .inr (9, [.ref k00, .ref k01, .ref k02, .ref k03, .ref k04, .ref k05, .int c06, .int c07, .int c08])), (k05, .inr (3, [.ref k050, .int c051])), (k050, .inl (cI, 36, .inl c050)), (ka0, .inl (cI, 4, .inl ca0)), (ka, .inr (6, [.ref ka0, .ref ka1, .ref ka2])), (ka1, .inl (cI, 4, .inl ca1)), (ka2, .inl (cI, 144, .inl ca2))] H := hP
          have hD : va_D A [(k, .inr (10, [.ref k0, .ref k1, .ref k2, .ref k3, .ref k4, .ref k5, .ref k6, .ref k7, .ref k8, .ref k9, .ref ka, .ref kb, .int cc])), (k0, .inr (9, [.ref k00, .ref k01, .ref k02, .ref k03, .ref k04, .ref k05, .int c06, .int c07, .int c08])), (k05, .inr (3, [.ref k050, .int c051])), (k050, .inl (cI, 36, .inl c050)), (ka0, .inl (cI, 4, .inl ca0)), (ka, .inr (6, [.ref ka0, .ref ka1, .ref ka2])), (ka1, .inl (cI, 4, .inl ca1)), (ka2, .inl (cI, 144, .inl ca2))] := hD
          have lo_r_16 := k_lo r_16
          have hi_r_16 := k_hi r_16
          refine b_if_ne hx hb rfl (tgt := 52) dX10_whyNoMeeting_47 (by decide) (fun c_19 => ?_) (fun c_19 => ?_)
          · refine lv_aload_n hx hb dX10_whyNoMeeting_52 rfl (lv_at hl 1 rfl) ?_
            refine va_get (D := D) (ci := 10) (v := .ref k0) (C := RX10) (T := TX10) (N := 13) hx hb hT giX10 hown hK hP 0 rfl rfl 0 (by decide) (hT (Cond.fieldLink RX10 12 "DesertWire" "now" "LDesertWire$World;") mw_291) (fun _ h9 => h9) rfl dX10_whyNoMeeting_53 ?_
            refine va_get (D := D) (ci := 9) (v := .ref k05) (C := RX9) (T := TX9) (N := 9) hx hb hT giX9 hown hK hP 1 rfl rfl 5 (by decide) (hT (Cond.fieldLink RX10 193 "DesertWire$World" "parties" "LDesertWire$Parties;") mw_102) (fun _ h9 => h9) rfl dX10_whyNoMeeting_56 ?_
            refine lv_astore (lv' := [(5, .ref k05), (4, .int r_5), (0, .ref k), (1, .int a0), (2, .int a1), (3, .int a2)]) hx hb dX10_whyNoMeeting_59 hl (by decide) rfl (fun ls hl => ?_)
            refine lv_aload hx hb dX10_whyNoMeeting_61 (lv_at hl 0 rfl) ?_
            refine lv_iload_n hx hb dX10_whyNoMeeting_63 rfl (lv_at hl 3 rfl) ?_
            refine kJi (wr := [(k, .inr (10, [.ref k0, .ref k1, .ref k2, .ref k3, .ref k4, .ref k5, .ref k6, .ref k7, .ref k8, .ref k9, .ref ka, .ref kb, .int cc])), (k0, .inr (9, [.ref k00, .ref k01, .ref k02, .ref k03, .ref k04, .ref k05, .int c06, .int c07, .int c08])), (ka0, .inl (cI, 4, .inl ca0)), (ka, .inr (6, [.ref ka0, .ref ka1, .ref ka2])), (ka1, .inl (cI, 4, .inl ca1)), (ka2, .inl (cI, 144, .inl ca2))]) (va_runV (As := [.int a0]) (rest := []) ⟨hx, hb, hml, hown, hT⟩ (c_X3_isLostG l D cI aK aV k05 k050 H.size c051 c050 a0) (cwV 1 hT (gV_in mw_734 mw_731 mw_732 mw_733 mw_4) rfl rfl rfl (by decide +kernel) ⟨Nat.le_of_ble_eq_true rfl, Nat.le_of_ble_eq_true rfl⟩) (kRecvX (q0 := 2) (ci := 3) hK hP hD hN hXS hS hA rfl rfl [2, 3] rfl (by decide)) rfl rfl hl.1 rfl (lv_room (Nat.le_of_ble_eq_true rfl)) dX10_whyNoMeeting_64 ⟨Nat.le_of_ble_eq_true rfl, Nat.le_of_ble_eq_true rfl⟩) hP hD hS hA [2, 3] [0, 1, 4, 5, 6, 7] rfl rfl (by decide) (by decide) (fun r_20 u_22 H locs w_21 hP hD hS => ?_)
            have hP : va_P D vwCl [(k, .inr (10, [.ref k0, .ref k1, .ref k2, .ref k3, .ref k4, .ref k5, .ref k6, .ref k7, .ref k8, .ref k9, .ref ka, .ref kb, .int cc])), (k0, .inr (9, [.ref k00, .ref k01, .ref k02, .ref k03, .ref k04, .ref k05, .int c06, .int c07, .int c08])), (ka0, .inl (cI, 4, .inl ca0)), (ka, .inr (6, [.ref ka0, .ref ka1, .ref ka2])), (ka1, .inl (cI, 4, .inl ca1)), (ka2, .inl (cI, 144, .inl ca2)), (k05, .inr (3, [.ref k050, .int c051])), (k050, .inl (cI, 36, .inl c050))] H := hP
            have hD : va_D A [(k, .inr (10, [.ref k0, .ref k1, .ref k2, .ref k3, .ref k4, .ref k5, .ref k6, .ref k7, .ref k8, .ref k9, .ref ka, .ref kb, .int cc])), (k0, .inr (9, [.ref k00, .ref k01, .ref k02, .ref k03, .ref k04, .ref k05, .int c06, .int c07, .int c08])), (ka0, .inl (cI, 4, .inl ca0)), (ka, .inr (6, [.ref ka0, .ref ka1, .ref ka2])), (ka1, .inl (cI, 4, .inl ca1)), (ka2, .inl (cI, 144, .inl ca2)), (k05, .inr (3, [.ref k050, .int c051])), (k050, .inl (cI, 36, .inl c050))] := hD
            have lo_r_20 := k_lo r_20
            have hi_r_20 := k_hi r_20
            refine b_if_ne hx hb rfl (tgt := 79) dX10_whyNoMeeting_67 (by decide) (fun c_23 => ?_) (fun c_23 => ?_)
            · refine lv_iconst (v := 1) hx hb dX10_whyNoMeeting_79 (by decide) ?_
              refine lv_goto (tgt := 84) hx hb dX10_whyNoMeeting_80 (by decide) ?_
              refine lv_istore (lv' := [(6, .int 1), (5, .ref k05), (4, .int r_5), (0, .ref k), (1, .int a0), (2, .int a1), (3, .int a2)]) hx hb dX10_whyNoMeeting_84 hl (by decide) rfl (fun ls hl => ?_)
              refine lv_aload hx hb dX10_whyNoMeeting_86 (lv_at hl 1 rfl) ?_
              refine lv_iload_n hx hb dX10_whyNoMeeting_88 rfl (lv_at hl 4 rfl) ?_
              refine lv_iconst (v := 1) hx hb dX10_whyNoMeeting_89 (by decide) ?_
              refine kJi (wr := [(k, .inr (10, [.ref k0, .ref k1, .ref k2, .ref k3, .ref k4, .ref k5, .ref k6, .ref k7, .ref k8, .ref k9, .ref ka, .ref kb, .int cc])), (k0, .inr (9, [.ref k00, .ref k01, .ref k02, .ref k03, .ref k04, .ref k05, .int c06, .int c07, .int c08])), (ka0, .inl (cI, 4, .inl ca0)), (ka, .inr (6, [.ref ka0, .ref ka1, .ref ka2])), (ka1, .inl (cI, 4, .inl ca1)), (ka2, .inl (cI, 144, .inl ca2))]) (va_runV (As := [.int a0, .int 1]) (rest := []) ⟨hx, hb, hml, hown, hT⟩ (c_X3_getG l D cI aK aV k05 k050 H.size c051 c050 a0 1) (cwV 2 hT (gV_in mw_726 mw_723 mw_724 mw_725 mw_4) rfl rfl rfl (by decide +kernel) ⟨Nat.le_of_ble_eq_true rfl, Nat.le_of_ble_eq_true rfl⟩) (kRecvX (q0 := 6) (ci := 3) hK hP hD hN hXS hS hA rfl rfl [6, 7] rfl (by decide)) rfl rfl hl.1 rfl (lv_room (Nat.le_of_ble_eq_true rfl)) dX10_whyNoMeeting_90 ⟨Nat.le_of_ble_eq_true rfl, Nat.le_of_ble_eq_true rfl⟩) hP hD hS hA [6, 7] [0, 1, 2, 3, 4, 5] rfl rfl (by decide) (by decide) (fun r_24 u_26 H locs w_25 hP hD hS => ?_)
              have hP : va_P D vwCl [(k, .inr (10, [.ref k0, .ref k1, .ref k2, .ref k3, .ref k4, .ref k5, .ref k6, .ref k7, .ref k8, .ref k9, .ref ka, .ref kb, .int cc])), (k0, .inr (9, [.ref k00, .ref k01, .ref k02, .ref k03, .ref k04, .ref k05, .int c06, .int c07, .int c08])), (ka0, .inl (cI, 4, .inl ca0)), (ka, .inr (6, [.ref ka0, .ref ka1, .ref ka2])), (ka1, .inl (cI, 4, .inl ca1)), (ka2, .inl (cI, 144, .inl ca2)), (k05, .inr (3, [.ref k050, .int c051])), (k050, .inl (cI, 36, .inl c050))] H := hP
              have hD : va_D A [(k, .inr (10, [.ref k0, .ref k1, .ref k2, .ref k3, .ref k4, .ref k5, .ref k6, .ref k7, .ref k8, .ref k9, .ref ka, .ref kb, .int cc])), (k0, .inr (9, [.ref k00, .ref k01, .ref k02, .ref k03, .ref k04, .ref k05, .int c06, .int c07, .int c08])), (ka0, .inl (cI, 4, .inl ca0)), (ka, .inr (6, [.ref ka0, .ref ka1, .ref ka2])), (ka1, .inl (cI, 4, .inl ca1)), (ka2, .inl (cI, 144, .inl ca2)), (k05, .inr (3, [.ref k050, .int c051])), (k050, .inl (cI, 36, .inl c050))] := hD
              have lo_r_24 := k_lo r_24
              have hi_r_24 := k_hi r_24
              refine lv_iconst (v := 1) hx hb dX10_whyNoMeeting_93 (by decide) ?_
              refine b_icmp_ne hx hb rfl zl_1 (tgt := 112) dX10_whyNoMeeting_94 (by decide) (fun c_27 => ?_) (fun c_27 => ?_)
              · refine lv_iconst (v := 0) hx hb dX10_whyNoMeeting_112 (by decide) ?_
                refine lv_istore (lv' := [(7, .int 0), (6, .int 1), (5, .ref k05), (4, .int r_5), (0, .ref k), (1, .int a0), (2, .int a1), (3, .int a2)]) hx hb dX10_whyNoMeeting_113 hl (by decide) rfl (fun ls hl => ?_)
                refine lv_iload hx hb dX10_whyNoMeeting_115 (lv_at hl 1 rfl) ?_
                refine b_if_ne hx hb zl_1 (tgt := 142) dX10_whyNoMeeting_117 (by decide) (fun c_28 => ?_) (fun c_28 => by exfalso; omega)
                refine lv_iconst (v := 3) hx hb dX10_whyNoMeeting_142 (by decide) ?_
                exact hRet () [0, 1, 3, 6, 2, 4, 5, 7] trivial hP hD (by decide) rfl hS rfl dX10_whyNoMeeting_143
              · refine lv_aload hx hb dX10_whyNoMeeting_97 (lv_at hl 1 rfl) ?_
                refine lv_iload_n hx hb dX10_whyNoMeeting_99 rfl (lv_at hl 5 rfl) ?_
                refine lv_iconst (v := 1) hx hb dX10_whyNoMeeting_100 (by decide) ?_
                refine kJi (wr := [(k, .inr (10, [.ref k0, .ref k1, .ref k2, .ref k3, .ref k4, .ref k5, .ref k6, .ref k7, .ref k8, .ref k9, .ref ka, .ref kb, .int cc])), (k0, .inr (9, [.ref k00, .ref k01, .ref k02, .ref k03, .ref k04, .ref k05, .int c06, .int c07, .int c08])), (ka0, .inl (cI, 4, .inl ca0)), (ka, .inr (6, [.ref ka0, .ref ka1, .ref ka2])), (ka1, .inl (cI, 4, .inl ca1)), (ka2, .inl (cI, 144, .inl ca2))]) (va_runV (As := [.int a1, .int 1]) (rest := []) ⟨hx, hb, hml, hown, hT⟩ (c_X3_getG l D cI aK aV k05 k050 H.size c051 c050 a1 1) (cwV 2 hT (gV_in mw_726 mw_723 mw_724 mw_725 mw_4) rfl rfl rfl (by decide +kernel) ⟨Nat.le_of_ble_eq_true rfl, Nat.le_of_ble_eq_true rfl⟩) (kRecvX (q0 := 6) (ci := 3) hK hP hD hN hXS hS hA rfl rfl [6, 7] rfl (by decide)) rfl rfl hl.1 rfl (lv_room (Nat.le_of_ble_eq_true rfl)) dX10_whyNoMeeting_101 ⟨Nat.le_of_ble_eq_true rfl, Nat.le_of_ble_eq_true rfl⟩) hP hD hS hA [6, 7] [0, 1, 2, 3, 4, 5] rfl rfl (by decide) (by decide) (fun r_29 u_31 H locs w_30 hP hD hS => ?_)
                have hP : va_P D vwCl [(k, .inr (10, [.ref k0, .ref k1, .ref k2, .ref k3, .ref k4, .ref k5, .ref k6, .ref k7, .ref k8, .ref k9, .ref ka, .ref kb, .int cc])), (k0, .inr (9, [.ref k00, .ref k01, .ref k02, .ref k03, .ref k04, .ref k05, .int c06, .int c07, .int c08])), (ka0, .inl (cI, 4, .inl ca0)), (ka, .inr (6, [.ref ka0, .ref ka1, .ref ka2])), (ka1, .inl (cI, 4, .inl ca1)), (ka2, .inl (cI, 144, .inl ca2)), (k05, .inr (3, [.ref k050, .int c051])), (k050, .inl (cI, 36, .inl c050))] H := hP
                have hD : va_D A [(k, .inr (10, [.ref k0, .ref k1, .ref k2, .ref k3, .ref k4, .ref k5, .ref k6, .ref k7, .ref k8, .ref k9, .ref ka, .ref kb, .int cc])), (k0, .inr (9, [.ref k00, .ref k01, .ref k02, .ref k03, .ref k04, .ref k05, .int c06, .int c07, .int c08])), (ka0, .inl (cI, 4, .inl ca0)), (ka, .inr (6, [.ref ka0, .ref ka1, .ref ka2])), (ka1, .inl (cI, 4, .inl ca1)), (ka2, .inl (cI, 144, .inl ca2)), (k05, .inr (3, [.ref k050, .int c051])), (k050, .inl (cI, 36, .inl c050))] := hD
                have lo_r_29 := k_lo r_29
                have hi_r_29 := k_hi r_29
                refine lv_iconst (v := (-1)) hx hb dX10_whyNoMeeting_104 (by decide) ?_
                refine b_icmp_ne hx hb rfl zl_m1 (tgt := 112) dX10_whyNoMeeting_105 (by decide) (fun c_32 => ?_) (fun c_32 => ?_)
                · refine lv_iconst (v := 0) hx hb dX10_whyNoMeeting_112 (by decide) ?_
                  refine lv_istore (lv' := [(7, .int 0), (6, .int 1), (5, .ref k05), (4, .int r_5), (0, .ref k), (1, .int a0), (2, .int a1), (3, .int a2)]) hx hb dX10_whyNoMeeting_113 hl (by decide) rfl (fun ls hl => ?_)
                  refine lv_iload hx hb dX10_whyNoMeeting_115 (lv_at hl 1 rfl) ?_
                  refine b_if_ne hx hb zl_1 (tgt := 142) dX10_whyNoMeeting_117 (by decide) (fun c_33 => ?_) (fun c_33 => by exfalso; omega)
                  refine lv_iconst (v := 3) hx hb dX10_whyNoMeeting_142 (by decide) ?_
                  exact hRet () [0, 1, 3, 6, 2, 4, 5, 7] trivial hP hD (by decide) rfl hS rfl dX10_whyNoMeeting_143
                · refine lv_iconst (v := 1) hx hb dX10_whyNoMeeting_108 (by decide) ?_
                  refine lv_goto (tgt := 113) hx hb dX10_whyNoMeeting_109 (by decide) ?_
                  refine lv_istore (lv' := [(7, .int 1), (6, .int 1), (5, .ref k05), (4, .int r_5), (0, .ref k), (1, .int a0), (2, .int a1), (3, .int a2)]) hx hb dX10_whyNoMeeting_113 hl (by decide) rfl (fun ls hl => ?_)
                  refine lv_iload hx hb dX10_whyNoMeeting_115 (lv_at hl 1 rfl) ?_
                  refine b_if_ne hx hb zl_1 (tgt := 142) dX10_whyNoMeeting_117 (by decide) (fun c_34 => ?_) (fun c_34 => by exfalso; omega)
                  refine lv_iconst (v := 3) hx hb dX10_whyNoMeeting_142 (by decide) ?_
                  exact hRet () [0, 1, 3, 6, 2, 4, 5, 7] trivial hP hD (by decide) rfl hS rfl dX10_whyNoMeeting_143
            · refine lv_aload hx hb dX10_whyNoMeeting_70 (lv_at hl 0 rfl) ?_
              refine lv_iload_n hx hb dX10_whyNoMeeting_72 rfl (lv_at hl 4 rfl) ?_
              refine kJi (wr := [(k, .inr (10, [.ref k0, .ref k1, .ref k2, .ref k3, .ref k4, .ref k5, .ref k6, .ref k7, .ref k8, .ref k9, .ref ka, .ref kb, .int cc])), (k0, .inr (9, [.ref k00, .ref k01, .ref k02, .ref k03, .ref k04, .ref k05, .int c06, .int c07, .int c08])), (ka0, .inl (cI, 4, .inl ca0)), (ka, .inr (6, [.ref ka0, .ref ka1, .ref ka2])), (ka1, .inl (cI, 4, .inl ca1)), (ka2, .inl (cI, 144, .inl ca2))]) (va_runV (As := [.int a1]) (rest := []) ⟨hx, hb, hml, hown, hT⟩ (c_X3_isLostG l D cI aK aV k05 k050 H.size c051 c050 a1) (cwV 1 hT (gV_in mw_734 mw_731 mw_732 mw_733 mw_4) rfl rfl rfl (by decide +kernel) ⟨Nat.le_of_ble_eq_true rfl, Nat.le_of_ble_eq_true rfl⟩) (kRecvX (q0 := 6) (ci := 3) hK hP hD hN hXS hS hA rfl rfl [6, 7] rfl (by decide)) rfl rfl hl.1 rfl (lv_room (Nat.le_of_ble_eq_true rfl)) dX10_whyNoMeeting_73 ⟨Nat.le_of_ble_eq_true rfl, Nat.le_of_ble_eq_true rfl⟩) hP hD hS hA [6, 7] [0, 1, 2, 3, 4, 5] rfl rfl (by decide) (by decide) (fun r_35 u_37 H locs w_36 hP hD hS => ?_)
              have hP : va_P D vwCl [(k, .inr (10, [.ref k0, .ref k1, .ref k2, .ref k3, .ref k4, .ref k5, .ref k6, .ref k7, .ref k8, .ref k9, .ref ka, .ref kb, .int cc])), (k0, .inr (9, [.ref k00, .ref k01, .ref k02, .ref k03, .ref k04, .ref k05, .int c06, .int c07, .int c08])), (ka0, .inl (cI, 4, .inl ca0)), (ka, .inr (6, [.ref ka0, .ref ka1, .ref ka2])), (ka1, .inl (cI, 4, .inl ca1)), (ka2, .inl (cI, 144, .inl ca2)), (k05, .inr (3, [.ref k050, .int c051])), (k050, .inl (cI, 36, .inl c050))] H := hP
              have hD : va_D A [(k, .inr (10, [.ref k0, .ref k1, .ref k2, .ref k3, .ref k4, .ref k5, .ref k6, .ref k7, .ref k8, .ref k9, .ref ka, .ref kb, .int cc])), (k0, .inr (9, [.ref k00, .ref k01, .ref k02, .ref k03, .ref k04, .ref k05, .int c06, .int c07, .int c08])), (ka0, .inl (cI, 4, .inl ca0)), (ka, .inr (6, [.ref ka0, .ref ka1, .ref ka2])), (ka1, .inl (cI, 4, .inl ca1)), (ka2, .inl (cI, 144, .inl ca2)), (k05, .inr (3, [.ref k050, .int c051])), (k050, .inl (cI, 36, .inl c050))] := hD
              have lo_r_35 := k_lo r_35
              have hi_r_35 := k_hi r_35
              refine b_if_eq hx hb rfl (tgt := 83) dX10_whyNoMeeting_76 (by decide) (fun c_38 => ?_) (fun c_38 => ?_)
              · refine lv_iconst (v := 0) hx hb dX10_whyNoMeeting_83 (by decide) ?_
                refine lv_istore (lv' := [(6, .int 0), (5, .ref k05), (4, .int r_5), (0, .ref k), (1, .int a0), (2, .int a1), (3, .int a2)]) hx hb dX10_whyNoMeeting_84 hl (by decide) rfl (fun ls hl => ?_)
                refine lv_aload hx hb dX10_whyNoMeeting_86 (lv_at hl 1 rfl) ?_
                refine lv_iload_n hx hb dX10_whyNoMeeting_88 rfl (lv_at hl 4 rfl) ?_
                refine lv_iconst (v := 1) hx hb dX10_whyNoMeeting_89 (by decide) ?_
                refine kJi (wr := [(k, .inr (10, [.ref k0, .ref k1, .ref k2, .ref k3, .ref k4, .ref k5, .ref k6, .ref k7, .ref k8, .ref k9, .ref ka, .ref kb, .int cc])), (k0, .inr (9, [.ref k00, .ref k01, .ref k02, .ref k03, .ref k04, .ref k05, .int c06, .int c07, .int c08])), (ka0, .inl (cI, 4, .inl ca0)), (ka, .inr (6, [.ref ka0, .ref ka1, .ref ka2])), (ka1, .inl (cI, 4, .inl ca1)), (ka2, .inl (cI, 144, .inl ca2))]) (va_runV (As := [.int a0, .int 1]) (rest := []) ⟨hx, hb, hml, hown, hT⟩ (c_X3_getG l D cI aK aV k05 k050 H.size c051 c050 a0 1) (cwV 2 hT (gV_in mw_726 mw_723 mw_724 mw_725 mw_4) rfl rfl rfl (by decide +kernel) ⟨Nat.le_of_ble_eq_true rfl, Nat.le_of_ble_eq_true rfl⟩) (kRecvX (q0 := 6) (ci := 3) hK hP hD hN hXS hS hA rfl rfl [6, 7] rfl (by decide)) rfl rfl hl.1 rfl (lv_room (Nat.le_of_ble_eq_true rfl)) dX10_whyNoMeeting_90 ⟨Nat.le_of_ble_eq_true rfl, Nat.le_of_ble_eq_true rfl⟩) hP hD hS hA [6, 7] [0, 1, 2, 3, 4, 5] rfl rfl (by decide) (by decide) (fun r_39 u_41 H locs w_40 hP hD hS => ?_)
                have hP : va_P D vwCl [(k, .inr (10, [.ref k0, .ref k1, .ref k2, .ref k3, .ref k4, .ref k5, .ref k6, .ref k7, .ref k8, .ref k9, .ref ka, .ref kb, .int cc])), (k0, .inr (9, [.ref k00, .ref k01, .ref k02, .ref k03, .ref k04, .ref k05, .int c06, .int c07, .int c08])), (ka0, .inl (cI, 4, .inl ca0)), (ka, .inr (6, [.ref ka0, .ref ka1, .ref ka2])), (ka1, .inl (cI, 4, .inl ca1)), (ka2, .inl (cI, 144, .inl ca2)), (k05, .inr (3, [.ref k050, .int c051])), (k050, .inl (cI, 36, .inl c050))] H := hP
                have hD : va_D A [(k, .inr (10, [.ref k0, .ref k1, .ref k2, .ref k3, .ref k4, .ref k5, .ref k6, .ref k7, .ref k8, .ref k9, .ref ka, .ref kb, .int cc])), (k0, .inr (9, [.ref k00, .ref k01, .ref k02, .ref k03, .ref k04, .ref k05, .int c06, .int c07, .int c08])), (ka0, .inl (cI, 4, .inl ca0)), (ka, .inr (6, [.ref ka0, .ref ka1, .ref ka2])), (ka1, .inl (cI, 4, .inl ca1)), (ka2, .inl (cI, 144, .inl ca2)), (k05, .inr (3, [.ref k050, .int c051])), (k050, .inl (cI, 36, .inl c050))] := hD
                have lo_r_39 := k_lo r_39
                have hi_r_39 := k_hi r_39
                refine lv_iconst (v := 1) hx hb dX10_whyNoMeeting_93 (by decide) ?_
                refine b_icmp_ne hx hb rfl zl_1 (tgt := 112) dX10_whyNoMeeting_94 (by decide) (fun c_42 => ?_) (fun c_42 => ?_)
                · refine lv_iconst (v := 0) hx hb dX10_whyNoMeeting_112 (by decide) ?_
                  refine lv_istore (lv' := [(7, .int 0), (6, .int 0), (5, .ref k05), (4, .int r_5), (0, .ref k), (1, .int a0), (2, .int a1), (3, .int a2)]) hx hb dX10_whyNoMeeting_113 hl (by decide) rfl (fun ls hl => ?_)
                  refine lv_iload hx hb dX10_whyNoMeeting_115 (lv_at hl 1 rfl) ?_
                  refine b_if_ne hx hb zl_0 (tgt := 142) dX10_whyNoMeeting_117 (by decide) (fun c_43 => by exfalso; omega) (fun c_43 => ?_)
                  refine lv_iload hx hb dX10_whyNoMeeting_120 (lv_at hl 0 rfl) ?_
                  refine b_if_eq hx hb zl_0 (tgt := 142) dX10_whyNoMeeting_122 (by decide) (fun c_44 => ?_) (fun c_44 => by exfalso; omega)
                  refine lv_iconst (v := 3) hx hb dX10_whyNoMeeting_142 (by decide) ?_
                  exact hRet () [0, 1, 3, 6, 2, 4, 5, 7] trivial hP hD (by decide) rfl hS rfl dX10_whyNoMeeting_143
                · refine lv_aload hx hb dX10_whyNoMeeting_97 (lv_at hl 1 rfl) ?_
                  refine lv_iload_n hx hb dX10_whyNoMeeting_99 rfl (lv_at hl 5 rfl) ?_
                  refine lv_iconst (v := 1) hx hb dX10_whyNoMeeting_100 (by decide) ?_
                  refine kJi (wr := [(k, .inr (10, [.ref k0, .ref k1, .ref k2, .ref k3, .ref k4, .ref k5, .ref k6, .ref k7, .ref k8, .ref k9, .ref ka, .ref kb, .int cc])), (k0, .inr (9, [.ref k00, .ref k01, .ref k02, .ref k03, .ref k04, .ref k05, .int c06, .int c07, .int c08])), (ka0, .inl (cI, 4, .inl ca0)), (ka, .inr (6, [.ref ka0, .ref ka1, .ref ka2])), (ka1, .inl (cI, 4, .inl ca1)), (ka2, .inl (cI, 144, .inl ca2))]) (va_runV (As := [.int a1, .int 1]) (rest := []) ⟨hx, hb, hml, hown, hT⟩ (c_X3_getG l D cI aK aV k05 k050 H.size c051 c050 a1 1) (cwV 2 hT (gV_in mw_726 mw_723 mw_724 mw_725 mw_4) rfl rfl rfl (by decide +kernel) ⟨Nat.le_of_ble_eq_true rfl, Nat.le_of_ble_eq_true rfl⟩) (kRecvX (q0 := 6) (ci := 3) hK hP hD hN hXS hS hA rfl rfl [6, 7] rfl (by decide)) rfl rfl hl.1 rfl (lv_room (Nat.le_of_ble_eq_true rfl)) dX10_whyNoMeeting_101 ⟨Nat.le_of_ble_eq_true rfl, Nat.le_of_ble_eq_true rfl⟩) hP hD hS hA [6, 7] [0, 1, 2, 3, 4, 5] rfl rfl (by decide) (by decide) (fun r_45 u_47 H locs w_46 hP hD hS => ?_)
                  have hP : va_P D vwCl [(k, .inr (10, [.ref k0, .ref k1, .ref k2, .ref k3, .ref k4, .ref k5, .ref k6, .ref k7, .ref k8, .ref k9, .ref ka, .ref kb, .int cc])), (k0, .inr (9, [.ref k00, .ref k01, .ref k02, .ref k03, .ref k04, .ref k05, .int c06, .int c07, .int c08])), (ka0, .inl (cI, 4, .inl ca0)), (ka, .inr (6, [.ref ka0, .ref ka1, .ref ka2])), (ka1, .inl (cI, 4, .inl ca1)), (ka2, .inl (cI, 144, .inl ca2)), (k05, .inr (3, [.ref k050, .int c051])), (k050, .inl (cI, 36, .inl c050))] H := hP
                  have hD : va_D A [(k, .inr (10, [.ref k0, .ref k1, .ref k2, .ref k3, .ref k4, .ref k5, .ref k6, .ref k7, .ref k8, .ref k9, .ref ka, .ref kb, .int cc])), (k0, .inr (9, [.ref k00, .ref k01, .ref k02, .ref k03, .ref k04, .ref k05, .int c06, .int c07, .int c08])), (ka0, .inl (cI, 4, .inl ca0)), (ka, .inr (6, [.ref ka0, .ref ka1, .ref ka2])), (ka1, .inl (cI, 4, .inl ca1)), (ka2, .inl (cI, 144, .inl ca2)), (k05, .inr (3, [.ref k050, .int c051])), (k050, .inl (cI, 36, .inl c050))] := hD
                  have lo_r_45 := k_lo r_45
                  have hi_r_45 := k_hi r_45
                  refine lv_iconst (v := (-1)) hx hb dX10_whyNoMeeting_104 (by decide) ?_
                  refine b_icmp_ne hx hb rfl zl_m1 (tgt := 112) dX10_whyNoMeeting_105 (by decide) (fun c_48 => ?_) (fun c_48 => ?_)
                  · refine lv_iconst (v := 0) hx hb dX10_whyNoMeeting_112 (by decide) ?_
                    refine lv_istore (lv' := [(7, .int 0), (6, .int 0), (5, .ref k05), (4, .int r_5), (0, .ref k), (1, .int a0), (2, .int a1), (3, .int a2)]) hx hb dX10_whyNoMeeting_113 hl (by decide) rfl (fun ls hl => ?_)
                    refine lv_iload hx hb dX10_whyNoMeeting_115 (lv_at hl 1 rfl) ?_
                    refine b_if_ne hx hb zl_0 (tgt := 142) dX10_whyNoMeeting_117 (by decide) (fun c_49 => by exfalso; omega) (fun c_49 => ?_)
                    refine lv_iload hx hb dX10_whyNoMeeting_120 (lv_at hl 0 rfl) ?_
                    refine b_if_eq hx hb zl_0 (tgt := 142) dX10_whyNoMeeting_122 (by decide) (fun c_50 => ?_) (fun c_50 => by exfalso; omega)
                    refine lv_iconst (v := 3) hx hb dX10_whyNoMeeting_142 (by decide) ?_
                    exact hRet () [0, 1, 3, 6, 2, 4, 5, 7] trivial hP hD (by decide) rfl hS rfl dX10_whyNoMeeting_143
                  · refine lv_iconst (v := 1) hx hb dX10_whyNoMeeting_108 (by decide) ?_
                    refine lv_goto (tgt := 113) hx hb dX10_whyNoMeeting_109 (by decide) ?_
                    refine lv_istore (lv' := [(7, .int 1), (6, .int 0), (5, .ref k05), (4, .int r_5), (0, .ref k), (1, .int a0), (2, .int a1), (3, .int a2)]) hx hb dX10_whyNoMeeting_113 hl (by decide) rfl (fun ls hl => ?_)
                    refine lv_iload hx hb dX10_whyNoMeeting_115 (lv_at hl 1 rfl) ?_
                    refine b_if_ne hx hb zl_0 (tgt := 142) dX10_whyNoMeeting_117 (by decide) (fun c_51 => by exfalso; omega) (fun c_51 => ?_)
                    refine lv_iload hx hb dX10_whyNoMeeting_120 (lv_at hl 0 rfl) ?_
                    refine b_if_eq hx hb zl_1 (tgt := 142) dX10_whyNoMeeting_122 (by decide) (fun c_52 => by exfalso; omega) (fun c_52 => ?_)
                    refine lv_aload hx hb dX10_whyNoMeeting_125 (lv_at hl 2 rfl) ?_
                    refine lv_iload_n hx hb dX10_whyNoMeeting_127 rfl (lv_at hl 5 rfl) ?_
                    refine lv_iconst (v := 0) hx hb dX10_whyNoMeeting_128 (by decide) ?_
                    refine kJi (wr := [(k, .inr (10, [.ref k0, .ref k1, .ref k2, .ref k3, .ref k4, .ref k5, .ref k6, .ref k7, .ref k8, .ref k9, .ref ka, .ref kb, .int cc])), (k0, .inr (9, [.ref k00, .ref k01, .ref k02, .ref k03, .ref k04, .ref k05, .int c06, .int c07, .int c08])), (ka0, .inl (cI, 4, .inl ca0)), (ka, .inr (6, [.ref ka0, .ref ka1, .ref ka2])), (ka1, .inl (cI, 4, .inl ca1)), (ka2, .inl (cI, 144, .inl ca2))]) (va_runV (As := [.int a0, .int 0]) (rest := []) ⟨hx, hb, hml, hown, hT⟩ (c_X3_getG l D cI aK aV k05 k050 H.size c051 c050 a0 0) (cwV 2 hT (gV_in mw_726 mw_723 mw_724 mw_725 mw_4) rfl rfl rfl (by decide +kernel) ⟨Nat.le_of_ble_eq_true rfl, Nat.le_of_ble_eq_true rfl⟩) (kRecvX (q0 := 6) (ci := 3) hK hP hD hN hXS hS hA rfl rfl [6, 7] rfl (by decide)) rfl rfl hl.1 rfl (lv_room (Nat.le_of_ble_eq_true rfl)) dX10_whyNoMeeting_129 ⟨Nat.le_of_ble_eq_true rfl, Nat.le_of_ble_eq_true rfl⟩) hP hD hS hA [6, 7] [0, 1, 2, 3, 4, 5] rfl rfl (by decide) (by decide) (fun r_53 u_55 H locs w_54 hP hD hS => ?_)
                    have hP : va_P D vwCl [(k, .inr (10, [.ref k0, .ref k1, .ref k2, .ref k3, .ref k4, .ref k5, .ref k6, .ref k7, .ref k8, .ref k9, .ref ka, .ref kb, .int cc])), (k0, .inr (9, [.ref k00, .ref k01, .ref k02, .ref k03, .ref k04, .ref k05, .int c06, .int c07, .int c08])), (ka0, .inl (cI, 4, .inl ca0)), (ka, .inr (6, [.ref ka0, .ref ka1, .ref ka2])), (ka1, .inl (cI, 4, .inl ca1)), (ka2, .inl (cI, 144, .inl ca2)), (k05, .inr (3, [.ref k050, .int c051])), (k050, .inl (cI, 36, .inl c050))] H := hP
                    have hD : va_D A [(k, .inr (10, [.ref k0, .ref k1, .ref k2, .ref k3, .ref k4, .ref k5, .ref k6, .ref k7, .ref k8, .ref k9, .ref ka, .ref kb, .int cc])), (k0, .inr (9, [.ref k00, .ref k01, .ref k02, .ref k03, .ref k04, .ref k05, .int c06, .int c07, .int c08])), (ka0, .inl (cI, 4, .inl ca0)), (ka, .inr (6, [.ref ka0, .ref ka1, .ref ka2])), (ka1, .inl (cI, 4, .inl ca1)), (ka2, .inl (cI, 144, .inl ca2)), (k05, .inr (3, [.ref k050, .int c051])), (k050, .inl (cI, 36, .inl c050))] := hD
                    have lo_r_53 := k_lo r_53
                    have hi_r_53 := k_hi r_53
                    refine lv_aload hx hb dX10_whyNoMeeting_132 (lv_at hl 2 rfl) ?_
                    refine lv_iload_n hx hb dX10_whyNoMeeting_134 rfl (lv_at hl 6 rfl) ?_
                    refine lv_iconst (v := 0) hx hb dX10_whyNoMeeting_135 (by decide) ?_
                    refine kJi (wr := [(k, .inr (10, [.ref k0, .ref k1, .ref k2, .ref k3, .ref k4, .ref k5, .ref k6, .ref k7, .ref k8, .ref k9, .ref ka, .ref kb, .int cc])), (k0, .inr (9, [.ref k00, .ref k01, .ref k02, .ref k03, .ref k04, .ref k05, .int c06, .int c07, .int c08])), (ka0, .inl (cI, 4, .inl ca0)), (ka, .inr (6, [.ref ka0, .ref ka1, .ref ka2])), (ka1, .inl (cI, 4, .inl ca1)), (ka2, .inl (cI, 144, .inl ca2))]) (va_runV (As := [.int a1, .int 0]) (rest := [.int r_53]) ⟨hx, hb, hml, hown, hT⟩ (c_X3_getG l D cI aK aV k05 k050 H.size c051 c050 a1 0) (cwV 2 hT (gV_in mw_726 mw_723 mw_724 mw_725 mw_4) rfl rfl rfl (by decide +kernel) ⟨Nat.le_of_ble_eq_true rfl, Nat.le_of_ble_eq_true rfl⟩) (kRecvX (q0 := 6) (ci := 3) hK hP hD hN hXS hS hA rfl rfl [6, 7] rfl (by decide)) rfl rfl hl.1 rfl (lv_room (Nat.le_of_ble_eq_true rfl)) dX10_whyNoMeeting_136 ⟨Nat.le_of_ble_eq_true rfl, Nat.le_of_ble_eq_true rfl⟩) hP hD hS hA [6, 7] [0, 1, 2, 3, 4, 5] rfl rfl (by decide) (by decide) (fun r_56 u_58 H locs w_57 hP hD hS => ?_)
                    have hP : va_P D vwCl [(k, .inr (10, [.ref k0, .ref k1, .ref k2, .ref k3, .ref k4, .ref k5, .ref k6, .ref k7, .ref k8, .ref k9, .ref ka, .ref kb, .int cc])), (k0, .inr (9, [.ref k00, .ref k01, .ref k02, .ref k03, .ref k04, .ref k05, .int c06, .int c07, .int c08])), (ka0, .inl (cI, 4, .inl ca0)), (ka, .inr (6, [.ref ka0, .ref ka1, .ref ka2])), (ka1, .inl (cI, 4, .inl ca1)), (ka2, .inl (cI, 144, .inl ca2)), (k05, .inr (3, [.ref k050, .int c051])), (k050, .inl (cI, 36, .inl c050))] H := hP
                    have hD : va_D A [(k, .inr (10, [.ref k0, .ref k1, .ref k2, .ref k3, .ref k4, .ref k5, .ref k6, .ref k7, .ref k8, .ref k9, .ref ka, .ref kb, .int cc])), (k0, .inr (9, [.ref k00, .ref k01, .ref k02, .ref k03, .ref k04, .ref k05, .int c06, .int c07, .int c08])), (ka0, .inl (cI, 4, .inl ca0)), (ka, .inr (6, [.ref ka0, .ref ka1, .ref ka2])), (ka1, .inl (cI, 4, .inl ca1)), (ka2, .inl (cI, 144, .inl ca2)), (k05, .inr (3, [.ref k050, .int c051])), (k050, .inl (cI, 36, .inl c050))] := hD
                    have lo_r_56 := k_lo r_56
                    have hi_r_56 := k_hi r_56
                    refine b_icmp_lt hx hb rfl rfl (tgt := 144) dX10_whyNoMeeting_139 (by decide) (fun c_59 => ?_) (fun c_59 => ?_)
                    · refine lv_iconst (v := 0) hx hb dX10_whyNoMeeting_144 (by decide) ?_
                      exact hRet () [0, 1, 3, 6, 2, 4, 5, 7] trivial hP hD (by decide) rfl hS rfl dX10_whyNoMeeting_145
                    · refine lv_iconst (v := 3) hx hb dX10_whyNoMeeting_142 (by decide) ?_
                      exact hRet () [0, 1, 3, 6, 2, 4, 5, 7] trivial hP hD (by decide) rfl hS rfl dX10_whyNoMeeting_143
              · refine lv_iconst (v := 1) hx hb dX10_whyNoMeeting_79 (by decide) ?_
                refine lv_goto (tgt := 84) hx hb dX10_whyNoMeeting_80 (by decide) ?_
                refine lv_istore (lv' := [(6, .int 1), (5, .ref k05), (4, .int r_5), (0, .ref k), (1, .int a0), (2, .int a1), (3, .int a2)]) hx hb dX10_whyNoMeeting_84 hl (by decide) rfl (fun ls hl => ?_)
                refine lv_aload hx hb dX10_whyNoMeeting_86 (lv_at hl 1 rfl) ?_
                refine lv_iload_n hx hb dX10_whyNoMeeting_88 rfl (lv_at hl 4 rfl) ?_
                refine lv_iconst (v := 1) hx hb dX10_whyNoMeeting_89 (by decide) ?_
                refine kJi (wr := [(k, .inr (10, [.ref k0, .ref k1, .ref k2, .ref k3, .ref k4, .ref k5, .ref k6, .ref k7, .ref k8, .ref k9, .ref ka, .ref kb, .int cc])), (k0, .inr (9, [.ref k00, .ref k01, .ref k02, .ref k03, .ref k04, .ref k05, .int c06, .int c07, .int c08])), (ka0, .inl (cI, 4, .inl ca0)), (ka, .inr (6, [.ref ka0, .ref ka1, .ref ka2])), (ka1, .inl (cI, 4, .inl ca1)), (ka2, .inl (cI, 144, .inl ca2))]) (va_runV (As := [.int a0, .int 1]) (rest := []) ⟨hx, hb, hml, hown, hT⟩ (c_X3_getG l D cI aK aV k05 k050 H.size c051 c050 a0 1) (cwV 2 hT (gV_in mw_726 mw_723 mw_724 mw_725 mw_4) rfl rfl rfl (by decide +kernel) ⟨Nat.le_of_ble_eq_true rfl, Nat.le_of_ble_eq_true rfl⟩) (kRecvX (q0 := 6) (ci := 3) hK hP hD hN hXS hS hA rfl rfl [6, 7] rfl (by decide)) rfl rfl hl.1 rfl (lv_room (Nat.le_of_ble_eq_true rfl)) dX10_whyNoMeeting_90 ⟨Nat.le_of_ble_eq_true rfl, Nat.le_of_ble_eq_true rfl⟩) hP hD hS hA [6, 7] [0, 1, 2, 3, 4, 5] rfl rfl (by decide) (by decide) (fun r_60 u_62 H locs w_61 hP hD hS => ?_)
                have hP : va_P D vwCl [(k, .inr (10, [.ref k0, .ref k1, .ref k2, .ref k3, .ref k4, .ref k5, .ref k6, .ref k7, .ref k8, .ref k9, .ref ka, .ref kb, .int cc])), (k0, .inr (9, [.ref k00, .ref k01, .ref k02, .ref k03, .ref k04, .ref k05, .int c06, .int c07, .int c08])), (ka0, .inl (cI, 4, .inl ca0)), (ka, .inr (6, [.ref ka0, .ref ka1, .ref ka2])), (ka1, .inl (cI, 4, .inl ca1)), (ka2, .inl (cI, 144, .inl ca2)), (k05, .inr (3, [.ref k050, .int c051])), (k050, .inl (cI, 36, .inl c050))] H := hP
                have hD : va_D A [(k, .inr (10, [.ref k0, .ref k1, .ref k2, .ref k3, .ref k4, .ref k5, .ref k6, .ref k7, .ref k8, .ref k9, .ref ka, .ref kb, .int cc])), (k0, .inr (9, [.ref k00, .ref k01, .ref k02, .ref k03, .ref k04, .ref k05, .int c06, .int c07, .int c08])), (ka0, .inl (cI, 4, .inl ca0)), (ka, .inr (6, [.ref ka0, .ref ka1, .ref ka2])), (ka1, .inl (cI, 4, .inl ca1)), (ka2, .inl (cI, 144, .inl ca2)), (k05, .inr (3, [.ref k050, .int c051])), (k050, .inl (cI, 36, .inl c050))] := hD
                have lo_r_60 := k_lo r_60
                have hi_r_60 := k_hi r_60
                refine lv_iconst (v := 1) hx hb dX10_whyNoMeeting_93 (by decide) ?_
                refine b_icmp_ne hx hb rfl zl_1 (tgt := 112) dX10_whyNoMeeting_94 (by decide) (fun c_63 => ?_) (fun c_63 => ?_)
                · refine lv_iconst (v := 0) hx hb dX10_whyNoMeeting_112 (by decide) ?_
                  refine lv_istore (lv' := [(7, .int 0), (6, .int 1), (5, .ref k05), (4, .int r_5), (0, .ref k), (1, .int a0), (2, .int a1), (3, .int a2)]) hx hb dX10_whyNoMeeting_113 hl (by decide) rfl (fun ls hl => ?_)
                  refine lv_iload hx hb dX10_whyNoMeeting_115 (lv_at hl 1 rfl) ?_
                  refine b_if_ne hx hb zl_1 (tgt := 142) dX10_whyNoMeeting_117 (by decide) (fun c_64 => ?_) (fun c_64 => by exfalso; omega)
                  refine lv_iconst (v := 3) hx hb dX10_whyNoMeeting_142 (by decide) ?_
                  exact hRet () [0, 1, 3, 6, 2, 4, 5, 7] trivial hP hD (by decide) rfl hS rfl dX10_whyNoMeeting_143
                · refine lv_aload hx hb dX10_whyNoMeeting_97 (lv_at hl 1 rfl) ?_
                  refine lv_iload_n hx hb dX10_whyNoMeeting_99 rfl (lv_at hl 5 rfl) ?_
                  refine lv_iconst (v := 1) hx hb dX10_whyNoMeeting_100 (by decide) ?_
                  refine kJi (wr := [(k, .inr (10, [.ref k0, .ref k1, .ref k2, .ref k3, .ref k4, .ref k5, .ref k6, .ref k7, .ref k8, .ref k9, .ref ka, .ref kb, .int cc])), (k0, .inr (9, [.ref k00, .ref k01, .ref k02, .ref k03, .ref k04, .ref k05, .int c06, .int c07, .int c08])), (ka0, .inl (cI, 4, .inl ca0)), (ka, .inr (6, [.ref ka0, .ref ka1, .ref ka2])), (ka1, .inl (cI, 4, .inl ca1)), (ka2, .inl (cI, 144, .inl ca2))]) (va_runV (As := [.int a1, .int 1]) (rest := []) ⟨hx, hb, hml, hown, hT⟩ (c_X3_getG l D cI aK aV k05 k050 H.size c051 c050 a1 1) (cwV 2 hT (gV_in mw_726 mw_723 mw_724 mw_725 mw_4) rfl rfl rfl (by decide +kernel) ⟨Nat.le_of_ble_eq_true rfl, Nat.le_of_ble_eq_true rfl⟩) (kRecvX (q0 := 6) (ci := 3) hK hP hD hN hXS hS hA rfl rfl [6, 7] rfl (by decide)) rfl rfl hl.1 rfl (lv_room (Nat.le_of_ble_eq_true rfl)) dX10_whyNoMeeting_101 ⟨Nat.le_of_ble_eq_true rfl, Nat.le_of_ble_eq_true rfl⟩) hP hD hS hA [6, 7] [0, 1, 2, 3, 4, 5] rfl rfl (by decide) (by decide) (fun r_65 u_67 H locs w_66 hP hD hS => ?_)
                  have hP : va_P D vwCl [(k, .inr (10, [.ref k0, .ref k1, .ref k2, .ref k3, .ref k4, .ref k5, .ref k6, .ref k7, .ref k8, .ref k9, .ref ka, .ref kb, .int cc])), (k0, .inr (9, [.ref k00, .ref k01, .ref k02, .ref k03, .ref k04, .ref k05, .int c06, .int c07, .int c08])), (ka0, .inl (cI, 4, .inl ca0)), (ka, .inr (6, [.ref ka0, .ref ka1, .ref ka2])), (ka1, .inl (cI, 4, .inl ca1)), (ka2, .inl (cI, 144, .inl ca2)), (k05, .inr (3, [.ref k050, .int c051])), (k050, .inl (cI, 36, .inl c050))] H := hP
                  have hD : va_D A [(k, .inr (10, [.ref k0, .ref k1, .ref k2, .ref k3, .ref k4, .ref k5, .ref k6, .ref k7, .ref k8, .ref k9, .ref ka, .ref kb, .int cc])), (k0, .inr (9, [.ref k00, .ref k01, .ref k02, .ref k03, .ref k04, .ref k05, .int c06, .int c07, .int c08])), (ka0, .inl (cI, 4, .inl ca0)), (ka, .inr (6, [.ref ka0, .ref ka1, .ref ka2])), (ka1, .inl (cI, 4, .inl ca1)), (ka2, .inl (cI, 144, .inl ca2)), (k05, .inr (3, [.ref k050, .int c051])), (k050, .inl (cI, 36, .inl c050))] := hD
                  have lo_r_65 := k_lo r_65
                  have hi_r_65 := k_hi r_65
                  refine lv_iconst (v := (-1)) hx hb dX10_whyNoMeeting_104 (by decide) ?_
                  refine b_icmp_ne hx hb rfl zl_m1 (tgt := 112) dX10_whyNoMeeting_105 (by decide) (fun c_68 => ?_) (fun c_68 => ?_)
                  · refine lv_iconst (v := 0) hx hb dX10_whyNoMeeting_112 (by decide) ?_
                    refine lv_istore (lv' := [(7, .int 0), (6, .int 1), (5, .ref k05), (4, .int r_5), (0, .ref k), (1, .int a0), (2, .int a1), (3, .int a2)]) hx hb dX10_whyNoMeeting_113 hl (by decide) rfl (fun ls hl => ?_)
                    refine lv_iload hx hb dX10_whyNoMeeting_115 (lv_at hl 1 rfl) ?_
                    refine b_if_ne hx hb zl_1 (tgt := 142) dX10_whyNoMeeting_117 (by decide) (fun c_69 => ?_) (fun c_69 => by exfalso; omega)
                    refine lv_iconst (v := 3) hx hb dX10_whyNoMeeting_142 (by decide) ?_
                    exact hRet () [0, 1, 3, 6, 2, 4, 5, 7] trivial hP hD (by decide) rfl hS rfl dX10_whyNoMeeting_143
                  · refine lv_iconst (v := 1) hx hb dX10_whyNoMeeting_108 (by decide) ?_
                    refine lv_goto (tgt := 113) hx hb dX10_whyNoMeeting_109 (by decide) ?_
                    refine lv_istore (lv' := [(7, .int 1), (6, .int 1), (5, .ref k05), (4, .int r_5), (0, .ref k), (1, .int a0), (2, .int a1), (3, .int a2)]) hx hb dX10_whyNoMeeting_113 hl (by decide) rfl (fun ls hl => ?_)
                    refine lv_iload hx hb dX10_whyNoMeeting_115 (lv_at hl 1 rfl) ?_
                    refine b_if_ne hx hb zl_1 (tgt := 142) dX10_whyNoMeeting_117 (by decide) (fun c_70 => ?_) (fun c_70 => by exfalso; omega)
                    refine lv_iconst (v := 3) hx hb dX10_whyNoMeeting_142 (by decide) ?_
                    exact hRet () [0, 1, 3, 6, 2, 4, 5, 7] trivial hP hD (by decide) rfl hS rfl dX10_whyNoMeeting_143
          · refine lv_iconst (v := 5) hx hb dX10_whyNoMeeting_50 (by decide) ?_
            exact hRet () [0, 1, 5, 2, 4, 6, 7, 3] trivial hP hD (by decide) rfl hS rfl dX10_whyNoMeeting_51
    · have h_12 : a2.toInt < 0 ∨ 3 < a2.toInt := h_12
      obtain rfl : r_5 = 0 := hr_5.trans (by decide)
      refine lv_istore (lv' := [(4, .int 0), (0, .ref k), (1, .int a0), (2, .int a1), (3, .int a2)]) hx hb dX10_whyNoMeeting_21 hl (by decide) rfl (fun ls hl => ?_)
      refine lv_iload hx hb dX10_whyNoMeeting_23 (lv_at hl 0 rfl) ?_
      refine b_if_eq hx hb zl_0 (tgt := 50) dX10_whyNoMeeting_25 (by decide) (fun c_71 => ?_) (fun c_71 => by exfalso; omega)
      refine lv_iconst (v := 5) hx hb dX10_whyNoMeeting_50 (by decide) ?_
      exact hRet () [0, 1, 6, 2, 5, 7, 3, 4] trivial hP hD (by decide) rfl hS rfl dX10_whyNoMeeting_51
  · refine lv_iconst (v := 2) hx hb dX10_whyNoMeeting_11 (by decide) ?_
    exact hRet () [0, 1, 6, 2, 7, 3, 4, 5] trivial hP hD (by decide) rfl hS rfl dX10_whyNoMeeting_12
theorem dX10_meeting_0 : decode cX10_meeting 0 = .ok (.aload_n 0, 1) := by decide +kernel
theorem dX10_meeting_1 : decode cX10_meeting 1 = .ok (.iload_n 1, 1) := by decide +kernel
theorem dX10_meeting_2 : decode cX10_meeting 2 = .ok (.iload_n 2, 1) := by decide +kernel
theorem dX10_meeting_3 : decode cX10_meeting 3 = .ok (.invokevirtual 317, 3) := by decide +kernel
theorem dX10_meeting_6 : decode cX10_meeting 6 = .ok (.ifCond .eq 21, 3) := by decide +kernel
theorem dX10_meeting_9 : decode cX10_meeting 9 = .ok (.iload_n 3, 1) := by decide +kernel
theorem dX10_meeting_10 : decode cX10_meeting 10 = .ok (.invokestatic 173, 3) := by decide +kernel
theorem dX10_meeting_13 : decode cX10_meeting 13 = .ok (.ifCond .eq 14, 3) := by decide +kernel
theorem dX10_meeting_16 : decode cX10_meeting 16 = .ok (.iload 4, 2) := by decide +kernel
theorem dX10_meeting_18 : decode cX10_meeting 18 = .ok (.ifCond .lt 9, 3) := by decide +kernel
theorem dX10_meeting_21 : decode cX10_meeting 21 = .ok (.iload 4, 2) := by decide +kernel
theorem dX10_meeting_23 : decode cX10_meeting 23 = .ok (.iconst 1, 1) := by decide +kernel
theorem dX10_meeting_24 : decode cX10_meeting 24 = .ok (.if_icmp .le 9, 3) := by decide +kernel
theorem dX10_meeting_27 : decode cX10_meeting 27 = .ok (.aload_n 0, 1) := by decide +kernel
theorem dX10_meeting_28 : decode cX10_meeting 28 = .ok (.iconst 1, 1) := by decide +kernel
theorem dX10_meeting_29 : decode cX10_meeting 29 = .ok (.invokevirtual 82, 3) := by decide +kernel
theorem dX10_meeting_32 : decode cX10_meeting 32 = .ok (.ireturn, 1) := by decide +kernel
theorem dX10_meeting_33 : decode cX10_meeting 33 = .ok (.aload_n 0, 1) := by decide +kernel
theorem dX10_meeting_34 : decode cX10_meeting 34 = .ok (.iload_n 1, 1) := by decide +kernel
theorem dX10_meeting_35 : decode cX10_meeting 35 = .ok (.iload_n 2, 1) := by decide +kernel
theorem dX10_meeting_36 : decode cX10_meeting 36 = .ok (.iload_n 3, 1) := by decide +kernel
theorem dX10_meeting_37 : decode cX10_meeting 37 = .ok (.invokevirtual 320, 3) := by decide +kernel
theorem dX10_meeting_40 : decode cX10_meeting 40 = .ok (.istore 5, 2) := by decide +kernel
theorem dX10_meeting_42 : decode cX10_meeting 42 = .ok (.iload 5, 2) := by decide +kernel
theorem dX10_meeting_44 : decode cX10_meeting 44 = .ok (.ifCond .eq 10, 3) := by decide +kernel
theorem dX10_meeting_47 : decode cX10_meeting 47 = .ok (.aload_n 0, 1) := by decide +kernel
theorem dX10_meeting_48 : decode cX10_meeting 48 = .ok (.iload 5, 2) := by decide +kernel
theorem dX10_meeting_50 : decode cX10_meeting 50 = .ok (.invokevirtual 82, 3) := by decide +kernel
theorem dX10_meeting_53 : decode cX10_meeting 53 = .ok (.ireturn, 1) := by decide +kernel
theorem dX10_meeting_54 : decode cX10_meeting 54 = .ok (.aload_n 0, 1) := by decide +kernel
theorem dX10_meeting_55 : decode cX10_meeting 55 = .ok (.getfield 56, 3) := by decide +kernel
theorem dX10_meeting_58 : decode cX10_meeting 58 = .ok (.aload_n 0, 1) := by decide +kernel
theorem dX10_meeting_59 : decode cX10_meeting 59 = .ok (.getfield 12, 3) := by decide +kernel
theorem dX10_meeting_62 : decode cX10_meeting 62 = .ok (.aload_n 0, 1) := by decide +kernel
theorem dX10_meeting_63 : decode cX10_meeting 63 = .ok (.getfield 70, 3) := by decide +kernel
theorem dX10_meeting_66 : decode cX10_meeting 66 = .ok (.iload_n 3, 1) := by decide +kernel
theorem dX10_meeting_67 : decode cX10_meeting 67 = .ok (.iload_n 1, 1) := by decide +kernel
theorem dX10_meeting_68 : decode cX10_meeting 68 = .ok (.iload_n 2, 1) := by decide +kernel
theorem dX10_meeting_69 : decode cX10_meeting 69 = .ok (.invokevirtual 324, 3) := by decide +kernel
theorem dX10_meeting_72 : decode cX10_meeting 72 = .ok (.aload_n 0, 1) := by decide +kernel
theorem dX10_meeting_73 : decode cX10_meeting 73 = .ok (.getfield 56, 3) := by decide +kernel
theorem dX10_meeting_76 : decode cX10_meeting 76 = .ok (.aload_n 0, 1) := by decide +kernel
theorem dX10_meeting_77 : decode cX10_meeting 77 = .ok (.getfield 12, 3) := by decide +kernel
theorem dX10_meeting_80 : decode cX10_meeting 80 = .ok (.getfield 193, 3) := by decide +kernel
theorem dX10_meeting_83 : decode cX10_meeting 83 = .ok (.iload_n 1, 1) := by decide +kernel
theorem dX10_meeting_84 : decode cX10_meeting 84 = .ok (.iconst 0, 1) := by decide +kernel
theorem dX10_meeting_85 : decode cX10_meeting 85 = .ok (.invokevirtual 208, 3) := by decide +kernel
theorem dX10_meeting_88 : decode cX10_meeting 88 = .ok (.aload_n 0, 1) := by decide +kernel
theorem dX10_meeting_89 : decode cX10_meeting 89 = .ok (.getfield 12, 3) := by decide +kernel
theorem dX10_meeting_92 : decode cX10_meeting 92 = .ok (.getfield 193, 3) := by decide +kernel
theorem dX10_meeting_95 : decode cX10_meeting 95 = .ok (.iload_n 2, 1) := by decide +kernel
theorem dX10_meeting_96 : decode cX10_meeting 96 = .ok (.iconst 0, 1) := by decide +kernel
theorem dX10_meeting_97 : decode cX10_meeting 97 = .ok (.invokevirtual 208, 3) := by decide +kernel
theorem dX10_meeting_100 : decode cX10_meeting 100 = .ok (.invokevirtual 328, 3) := by decide +kernel
theorem dX10_meeting_103 : decode cX10_meeting 103 = .ok (.istore 6, 2) := by decide +kernel
theorem dX10_meeting_105 : decode cX10_meeting 105 = .ok (.iload 4, 2) := by decide +kernel
theorem dX10_meeting_107 : decode cX10_meeting 107 = .ok (.ifCond .ne 8, 3) := by decide +kernel
theorem dX10_meeting_110 : decode cX10_meeting 110 = .ok (.iload 6, 2) := by decide +kernel
theorem dX10_meeting_112 : decode cX10_meeting 112 = .ok (.goto 12, 3) := by decide +kernel
theorem dX10_meeting_115 : decode cX10_meeting 115 = .ok (.aload_n 0, 1) := by decide +kernel
theorem dX10_meeting_116 : decode cX10_meeting 116 = .ok (.getfield 56, 3) := by decide +kernel
theorem dX10_meeting_119 : decode cX10_meeting 119 = .ok (.iload 6, 2) := by decide +kernel
theorem dX10_meeting_121 : decode cX10_meeting 121 = .ok (.invokevirtual 331, 3) := by decide +kernel
theorem dX10_meeting_124 : decode cX10_meeting 124 = .ok (.ireturn, 1) := by decide +kernel
set_option maxHeartbeats 4000000 in
set_option maxRecDepth 100000 in
theorem c_X10_meetingG (l : Launch) (D : va_G) (cI : ClassId) (aK aV : Nat → Nat) (k k0 k1 k2 k3 k4 k5 k6 k7 k8 k9 ka kb k00 k01 k02 k03 k04 k05 k80 k81 ka0 ka1 ka2 k050 : Nat) (sz : Nat) (cc : Int32) (c06 : Int32) (c07 : Int32) (c08 : Int32) (cb : Nat → Int32) (c01 : Nat → Int32) (c051 : Int32) (c80 : Nat → Int32) (c81 : Nat → Int32) (ca0 : Nat → Int32) (ca1 : Nat → Int32) (ca2 : Nat → Int32) (c050 : Nat → Int32) (a0 : Int32) (a1 : Int32) (a2 : Int32) (a3 : Int32) (pre0 : ∀ k : Nat, k < 4 → 0 ≤ (ca1 k).toInt ∧ (ca1 k).toInt ≤ 36) : Met l yX10_meeting (gW yX10_meeting cX10_meeting 7 (some .int)) ({ frames := 6, cells := 0, slots := 0, locals := 143 } : Room) (kPreX D cI aK aV [.ref k, .int a0, .int a1, .int a2, .int a3] [(k, .inr (10, [.ref k0, .ref k1, .ref k2, .ref k3, .ref k4, .ref k5, .ref k6, .ref k7, .ref k8, .ref k9, .ref ka, .ref kb, .int cc])), (k0, .inr (9, [.ref k00, .ref k01, .ref k02, .ref k03, .ref k04, .ref k05, .int c06, .int c07, .int c08])), (k8, .inr (2, [.ref k80, .ref k81])), (ka, .inr (6, [.ref ka0, .ref ka1, .ref ka2])), (kb, .inl (cI, 6, .inl cb)), (k01, .inl (cI, 40, .inl c01)), (k05, .inr (3, [.ref k050, .int c051])), (k80, .inl (cI, 40, .inl c80)), (k81, .inl (cI, 40, .inl c81)), (ka0, .inl (cI, 4, .inl ca0)), (ka1, .inl (cI, 4, .inl ca1)), (ka2, .inl (cI, 144, .inl ca2)), (k050, .inl (cI, 36, .inl c050))] sz) (va_Qi (fun (r : Int32) (u : (Nat → Int32) × (Nat → Int32) × (Nat → Int32)) => True) (fun u t => kWd D cI (va_A [(k, .inr (10, [.ref k0, .ref k1, .ref k2, .ref k3, .ref k4, .ref k5, .ref k6, .ref k7, .ref k8, .ref k9, .ref ka, .ref kb, .int cc])), (k0, .inr (9, [.ref k00, .ref k01, .ref k02, .ref k03, .ref k04, .ref k05, .int c06, .int c07, .int c08])), (k8, .inr (2, [.ref k80, .ref k81])), (ka, .inr (6, [.ref ka0, .ref ka1, .ref ka2])), (kb, .inl (cI, 6, .inl cb)), (k01, .inl (cI, 40, .inl c01)), (k05, .inr (3, [.ref k050, .int c051])), (k80, .inl (cI, 40, .inl c80)), (k81, .inl (cI, 40, .inl c81)), (ka0, .inl (cI, 4, .inl ca0)), (ka1, .inl (cI, 4, .inl ca1)), (ka2, .inl (cI, 144, .inl ca2)), (k050, .inl (cI, 36, .inl c050))] sz) [(k, .inr (10, [.ref k0, .ref k1, .ref k2, .ref k3, .ref k4, .ref k5, .ref k6, .ref k7, .ref k8, .ref k9, .ref ka, .ref kb, .int cc])), (k0, .inr (9, [.ref k00, .ref k01, .ref k02, .ref k03, .ref k04, .ref k05, .int c06, .int c07, .int c08])), (k8, .inr (2, [.ref k80, .ref k81])), (ka, .inr (6, [.ref ka0, .ref ka1, .ref ka2])), (kb, .inl (cI, 6, .inl u.1)), (k01, .inl (cI, 40, .inl c01)), (k05, .inr (3, [.ref k050, .int c051])), (k80, .inl (cI, 40, .inl u.2.1)), (k81, .inl (cI, 40, .inl u.2.2)), (ka0, .inl (cI, 4, .inl ca0)), (ka1, .inl (cI, 4, .inl ca1)), (ka2, .inl (cI, 144, .inl ca2)), (k050, .inl (cI, 36, .inl c050))] t) (va_A [(k, .inr (10, [.ref k0, .ref k1, .ref k2, .ref k3, .ref k4, .ref k5, .ref k6, .ref k7, .ref k8, .ref k9, .ref ka, .ref kb, .int cc])), (k0, .inr (9, [.ref k00, .ref k01, .ref k02, .ref k03, .ref k04, .ref k05, .int c06, .int c07, .int c08])), (k8, .inr (2, [.ref k80, .ref k81])), (ka, .inr (6, [.ref ka0, .ref ka1, .ref ka2])), (kb, .inl (cI, 6, .inl cb)), (k01, .inl (cI, 40, .inl c01)), (k05, .inr (3, [.ref k050, .int c051])), (k80, .inl (cI, 40, .inl c80)), (k81, .inl (cI, 40, .inl c81)), (ka0, .inl (cI, 4, .inl ca0)), (ka1, .inl (cI, 4, .inl ca1)), (ka2, .inl (cI, 144, .inl ca2)), (k050, .inl (cI, 36, .inl c050))] sz)) 0 0 (va_A [(k, .inr (10, [.ref k0, .ref k1, .ref k2, .ref k3, .ref k4, .ref k5, .ref k6, .ref k7, .ref k8, .ref k9, .ref ka, .ref kb, .int cc])), (k0, .inr (9, [.ref k00, .ref k01, .ref k02, .ref k03, .ref k04, .ref k05, .int c06, .int c07, .int c08])), (k8, .inr (2, [.ref k80, .ref k81])), (ka, .inr (6, [.ref ka0, .ref ka1, .ref ka2])), (kb, .inl (cI, 6, .inl cb)), (k01, .inl (cI, 40, .inl c01)), (k05, .inr (3, [.ref k050, .int c051])), (k80, .inl (cI, 40, .inl c80)), (k81, .inl (cI, 40, .inl c81)), (ka0, .inl (cI, 4, .inl ca0)), (ka1, .inl (cI, 4, .inl ca1)), (ka2, .inl (cI, 144, .inl ca2)), (k050, .inl (cI, 36, .inl c050))] sz) := by
  refine kMetIX (own := RX10) (by decide) rfl (Nat.le_of_ble_eq_true rfl) ?_
  intro p e s m args below meth c hx hb hT hown hname hml A Q hK hP hD hS hA hN hXS hRet ls hl
  have hl : lv_has ls 7 [(0, .ref k), (1, .int a0), (2, .int a1), (3, .int a2), (4, .int a3)] := hl
  have lo_a0 := k_lo a0
  have hi_a0 := k_hi a0
  have lo_a1 := k_lo a1
  have hi_a1 := k_hi a1
  have lo_a2 := k_lo a2
  have hi_a2 := k_hi a2
  have lo_a3 := k_lo a3
  have hi_a3 := k_hi a3
  have lo_cc := k_lo cc
  have hi_cc := k_hi cc
  have lo_c06 := k_lo c06
  have hi_c06 := k_hi c06
  have lo_c07 := k_lo c07
  have hi_c07 := k_hi c07
  have lo_c08 := k_lo c08
  have hi_c08 := k_hi c08
  have lo_c051 := k_lo c051
  have hi_c051 := k_hi c051
  refine lv_aload_n hx hb dX10_meeting_0 rfl (lv_at hl 0 rfl) ?_
  refine lv_iload_n hx hb dX10_meeting_1 rfl (lv_at hl 1 rfl) ?_
  refine lv_iload_n hx hb dX10_meeting_2 rfl (lv_at hl 2 rfl) ?_
  refine kJi (wr := [(k8, .inr (2, [.ref k80, .ref k81])), (ka, .inr (6, [.ref ka0, .ref ka1, .ref ka2])), (kb, .inl (cI, 6, .inl cb)), (k01, .inl (cI, 40, .inl c01)), (k80, .inl (cI, 40, .inl c80)), (k81, .inl (cI, 40, .inl c81)), (ka0, .inl (cI, 4, .inl ca0)), (ka1, .inl (cI, 4, .inl ca1)), (ka2, .inl (cI, 144, .inl ca2)), (k050, .inl (cI, 36, .inl c050))]) (va_runV (As := [.int a0, .int a1]) (rest := []) ⟨hx, hb, hml, hown, hT⟩ (c_X10_arePartiesG l D cI aK aV k k0 k1 k2 k3 k4 k5 k6 k7 k8 k9 ka kb k00 k01 k02 k03 k04 k05 k050 s.heap.size cc c06 c07 c08 c051 a0 a1) (cwV 2 hT (gV_in mw_923 mw_920 mw_922 mw_p2_13 mw_1) rfl rfl rfl (by decide +kernel) ⟨Nat.le_of_ble_eq_true rfl, Nat.le_of_ble_eq_true rfl⟩) (kRecvX (q0 := 0) (ci := 10) hK hP hD hN hXS hS hA rfl rfl [0, 1, 6] rfl (by decide)) rfl rfl hl.1 rfl (lv_room (Nat.le_of_ble_eq_true rfl)) dX10_meeting_3 ⟨Nat.le_of_ble_eq_true rfl, Nat.le_of_ble_eq_true rfl⟩) hP hD hS hA [0, 1, 6] [2, 3, 4, 5, 7, 8, 9, 10, 11, 12] rfl rfl (by decide) (by decide) (fun r_1 u_3 H locs w_2 hP hD hS => ?_)
  have hP : va_P D vwCl [(k8, .inr (2, [.ref k80, .ref k81])), (ka, .inr (6, [.ref ka0, .ref ka1, .ref ka2])), (kb, .inl (cI, 6, .inl cb)), (k01, .inl (cI, 40, .inl c01)), (k80, .inl (cI, 40, .inl c80)), (k81, .inl (cI, 40, .inl c81)), (ka0, .inl (cI, 4, .inl ca0)), (ka1, .inl (cI, 4, .inl ca1)), (ka2, .inl (cI, 144, .inl ca2)), (k050, .inl (cI, 36, .inl c050)), (k, .inr (10, [.ref k0, .ref k1, .ref k2, .ref k3, .ref k4, .ref k5, .ref k6, .ref k7, .ref k8, .ref k9, .ref ka, .ref kb, .int cc])), (k0, .inr (9, [.ref k00, .ref k01, .ref k02, .ref k03, .ref k04, .ref k05, .int c06, .int c07, .int c08])), (k05, .inr (3, [.ref k050, .int c051]))] H := hP
  have hD : va_D A [(k8, .inr (2, [.ref k80, .ref k81])), (ka, .inr (6, [.ref ka0, .ref ka1, .ref ka2])), (kb, .inl (cI, 6, .inl cb)), (k01, .inl (cI, 40, .inl c01)), (k80, .inl (cI, 40, .inl c80)), (k81, .inl (cI, 40, .inl c81)), (ka0, .inl (cI, 4, .inl ca0)), (ka1, .inl (cI, 4, .inl ca1)), (ka2, .inl (cI, 144, .inl ca2)), (k050, .inl (cI, 36, .inl c050)), (k, .inr (10, [.ref k0, .ref k1, .ref k2, .ref k3, .ref k4, .ref k5, .ref k6, .ref k7, .ref k8, .ref k9, .ref ka, .ref kb, .int cc])), (k0, .inr (9, [.ref k00, .ref k01, .ref k02, .ref k03, .ref k04, .ref k05, .int c06, .int c07, .int c08])), (k05, .inr (3, [.ref k050, .int c051]))] := hD
  have lo_r_1 := k_lo r_1
  have hi_r_1 := k_hi r_1
  refine b_if_eq hx hb rfl (tgt := 27) dX10_meeting_6 (by decide) (fun c_4 => ?_) (fun c_4 => ?_)
  · refine lv_aload_n hx hb dX10_meeting_27 rfl (lv_at hl 0 rfl) ?_
    refine lv_iconst (v := 1) hx hb dX10_meeting_28 (by decide) ?_
    refine kJi (wr := [(k8, .inr (2, [.ref k80, .ref k81])), (ka, .inr (6, [.ref ka0, .ref ka1, .ref ka2])), (k01, .inl (cI, 40, .inl c01)), (k80, .inl (cI, 40, .inl c80)), (k81, .inl (cI, 40, .inl c81)), (ka0, .inl (cI, 4, .inl ca0)), (ka1, .inl (cI, 4, .inl ca1)), (ka2, .inl (cI, 144, .inl ca2)), (k050, .inl (cI, 36, .inl c050)), (k0, .inr (9, [.ref k00, .ref k01, .ref k02, .ref k03, .ref k04, .ref k05, .int c06, .int c07, .int c08])), (k05, .inr (3, [.ref k050, .int c051]))]) (va_runV (As := [.int 1]) (rest := []) ⟨hx, hb, hml, hown, hT⟩ (c_X10_findingG l D cI aK aV k k0 k1 k2 k3 k4 k5 k6 k7 k8 k9 ka kb H.size cc cb 1) (cwV 1 hT (gV_in mw_338 mw_335 mw_337 mw_p1_0 mw_1) rfl rfl rfl (by decide +kernel) ⟨Nat.le_of_ble_eq_true rfl, Nat.le_of_ble_eq_true rfl⟩) (kRecvX (q0 := 10) (ci := 10) hK hP hD hN hXS hS hA rfl rfl [10, 2] rfl (by decide)) rfl rfl hl.1 rfl (lv_room (Nat.le_of_ble_eq_true rfl)) dX10_meeting_29 ⟨Nat.le_of_ble_eq_true rfl, Nat.le_of_ble_eq_true rfl⟩) hP hD hS hA [10, 2] [0, 1, 3, 4, 5, 6, 7, 8, 9, 11, 12] rfl rfl (by decide) (by decide) (fun r_5 scb_7 H locs w_6 hP hD hS => ?_)
    have hP : va_P D vwCl [(k8, .inr (2, [.ref k80, .ref k81])), (ka, .inr (6, [.ref ka0, .ref ka1, .ref ka2])), (k01, .inl (cI, 40, .inl c01)), (k80, .inl (cI, 40, .inl c80)), (k81, .inl (cI, 40, .inl c81)), (ka0, .inl (cI, 4, .inl ca0)), (ka1, .inl (cI, 4, .inl ca1)), (ka2, .inl (cI, 144, .inl ca2)), (k050, .inl (cI, 36, .inl c050)), (k0, .inr (9, [.ref k00, .ref k01, .ref k02, .ref k03, .ref k04, .ref k05, .int c06, .int c07, .int c08])), (k05, .inr (3, [.ref k050, .int c051])), (k, .inr (10, [.ref k0, .ref k1, .ref k2, .ref k3, .ref k4, .ref k5, .ref k6, .ref k7, .ref k8, .ref k9, .ref ka, .ref kb, .int cc])), (kb, .inl (cI, 6, .inl scb_7))] H := hP
    have hD : va_D A [(k8, .inr (2, [.ref k80, .ref k81])), (ka, .inr (6, [.ref ka0, .ref ka1, .ref ka2])), (k01, .inl (cI, 40, .inl c01)), (k80, .inl (cI, 40, .inl c80)), (k81, .inl (cI, 40, .inl c81)), (ka0, .inl (cI, 4, .inl ca0)), (ka1, .inl (cI, 4, .inl ca1)), (ka2, .inl (cI, 144, .inl ca2)), (k050, .inl (cI, 36, .inl c050)), (k0, .inr (9, [.ref k00, .ref k01, .ref k02, .ref k03, .ref k04, .ref k05, .int c06, .int c07, .int c08])), (k05, .inr (3, [.ref k050, .int c051])), (k, .inr (10, [.ref k0, .ref k1, .ref k2, .ref k3, .ref k4, .ref k5, .ref k6, .ref k7, .ref k8, .ref k9, .ref ka, .ref kb, .int cc])), (kb, .inl (cI, 6, .inl scb_7))] := hD
    have lo_r_5 := k_lo r_5
    have hi_r_5 := k_hi r_5
    exact hRet (scb_7, c80, c81) [11, 9, 0, 1, 12, 2, 10, 3, 4, 5, 6, 7, 8] trivial hP hD (by decide) rfl hS rfl dX10_meeting_32
  · refine lv_iload_n hx hb dX10_meeting_9 rfl (lv_at hl 3 rfl) ?_
    refine kJi (wr := [(k8, .inr (2, [.ref k80, .ref k81])), (ka, .inr (6, [.ref ka0, .ref ka1, .ref ka2])), (kb, .inl (cI, 6, .inl cb)), (k01, .inl (cI, 40, .inl c01)), (k80, .inl (cI, 40, .inl c80)), (k81, .inl (cI, 40, .inl c81)), (ka0, .inl (cI, 4, .inl ca0)), (ka1, .inl (cI, 4, .inl ca1)), (ka2, .inl (cI, 144, .inl ca2)), (k050, .inl (cI, 36, .inl c050)), (k, .inr (10, [.ref k0, .ref k1, .ref k2, .ref k3, .ref k4, .ref k5, .ref k6, .ref k7, .ref k8, .ref k9, .ref ka, .ref kb, .int cc])), (k0, .inr (9, [.ref k00, .ref k01, .ref k02, .ref k03, .ref k04, .ref k05, .int c06, .int c07, .int c08])), (k05, .inr (3, [.ref k050, .int c051]))]) (va_runS (As := [.int a2]) (rest := []) ⟨hx, hb, hml, hown, hT⟩ (c_X10_isSheetG l D cI aK aV H.size a2) (cwS 1 hT (gS_in mw_662 mw_660 mw_661 mw_1) rfl rfl rfl (by decide +kernel) ⟨Nat.le_of_ble_eq_true rfl, Nat.le_of_ble_eq_true rfl⟩) (kStatX hK hP hD hN hXS hS hA [] rfl (by decide)) rfl rfl hl.1 rfl (lv_room (Nat.le_of_ble_eq_true rfl)) dX10_meeting_10 ⟨Nat.le_of_ble_eq_true rfl, Nat.le_of_ble_eq_true rfl⟩) hP hD hS hA [] [0, 1, 2, 3, 4, 5, 6, 7, 8, 9, 10, 11, 12] rfl rfl (by decide) (by decide) (fun r_8 u_10 H locs w_9 hP hD hS => ?_)
    have hP : va_P D vwCl [(k8, .inr (2, [.ref k80, .ref k81])), (ka, .inr (6, [.ref ka0, .ref ka1, .ref ka2])), (kb, .inl (cI, 6, .inl cb)), (k01, .inl (cI, 40, .inl c01)), (k80, .inl (cI, 40, .inl c80)), (k81, .inl (cI, 40, .inl c81)), (ka0, .inl (cI, 4, .inl ca0)), (ka1, .inl (cI, 4, .inl ca1)), (ka2, .inl (cI, 144, .inl ca2)), (k050, .inl (cI, 36, .inl c050)), (k, .inr (10, [.ref k0, .ref k1, .ref k2, .ref k3, .ref k4, .ref k5, .ref k6, .ref k7, .ref k8, .ref k9, .ref ka, .ref kb, .int cc])), (k0, .inr (9, [.ref k00, .ref k01, .ref k02, .ref k03, .ref k04, .ref k05, .int c06, .int c07, .int c08])), (k05, .inr (3, [.ref k050, .int c051]))] H := hP
    have hD : va_D A [(k8, .inr (2, [.ref k80, .ref k81])), (ka, .inr (6, [.ref ka0, .ref ka1, .ref ka2])), (kb, .inl (cI, 6, .inl cb)), (k01, .inl (cI, 40, .inl c01)), (k80, .inl (cI, 40, .inl c80)), (k81, .inl (cI, 40, .inl c81)), (ka0, .inl (cI, 4, .inl ca0)), (ka1, .inl (cI, 4, .inl ca1)), (ka2, .inl (cI, 144, .inl ca2)), (k050, .inl (cI, 36, .inl c050)), (k, .inr (10, [.ref k0, .ref k1, .ref k2, .ref k3, .ref k4, .ref k5, .ref k6, .ref k7, .ref k8, .ref k9, .ref ka, .ref kb, .int cc])), (k0, .inr (9, [.ref k00, .ref k01, .ref k02, .ref k03, .ref k04, .ref k05, .int c06, .int c07, .int c08])), (k05, .inr (3, [.ref k050, .int c051]))] := hD
    rcases w_9 with ⟨hr_8, h_11, h_12⟩ | ⟨hr_8, h_13⟩
    · have h_11 : 0 ≤ a2.toInt := h_11
      have h_12 : a2.toInt ≤ 3 := h_12
      obtain rfl : r_8 = 1 := hr_8.trans (by decide)
      refine b_if_eq hx hb zl_1 (tgt := 27) dX10_meeting_13 (by decide) (fun c_14 => by exfalso; omega) (fun c_14 => ?_)
      refine lv_iload hx hb dX10_meeting_16 (lv_at hl 4 rfl) ?_
      refine b_if_lt hx hb rfl (tgt := 27) dX10_meeting_18 (by decide) (fun c_15 => ?_) (fun c_15 => ?_)
      · refine lv_aload_n hx hb dX10_meeting_27 rfl (lv_at hl 0 rfl) ?_
        refine lv_iconst (v := 1) hx hb dX10_meeting_28 (by decide) ?_
        refine kJi (wr := [(k8, .inr (2, [.ref k80, .ref k81])), (ka, .inr (6, [.ref ka0, .ref ka1, .ref ka2])), (k01, .inl (cI, 40, .inl c01)), (k80, .inl (cI, 40, .inl c80)), (k81, .inl (cI, 40, .inl c81)), (ka0, .inl (cI, 4, .inl ca0)), (ka1, .inl (cI, 4, .inl ca1)), (ka2, .inl (cI, 144, .inl ca2)), (k050, .inl (cI, 36, .inl c050)), (k0, .inr (9, [.ref k00, .ref k01, .ref k02, .ref k03, .ref k04, .ref k05, .int c06, .int c07, .int c08])), (k05, .inr (3, [.ref k050, .int c051]))]) (va_runV (As := [.int 1]) (rest := []) ⟨hx, hb, hml, hown, hT⟩ (c_X10_findingG l D cI aK aV k k0 k1 k2 k3 k4 k5 k6 k7 k8 k9 ka kb H.size cc cb 1) (cwV 1 hT (gV_in mw_338 mw_335 mw_337 mw_p1_0 mw_1) rfl rfl rfl (by decide +kernel) ⟨Nat.le_of_ble_eq_true rfl, Nat.le_of_ble_eq_true rfl⟩) (kRecvX (q0 := 10) (ci := 10) hK hP hD hN hXS hS hA rfl rfl [10, 2] rfl (by decide)) rfl rfl hl.1 rfl (lv_room (Nat.le_of_ble_eq_true rfl)) dX10_meeting_29 ⟨Nat.le_of_ble_eq_true rfl, Nat.le_of_ble_eq_true rfl⟩) hP hD hS hA [10, 2] [0, 1, 3, 4, 5, 6, 7, 8, 9, 11, 12] rfl rfl (by decide) (by decide) (fun r_16 scb_18 H locs w_17 hP hD hS => ?_)
        have hP : va_P D vwCl [(k8, .inr (2, [.ref k80, .ref k81])), (ka, .inr (6, [.ref ka0, .ref ka1, .ref ka2])), (k01, .inl (cI, 40, .inl c01)), (k80, .inl (cI, 40, .inl c80)), (k81, .inl (cI, 40, .inl c81)), (ka0, .inl (cI, 4, .inl ca0)), (ka1, .inl (cI, 4, .inl ca1)), (ka2, .inl (cI, 144, .inl ca2)), (k050, .inl (cI, 36, .inl c050)), (k0, .inr (9, [.ref k00, .ref k01, .ref k02, .ref k03, .ref k04, .ref k05, .int c06, .int c07, .int c08])), (k05, .inr (3, [.ref k050, .int c051])), (k, .inr (10, [.ref k0, .ref k1, .ref k2, .ref k3, .ref k4, .ref k5, .ref k6, .ref k7, .ref k8, .ref k9, .ref ka, .ref kb, .int cc])), (kb, .inl (cI, 6, .inl scb_18))] H := hP
        have hD : va_D A [(k8, .inr (2, [.ref k80, .ref k81])), (ka, .inr (6, [.ref ka0, .ref ka1, .ref ka2])), (k01, .inl (cI, 40, .inl c01)), (k80, .inl (cI, 40, .inl c80)), (k81, .inl (cI, 40, .inl c81)), (ka0, .inl (cI, 4, .inl ca0)), (ka1, .inl (cI, 4, .inl ca1)), (ka2, .inl (cI, 144, .inl ca2)), (k050, .inl (cI, 36, .inl c050)), (k0, .inr (9, [.ref k00, .ref k01, .ref k02, .ref k03, .ref k04, .ref k05, .int c06, .int c07, .int c08])), (k05, .inr (3, [.ref k050, .int c051])), (k, .inr (10, [.ref k0, .ref k1, .ref k2, .ref k3, .ref k4, .ref k5, .ref k6, .ref k7, .ref k8, .ref k9, .ref ka, .ref kb, .int cc])), (kb, .inl (cI, 6, .inl scb_18))] := hD
        have lo_r_16 := k_lo r_16
        have hi_r_16 := k_hi r_16
        exact hRet (scb_18, c80, c81) [11, 9, 0, 1, 12, 2, 10, 3, 4, 5, 6, 7, 8] trivial hP hD (by decide) rfl hS rfl dX10_meeting_32
      · refine lv_iload hx hb dX10_meeting_21 (lv_at hl 4 rfl) ?_
        refine lv_iconst (v := 1) hx hb dX10_meeting_23 (by decide) ?_
        refine b_icmp_le hx hb rfl zl_1 (tgt := 33) dX10_meeting_24 (by decide) (fun c_19 => ?_) (fun c_19 => ?_)
        · refine lv_aload_n hx hb dX10_meeting_33 rfl (lv_at hl 0 rfl) ?_
          refine lv_iload_n hx hb dX10_meeting_34 rfl (lv_at hl 1 rfl) ?_
          refine lv_iload_n hx hb dX10_meeting_35 rfl (lv_at hl 2 rfl) ?_
          refine lv_iload_n hx hb dX10_meeting_36 rfl (lv_at hl 3 rfl) ?_
          refine kJi (wr := [(k8, .inr (2, [.ref k80, .ref k81])), (kb, .inl (cI, 6, .inl cb)), (k01, .inl (cI, 40, .inl c01)), (k80, .inl (cI, 40, .inl c80)), (k81, .inl (cI, 40, .inl c81))]) (va_runV (As := [.int a0, .int a1, .int a2]) (rest := []) ⟨hx, hb, hml, hown, hT⟩ (c_X10_whyNoMeetingG l D cI aK aV k k0 k1 k2 k3 k4 k5 k6 k7 k8 k9 ka kb k00 k01 k02 k03 k04 k05 ka0 ka1 ka2 k050 H.size cc c06 c07 c08 c051 ca0 ca1 ca2 c050 a0 a1 a2 (by first | omega | decide | assumption | rfl)) (cwV 3 hT (gV_in mw_927 mw_924 mw_926 mw_p2_14 mw_1) rfl rfl rfl (by decide +kernel) ⟨Nat.le_of_ble_eq_true rfl, Nat.le_of_ble_eq_true rfl⟩) (kRecvX (q0 := 10) (ci := 10) hK hP hD hN hXS hS hA rfl rfl [10, 11, 1, 12, 6, 7, 8, 9] rfl (by decide)) rfl rfl hl.1 rfl (lv_room (Nat.le_of_ble_eq_true rfl)) dX10_meeting_37 ⟨Nat.le_of_ble_eq_true rfl, Nat.le_of_ble_eq_true rfl⟩) hP hD hS hA [10, 11, 1, 12, 6, 7, 8, 9] [0, 2, 3, 4, 5] rfl rfl (by decide) (by decide) (fun r_20 u_22 H locs w_21 hP hD hS => ?_)
          have hP : va_P D vwCl [(k8, .inr (2, [.ref k80, .ref k81])), (kb, .inl (cI, 6, .inl cb)), (k01, .inl (cI, 40, .inl c01)), (k80, .inl (cI, 40, .inl c80)), (k81, .inl (cI, 40, .inl c81)), (k, .inr (10, [.ref k0, .ref k1, .ref k2, .ref k3, .ref k4, .ref k5, .ref k6, .ref k7, .ref k8, .ref k9, .ref ka, .ref kb, .int cc])), (k0, .inr (9, [.ref k00, .ref k01, .ref k02, .ref k03, .ref k04, .ref k05, .int c06, .int c07, .int c08])), (ka, .inr (6, [.ref ka0, .ref ka1, .ref ka2])), (k05, .inr (3, [.ref k050, .int c051])), (ka0, .inl (cI, 4, .inl ca0)), (ka1, .inl (cI, 4, .inl ca1)), (ka2, .inl (cI, 144, .inl ca2)), (k050, .inl (cI, 36, .inl c050))] H := hP
          have hD : va_D A [(k8, .inr (2, [.ref k80, .ref k81])), (kb, .inl (cI, 6, .inl cb)), (k01, .inl (cI, 40, .inl c01)), (k80, .inl (cI, 40, .inl c80)), (k81, .inl (cI, 40, .inl c81)), (k, .inr (10, [.ref k0, .ref k1, .ref k2, .ref k3, .ref k4, .ref k5, .ref k6, .ref k7, .ref k8, .ref k9, .ref ka, .ref kb, .int cc])), (k0, .inr (9, [.ref k00, .ref k01, .ref k02, .ref k03, .ref k04, .ref k05, .int c06, .int c07, .int c08])), (ka, .inr (6, [.ref ka0, .ref ka1, .ref ka2])), (k05, .inr (3, [.ref k050, .int c051])), (ka0, .inl (cI, 4, .inl ca0)), (ka1, .inl (cI, 4, .inl ca1)), (ka2, .inl (cI, 144, .inl ca2)), (k050, .inl (cI, 36, .inl c050))] := hD
          have lo_r_20 := k_lo r_20
          have hi_r_20 := k_hi r_20
          refine lv_istore (lv' := [(5, .int r_20), (0, .ref k), (1, .int a0), (2, .int a1), (3, .int a2), (4, .int a3)]) hx hb dX10_meeting_40 hl (by decide) rfl (fun ls hl => ?_)
          refine lv_iload hx hb dX10_meeting_42 (lv_at hl 0 rfl) ?_
          refine b_if_eq hx hb rfl (tgt := 54) dX10_meeting_44 (by decide) (fun c_23 => ?_) (fun c_23 => ?_)
          · refine lv_aload_n hx hb dX10_meeting_54 rfl (lv_at hl 1 rfl) ?_
            refine va_get (D := D) (ci := 10) (v := .ref k8) (C := RX10) (T := TX10) (N := 13) hx hb hT giX10 hown hK hP 5 rfl rfl 8 (by decide) (hT (Cond.fieldLink RX10 56 "DesertWire" "meetings" "LDesertWire$Meetings;") mw_299) (fun _ h9 => h9) rfl dX10_meeting_55 ?_
            refine lv_aload_n hx hb dX10_meeting_58 rfl (lv_at hl 1 rfl) ?_
            refine va_get (D := D) (ci := 10) (v := .ref k0) (C := RX10) (T := TX10) (N := 13) hx hb hT giX10 hown hK hP 5 rfl rfl 0 (by decide) (hT (Cond.fieldLink RX10 12 "DesertWire" "now" "LDesertWire$World;") mw_291) (fun _ h9 => h9) rfl dX10_meeting_59 ?_
            refine lv_aload_n hx hb dX10_meeting_62 rfl (lv_at hl 1 rfl) ?_
            refine va_get (D := D) (ci := 10) (v := .ref ka) (C := RX10) (T := TX10) (N := 13) hx hb hT giX10 hown hK hP 5 rfl rfl 10 (by decide) (hT (Cond.fieldLink RX10 70 "DesertWire" "sheets" "LDesertWire$Sheets;") mw_301) (fun _ h9 => h9) rfl dX10_meeting_63 ?_
            refine lv_iload_n hx hb dX10_meeting_66 rfl (lv_at hl 4 rfl) ?_
            refine lv_iload_n hx hb dX10_meeting_67 rfl (lv_at hl 2 rfl) ?_
            refine lv_iload_n hx hb dX10_meeting_68 rfl (lv_at hl 3 rfl) ?_
            refine kJv (wr := [(kb, .inl (cI, 6, .inl cb)), (k, .inr (10, [.ref k0, .ref k1, .ref k2, .ref k3, .ref k4, .ref k5, .ref k6, .ref k7, .ref k8, .ref k9, .ref ka, .ref kb, .int cc])), (ka0, .inl (cI, 4, .inl ca0))]) (va_runV (As := [.ref k0, .ref ka, .int a2, .int a0, .int a1]) (rest := []) ⟨hx, hb, hml, hown, hT⟩ (c_X2_weighG l D cI aK aV k8 k0 ka k80 k81 k00 k01 k02 k03 k04 k05 k050 ka0 ka1 ka2 H.size c80 c81 c06 c07 c08 c01 c051 c050 ca1 ca2 a2 a0 a1 (by first | omega | decide | assumption | rfl)) (cwV 5 hT (gV_in mw_931 mw_928 mw_929 mw_930 mw_9) rfl rfl rfl (by decide +kernel) ⟨Nat.le_of_ble_eq_true rfl, Nat.le_of_ble_eq_true rfl⟩) (kRecvX (q0 := 0) (ci := 2) hK hP hD hN hXS hS hA rfl rfl [0, 3, 4, 6, 2, 8, 12, 7, 10, 11] rfl (by decide)) rfl rfl hl.1 rfl (lv_room (Nat.le_of_ble_eq_true rfl)) dX10_meeting_69 ⟨Nat.le_of_ble_eq_true rfl, Nat.le_of_ble_eq_true rfl⟩) hP hD hS hA [0, 3, 4, 6, 2, 8, 12, 7, 10, 11] [1, 5, 9] rfl rfl (by decide) (by decide) (fun u_28 H locs w_25 hP hD hS => ?_)
            obtain ⟨sc0_26, sc1_27⟩ := u_28
            have hP : va_P D vwCl [(kb, .inl (cI, 6, .inl cb)), (k, .inr (10, [.ref k0, .ref k1, .ref k2, .ref k3, .ref k4, .ref k5, .ref k6, .ref k7, .ref k8, .ref k9, .ref ka, .ref kb, .int cc])), (ka0, .inl (cI, 4, .inl ca0)), (k8, .inr (2, [.ref k80, .ref k81])), (k80, .inl (cI, 40, .inl sc0_26)), (k81, .inl (cI, 40, .inl sc1_27)), (k0, .inr (9, [.ref k00, .ref k01, .ref k02, .ref k03, .ref k04, .ref k05, .int c06, .int c07, .int c08])), (k01, .inl (cI, 40, .inl c01)), (k05, .inr (3, [.ref k050, .int c051])), (k050, .inl (cI, 36, .inl c050)), (ka, .inr (6, [.ref ka0, .ref ka1, .ref ka2])), (ka1, .inl (cI, 4, .inl ca1)), (ka2, .inl (cI, 144, .inl ca2))] H := hP
            have hD : va_D A [(kb, .inl (cI, 6, .inl cb)), (k, .inr (10, [.ref k0, .ref k1, .ref k2, .ref k3, .ref k4, .ref k5, .ref k6, .ref k7, .ref k8, .ref k9, .ref ka, .ref kb, .int cc])), (ka0, .inl (cI, 4, .inl ca0)), (k8, .inr (2, [.ref k80, .ref k81])), (k80, .inl (cI, 40, .inl sc0_26)), (k81, .inl (cI, 40, .inl sc1_27)), (k0, .inr (9, [.ref k00, .ref k01, .ref k02, .ref k03, .ref k04, .ref k05, .int c06, .int c07, .int c08])), (k01, .inl (cI, 40, .inl c01)), (k05, .inr (3, [.ref k050, .int c051])), (k050, .inl (cI, 36, .inl c050)), (ka, .inr (6, [.ref ka0, .ref ka1, .ref ka2])), (ka1, .inl (cI, 4, .inl ca1)), (ka2, .inl (cI, 144, .inl ca2))] := hD
            refine lv_aload_n hx hb dX10_meeting_72 rfl (lv_at hl 1 rfl) ?_
            refine va_get (D := D) (ci := 10) (v := .ref k8) (C := RX10) (T := TX10) (N := 13) hx hb hT giX10 hown hK hP 1 rfl rfl 8 (by decide) (hT (Cond.fieldLink RX10 56 "DesertWire" "meetings" "LDesertWire$Meetings;") mw_299) (fun _ h9 => h9) rfl dX10_meeting_73 ?_
            refine lv_aload_n hx hb dX10_meeting_76 rfl (lv_at hl 1 rfl) ?_
            refine va_get (D := D) (ci := 10) (v := .ref k0) (C := RX10) (T := TX10) (N := 13) hx hb hT giX10 hown hK hP 1 rfl rfl 0 (by decide) (hT (Cond.fieldLink RX10 12 "DesertWire" "now" "LDesertWire$World;") mw_291) (fun _ h9 => h9) rfl dX10_meeting_77 ?_
            refine va_get (D := D) (ci := 9) (v := .ref k05) (C := RX9) (T := TX9) (N := 9) hx hb hT giX9 hown hK hP 6 rfl rfl 5 (by decide) (hT (Cond.fieldLink RX10 193 "DesertWire$World" "parties" "LDesertWire$Parties;") mw_102) (fun _ h9 => h9) rfl dX10_meeting_80 ?_
            refine lv_iload_n hx hb dX10_meeting_83 rfl (lv_at hl 2 rfl) ?_
            refine lv_iconst (v := 0) hx hb dX10_meeting_84 (by decide) ?_
            refine kJi (wr := [(kb, .inl (cI, 6, .inl cb)), (k, .inr (10, [.ref k0, .ref k1, .ref k2, .ref k3, .ref k4, .ref k5, .ref k6, .ref k7, .ref k8, .ref k9, .ref ka, .ref kb, .int cc])), (ka0, .inl (cI, 4, .inl ca0)), (k8, .inr (2, [.ref k80, .ref k81])), (k80, .inl (cI, 40, .inl sc0_26)), (k81, .inl (cI, 40, .inl sc1_27)), (k0, .inr (9, [.ref k00, .ref k01, .ref k02, .ref k03, .ref k04, .ref k05, .int c06, .int c07, .int c08])), (k01, .inl (cI, 40, .inl c01)), (ka, .inr (6, [.ref ka0, .ref ka1, .ref ka2])), (ka1, .inl (cI, 4, .inl ca1)), (ka2, .inl (cI, 144, .inl ca2))]) (va_runV (As := [.int a0, .int 0]) (rest := [.ref k8]) ⟨hx, hb, hml, hown, hT⟩ (c_X3_getG l D cI aK aV k05 k050 H.size c051 c050 a0 0) (cwV 2 hT (gV_in mw_726 mw_723 mw_724 mw_725 mw_4) rfl rfl rfl (by decide +kernel) ⟨Nat.le_of_ble_eq_true rfl, Nat.le_of_ble_eq_true rfl⟩) (kRecvX (q0 := 8) (ci := 3) hK hP hD hN hXS hS hA rfl rfl [8, 9] rfl (by decide)) rfl rfl hl.1 rfl (lv_room (Nat.le_of_ble_eq_true rfl)) dX10_meeting_85 ⟨Nat.le_of_ble_eq_true rfl, Nat.le_of_ble_eq_true rfl⟩) hP hD hS hA [8, 9] [0, 1, 2, 3, 4, 5, 6, 7, 10, 11, 12] rfl rfl (by decide) (by decide) (fun r_29 u_31 H locs w_30 hP hD hS => ?_)
            have hP : va_P D vwCl [(kb, .inl (cI, 6, .inl cb)), (k, .inr (10, [.ref k0, .ref k1, .ref k2, .ref k3, .ref k4, .ref k5, .ref k6, .ref k7, .ref k8, .ref k9, .ref ka, .ref kb, .int cc])), (ka0, .inl (cI, 4, .inl ca0)), (k8, .inr (2, [.ref k80, .ref k81])), (k80, .inl (cI, 40, .inl sc0_26)), (k81, .inl (cI, 40, .inl sc1_27)), (k0, .inr (9, [.ref k00, .ref k01, .ref k02, .ref k03, .ref k04, .ref k05, .int c06, .int c07, .int c08])), (k01, .inl (cI, 40, .inl c01)), (ka, .inr (6, [.ref ka0, .ref ka1, .ref ka2])), (ka1, .inl (cI, 4, .inl ca1)), (ka2, .inl (cI, 144, .inl ca2)), (k05, .inr (3, [.ref k050, .int c051])), (k050, .inl (cI, 36, .inl c050))] H := hP
            have hD : va_D A [(kb, .inl (cI, 6, .inl cb)), (k, .inr (10, [.ref k0, .ref k1, .ref k2, .ref k3, .ref k4, .ref k5, .ref k6, .ref k7, .ref k8, .ref k9, .ref ka, .ref kb, .int cc])), (ka0, .inl (cI, 4, .inl ca0)), (k8, .inr (2, [.ref k80, .ref k81])), (k80, .inl (cI, 40, .inl sc0_26)), (k81, .inl (cI, 40, .inl sc1_27)), (k0, .inr (9, [.ref k00, .ref k01, .ref k02, .ref k03, .ref k04, .ref k05, .int c06, .int c07, .int c08])), (k01, .inl (cI, 40, .inl c01)), (ka, .inr (6, [.ref ka0, .ref ka1, .ref ka2])), (ka1, .inl (cI, 4, .inl ca1)), (ka2, .inl (cI, 144, .inl ca2)), (k05, .inr (3, [.ref k050, .int c051])), (k050, .inl (cI, 36, .inl c050))] := hD
            have lo_r_29 := k_lo r_29
            have hi_r_29 := k_hi r_29
            refine lv_aload_n hx hb dX10_meeting_88 rfl (lv_at hl 1 rfl) ?_
            refine va_get (D := D) (ci := 10) (v := .ref k0) (C := RX10) (T := TX10) (N := 13) hx hb hT giX10 hown hK hP 1 rfl rfl 0 (by decide) (hT (Cond.fieldLink RX10 12 "DesertWire" "now" "LDesertWire$World;") mw_291) (fun _ h9 => h9) rfl dX10_meeting_89 ?_
            refine va_get (D := D) (ci := 9) (v := .ref k05) (C := RX9) (T := TX9) (N := 9) hx hb hT giX9 hown hK hP 6 rfl rfl 5 (by decide) (hT (Cond.fieldLink RX10 193 "DesertWire$World" "parties" "LDesertWire$Parties;") mw_102) (fun _ h9 => h9) rfl dX10_meeting_92 ?_
            refine lv_iload_n hx hb dX10_meeting_95 rfl (lv_at hl 3 rfl) ?_
            refine lv_iconst (v := 0) hx hb dX10_meeting_96 (by decide) ?_
            refine kJi (wr := [(kb, .inl (cI, 6, .inl cb)), (k, .inr (10, [.ref k0, .ref k1, .ref k2, .ref k3, .ref k4, .ref k5, .ref k6, .ref k7, .ref k8, .ref k9, .ref ka, .ref kb, .int cc])), (ka0, .inl (cI, 4, .inl ca0)), (k8, .inr (2, [.ref k80, .ref k81])), (k80, .inl (cI, 40, .inl sc0_26)), (k81, .inl (cI, 40, .inl sc1_27)), (k0, .inr (9, [.ref k00, .ref k01, .ref k02, .ref k03, .ref k04, .ref k05, .int c06, .int c07, .int c08])), (k01, .inl (cI, 40, .inl c01)), (ka, .inr (6, [.ref ka0, .ref ka1, .ref ka2])), (ka1, .inl (cI, 4, .inl ca1)), (ka2, .inl (cI, 144, .inl ca2))]) (va_runV (As := [.int a1, .int 0]) (rest := [.int r_29, .ref k8]) ⟨hx, hb, hml, hown, hT⟩ (c_X3_getG l D cI aK aV k05 k050 H.size c051 c050 a1 0) (cwV 2 hT (gV_in mw_726 mw_723 mw_724 mw_725 mw_4) rfl rfl rfl (by decide +kernel) ⟨Nat.le_of_ble_eq_true rfl, Nat.le_of_ble_eq_true rfl⟩) (kRecvX (q0 := 11) (ci := 3) hK hP hD hN hXS hS hA rfl rfl [11, 12] rfl (by decide)) rfl rfl hl.1 rfl (lv_room (Nat.le_of_ble_eq_true rfl)) dX10_meeting_97 ⟨Nat.le_of_ble_eq_true rfl, Nat.le_of_ble_eq_true rfl⟩) hP hD hS hA [11, 12] [0, 1, 2, 3, 4, 5, 6, 7, 8, 9, 10] rfl rfl (by decide) (by decide) (fun r_32 u_34 H locs w_33 hP hD hS => ?_)
            have hP : va_P D vwCl [(kb, .inl (cI, 6, .inl cb)), (k, .inr (10, [.ref k0, .ref k1, .ref k2, .ref k3, .ref k4, .ref k5, .ref k6, .ref k7, .ref k8, .ref k9, .ref ka, .ref kb, .int cc])), (ka0, .inl (cI, 4, .inl ca0)), (k8, .inr (2, [.ref k80, .ref k81])), (k80, .inl (cI, 40, .inl sc0_26)), (k81, .inl (cI, 40, .inl sc1_27)), (k0, .inr (9, [.ref k00, .ref k01, .ref k02, .ref k03, .ref k04, .ref k05, .int c06, .int c07, .int c08])), (k01, .inl (cI, 40, .inl c01)), (ka, .inr (6, [.ref ka0, .ref ka1, .ref ka2])), (ka1, .inl (cI, 4, .inl ca1)), (ka2, .inl (cI, 144, .inl ca2)), (k05, .inr (3, [.ref k050, .int c051])), (k050, .inl (cI, 36, .inl c050))] H := hP
            have hD : va_D A [(kb, .inl (cI, 6, .inl cb)), (k, .inr (10, [.ref k0, .ref k1, .ref k2, .ref k3, .ref k4, .ref k5, .ref k6, .ref k7, .ref k8, .ref k9, .ref ka, .ref kb, .int cc])), (ka0, .inl (cI, 4, .inl ca0)), (k8, .inr (2, [.ref k80, .ref k81])), (k80, .inl (cI, 40, .inl sc0_26)), (k81, .inl (cI, 40, .inl sc1_27)), (k0, .inr (9, [.ref k00, .ref k01, .ref k02, .ref k03, .ref k04, .ref k05, .int c06, .int c07, .int c08])), (k01, .inl (cI, 40, .inl c01)), (ka, .inr (6, [.ref ka0, .ref ka1, .ref ka2])), (ka1, .inl (cI, 4, .inl ca1)), (ka2, .inl (cI, 144, .inl ca2)), (k05, .inr (3, [.ref k050, .int c051])), (k050, .inl (cI, 36, .inl c050))] := hD
            have lo_r_32 := k_lo r_32
            have hi_r_32 := k_hi r_32
            refine kJi (wr := [(kb, .inl (cI, 6, .inl cb)), (k, .inr (10, [.ref k0, .ref k1, .ref k2, .ref k3, .ref k4, .ref k5, .ref k6, .ref k7, .ref k8, .ref k9, .ref ka, .ref kb, .int cc])), (ka0, .inl (cI, 4, .inl ca0)), (k80, .inl (cI, 40, .inl sc0_26)), (k0, .inr (9, [.ref k00, .ref k01, .ref k02, .ref k03, .ref k04, .ref k05, .int c06, .int c07, .int c08])), (k01, .inl (cI, 40, .inl c01)), (ka, .inr (6, [.ref ka0, .ref ka1, .ref ka2])), (ka1, .inl (cI, 4, .inl ca1)), (ka2, .inl (cI, 144, .inl ca2)), (k05, .inr (3, [.ref k050, .int c051])), (k050, .inl (cI, 36, .inl c050))]) (va_runV (As := [.int r_29, .int r_32]) (rest := []) ⟨hx, hb, hml, hown, hT⟩ (c_X2_bestG l D cI aK aV k8 k80 k81 H.size sc1_27 r_29 r_32) (cwV 2 hT (gV_in mw_950 mw_947 mw_948 mw_949 mw_9) rfl rfl rfl (by decide +kernel) ⟨Nat.le_of_ble_eq_true rfl, Nat.le_of_ble_eq_true rfl⟩) (kRecvX (q0 := 3) (ci := 2) hK hP hD hN hXS hS hA rfl rfl [3, 5] rfl (by decide)) rfl rfl hl.1 rfl (lv_room (Nat.le_of_ble_eq_true rfl)) dX10_meeting_100 ⟨Nat.le_of_ble_eq_true rfl, Nat.le_of_ble_eq_true rfl⟩) hP hD hS hA [3, 5] [0, 1, 2, 4, 6, 7, 8, 9, 10, 11, 12] rfl rfl (by decide) (by decide) (fun r_35 u_37 H locs w_36 hP hD hS => ?_)
            have hP : va_P D vwCl [(kb, .inl (cI, 6, .inl cb)), (k, .inr (10, [.ref k0, .ref k1, .ref k2, .ref k3, .ref k4, .ref k5, .ref k6, .ref k7, .ref k8, .ref k9, .ref ka, .ref kb, .int cc])), (ka0, .inl (cI, 4, .inl ca0)), (k80, .inl (cI, 40, .inl sc0_26)), (k0, .inr (9, [.ref k00, .ref k01, .ref k02, .ref k03, .ref k04, .ref k05, .int c06, .int c07, .int c08])), (k01, .inl (cI, 40, .inl c01)), (ka, .inr (6, [.ref ka0, .ref ka1, .ref ka2])), (ka1, .inl (cI, 4, .inl ca1)), (ka2, .inl (cI, 144, .inl ca2)), (k05, .inr (3, [.ref k050, .int c051])), (k050, .inl (cI, 36, .inl c050)), (k8, .inr (2, [.ref k80, .ref k81])), (k81, .inl (cI, 40, .inl sc1_27))] H := hP
            have hD : va_D A [(kb, .inl (cI, 6, .inl cb)), (k, .inr (10, [.ref k0, .ref k1, .ref k2, .ref k3, .ref k4, .ref k5, .ref k6, .ref k7, .ref k8, .ref k9, .ref ka, .ref kb, .int cc])), (ka0, .inl (cI, 4, .inl ca0)), (k80, .inl (cI, 40, .inl sc0_26)), (k0, .inr (9, [.ref k00, .ref k01, .ref k02, .ref k03, .ref k04, .ref k05, .int c06, .int c07, .int c08])), (k01, .inl (cI, 40, .inl c01)), (ka, .inr (6, [.ref ka0, .ref ka1, .ref ka2])), (ka1, .inl (cI, 4, .inl ca1)), (ka2, .inl (cI, 144, .inl ca2)), (k05, .inr (3, [.ref k050, .int c051])), (k050, .inl (cI, 36, .inl c050)), (k8, .inr (2, [.ref k80, .ref k81])), (k81, .inl (cI, 40, .inl sc1_27))] := hD
            have lo_r_35 := k_lo r_35
            have hi_r_35 := k_hi r_35
            refine lv_istore (lv' := [(6, .int r_35), (5, .int r_20), (0, .ref k), (1, .int a0), (2, .int a1), (3, .int a2), (4, .int a3)]) hx hb dX10_meeting_103 hl (by decide) rfl (fun ls hl => ?_)
            refine lv_iload hx hb dX10_meeting_105 (lv_at hl 6 rfl) ?_
            refine b_if_ne hx hb rfl (tgt := 115) dX10_meeting_107 (by decide) (fun c_38 => ?_) (fun c_38 => ?_)
            · refine lv_aload_n hx hb dX10_meeting_115 rfl (lv_at hl 2 rfl) ?_
              refine va_get (D := D) (ci := 10) (v := .ref k8) (C := RX10) (T := TX10) (N := 13) hx hb hT giX10 hown hK hP 1 rfl rfl 8 (by decide) (hT (Cond.fieldLink RX10 56 "DesertWire" "meetings" "LDesertWire$Meetings;") mw_299) (fun _ h9 => h9) rfl dX10_meeting_116 ?_
              refine lv_iload hx hb dX10_meeting_119 (lv_at hl 0 rfl) ?_
              refine kJi (wr := [(kb, .inl (cI, 6, .inl cb)), (k, .inr (10, [.ref k0, .ref k1, .ref k2, .ref k3, .ref k4, .ref k5, .ref k6, .ref k7, .ref k8, .ref k9, .ref ka, .ref kb, .int cc])), (ka0, .inl (cI, 4, .inl ca0)), (k80, .inl (cI, 40, .inl sc0_26)), (k0, .inr (9, [.ref k00, .ref k01, .ref k02, .ref k03, .ref k04, .ref k05, .int c06, .int c07, .int c08])), (k01, .inl (cI, 40, .inl c01)), (ka, .inr (6, [.ref ka0, .ref ka1, .ref ka2])), (ka1, .inl (cI, 4, .inl ca1)), (ka2, .inl (cI, 144, .inl ca2)), (k05, .inr (3, [.ref k050, .int c051])), (k050, .inl (cI, 36, .inl c050))]) (va_runV (As := [.int r_35]) (rest := []) ⟨hx, hb, hml, hown, hT⟩ (c_X2_worstAtG l D cI aK aV k8 k80 k81 H.size sc1_27 r_35) (cwV 1 hT (gV_in mw_954 mw_955 mw_952 mw_953 mw_9) rfl rfl rfl (by decide +kernel) ⟨Nat.le_of_ble_eq_true rfl, Nat.le_of_ble_eq_true rfl⟩) (kRecvX (q0 := 11) (ci := 2) hK hP hD hN hXS hS hA rfl rfl [11, 12] rfl (by decide)) rfl rfl hl.1 rfl (lv_room (Nat.le_of_ble_eq_true rfl)) dX10_meeting_121 ⟨Nat.le_of_ble_eq_true rfl, Nat.le_of_ble_eq_true rfl⟩) hP hD hS hA [11, 12] [0, 1, 2, 3, 4, 5, 6, 7, 8, 9, 10] rfl rfl (by decide) (by decide) (fun r_39 u_41 H locs w_40 hP hD hS => ?_)
              have hP : va_P D vwCl [(kb, .inl (cI, 6, .inl cb)), (k, .inr (10, [.ref k0, .ref k1, .ref k2, .ref k3, .ref k4, .ref k5, .ref k6, .ref k7, .ref k8, .ref k9, .ref ka, .ref kb, .int cc])), (ka0, .inl (cI, 4, .inl ca0)), (k80, .inl (cI, 40, .inl sc0_26)), (k0, .inr (9, [.ref k00, .ref k01, .ref k02, .ref k03, .ref k04, .ref k05, .int c06, .int c07, .int c08])), (k01, .inl (cI, 40, .inl c01)), (ka, .inr (6, [.ref ka0, .ref ka1, .ref ka2])), (ka1, .inl (cI, 4, .inl ca1)), (ka2, .inl (cI, 144, .inl ca2)), (k05, .inr (3, [.ref k050, .int c051])), (k050, .inl (cI, 36, .inl c050)), (k8, .inr (2, [.ref k80, .ref k81])), (k81, .inl (cI, 40, .inl sc1_27))] H := hP
              have hD : va_D A [(kb, .inl (cI, 6, .inl cb)), (k, .inr (10, [.ref k0, .ref k1, .ref k2, .ref k3, .ref k4, .ref k5, .ref k6, .ref k7, .ref k8, .ref k9, .ref ka, .ref kb, .int cc])), (ka0, .inl (cI, 4, .inl ca0)), (k80, .inl (cI, 40, .inl sc0_26)), (k0, .inr (9, [.ref k00, .ref k01, .ref k02, .ref k03, .ref k04, .ref k05, .int c06, .int c07, .int c08])), (k01, .inl (cI, 40, .inl c01)), (ka, .inr (6, [.ref ka0, .ref ka1, .ref ka2])), (ka1, .inl (cI, 4, .inl ca1)), (ka2, .inl (cI, 144, .inl ca2)), (k05, .inr (3, [.ref k050, .int c051])), (k050, .inl (cI, 36, .inl c050)), (k8, .inr (2, [.ref k80, .ref k81])), (k81, .inl (cI, 40, .inl sc1_27))] := hD
              have lo_r_39 := k_lo r_39
              have hi_r_39 := k_hi r_39
              exact hRet (cb, sc0_26, sc1_27) [1, 4, 11, 6, 0, 5, 9, 3, 12, 2, 7, 8, 10] trivial hP hD (by decide) rfl hS rfl dX10_meeting_124
            · refine lv_iload hx hb dX10_meeting_110 (lv_at hl 0 rfl) ?_
              refine lv_goto (tgt := 124) hx hb dX10_meeting_112 (by decide) ?_
              exact hRet (cb, sc0_26, sc1_27) [1, 4, 11, 6, 0, 5, 9, 3, 12, 2, 7, 8, 10] trivial hP hD (by decide) rfl hS rfl dX10_meeting_124
          · refine lv_aload_n hx hb dX10_meeting_47 rfl (lv_at hl 1 rfl) ?_
            refine lv_iload hx hb dX10_meeting_48 (lv_at hl 0 rfl) ?_
            refine kJi (wr := [(k8, .inr (2, [.ref k80, .ref k81])), (k01, .inl (cI, 40, .inl c01)), (k80, .inl (cI, 40, .inl c80)), (k81, .inl (cI, 40, .inl c81)), (k0, .inr (9, [.ref k00, .ref k01, .ref k02, .ref k03, .ref k04, .ref k05, .int c06, .int c07, .int c08])), (ka, .inr (6, [.ref ka0, .ref ka1, .ref ka2])), (k05, .inr (3, [.ref k050, .int c051])), (ka0, .inl (cI, 4, .inl ca0)), (ka1, .inl (cI, 4, .inl ca1)), (ka2, .inl (cI, 144, .inl ca2)), (k050, .inl (cI, 36, .inl c050))]) (va_runV (As := [.int r_20]) (rest := []) ⟨hx, hb, hml, hown, hT⟩ (c_X10_findingG l D cI aK aV k k0 k1 k2 k3 k4 k5 k6 k7 k8 k9 ka kb H.size cc cb r_20) (cwV 1 hT (gV_in mw_338 mw_335 mw_337 mw_p1_0 mw_1) rfl rfl rfl (by decide +kernel) ⟨Nat.le_of_ble_eq_true rfl, Nat.le_of_ble_eq_true rfl⟩) (kRecvX (q0 := 5) (ci := 10) hK hP hD hN hXS hS hA rfl rfl [5, 1] rfl (by decide)) rfl rfl hl.1 rfl (lv_room (Nat.le_of_ble_eq_true rfl)) dX10_meeting_50 ⟨Nat.le_of_ble_eq_true rfl, Nat.le_of_ble_eq_true rfl⟩) hP hD hS hA [5, 1] [0, 2, 3, 4, 6, 7, 8, 9, 10, 11, 12] rfl rfl (by decide) (by decide) (fun r_42 scb_44 H locs w_43 hP hD hS => ?_)
            have hP : va_P D vwCl [(k8, .inr (2, [.ref k80, .ref k81])), (k01, .inl (cI, 40, .inl c01)), (k80, .inl (cI, 40, .inl c80)), (k81, .inl (cI, 40, .inl c81)), (k0, .inr (9, [.ref k00, .ref k01, .ref k02, .ref k03, .ref k04, .ref k05, .int c06, .int c07, .int c08])), (ka, .inr (6, [.ref ka0, .ref ka1, .ref ka2])), (k05, .inr (3, [.ref k050, .int c051])), (ka0, .inl (cI, 4, .inl ca0)), (ka1, .inl (cI, 4, .inl ca1)), (ka2, .inl (cI, 144, .inl ca2)), (k050, .inl (cI, 36, .inl c050)), (k, .inr (10, [.ref k0, .ref k1, .ref k2, .ref k3, .ref k4, .ref k5, .ref k6, .ref k7, .ref k8, .ref k9, .ref ka, .ref kb, .int cc])), (kb, .inl (cI, 6, .inl scb_44))] H := hP
            have hD : va_D A [(k8, .inr (2, [.ref k80, .ref k81])), (k01, .inl (cI, 40, .inl c01)), (k80, .inl (cI, 40, .inl c80)), (k81, .inl (cI, 40, .inl c81)), (k0, .inr (9, [.ref k00, .ref k01, .ref k02, .ref k03, .ref k04, .ref k05, .int c06, .int c07, .int c08])), (ka, .inr (6, [.ref ka0, .ref ka1, .ref ka2])), (k05, .inr (3, [.ref k050, .int c051])), (ka0, .inl (cI, 4, .inl ca0)), (ka1, .inl (cI, 4, .inl ca1)), (ka2, .inl (cI, 144, .inl ca2)), (k050, .inl (cI, 36, .inl c050)), (k, .inr (10, [.ref k0, .ref k1, .ref k2, .ref k3, .ref k4, .ref k5, .ref k6, .ref k7, .ref k8, .ref k9, .ref ka, .ref kb, .int cc])), (kb, .inl (cI, 6, .inl scb_44))] := hD
            have lo_r_42 := k_lo r_42
            have hi_r_42 := k_hi r_42
            exact hRet (scb_44, c80, c81) [11, 4, 0, 5, 12, 1, 6, 2, 3, 7, 8, 9, 10] trivial hP hD (by decide) rfl hS rfl dX10_meeting_53
        · refine lv_aload_n hx hb dX10_meeting_27 rfl (lv_at hl 0 rfl) ?_
          refine lv_iconst (v := 1) hx hb dX10_meeting_28 (by decide) ?_
          refine kJi (wr := [(k8, .inr (2, [.ref k80, .ref k81])), (ka, .inr (6, [.ref ka0, .ref ka1, .ref ka2])), (k01, .inl (cI, 40, .inl c01)), (k80, .inl (cI, 40, .inl c80)), (k81, .inl (cI, 40, .inl c81)), (ka0, .inl (cI, 4, .inl ca0)), (ka1, .inl (cI, 4, .inl ca1)), (ka2, .inl (cI, 144, .inl ca2)), (k050, .inl (cI, 36, .inl c050)), (k0, .inr (9, [.ref k00, .ref k01, .ref k02, .ref k03, .ref k04, .ref k05, .int c06, .int c07, .int c08])), (k05, .inr (3, [.ref k050, .int c051]))]) (va_runV (As := [.int 1]) (rest := []) ⟨hx, hb, hml, hown, hT⟩ (c_X10_findingG l D cI aK aV k k0 k1 k2 k3 k4 k5 k6 k7 k8 k9 ka kb H.size cc cb 1) (cwV 1 hT (gV_in mw_338 mw_335 mw_337 mw_p1_0 mw_1) rfl rfl rfl (by decide +kernel) ⟨Nat.le_of_ble_eq_true rfl, Nat.le_of_ble_eq_true rfl⟩) (kRecvX (q0 := 10) (ci := 10) hK hP hD hN hXS hS hA rfl rfl [10, 2] rfl (by decide)) rfl rfl hl.1 rfl (lv_room (Nat.le_of_ble_eq_true rfl)) dX10_meeting_29 ⟨Nat.le_of_ble_eq_true rfl, Nat.le_of_ble_eq_true rfl⟩) hP hD hS hA [10, 2] [0, 1, 3, 4, 5, 6, 7, 8, 9, 11, 12] rfl rfl (by decide) (by decide) (fun r_45 scb_47 H locs w_46 hP hD hS => ?_)
          have hP : va_P D vwCl [(k8, .inr (2, [.ref k80, .ref k81])), (ka, .inr (6, [.ref ka0, .ref ka1, .ref ka2])), (k01, .inl (cI, 40, .inl c01)), (k80, .inl (cI, 40, .inl c80)), (k81, .inl (cI, 40, .inl c81)), (ka0, .inl (cI, 4, .inl ca0)), (ka1, .inl (cI, 4, .inl ca1)), (ka2, .inl (cI, 144, .inl ca2)), (k050, .inl (cI, 36, .inl c050)), (k0, .inr (9, [.ref k00, .ref k01, .ref k02, .ref k03, .ref k04, .ref k05, .int c06, .int c07, .int c08])), (k05, .inr (3, [.ref k050, .int c051])), (k, .inr (10, [.ref k0, .ref k1, .ref k2, .ref k3, .ref k4, .ref k5, .ref k6, .ref k7, .ref k8, .ref k9, .ref ka, .ref kb, .int cc])), (kb, .inl (cI, 6, .inl scb_47))] H := hP
          have hD : va_D A [(k8, .inr (2, [.ref k80, .ref k81])), (ka, .inr (6, [.ref ka0, .ref ka1, .ref ka2])), (k01, .inl (cI, 40, .inl c01)), (k80, .inl (cI, 40, .inl c80)), (k81, .inl (cI, 40, .inl c81)), (ka0, .inl (cI, 4, .inl ca0)), (ka1, .inl (cI, 4, .inl ca1)), (ka2, .inl (cI, 144, .inl ca2)), (k050, .inl (cI, 36, .inl c050)), (k0, .inr (9, [.ref k00, .ref k01, .ref k02, .ref k03, .ref k04, .ref k05, .int c06, .int c07, .int c08])), (k05, .inr (3, [.ref k050, .int c051])), (k, .inr (10, [.ref k0, .ref k1, .ref k2, .ref k3, .ref k4, .ref k5, .ref k6, .ref k7, .ref k8, .ref k9, .ref ka, .ref kb, .int cc])), (kb, .inl (cI, 6, .inl scb_47))] := hD
          have lo_r_45 := k_lo r_45
          have hi_r_45 := k_hi r_45
          exact hRet (scb_47, c80, c81) [11, 9, 0, 1, 12, 2, 10, 3, 4, 5, 6, 7, 8] trivial hP hD (by decide) rfl hS rfl dX10_meeting_32
    · have h_13 : a2.toInt < 0 ∨ 3 < a2.toInt := h_13
      obtain rfl : r_8 = 0 := hr_8.trans (by decide)
      refine b_if_eq hx hb zl_0 (tgt := 27) dX10_meeting_13 (by decide) (fun c_48 => ?_) (fun c_48 => by exfalso; omega)
      refine lv_aload_n hx hb dX10_meeting_27 rfl (lv_at hl 0 rfl) ?_
      refine lv_iconst (v := 1) hx hb dX10_meeting_28 (by decide) ?_
      refine kJi (wr := [(k8, .inr (2, [.ref k80, .ref k81])), (ka, .inr (6, [.ref ka0, .ref ka1, .ref ka2])), (k01, .inl (cI, 40, .inl c01)), (k80, .inl (cI, 40, .inl c80)), (k81, .inl (cI, 40, .inl c81)), (ka0, .inl (cI, 4, .inl ca0)), (ka1, .inl (cI, 4, .inl ca1)), (ka2, .inl (cI, 144, .inl ca2)), (k050, .inl (cI, 36, .inl c050)), (k0, .inr (9, [.ref k00, .ref k01, .ref k02, .ref k03, .ref k04, .ref k05, .int c06, .int c07, .int c08])), (k05, .inr (3, [.ref k050, .int c051]))]) (va_runV (As := [.int 1]) (rest := []) ⟨hx, hb, hml, hown, hT⟩ (c_X10_findingG l D cI aK aV k k0 k1 k2 k3 k4 k5 k6 k7 k8 k9 ka kb H.size cc cb 1) (cwV 1 hT (gV_in mw_338 mw_335 mw_337 mw_p1_0 mw_1) rfl rfl rfl (by decide +kernel) ⟨Nat.le_of_ble_eq_true rfl, Nat.le_of_ble_eq_true rfl⟩) (kRecvX (q0 := 10) (ci := 10) hK hP hD hN hXS hS hA rfl rfl [10, 2] rfl (by decide)) rfl rfl hl.1 rfl (lv_room (Nat.le_of_ble_eq_true rfl)) dX10_meeting_29 ⟨Nat.le_of_ble_eq_true rfl, Nat.le_of_ble_eq_true rfl⟩) hP hD hS hA [10, 2] [0, 1, 3, 4, 5, 6, 7, 8, 9, 11, 12] rfl rfl (by decide) (by decide) (fun r_49 scb_51 H locs w_50 hP hD hS => ?_)
      have hP : va_P D vwCl [(k8, .inr (2, [.ref k80, .ref k81])), (ka, .inr (6, [.ref ka0, .ref ka1, .ref ka2])), (k01, .inl (cI, 40, .inl c01)), (k80, .inl (cI, 40, .inl c80)), (k81, .inl (cI, 40, .inl c81)), (ka0, .inl (cI, 4, .inl ca0)), (ka1, .inl (cI, 4, .inl ca1)), (ka2, .inl (cI, 144, .inl ca2)), (k050, .inl (cI, 36, .inl c050)), (k0, .inr (9, [.ref k00, .ref k01, .ref k02, .ref k03, .ref k04, .ref k05, .int c06, .int c07, .int c08])), (k05, .inr (3, [.ref k050, .int c051])), (k, .inr (10, [.ref k0, .ref k1, .ref k2, .ref k3, .ref k4, .ref k5, .ref k6, .ref k7, .ref k8, .ref k9, .ref ka, .ref kb, .int cc])), (kb, .inl (cI, 6, .inl scb_51))] H := hP
      have hD : va_D A [(k8, .inr (2, [.ref k80, .ref k81])), (ka, .inr (6, [.ref ka0, .ref ka1, .ref ka2])), (k01, .inl (cI, 40, .inl c01)), (k80, .inl (cI, 40, .inl c80)), (k81, .inl (cI, 40, .inl c81)), (ka0, .inl (cI, 4, .inl ca0)), (ka1, .inl (cI, 4, .inl ca1)), (ka2, .inl (cI, 144, .inl ca2)), (k050, .inl (cI, 36, .inl c050)), (k0, .inr (9, [.ref k00, .ref k01, .ref k02, .ref k03, .ref k04, .ref k05, .int c06, .int c07, .int c08])), (k05, .inr (3, [.ref k050, .int c051])), (k, .inr (10, [.ref k0, .ref k1, .ref k2, .ref k3, .ref k4, .ref k5, .ref k6, .ref k7, .ref k8, .ref k9, .ref ka, .ref kb, .int cc])), (kb, .inl (cI, 6, .inl scb_51))] := hD
      have lo_r_49 := k_lo r_49
      have hi_r_49 := k_hi r_49
      exact hRet (scb_51, c80, c81) [11, 9, 0, 1, 12, 2, 10, 3, 4, 5, 6, 7, 8] trivial hP hD (by decide) rfl hS rfl dX10_meeting_32
