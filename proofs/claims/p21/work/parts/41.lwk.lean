def LWK (p : Program) (l : Launch) (e : Env) (s : State) (m : MethodId) (below : List Frame) (meth : Method) (c : Code) (b : Nat) (D : va_G) (cI : ClassId) (A : Nat → Prop) (k k0 k1 k2 k3 k4 k5 k6 k7 k8 k9 ka kb k00 k01 k02 k03 k04 k05 k10 k11 k12 k13 k14 k15 k20 k21 k22 k23 k24 k25 k30 k31 k32 k33 k34 k40 k41 k42 k43 k44 k50 k60 k61 k62 k63 k64 k70 k71 k80 k81 k90 ka0 ka1 ka2 k040 k041 k042 k043 k044 k045 k046 k047 k048 k050 k140 k141 k142 k143 k144 k145 k146 k147 k148 k150 k240 k241 k242 k243 k244 k245 k246 k247 k248 k250 o o0 o1 o2 o4 o5 o6 o7 o8 oa ob ol oo : Nat) (pc : Nat) (i : Int32) : Prop :=
  ∀ (cc : Int32) (c06 : Int32) (c07 : Int32) (c08 : Int32) (c16 : Int32) (c17 : Int32) (c18 : Int32) (c26 : Int32) (c27 : Int32) (c28 : Int32) (c35 : Int32) (c36 : Int32) (c45 : Int32) (c46 : Int32) (c51 : Int32) (c52 : Int32) (c53 : Int32) (c54 : Int32) (c55 : Int32) (c56 : Int32) (c57 : Int32) (c65 : Int32) (c72 : Int32) (c73 : Int32) (c91 : Int32) (c92 : Int32) (c93 : Int32) (c94 : Int32) (cb : Nat → Int32) (c00 : Nat → Int32) (c01 : Nat → Int32) (c02 : Nat → Int32) (c03 : Nat → Int32) (c049 : Int32) (c051 : Int32) (c10 : Nat → Int32) (c11 : Nat → Int32) (c12 : Nat → Int32) (c13 : Nat → Int32) (c149 : Int32) (c151 : Int32) (c20 : Nat → Int32) (c21 : Nat → Int32) (c22 : Nat → Int32) (c23 : Nat → Int32) (c249 : Int32) (c251 : Int32) (c30 : Nat → Int32) (c31 : Nat → Int32) (c32 : Nat → Int32) (c33 : Nat → Int32) (c34 : Nat → Int32) (c40 : Nat → Int32) (c41 : Nat → Int32) (c42 : Nat → Int32) (c43 : Nat → Int32) (c44 : Nat → Int32) (c50 : Nat → Int32) (c60 : Nat → Int32) (c61 : Nat → Int32) (c62 : Nat → Int32) (c63 : Nat → Int32) (c64 : Nat → Int32) (c70 : Nat → Int32) (c71 : Nat → Int32) (c80 : Nat → Int32) (c81 : Nat → Int32) (c90 : Nat → Int32) (ca0 : Nat → Int32) (ca1 : Nat → Int32) (ca2 : Nat → Int32) (c040 : Nat → Int32) (c041 : Nat → Int32) (c042 : Nat → Int32) (c043 : Nat → Int32) (c044 : Nat → Int32) (c045 : Nat → Int32) (c046 : Nat → Int32) (c047 : Nat → Int32) (c048 : Nat → Int32) (c050 : Nat → Int32) (c140 : Nat → Int32) (c141 : Nat → Int32) (c142 : Nat → Int32) (c143 : Nat → Int32) (c144 : Nat → Int32) (c145 : Nat → Int32) (c146 : Nat → Int32) (c147 : Nat → Int32) (c148 : Nat → Int32) (c150 : Nat → Int32) (c240 : Nat → Int32) (c241 : Nat → Int32) (c242 : Nat → Int32) (c243 : Nat → Int32) (c244 : Nat → Int32) (c245 : Nat → Int32) (c246 : Nat → Int32) (c247 : Nat → Int32) (c248 : Nat → Int32) (c250 : Nat → Int32) (x3 : Int32) (x9 : Int32) (xc : Int32) (xd : Int32) (xe : Int32) (xf : Int32) (xg : Int32) (xh : Int32) (xi : Int32) (xj : Int32) (xk : Int32) (xm : Int32) (xn : Int32) (x0 : Nat → Int32) (x1 : Nat → Int32) (x2 : Nat → Int32) (x4 : Nat → Int32) (x5 : Nat → Int32) (x6 : Nat → Int32) (x7 : Nat → Int32) (x8 : Nat → Int32) (xa : Nat → Int32) (xb : Nat → Int32) (xl : Nat → Int32) (xo : Nat → Int32), (∀ k : Nat, k < 4 → 0 ≤ (ca1 k).toInt ∧ (ca1 k).toInt ≤ 36) → SIX x0 (-1) → SIX x1 (-1) → (∀ k : Nat, k < 4 → 0 ≤ (x6 k).toInt ∧ (x6 k).toInt ≤ 36) → 0 ≤ x9.toInt → x9.toInt ≤ 40 → ∀ (ls : Array Slot) (H : Heap) (locs : List Loc), lv_has ls 4 [(3, .int i), (2, .ref o), (1, .ref k), (0, .ref b)] → va_P D vwCl [(k, .inr (10, [.ref k0, .ref k1, .ref k2, .ref k3, .ref k4, .ref k5, .ref k6, .ref k7, .ref k8, .ref k9, .ref ka, .ref kb, .int cc])), (k0, .inr (9, [.ref k00, .ref k01, .ref k02, .ref k03, .ref k04, .ref k05, .int c06, .int c07, .int c08])), (k1, .inr (9, [.ref k10, .ref k11, .ref k12, .ref k13, .ref k14, .ref k15, .int c16, .int c17, .int c18])), (k2, .inr (9, [.ref k20, .ref k21, .ref k22, .ref k23, .ref k24, .ref k25, .int c26, .int c27, .int c28])), (k3, .inr (4, [.ref k30, .ref k31, .ref k32, .ref k33, .ref k34, .int c35, .int c36])), (k4, .inr (4, [.ref k40, .ref k41, .ref k42, .ref k43, .ref k44, .int c45, .int c46])), (k5, .inr (5, [.ref k50, .int c51, .int c52, .int c53, .int c54, .int c55, .int c56, .int c57])), (k6, .inr (0, [.ref k60, .ref k61, .ref k62, .ref k63, .ref k64, .int c65])), (k7, .inr (1, [.ref k70, .ref k71, .int c72, .int c73])), (k8, .inr (2, [.ref k80, .ref k81])), (k9, .inr (7, [.ref k90, .int c91, .int c92, .int c93, .int c94])), (ka, .inr (6, [.ref ka0, .ref ka1, .ref ka2])), (kb, .inl (cI, 6, .inl cb)), (k00, .inl (cI, 12, .inl c00)), (k01, .inl (cI, 40, .inl c01)), (k02, .inl (cI, 40, .inl c02)), (k03, .inl (cI, 20, .inl c03)), (k04, .inr (8, [.ref k040, .ref k041, .ref k042, .ref k043, .ref k044, .ref k045, .ref k046, .ref k047, .ref k048, .int c049])), (k05, .inr (3, [.ref k050, .int c051])), (k10, .inl (cI, 12, .inl c10)), (k11, .inl (cI, 40, .inl c11)), (k12, .inl (cI, 40, .inl c12)), (k13, .inl (cI, 20, .inl c13)), (k14, .inr (8, [.ref k140, .ref k141, .ref k142, .ref k143, .ref k144, .ref k145, .ref k146, .ref k147, .ref k148, .int c149])), (k15, .inr (3, [.ref k150, .int c151])), (k20, .inl (cI, 12, .inl c20)), (k21, .inl (cI, 40, .inl c21)), (k22, .inl (cI, 40, .inl c22)), (k23, .inl (cI, 20, .inl c23)), (k24, .inr (8, [.ref k240, .ref k241, .ref k242, .ref k243, .ref k244, .ref k245, .ref k246, .ref k247, .ref k248, .int c249])), (k25, .inr (3, [.ref k250, .int c251])), (k30, .inl (cI, 50, .inl c30)), (k31, .inl (cI, 600, .inl c31)), (k32, .inl (cI, 12, .inl c32)), (k33, .inl (cI, 12, .inl c33)), (k34, .inl (cI, 12, .inl c34)), (k40, .inl (cI, 50, .inl c40)), (k41, .inl (cI, 600, .inl c41)), (k42, .inl (cI, 12, .inl c42)), (k43, .inl (cI, 12, .inl c43)), (k44, .inl (cI, 12, .inl c44)), (k50, .inl (cI, 50, .inl c50)), (k60, .inl (cI, 41, .inl c60)), (k61, .inl (cI, 41, .inl c61)), (k62, .inl (cI, 60, .inl c62)), (k63, .inl (cI, 60, .inl c63)), (k64, .inl (cI, 60, .inl c64)), (k70, .inl (cI, 5409, .inl c70)), (k71, .inl (cI, 8, .inl c71)), (k80, .inl (cI, 40, .inl c80)), (k81, .inl (cI, 40, .inl c81)), (k90, .inl (cI, 40, .inl c90)), (ka0, .inl (cI, 4, .inl ca0)), (ka1, .inl (cI, 4, .inl ca1)), (ka2, .inl (cI, 144, .inl ca2)), (k040, .inl (cI, 60, .inl c040)), (k041, .inl (cI, 60, .inl c041)), (k042, .inl (cI, 60, .inl c042)), (k043, .inl (cI, 60, .inl c043)), (k044, .inl (cI, 60, .inl c044)), (k045, .inl (cI, 60, .inl c045)), (k046, .inl (cI, 40, .inl c046)), (k047, .inl (cI, 40, .inl c047)), (k048, .inl (cI, 40, .inl c048)), (k050, .inl (cI, 36, .inl c050)), (k140, .inl (cI, 60, .inl c140)), (k141, .inl (cI, 60, .inl c141)), (k142, .inl (cI, 60, .inl c142)), (k143, .inl (cI, 60, .inl c143)), (k144, .inl (cI, 60, .inl c144)), (k145, .inl (cI, 60, .inl c145)), (k146, .inl (cI, 40, .inl c146)), (k147, .inl (cI, 40, .inl c147)), (k148, .inl (cI, 40, .inl c148)), (k150, .inl (cI, 36, .inl c150)), (k240, .inl (cI, 60, .inl c240)), (k241, .inl (cI, 60, .inl c241)), (k242, .inl (cI, 60, .inl c242)), (k243, .inl (cI, 60, .inl c243)), (k244, .inl (cI, 60, .inl c244)), (k245, .inl (cI, 60, .inl c245)), (k246, .inl (cI, 40, .inl c246)), (k247, .inl (cI, 40, .inl c247)), (k248, .inl (cI, 40, .inl c248)), (k250, .inl (cI, 36, .inl c250)), (o, .inr (11, [.ref o0, .ref o1, .ref o2, .int x3, .ref o4, .ref o5, .ref o6, .ref o7, .ref o8, .int x9, .ref oa, .ref ob, .int xc, .int xd, .int xe, .int xf, .int xg, .int xh, .int xi, .int xj, .int xk, .ref ol, .int xm, .int xn, .ref oo])), (o0, .inl (cI, 1201, .inl x0)), (o1, .inl (cI, 1201, .inl x1)), (o2, .inl (cI, 1201, .inl x2)), (o4, .inl (cI, 6, .inl x4)), (o5, .inl (cI, 4, .inl x5)), (o6, .inl (cI, 4, .inl x6)), (o7, .inl (cI, 144, .inl x7)), (o8, .inl (cI, 40, .inl x8)), (oa, .inl (cI, 60, .inl xa)), (ob, .inl (cI, 60, .inl xb)), (ol, .inl (cI, 8, .inl xl)), (oo, .inl (cI, 36, .inl xo))] H → va_D A [(k, .inr (10, [.ref k0, .ref k1, .ref k2, .ref k3, .ref k4, .ref k5, .ref k6, .ref k7, .ref k8, .ref k9, .ref ka, .ref kb, .int cc])), (k0, .inr (9, [.ref k00, .ref k01, .ref k02, .ref k03, .ref k04, .ref k05, .int c06, .int c07, .int c08])), (k1, .inr (9, [.ref k10, .ref k11, .ref k12, .ref k13, .ref k14, .ref k15, .int c16, .int c17, .int c18])), (k2, .inr (9, [.ref k20, .ref k21, .ref k22, .ref k23, .ref k24, .ref k25, .int c26, .int c27, .int c28])), (k3, .inr (4, [.ref k30, .ref k31, .ref k32, .ref k33, .ref k34, .int c35, .int c36])), (k4, .inr (4, [.ref k40, .ref k41, .ref k42, .ref k43, .ref k44, .int c45, .int c46])), (k5, .inr (5, [.ref k50, .int c51, .int c52, .int c53, .int c54, .int c55, .int c56, .int c57])), (k6, .inr (0, [.ref k60, .ref k61, .ref k62, .ref k63, .ref k64, .int c65])), (k7, .inr (1, [.ref k70, .ref k71, .int c72, .int c73])), (k8, .inr (2, [.ref k80, .ref k81])), (k9, .inr (7, [.ref k90, .int c91, .int c92, .int c93, .int c94])), (ka, .inr (6, [.ref ka0, .ref ka1, .ref ka2])), (kb, .inl (cI, 6, .inl cb)), (k00, .inl (cI, 12, .inl c00)), (k01, .inl (cI, 40, .inl c01)), (k02, .inl (cI, 40, .inl c02)), (k03, .inl (cI, 20, .inl c03)), (k04, .inr (8, [.ref k040, .ref k041, .ref k042, .ref k043, .ref k044, .ref k045, .ref k046, .ref k047, .ref k048, .int c049])), (k05, .inr (3, [.ref k050, .int c051])), (k10, .inl (cI, 12, .inl c10)), (k11, .inl (cI, 40, .inl c11)), (k12, .inl (cI, 40, .inl c12)), (k13, .inl (cI, 20, .inl c13)), (k14, .inr (8, [.ref k140, .ref k141, .ref k142, .ref k143, .ref k144, .ref k145, .ref k146, .ref k147, .ref k148, .int c149])), (k15, .inr (3, [.ref k150, .int c151])), (k20, .inl (cI, 12, .inl c20)), (k21, .inl (cI, 40, .inl c21)), (k22, .inl (cI, 40, .inl c22)), (k23, .inl (cI, 20, .inl c23)), (k24, .inr (8, [.ref k240, .ref k241, .ref k242, .ref k243, .ref k244, .ref k245, .ref k246, .ref k247, .ref k248, .int c249])), (k25, .inr (3, [.ref k250, .int c251])), (k30, .inl (cI, 50, .inl c30)), (k31, .inl (cI, 600, .inl c31)), (k32, .inl (cI, 12, .inl c32)), (k33, .inl (cI, 12, .inl c33)), (k34, .inl (cI, 12, .inl c34)), (k40, .inl (cI, 50, .inl c40)), (k41, .inl (cI, 600, .inl c41)), (k42, .inl (cI, 12, .inl c42)), (k43, .inl (cI, 12, .inl c43)), (k44, .inl (cI, 12, .inl c44)), (k50, .inl (cI, 50, .inl c50)), (k60, .inl (cI, 41, .inl c60)), (k61, .inl (cI, 41, .inl c61)), (k62, .inl (cI, 60, .inl c62)), (k63, .inl (cI, 60, .inl c63)), (k64, .inl (cI, 60, .inl c64)), (k70, .inl (cI, 5409, .inl c70)), (k71, .inl (cI, 8, .inl c71)), (k80, .inl (cI, 40, .inl c80)), (k81, .inl (cI, 40, .inl c81)), (k90, .inl (cI, 40, .inl c90)), (ka0, .inl (cI, 4, .inl ca0)), (ka1, .inl (cI, 4, .inl ca1)), (ka2, .inl (cI, 144, .inl ca2)), (k040, .inl (cI, 60, .inl c040)), (k041, .inl (cI, 60, .inl c041)), (k042, .inl (cI, 60, .inl c042)), (k043, .inl (cI, 60, .inl c043)), (k044, .inl (cI, 60, .inl c044)), (k045, .inl (cI, 60, .inl c045)), (k046, .inl (cI, 40, .inl c046)), (k047, .inl (cI, 40, .inl c047)), (k048, .inl (cI, 40, .inl c048)), (k050, .inl (cI, 36, .inl c050)), (k140, .inl (cI, 60, .inl c140)), (k141, .inl (cI, 60, .inl c141)), (k142, .inl (cI, 60, .inl c142)), (k143, .inl (cI, 60, .inl c143)), (k144, .inl (cI, 60, .inl c144)), (k145, .inl (cI, 60, .inl c145)), (k146, .inl (cI, 40, .inl c146)), (k147, .inl (cI, 40, .inl c147)), (k148, .inl (cI, 40, .inl c148)), (k150, .inl (cI, 36, .inl c150)), (k240, .inl (cI, 60, .inl c240)), (k241, .inl (cI, 60, .inl c241)), (k242, .inl (cI, 60, .inl c242)), (k243, .inl (cI, 60, .inl c243)), (k244, .inl (cI, 60, .inl c244)), (k245, .inl (cI, 60, .inl c245)), (k246, .inl (cI, 40, .inl c246)), (k247, .inl (cI, 40, .inl c247)), (k248, .inl (cI, 40, .inl c248)), (k250, .inl (cI, 36, .inl c250)), (o, .inr (11, [.ref o0, .ref o1, .ref o2, .int x3, .ref o4, .ref o5, .ref o6, .ref o7, .ref o8, .int x9, .ref oa, .ref ob, .int xc, .int xd, .int xe, .int xf, .int xg, .int xh, .int xi, .int xj, .int xk, .ref ol, .int xm, .int xn, .ref oo])), (o0, .inl (cI, 1201, .inl x0)), (o1, .inl (cI, 1201, .inl x1)), (o2, .inl (cI, 1201, .inl x2)), (o4, .inl (cI, 6, .inl x4)), (o5, .inl (cI, 4, .inl x5)), (o6, .inl (cI, 4, .inl x6)), (o7, .inl (cI, 144, .inl x7)), (o8, .inl (cI, 40, .inl x8)), (oa, .inl (cI, 60, .inl xa)), (ob, .inl (cI, 60, .inl xb)), (ol, .inl (cI, 8, .inl xl)), (oo, .inl (cI, 36, .inl xo))] → va_S A s.heap H locs → W p l e room_1 s m #[Value.ref b] below meth c H locs 98 13371 (lw_Z below #[Value.ref b] s) (F0 m pc ls [])
def sp_broke (a i j b k q : Int) : Int := if 0 ≤ a ∧ b ≤ 39 ∧ a < b ∧ 0 ≤ i ∧ i ≤ j ∧ j ≤ 39 ∧ 0 ≤ k ∧ k ≤ q ∧ q ≤ 39 then (if k_max (a + i) (b - q) ≤ k_min (a + j) (b - k) then 100 * k_max (a + i) (b - q) + k_min (a + j) (b - k) else -1000002) else -1000001
set_option maxHeartbeats 4000000 in
set_option maxRecDepth 100000 in
theorem c_X10_findingH (l : Launch) (D : va_G) (cI : ClassId) (aK aV : Nat → Nat) (k k0 k1 k2 k3 k4 k5 k6 k7 k8 k9 ka kb : Nat) (sz : Nat) (cc : Int32) (cb : Nat → Int32) (a0 : Int32) (pre0 : 1 ≤ a0.toInt) (pre1 : a0.toInt ≤ 5) : Met l yX10_finding (gW yX10_finding cX10_finding 2 (some .int)) ({ frames := 0, cells := 0, slots := 0, locals := 0 } : Room) (kPreX D cI aK aV [.ref k, .int a0] [(k, .inr (10, [.ref k0, .ref k1, .ref k2, .ref k3, .ref k4, .ref k5, .ref k6, .ref k7, .ref k8, .ref k9, .ref ka, .ref kb, .int cc])), (kb, .inl (cI, 6, .inl cb))] sz) (va_Qi (fun (r : Int32) (u : (Nat → Int32)) => r = (-1000000) - a0) (fun u t => kWd D cI (va_A [(k, .inr (10, [.ref k0, .ref k1, .ref k2, .ref k3, .ref k4, .ref k5, .ref k6, .ref k7, .ref k8, .ref k9, .ref ka, .ref kb, .int cc])), (kb, .inl (cI, 6, .inl cb))] sz) [(k, .inr (10, [.ref k0, .ref k1, .ref k2, .ref k3, .ref k4, .ref k5, .ref k6, .ref k7, .ref k8, .ref k9, .ref ka, .ref kb, .int cc])), (kb, .inl (cI, 6, .inl u))] t) (va_A [(k, .inr (10, [.ref k0, .ref k1, .ref k2, .ref k3, .ref k4, .ref k5, .ref k6, .ref k7, .ref k8, .ref k9, .ref ka, .ref kb, .int cc])), (kb, .inl (cI, 6, .inl cb))] sz)) 0 0 (va_A [(k, .inr (10, [.ref k0, .ref k1, .ref k2, .ref k3, .ref k4, .ref k5, .ref k6, .ref k7, .ref k8, .ref k9, .ref ka, .ref kb, .int cc])), (kb, .inl (cI, 6, .inl cb))] sz) := by
  refine kMetIX (own := RX10) (by decide) rfl (Nat.le_of_ble_eq_true rfl) ?_
  intro p e s m args below meth c hx hb hT hown hname hml A Q hK hP hD hS hA hN hXS hRet ls hl
  have hl : lv_has ls 2 [(0, .ref k), (1, .int a0)] := hl
  have lo_a0 := k_lo a0
  have hi_a0 := k_hi a0
  have lo_cc := k_lo cc
  have hi_cc := k_hi cc
  refine lv_iload_n hx hb dX10_finding_0 rfl (lv_at hl 1 rfl) ?_
  refine b_if_le hx hb rfl (tgt := 19) dX10_finding_1 (by decide) (fun c_1 => by exfalso; omega) (fun c_1 => ?_)
  refine lv_iload_n hx hb dX10_finding_4 rfl (lv_at hl 1 rfl) ?_
  refine lv_iconst (v := 5) hx hb dX10_finding_5 (by decide) ?_
  refine b_icmp_gt hx hb rfl zl_5 (tgt := 19) dX10_finding_6 (by decide) (fun c_2 => by exfalso; omega) (fun c_2 => ?_)
  refine lv_aload_n hx hb dX10_finding_9 rfl (lv_at hl 0 rfl) ?_
  refine va_get (D := D) (ci := 10) (v := .ref kb) (C := RX10) (T := TX10) (N := 13) hx hb hT giX10 hown hK hP 0 rfl rfl 11 (by decide) (hT (Cond.fieldLink RX10 74 "DesertWire" "findings" "[I") mw_302) (fun _ h9 => h9) rfl dX10_finding_10 ?_
  refine lv_iload_n hx hb dX10_finding_13 rfl (lv_at hl 1 rfl) ?_
  refine lv_dup2_11 hx hb dX10_finding_14 rfl rfl ?_
  refine k_iald (v := (cb a0.toNatClampNeg)) hx hb hK hP 1 0 rfl rfl (k_in (by omega) (by omega)) rfl dX10_finding_15 ?_
  refine lv_topi (fun v_3 ev_3 => ?_)
  have lo_v_3 := k_lo v_3
  have hi_v_3 := k_hi v_3
  have tv_3 : v_3.toInt = (cb a0.toNatClampNeg).toInt := by rw [ev_3]
  refine lv_iconst (v := 1) hx hb dX10_finding_16 (by decide) ?_
  refine lv_iadd hx hb dX10_finding_17 ?_
  refine lv_topi (fun v_4 ev_4 => ?_)
  have lo_v_4 := k_lo v_4
  have hi_v_4 := k_hi v_4
  refine va_iast hx hb hK hP hD hS 1 0 rfl rfl (k_in (by omega) (by omega)) dX10_finding_18 (fun H locs hP hD hS => ?_)
  have hP : va_P D vwCl [(k, .inr (10, [.ref k0, .ref k1, .ref k2, .ref k3, .ref k4, .ref k5, .ref k6, .ref k7, .ref k8, .ref k9, .ref ka, .ref kb, .int cc])), (kb, .inl (cI, 6, .inl (upd cb a0.toNatClampNeg v_4)))] H := hP
  have hD : va_D A [(k, .inr (10, [.ref k0, .ref k1, .ref k2, .ref k3, .ref k4, .ref k5, .ref k6, .ref k7, .ref k8, .ref k9, .ref ka, .ref kb, .int cc])), (kb, .inl (cI, 6, .inl (upd cb a0.toNatClampNeg v_4)))] := hD
  obtain ⟨f_5, ef_5⟩ : ∃ g : Nat → Int32, g = upd cb a0.toNatClampNeg v_4 := ⟨_, rfl⟩
  rw [← ef_5] at hP hD
  refine lv_ldcw (v := (-1000000)) hx hb hown (hT _ mw_339) dX10_finding_19 ?_
  refine lv_iload_n hx hb dX10_finding_22 rfl (lv_at hl 1 rfl) ?_
  refine lv_isub hx hb dX10_finding_23 ?_
  refine lv_topi (fun v_6 ev_6 => ?_)
  have tv_6 : v_6.toInt = (-1000000) - a0.toInt := by rw [ev_6]; exact k_subv zl_m1000000 rfl (by omega) (by omega)
  exact hRet f_5 [0, 1] ev_6 hP hD (by decide) rfl hS rfl dX10_finding_24

set_option maxHeartbeats 4000000 in
set_option maxRecDepth 100000 in
theorem c_X10_brokeP (l : Launch) (D : va_G) (cI : ClassId) (aK aV : Nat → Nat) (k k0 k1 k2 k3 k4 k5 k6 k7 k8 k9 ka kb : Nat) (sz : Nat) (cc : Int32) (cb : Nat → Int32) (a0 : Int32) (a1 : Int32) (a2 : Int32) (a3 : Int32) (a4 : Int32) (a5 : Int32) : Met l yX10_broke (gW yX10_broke cX10_broke 10 (some .int)) ({ frames := 1, cells := 0, slots := 0, locals := 40 } : Room) (kPreX D cI aK aV [.ref k, .int a0, .int a1, .int a2, .int a3, .int a4, .int a5] [(k, .inr (10, [.ref k0, .ref k1, .ref k2, .ref k3, .ref k4, .ref k5, .ref k6, .ref k7, .ref k8, .ref k9, .ref ka, .ref kb, .int cc])), (kb, .inl (cI, 6, .inl cb))] sz) (va_Qi (fun (r : Int32) (u : (Nat → Int32)) => r.toInt = sp_broke a0.toInt a1.toInt a2.toInt a3.toInt a4.toInt a5.toInt) (fun u t => kWd D cI (va_A [(k, .inr (10, [.ref k0, .ref k1, .ref k2, .ref k3, .ref k4, .ref k5, .ref k6, .ref k7, .ref k8, .ref k9, .ref ka, .ref kb, .int cc])), (kb, .inl (cI, 6, .inl cb))] sz) [(k, .inr (10, [.ref k0, .ref k1, .ref k2, .ref k3, .ref k4, .ref k5, .ref k6, .ref k7, .ref k8, .ref k9, .ref ka, .ref kb, .int cc])), (kb, .inl (cI, 6, .inl u))] t) (va_A [(k, .inr (10, [.ref k0, .ref k1, .ref k2, .ref k3, .ref k4, .ref k5, .ref k6, .ref k7, .ref k8, .ref k9, .ref ka, .ref kb, .int cc])), (kb, .inl (cI, 6, .inl cb))] sz)) 0 0 (va_A [(k, .inr (10, [.ref k0, .ref k1, .ref k2, .ref k3, .ref k4, .ref k5, .ref k6, .ref k7, .ref k8, .ref k9, .ref ka, .ref kb, .int cc])), (kb, .inl (cI, 6, .inl cb))] sz) := by
  refine kMetIX (own := RX10) (by decide) rfl (Nat.le_of_ble_eq_true rfl) ?_
  intro p e s m args below meth c hx hb hT hown hname hml A Q hK hP hD hS hA hN hXS hRet ls hl
  have hl : lv_has ls 10 [(0, .ref k), (1, .int a0), (2, .int a1), (3, .int a2), (4, .int a3), (5, .int a4), (6, .int a5)] := hl
  have lo_a0 := k_lo a0
  have hi_a0 := k_hi a0
  have lo_a1 := k_lo a1
  have hi_a1 := k_hi a1
  have lo_a2 := k_lo a2
  have hi_a2 := k_hi a2
  have lo_a3 := k_lo a3
  have hi_a3 := k_hi a3
  have lo_a4 := k_lo a4
  have hi_a4 := k_hi a4
  have lo_a5 := k_lo a5
  have hi_a5 := k_hi a5
  have lo_cc := k_lo cc
  have hi_cc := k_hi cc
  refine lv_iload_n hx hb dX10_broke_0 rfl (lv_at hl 1 rfl) ?_
  refine kJi (wr := [(k, .inr (10, [.ref k0, .ref k1, .ref k2, .ref k3, .ref k4, .ref k5, .ref k6, .ref k7, .ref k8, .ref k9, .ref ka, .ref kb, .int cc])), (kb, .inl (cI, 6, .inl cb))]) (va_runS (As := [.int a0]) (rest := []) ⟨hx, hb, hml, hown, hT⟩ (c_X10_isMileG l D cI aK aV s.heap.size a0) (cwS 1 hT (gS_in mw_346 mw_344 mw_345 mw_1) rfl rfl rfl (by decide +kernel) ⟨Nat.le_of_ble_eq_true rfl, Nat.le_of_ble_eq_true rfl⟩) (kStatX hK hP hD hN hXS hS hA [] rfl (by decide)) rfl rfl hl.1 rfl (lv_room (Nat.le_of_ble_eq_true rfl)) dX10_broke_1 ⟨Nat.le_of_ble_eq_true rfl, Nat.le_of_ble_eq_true rfl⟩) hP hD hS hA [] [0, 1] rfl rfl (by decide) (by decide) (fun r_1 u_3 H locs w_2 hP hD hS => ?_)
  have hP : va_P D vwCl [(k, .inr (10, [.ref k0, .ref k1, .ref k2, .ref k3, .ref k4, .ref k5, .ref k6, .ref k7, .ref k8, .ref k9, .ref ka, .ref kb, .int cc])), (kb, .inl (cI, 6, .inl cb))] H := hP
  have hD : va_D A [(k, .inr (10, [.ref k0, .ref k1, .ref k2, .ref k3, .ref k4, .ref k5, .ref k6, .ref k7, .ref k8, .ref k9, .ref ka, .ref kb, .int cc])), (kb, .inl (cI, 6, .inl cb))] := hD
  rcases w_2 with ⟨hr_1, h_4, h_5⟩ | ⟨hr_1, h_6⟩
  · have h_4 : 0 ≤ a0.toInt := h_4
    have h_5 : a0.toInt ≤ 39 := h_5
    obtain rfl : r_1 = 1 := hr_1.trans (by decide)
    refine b_if_eq hx hb zl_1 (tgt := 25) dX10_broke_4 (by decide) (fun c_7 => by exfalso; omega) (fun c_7 => ?_)
    refine lv_iload hx hb dX10_broke_7 (lv_at hl 4 rfl) ?_
    refine kJi (wr := [(k, .inr (10, [.ref k0, .ref k1, .ref k2, .ref k3, .ref k4, .ref k5, .ref k6, .ref k7, .ref k8, .ref k9, .ref ka, .ref kb, .int cc])), (kb, .inl (cI, 6, .inl cb))]) (va_runS (As := [.int a3]) (rest := []) ⟨hx, hb, hml, hown, hT⟩ (c_X10_isMileG l D cI aK aV H.size a3) (cwS 1 hT (gS_in mw_346 mw_344 mw_345 mw_1) rfl rfl rfl (by decide +kernel) ⟨Nat.le_of_ble_eq_true rfl, Nat.le_of_ble_eq_true rfl⟩) (kStatX hK hP hD hN hXS hS hA [] rfl (by decide)) rfl rfl hl.1 rfl (lv_room (Nat.le_of_ble_eq_true rfl)) dX10_broke_9 ⟨Nat.le_of_ble_eq_true rfl, Nat.le_of_ble_eq_true rfl⟩) hP hD hS hA [] [0, 1] rfl rfl (by decide) (by decide) (fun r_8 u_10 H locs w_9 hP hD hS => ?_)
    have hP : va_P D vwCl [(k, .inr (10, [.ref k0, .ref k1, .ref k2, .ref k3, .ref k4, .ref k5, .ref k6, .ref k7, .ref k8, .ref k9, .ref ka, .ref kb, .int cc])), (kb, .inl (cI, 6, .inl cb))] H := hP
    have hD : va_D A [(k, .inr (10, [.ref k0, .ref k1, .ref k2, .ref k3, .ref k4, .ref k5, .ref k6, .ref k7, .ref k8, .ref k9, .ref ka, .ref kb, .int cc])), (kb, .inl (cI, 6, .inl cb))] := hD
    rcases w_9 with ⟨hr_8, h_11, h_12⟩ | ⟨hr_8, h_13⟩
    · have h_11 : 0 ≤ a3.toInt := h_11
      have h_12 : a3.toInt ≤ 39 := h_12
      obtain rfl : r_8 = 1 := hr_8.trans (by decide)
      refine b_if_eq hx hb zl_1 (tgt := 25) dX10_broke_12 (by decide) (fun c_14 => by exfalso; omega) (fun c_14 => ?_)
      refine lv_iload_n hx hb dX10_broke_15 rfl (lv_at hl 1 rfl) ?_
      refine lv_iload hx hb dX10_broke_16 (lv_at hl 4 rfl) ?_
      refine b_icmp_ge hx hb rfl rfl (tgt := 25) dX10_broke_18 (by decide) (fun c_15 => ?_) (fun c_15 => ?_)
      · refine lv_iconst (v := 0) hx hb dX10_broke_25 (by decide) ?_
        refine lv_istore (lv' := [(7, .int 0), (0, .ref k), (1, .int a0), (2, .int a1), (3, .int a2), (4, .int a3), (5, .int a4), (6, .int a5)]) hx hb dX10_broke_26 hl (by decide) rfl (fun ls hl => ?_)
        refine lv_iload hx hb dX10_broke_28 (lv_at hl 0 rfl) ?_
        refine b_if_eq hx hb zl_0 (tgt := 51) dX10_broke_30 (by decide) (fun c_16 => ?_) (fun c_16 => by exfalso; omega)
        refine lv_aload_n hx hb dX10_broke_51 rfl (lv_at hl 1 rfl) ?_
        refine lv_iconst (v := 1) hx hb dX10_broke_52 (by decide) ?_
        refine kJi (wr := []) (va_runV (As := [.int 1]) (rest := []) ⟨hx, hb, hml, hown, hT⟩ (c_X10_findingH l D cI aK aV k k0 k1 k2 k3 k4 k5 k6 k7 k8 k9 ka kb H.size cc cb 1 (by first | omega | (simp only [zl_1] <;> omega) | decide | assumption | rfl) (by first | omega | (simp only [zl_1] <;> omega) | decide | assumption | rfl)) (cwV 1 hT (gV_in mw_338 mw_335 mw_337 mw_p1_0 mw_1) rfl rfl rfl (by decide +kernel) ⟨Nat.le_of_ble_eq_true rfl, Nat.le_of_ble_eq_true rfl⟩) (kRecvX (q0 := 0) (ci := 10) hK hP hD hN hXS hS hA rfl rfl [0, 1] rfl (by decide)) rfl rfl hl.1 rfl (lv_room (Nat.le_of_ble_eq_true rfl)) dX10_broke_53 ⟨Nat.le_of_ble_eq_true rfl, Nat.le_of_ble_eq_true rfl⟩) hP hD hS hA [0, 1] [] rfl rfl (by decide) (by decide) (fun r_17 scb_19 H locs w_18 hP hD hS => ?_)
        have hP : va_P D vwCl [(k, .inr (10, [.ref k0, .ref k1, .ref k2, .ref k3, .ref k4, .ref k5, .ref k6, .ref k7, .ref k8, .ref k9, .ref ka, .ref kb, .int cc])), (kb, .inl (cI, 6, .inl scb_19))] H := hP
        have hD : va_D A [(k, .inr (10, [.ref k0, .ref k1, .ref k2, .ref k3, .ref k4, .ref k5, .ref k6, .ref k7, .ref k8, .ref k9, .ref ka, .ref kb, .int cc])), (kb, .inl (cI, 6, .inl scb_19))] := hD
        have hr_17 := w_18
        obtain rfl : r_17 = (-1000001) := hr_17.trans (by decide)
        exact hRet scb_19 [0, 1] (by unfold sp_broke; first | (rw [if_neg (by omega)]; first | decide | omega) | (rw [if_pos (by omega), if_neg (by omega)]; first | decide | omega) | (rw [if_pos (by omega), if_pos (by omega)]; omega)) hP hD (by decide) rfl hS rfl dX10_broke_56
      · refine lv_iconst (v := 1) hx hb dX10_broke_21 (by decide) ?_
        refine lv_goto (tgt := 26) hx hb dX10_broke_22 (by decide) ?_
        refine lv_istore (lv' := [(7, .int 1), (0, .ref k), (1, .int a0), (2, .int a1), (3, .int a2), (4, .int a3), (5, .int a4), (6, .int a5)]) hx hb dX10_broke_26 hl (by decide) rfl (fun ls hl => ?_)
        refine lv_iload hx hb dX10_broke_28 (lv_at hl 0 rfl) ?_
        refine b_if_eq hx hb zl_1 (tgt := 51) dX10_broke_30 (by decide) (fun c_20 => by exfalso; omega) (fun c_20 => ?_)
        refine lv_iload_n hx hb dX10_broke_33 rfl (lv_at hl 3 rfl) ?_
        refine lv_iload_n hx hb dX10_broke_34 rfl (lv_at hl 4 rfl) ?_
        refine kJi (wr := [(k, .inr (10, [.ref k0, .ref k1, .ref k2, .ref k3, .ref k4, .ref k5, .ref k6, .ref k7, .ref k8, .ref k9, .ref ka, .ref kb, .int cc])), (kb, .inl (cI, 6, .inl cb))]) (va_runS (As := [.int a1, .int a2]) (rest := []) ⟨hx, hb, hml, hown, hT⟩ (c_X10_isSpanG l D cI aK aV H.size a1 a2) (cwS 2 hT (gS_in mw_829 mw_827 mw_828 mw_1) rfl rfl rfl (by decide +kernel) ⟨Nat.le_of_ble_eq_true rfl, Nat.le_of_ble_eq_true rfl⟩) (kStatX hK hP hD hN hXS hS hA [] rfl (by decide)) rfl rfl hl.1 rfl (lv_room (Nat.le_of_ble_eq_true rfl)) dX10_broke_35 ⟨Nat.le_of_ble_eq_true rfl, Nat.le_of_ble_eq_true rfl⟩) hP hD hS hA [] [0, 1] rfl rfl (by decide) (by decide) (fun r_21 u_23 H locs w_22 hP hD hS => ?_)
        have hP : va_P D vwCl [(k, .inr (10, [.ref k0, .ref k1, .ref k2, .ref k3, .ref k4, .ref k5, .ref k6, .ref k7, .ref k8, .ref k9, .ref ka, .ref kb, .int cc])), (kb, .inl (cI, 6, .inl cb))] H := hP
        have hD : va_D A [(k, .inr (10, [.ref k0, .ref k1, .ref k2, .ref k3, .ref k4, .ref k5, .ref k6, .ref k7, .ref k8, .ref k9, .ref ka, .ref kb, .int cc])), (kb, .inl (cI, 6, .inl cb))] := hD
        rcases w_22 with ⟨hr_21, h_24, h_25, h_26⟩ | ⟨hr_21, h_27⟩
        · have h_24 : 0 ≤ a1.toInt := h_24
          have h_25 : a1.toInt ≤ a2.toInt := h_25
          have h_26 : a2.toInt ≤ 39 := h_26
          obtain rfl : r_21 = 1 := hr_21.trans (by decide)
          refine b_if_eq hx hb zl_1 (tgt := 51) dX10_broke_38 (by decide) (fun c_28 => by exfalso; omega) (fun c_28 => ?_)
          refine lv_iload hx hb dX10_broke_41 (lv_at hl 6 rfl) ?_
          refine lv_iload hx hb dX10_broke_43 (lv_at hl 7 rfl) ?_
          refine kJi (wr := [(k, .inr (10, [.ref k0, .ref k1, .ref k2, .ref k3, .ref k4, .ref k5, .ref k6, .ref k7, .ref k8, .ref k9, .ref ka, .ref kb, .int cc])), (kb, .inl (cI, 6, .inl cb))]) (va_runS (As := [.int a4, .int a5]) (rest := []) ⟨hx, hb, hml, hown, hT⟩ (c_X10_isSpanG l D cI aK aV H.size a4 a5) (cwS 2 hT (gS_in mw_829 mw_827 mw_828 mw_1) rfl rfl rfl (by decide +kernel) ⟨Nat.le_of_ble_eq_true rfl, Nat.le_of_ble_eq_true rfl⟩) (kStatX hK hP hD hN hXS hS hA [] rfl (by decide)) rfl rfl hl.1 rfl (lv_room (Nat.le_of_ble_eq_true rfl)) dX10_broke_45 ⟨Nat.le_of_ble_eq_true rfl, Nat.le_of_ble_eq_true rfl⟩) hP hD hS hA [] [0, 1] rfl rfl (by decide) (by decide) (fun r_29 u_31 H locs w_30 hP hD hS => ?_)
          have hP : va_P D vwCl [(k, .inr (10, [.ref k0, .ref k1, .ref k2, .ref k3, .ref k4, .ref k5, .ref k6, .ref k7, .ref k8, .ref k9, .ref ka, .ref kb, .int cc])), (kb, .inl (cI, 6, .inl cb))] H := hP
          have hD : va_D A [(k, .inr (10, [.ref k0, .ref k1, .ref k2, .ref k3, .ref k4, .ref k5, .ref k6, .ref k7, .ref k8, .ref k9, .ref ka, .ref kb, .int cc])), (kb, .inl (cI, 6, .inl cb))] := hD
          rcases w_30 with ⟨hr_29, h_32, h_33, h_34⟩ | ⟨hr_29, h_35⟩
          · have h_32 : 0 ≤ a4.toInt := h_32
            have h_33 : a4.toInt ≤ a5.toInt := h_33
            have h_34 : a5.toInt ≤ 39 := h_34
            obtain rfl : r_29 = 1 := hr_29.trans (by decide)
            refine b_if_ne hx hb zl_1 (tgt := 57) dX10_broke_48 (by decide) (fun c_36 => ?_) (fun c_36 => by exfalso; omega)
            refine lv_iload_n hx hb dX10_broke_57 rfl (lv_at hl 2 rfl) ?_
            refine lv_iload_n hx hb dX10_broke_58 rfl (lv_at hl 3 rfl) ?_
            refine lv_iadd hx hb dX10_broke_59 ?_
            refine lv_topi (fun v_37 ev_37 => ?_)
            have tv_37 : v_37.toInt = a0.toInt + a1.toInt := by rw [ev_37]; exact k_addv rfl rfl (by omega) (by omega)
            refine lv_iload hx hb dX10_broke_60 (lv_at hl 5 rfl) ?_
            refine lv_iload hx hb dX10_broke_62 (lv_at hl 7 rfl) ?_
            refine lv_isub hx hb dX10_broke_64 ?_
            refine lv_topi (fun v_38 ev_38 => ?_)
            have tv_38 : v_38.toInt = a3.toInt - a5.toInt := by rw [ev_38]; exact k_subv rfl rfl (by omega) (by omega)
            refine va_mmax hx hb (hml.trans hl.1.symm) hown (hT _ mw_594) (hT _ mw_426) (hT _ mw_13) (hT _ mw_427) (Nat.le_of_ble_eq_true rfl) (Nat.le_of_ble_eq_true rfl) (Nat.le_of_ble_eq_true rfl) (Nat.le_of_ble_eq_true rfl) dX10_broke_65 ?_
            refine lv_topi (fun v_39 ev_39 => ?_)
            have lo_v_39 := k_lo v_39
            have hi_v_39 := k_hi v_39
            have tv_39 : v_39.toInt = k_max v_37.toInt v_38.toInt := by rw [ev_39]; exact k_mmax rfl rfl
            try rw [tv_37] at tv_39
            try rw [tv_38] at tv_39
            have sv_39 := k_max_spec (v_37.toInt) (v_38.toInt)
            try rw [tv_37] at sv_39
            try rw [tv_38] at sv_39
            refine lv_istore (lv' := [(8, .int v_39), (7, .int 1), (0, .ref k), (1, .int a0), (2, .int a1), (3, .int a2), (4, .int a3), (5, .int a4), (6, .int a5)]) hx hb dX10_broke_68 hl (by decide) rfl (fun ls hl => ?_)
            refine lv_iload_n hx hb dX10_broke_70 rfl (lv_at hl 3 rfl) ?_
            refine lv_iload_n hx hb dX10_broke_71 rfl (lv_at hl 5 rfl) ?_
            refine lv_iadd hx hb dX10_broke_72 ?_
            refine lv_topi (fun v_40 ev_40 => ?_)
            have tv_40 : v_40.toInt = a0.toInt + a2.toInt := by rw [ev_40]; exact k_addv rfl rfl (by omega) (by omega)
            refine lv_iload hx hb dX10_broke_73 (lv_at hl 6 rfl) ?_
            refine lv_iload hx hb dX10_broke_75 (lv_at hl 7 rfl) ?_
            refine lv_isub hx hb dX10_broke_77 ?_
            refine lv_topi (fun v_41 ev_41 => ?_)
            have tv_41 : v_41.toInt = a3.toInt - a4.toInt := by rw [ev_41]; exact k_subv rfl rfl (by omega) (by omega)
            refine va_mmin hx hb (hml.trans hl.1.symm) hown (hT _ mw_830) (hT _ mw_538) (hT _ mw_13) (hT _ mw_539) (Nat.le_of_ble_eq_true rfl) (Nat.le_of_ble_eq_true rfl) (Nat.le_of_ble_eq_true rfl) (Nat.le_of_ble_eq_true rfl) dX10_broke_78 ?_
            refine lv_topi (fun v_42 ev_42 => ?_)
            have lo_v_42 := k_lo v_42
            have hi_v_42 := k_hi v_42
            have tv_42 : v_42.toInt = k_min v_40.toInt v_41.toInt := by rw [ev_42]; exact k_mmin rfl rfl
            try rw [tv_40] at tv_42
            try rw [tv_41] at tv_42
            have sv_42 := k_min_spec (v_40.toInt) (v_41.toInt)
            try rw [tv_40] at sv_42
            try rw [tv_41] at sv_42
            refine lv_istore (lv' := [(9, .int v_42), (8, .int v_39), (7, .int 1), (0, .ref k), (1, .int a0), (2, .int a1), (3, .int a2), (4, .int a3), (5, .int a4), (6, .int a5)]) hx hb dX10_broke_81 hl (by decide) rfl (fun ls hl => ?_)
            refine lv_iload hx hb dX10_broke_83 (lv_at hl 1 rfl) ?_
            refine lv_iload hx hb dX10_broke_85 (lv_at hl 0 rfl) ?_
            refine b_icmp_le hx hb rfl rfl (tgt := 96) dX10_broke_87 (by decide) (fun c_43 => ?_) (fun c_43 => ?_)
            · refine lv_bipush (v := 100) hx hb dX10_broke_96 (by decide) ?_
              refine lv_iload hx hb dX10_broke_98 (lv_at hl 1 rfl) ?_
              refine lv_imul hx hb dX10_broke_100 ?_
              refine lv_topi (fun v_44 ev_44 => ?_)
              have tv_44 : v_44.toInt = 100 * v_39.toInt := by rw [ev_44]; exact k_mulv zl_100 rfl (by omega) (by omega)
              refine lv_iload hx hb dX10_broke_101 (lv_at hl 0 rfl) ?_
              refine lv_iadd hx hb dX10_broke_103 ?_
              refine lv_topi (fun v_45 ev_45 => ?_)
              have tv_45 : v_45.toInt = v_44.toInt + v_42.toInt := by rw [ev_45]; exact k_addv rfl rfl (by omega) (by omega)
              exact hRet cb [0, 1] (by unfold sp_broke; first | (rw [if_neg (by omega)]; first | decide | omega) | (rw [if_pos (by omega), if_neg (by omega)]; first | decide | omega) | (rw [if_pos (by omega), if_pos (by omega)]; omega)) hP hD (by decide) rfl hS rfl dX10_broke_104
            · refine lv_aload_n hx hb dX10_broke_90 rfl (lv_at hl 3 rfl) ?_
              refine lv_iconst (v := 2) hx hb dX10_broke_91 (by decide) ?_
              refine kJi (wr := []) (va_runV (As := [.int 2]) (rest := []) ⟨hx, hb, hml, hown, hT⟩ (c_X10_findingH l D cI aK aV k k0 k1 k2 k3 k4 k5 k6 k7 k8 k9 ka kb H.size cc cb 2 (by first | omega | (simp only [zl_2] <;> omega) | decide | assumption | rfl) (by first | omega | (simp only [zl_2] <;> omega) | decide | assumption | rfl)) (cwV 1 hT (gV_in mw_338 mw_335 mw_337 mw_p1_0 mw_1) rfl rfl rfl (by decide +kernel) ⟨Nat.le_of_ble_eq_true rfl, Nat.le_of_ble_eq_true rfl⟩) (kRecvX (q0 := 0) (ci := 10) hK hP hD hN hXS hS hA rfl rfl [0, 1] rfl (by decide)) rfl rfl hl.1 rfl (lv_room (Nat.le_of_ble_eq_true rfl)) dX10_broke_92 ⟨Nat.le_of_ble_eq_true rfl, Nat.le_of_ble_eq_true rfl⟩) hP hD hS hA [0, 1] [] rfl rfl (by decide) (by decide) (fun r_46 scb_48 H locs w_47 hP hD hS => ?_)
              have hP : va_P D vwCl [(k, .inr (10, [.ref k0, .ref k1, .ref k2, .ref k3, .ref k4, .ref k5, .ref k6, .ref k7, .ref k8, .ref k9, .ref ka, .ref kb, .int cc])), (kb, .inl (cI, 6, .inl scb_48))] H := hP
              have hD : va_D A [(k, .inr (10, [.ref k0, .ref k1, .ref k2, .ref k3, .ref k4, .ref k5, .ref k6, .ref k7, .ref k8, .ref k9, .ref ka, .ref kb, .int cc])), (kb, .inl (cI, 6, .inl scb_48))] := hD
              have hr_46 := w_47
              obtain rfl : r_46 = (-1000002) := hr_46.trans (by decide)
              exact hRet scb_48 [0, 1] (by unfold sp_broke; first | (rw [if_neg (by omega)]; first | decide | omega) | (rw [if_pos (by omega), if_neg (by omega)]; first | decide | omega) | (rw [if_pos (by omega), if_pos (by omega)]; omega)) hP hD (by decide) rfl hS rfl dX10_broke_95
          · have h_35 : a4.toInt < 0 ∨ a5.toInt < a4.toInt ∨ 39 < a5.toInt := h_35
            obtain rfl : r_29 = 0 := hr_29.trans (by decide)
            refine b_if_ne hx hb zl_0 (tgt := 57) dX10_broke_48 (by decide) (fun c_49 => by exfalso; omega) (fun c_49 => ?_)
            refine lv_aload_n hx hb dX10_broke_51 rfl (lv_at hl 1 rfl) ?_
            refine lv_iconst (v := 1) hx hb dX10_broke_52 (by decide) ?_
            refine kJi (wr := []) (va_runV (As := [.int 1]) (rest := []) ⟨hx, hb, hml, hown, hT⟩ (c_X10_findingH l D cI aK aV k k0 k1 k2 k3 k4 k5 k6 k7 k8 k9 ka kb H.size cc cb 1 (by first | omega | (simp only [zl_1] <;> omega) | decide | assumption | rfl) (by first | omega | (simp only [zl_1] <;> omega) | decide | assumption | rfl)) (cwV 1 hT (gV_in mw_338 mw_335 mw_337 mw_p1_0 mw_1) rfl rfl rfl (by decide +kernel) ⟨Nat.le_of_ble_eq_true rfl, Nat.le_of_ble_eq_true rfl⟩) (kRecvX (q0 := 0) (ci := 10) hK hP hD hN hXS hS hA rfl rfl [0, 1] rfl (by decide)) rfl rfl hl.1 rfl (lv_room (Nat.le_of_ble_eq_true rfl)) dX10_broke_53 ⟨Nat.le_of_ble_eq_true rfl, Nat.le_of_ble_eq_true rfl⟩) hP hD hS hA [0, 1] [] rfl rfl (by decide) (by decide) (fun r_50 scb_52 H locs w_51 hP hD hS => ?_)
            have hP : va_P D vwCl [(k, .inr (10, [.ref k0, .ref k1, .ref k2, .ref k3, .ref k4, .ref k5, .ref k6, .ref k7, .ref k8, .ref k9, .ref ka, .ref kb, .int cc])), (kb, .inl (cI, 6, .inl scb_52))] H := hP
            have hD : va_D A [(k, .inr (10, [.ref k0, .ref k1, .ref k2, .ref k3, .ref k4, .ref k5, .ref k6, .ref k7, .ref k8, .ref k9, .ref ka, .ref kb, .int cc])), (kb, .inl (cI, 6, .inl scb_52))] := hD
            have hr_50 := w_51
            obtain rfl : r_50 = (-1000001) := hr_50.trans (by decide)
            exact hRet scb_52 [0, 1] (by unfold sp_broke; first | (rw [if_neg (by omega)]; first | decide | omega) | (rw [if_pos (by omega), if_neg (by omega)]; first | decide | omega) | (rw [if_pos (by omega), if_pos (by omega)]; omega)) hP hD (by decide) rfl hS rfl dX10_broke_56
        · have h_27 : a1.toInt < 0 ∨ a2.toInt < a1.toInt ∨ 39 < a2.toInt := h_27
          obtain rfl : r_21 = 0 := hr_21.trans (by decide)
          refine b_if_eq hx hb zl_0 (tgt := 51) dX10_broke_38 (by decide) (fun c_53 => ?_) (fun c_53 => by exfalso; omega)
          refine lv_aload_n hx hb dX10_broke_51 rfl (lv_at hl 1 rfl) ?_
          refine lv_iconst (v := 1) hx hb dX10_broke_52 (by decide) ?_
          refine kJi (wr := []) (va_runV (As := [.int 1]) (rest := []) ⟨hx, hb, hml, hown, hT⟩ (c_X10_findingH l D cI aK aV k k0 k1 k2 k3 k4 k5 k6 k7 k8 k9 ka kb H.size cc cb 1 (by first | omega | (simp only [zl_1] <;> omega) | decide | assumption | rfl) (by first | omega | (simp only [zl_1] <;> omega) | decide | assumption | rfl)) (cwV 1 hT (gV_in mw_338 mw_335 mw_337 mw_p1_0 mw_1) rfl rfl rfl (by decide +kernel) ⟨Nat.le_of_ble_eq_true rfl, Nat.le_of_ble_eq_true rfl⟩) (kRecvX (q0 := 0) (ci := 10) hK hP hD hN hXS hS hA rfl rfl [0, 1] rfl (by decide)) rfl rfl hl.1 rfl (lv_room (Nat.le_of_ble_eq_true rfl)) dX10_broke_53 ⟨Nat.le_of_ble_eq_true rfl, Nat.le_of_ble_eq_true rfl⟩) hP hD hS hA [0, 1] [] rfl rfl (by decide) (by decide) (fun r_54 scb_56 H locs w_55 hP hD hS => ?_)
          have hP : va_P D vwCl [(k, .inr (10, [.ref k0, .ref k1, .ref k2, .ref k3, .ref k4, .ref k5, .ref k6, .ref k7, .ref k8, .ref k9, .ref ka, .ref kb, .int cc])), (kb, .inl (cI, 6, .inl scb_56))] H := hP
          have hD : va_D A [(k, .inr (10, [.ref k0, .ref k1, .ref k2, .ref k3, .ref k4, .ref k5, .ref k6, .ref k7, .ref k8, .ref k9, .ref ka, .ref kb, .int cc])), (kb, .inl (cI, 6, .inl scb_56))] := hD
          have hr_54 := w_55
          obtain rfl : r_54 = (-1000001) := hr_54.trans (by decide)
          exact hRet scb_56 [0, 1] (by unfold sp_broke; first | (rw [if_neg (by omega)]; first | decide | omega) | (rw [if_pos (by omega), if_neg (by omega)]; first | decide | omega) | (rw [if_pos (by omega), if_pos (by omega)]; omega)) hP hD (by decide) rfl hS rfl dX10_broke_56
    · have h_13 : a3.toInt < 0 ∨ 39 < a3.toInt := h_13
      obtain rfl : r_8 = 0 := hr_8.trans (by decide)
      refine b_if_eq hx hb zl_0 (tgt := 25) dX10_broke_12 (by decide) (fun c_57 => ?_) (fun c_57 => by exfalso; omega)
      refine lv_iconst (v := 0) hx hb dX10_broke_25 (by decide) ?_
      refine lv_istore (lv' := [(7, .int 0), (0, .ref k), (1, .int a0), (2, .int a1), (3, .int a2), (4, .int a3), (5, .int a4), (6, .int a5)]) hx hb dX10_broke_26 hl (by decide) rfl (fun ls hl => ?_)
      refine lv_iload hx hb dX10_broke_28 (lv_at hl 0 rfl) ?_
      refine b_if_eq hx hb zl_0 (tgt := 51) dX10_broke_30 (by decide) (fun c_58 => ?_) (fun c_58 => by exfalso; omega)
      refine lv_aload_n hx hb dX10_broke_51 rfl (lv_at hl 1 rfl) ?_
      refine lv_iconst (v := 1) hx hb dX10_broke_52 (by decide) ?_
      refine kJi (wr := []) (va_runV (As := [.int 1]) (rest := []) ⟨hx, hb, hml, hown, hT⟩ (c_X10_findingH l D cI aK aV k k0 k1 k2 k3 k4 k5 k6 k7 k8 k9 ka kb H.size cc cb 1 (by first | omega | (simp only [zl_1] <;> omega) | decide | assumption | rfl) (by first | omega | (simp only [zl_1] <;> omega) | decide | assumption | rfl)) (cwV 1 hT (gV_in mw_338 mw_335 mw_337 mw_p1_0 mw_1) rfl rfl rfl (by decide +kernel) ⟨Nat.le_of_ble_eq_true rfl, Nat.le_of_ble_eq_true rfl⟩) (kRecvX (q0 := 0) (ci := 10) hK hP hD hN hXS hS hA rfl rfl [0, 1] rfl (by decide)) rfl rfl hl.1 rfl (lv_room (Nat.le_of_ble_eq_true rfl)) dX10_broke_53 ⟨Nat.le_of_ble_eq_true rfl, Nat.le_of_ble_eq_true rfl⟩) hP hD hS hA [0, 1] [] rfl rfl (by decide) (by decide) (fun r_59 scb_61 H locs w_60 hP hD hS => ?_)
      have hP : va_P D vwCl [(k, .inr (10, [.ref k0, .ref k1, .ref k2, .ref k3, .ref k4, .ref k5, .ref k6, .ref k7, .ref k8, .ref k9, .ref ka, .ref kb, .int cc])), (kb, .inl (cI, 6, .inl scb_61))] H := hP
      have hD : va_D A [(k, .inr (10, [.ref k0, .ref k1, .ref k2, .ref k3, .ref k4, .ref k5, .ref k6, .ref k7, .ref k8, .ref k9, .ref ka, .ref kb, .int cc])), (kb, .inl (cI, 6, .inl scb_61))] := hD
      have hr_59 := w_60
      obtain rfl : r_59 = (-1000001) := hr_59.trans (by decide)
      exact hRet scb_61 [0, 1] (by unfold sp_broke; first | (rw [if_neg (by omega)]; first | decide | omega) | (rw [if_pos (by omega), if_neg (by omega)]; first | decide | omega) | (rw [if_pos (by omega), if_pos (by omega)]; omega)) hP hD (by decide) rfl hS rfl dX10_broke_56
  · have h_6 : a0.toInt < 0 ∨ 39 < a0.toInt := h_6
    obtain rfl : r_1 = 0 := hr_1.trans (by decide)
    refine b_if_eq hx hb zl_0 (tgt := 25) dX10_broke_4 (by decide) (fun c_62 => ?_) (fun c_62 => by exfalso; omega)
    refine lv_iconst (v := 0) hx hb dX10_broke_25 (by decide) ?_
    refine lv_istore (lv' := [(7, .int 0), (0, .ref k), (1, .int a0), (2, .int a1), (3, .int a2), (4, .int a3), (5, .int a4), (6, .int a5)]) hx hb dX10_broke_26 hl (by decide) rfl (fun ls hl => ?_)
    refine lv_iload hx hb dX10_broke_28 (lv_at hl 0 rfl) ?_
    refine b_if_eq hx hb zl_0 (tgt := 51) dX10_broke_30 (by decide) (fun c_63 => ?_) (fun c_63 => by exfalso; omega)
    refine lv_aload_n hx hb dX10_broke_51 rfl (lv_at hl 1 rfl) ?_
    refine lv_iconst (v := 1) hx hb dX10_broke_52 (by decide) ?_
    refine kJi (wr := []) (va_runV (As := [.int 1]) (rest := []) ⟨hx, hb, hml, hown, hT⟩ (c_X10_findingH l D cI aK aV k k0 k1 k2 k3 k4 k5 k6 k7 k8 k9 ka kb H.size cc cb 1 (by first | omega | (simp only [zl_1] <;> omega) | decide | assumption | rfl) (by first | omega | (simp only [zl_1] <;> omega) | decide | assumption | rfl)) (cwV 1 hT (gV_in mw_338 mw_335 mw_337 mw_p1_0 mw_1) rfl rfl rfl (by decide +kernel) ⟨Nat.le_of_ble_eq_true rfl, Nat.le_of_ble_eq_true rfl⟩) (kRecvX (q0 := 0) (ci := 10) hK hP hD hN hXS hS hA rfl rfl [0, 1] rfl (by decide)) rfl rfl hl.1 rfl (lv_room (Nat.le_of_ble_eq_true rfl)) dX10_broke_53 ⟨Nat.le_of_ble_eq_true rfl, Nat.le_of_ble_eq_true rfl⟩) hP hD hS hA [0, 1] [] rfl rfl (by decide) (by decide) (fun r_64 scb_66 H locs w_65 hP hD hS => ?_)
    have hP : va_P D vwCl [(k, .inr (10, [.ref k0, .ref k1, .ref k2, .ref k3, .ref k4, .ref k5, .ref k6, .ref k7, .ref k8, .ref k9, .ref ka, .ref kb, .int cc])), (kb, .inl (cI, 6, .inl scb_66))] H := hP
    have hD : va_D A [(k, .inr (10, [.ref k0, .ref k1, .ref k2, .ref k3, .ref k4, .ref k5, .ref k6, .ref k7, .ref k8, .ref k9, .ref ka, .ref kb, .int cc])), (kb, .inl (cI, 6, .inl scb_66))] := hD
    have hr_64 := w_65
    obtain rfl : r_64 = (-1000001) := hr_64.trans (by decide)
    exact hRet scb_66 [0, 1] (by unfold sp_broke; first | (rw [if_neg (by omega)]; first | decide | omega) | (rw [if_pos (by omega), if_neg (by omega)]; first | decide | omega) | (rw [if_pos (by omega), if_pos (by omega)]; omega)) hP hD (by decide) rfl hS rfl dX10_broke_56

set_option maxHeartbeats 4000000 in
set_option maxRecDepth 100000 in
theorem c_X11_brokeP (l : Launch) (D : va_G) (cI : ClassId) (aK aV : Nat → Nat) (k k0 k1 k2 k4 k5 k6 k7 k8 ka kb kl ko : Nat) (sz : Nat) (c3 : Int32) (c9 : Int32) (cc : Int32) (cd : Int32) (ce : Int32) (cf : Int32) (cg : Int32) (ch : Int32) (ci : Int32) (cj : Int32) (ck : Int32) (cm : Int32) (cn : Int32) (c4 : Nat → Int32) (a0 : Int32) (a1 : Int32) (a2 : Int32) (a3 : Int32) (a4 : Int32) (a5 : Int32) : Met l yX11_broke (gW yX11_broke cX11_broke 10 (some .int)) ({ frames := 2, cells := 0, slots := 0, locals := 42 } : Room) (kPreX D cI aK aV [.ref k, .int a0, .int a1, .int a2, .int a3, .int a4, .int a5] [(k, .inr (11, [.ref k0, .ref k1, .ref k2, .int c3, .ref k4, .ref k5, .ref k6, .ref k7, .ref k8, .int c9, .ref ka, .ref kb, .int cc, .int cd, .int ce, .int cf, .int cg, .int ch, .int ci, .int cj, .int ck, .ref kl, .int cm, .int cn, .ref ko])), (k4, .inl (cI, 6, .inl c4))] sz) (va_Qi (fun (r : Int32) (u : (Nat → Int32)) => r.toInt = sp_broke a0.toInt a1.toInt a2.toInt a3.toInt a4.toInt a5.toInt) (fun u t => kWd D cI (va_A [(k, .inr (11, [.ref k0, .ref k1, .ref k2, .int c3, .ref k4, .ref k5, .ref k6, .ref k7, .ref k8, .int c9, .ref ka, .ref kb, .int cc, .int cd, .int ce, .int cf, .int cg, .int ch, .int ci, .int cj, .int ck, .ref kl, .int cm, .int cn, .ref ko])), (k4, .inl (cI, 6, .inl c4))] sz) [(k, .inr (11, [.ref k0, .ref k1, .ref k2, .int c3, .ref k4, .ref k5, .ref k6, .ref k7, .ref k8, .int c9, .ref ka, .ref kb, .int cc, .int cd, .int ce, .int cf, .int cg, .int ch, .int ci, .int cj, .int ck, .ref kl, .int cm, .int cn, .ref ko])), (k4, .inl (cI, 6, .inl u))] t) (va_A [(k, .inr (11, [.ref k0, .ref k1, .ref k2, .int c3, .ref k4, .ref k5, .ref k6, .ref k7, .ref k8, .int c9, .ref ka, .ref kb, .int cc, .int cd, .int ce, .int cf, .int cg, .int ch, .int ci, .int cj, .int ck, .ref kl, .int cm, .int cn, .ref ko])), (k4, .inl (cI, 6, .inl c4))] sz)) 0 0 (va_A [(k, .inr (11, [.ref k0, .ref k1, .ref k2, .int c3, .ref k4, .ref k5, .ref k6, .ref k7, .ref k8, .int c9, .ref ka, .ref kb, .int cc, .int cd, .int ce, .int cf, .int cg, .int ch, .int ci, .int cj, .int ck, .ref kl, .int cm, .int cn, .ref ko])), (k4, .inl (cI, 6, .inl c4))] sz) := by
  refine kMetIX (own := RX11) (by decide) rfl (Nat.le_of_ble_eq_true rfl) ?_
  intro p e s m args below meth c hx hb hT hown hname hml A Q hK hP hD hS hA hN hXS hRet ls hl
  have hl : lv_has ls 10 [(0, .ref k), (1, .int a0), (2, .int a1), (3, .int a2), (4, .int a3), (5, .int a4), (6, .int a5)] := hl
  have lo_a0 := k_lo a0
  have hi_a0 := k_hi a0
  have lo_a1 := k_lo a1
  have hi_a1 := k_hi a1
  have lo_a2 := k_lo a2
  have hi_a2 := k_hi a2
  have lo_a3 := k_lo a3
  have hi_a3 := k_hi a3
  have lo_a4 := k_lo a4
  have hi_a4 := k_hi a4
  have lo_a5 := k_lo a5
  have hi_a5 := k_hi a5
  have lo_c3 := k_lo c3
  have hi_c3 := k_hi c3
  have lo_c9 := k_lo c9
  have hi_c9 := k_hi c9
  have lo_cc := k_lo cc
  have hi_cc := k_hi cc
  have lo_cd := k_lo cd
  have hi_cd := k_hi cd
  have lo_ce := k_lo ce
  have hi_ce := k_hi ce
  have lo_cf := k_lo cf
  have hi_cf := k_hi cf
  have lo_cg := k_lo cg
  have hi_cg := k_hi cg
  have lo_ch := k_lo ch
  have hi_ch := k_hi ch
  have lo_ci := k_lo ci
  have hi_ci := k_hi ci
  have lo_cj := k_lo cj
  have hi_cj := k_hi cj
  have lo_ck := k_lo ck
  have hi_ck := k_hi ck
  have lo_cm := k_lo cm
  have hi_cm := k_hi cm
  have lo_cn := k_lo cn
  have hi_cn := k_hi cn
  have hmx := k_max_spec (a0.toInt + a1.toInt) (a3.toInt - a5.toInt)
  have hmn := k_min_spec (a0.toInt + a2.toInt) (a3.toInt - a4.toInt)
  refine lv_iload_n hx hb dX11_broke_0 rfl (lv_at hl 1 rfl) ?_
  refine kJi (wr := [(k, .inr (11, [.ref k0, .ref k1, .ref k2, .int c3, .ref k4, .ref k5, .ref k6, .ref k7, .ref k8, .int c9, .ref ka, .ref kb, .int cc, .int cd, .int ce, .int cf, .int cg, .int ch, .int ci, .int cj, .int ck, .ref kl, .int cm, .int cn, .ref ko])), (k4, .inl (cI, 6, .inl c4))]) (va_runS (As := [.int a0]) (rest := []) ⟨hx, hb, hml, hown, hT⟩ (c_X11_isMileG l D cI aK aV s.heap.size a0) (cwS 1 hT (gS_in mw_1251 mw_1249 mw_1250 mw_12) rfl rfl rfl (by decide +kernel) ⟨Nat.le_of_ble_eq_true rfl, Nat.le_of_ble_eq_true rfl⟩) (kStatX hK hP hD hN hXS hS hA [] rfl (by decide)) rfl rfl hl.1 rfl (lv_room (Nat.le_of_ble_eq_true rfl)) dX11_broke_1 ⟨Nat.le_of_ble_eq_true rfl, Nat.le_of_ble_eq_true rfl⟩) hP hD hS hA [] [0, 1] rfl rfl (by decide) (by decide) (fun r_1 u_3 H locs w_2 hP hD hS => ?_)
  have hP : va_P D vwCl [(k, .inr (11, [.ref k0, .ref k1, .ref k2, .int c3, .ref k4, .ref k5, .ref k6, .ref k7, .ref k8, .int c9, .ref ka, .ref kb, .int cc, .int cd, .int ce, .int cf, .int cg, .int ch, .int ci, .int cj, .int ck, .ref kl, .int cm, .int cn, .ref ko])), (k4, .inl (cI, 6, .inl c4))] H := hP
  have hD : va_D A [(k, .inr (11, [.ref k0, .ref k1, .ref k2, .int c3, .ref k4, .ref k5, .ref k6, .ref k7, .ref k8, .int c9, .ref ka, .ref kb, .int cc, .int cd, .int ce, .int cf, .int cg, .int ch, .int ci, .int cj, .int ck, .ref kl, .int cm, .int cn, .ref ko])), (k4, .inl (cI, 6, .inl c4))] := hD
  rcases w_2 with ⟨hr_1, h_4, h_5⟩ | ⟨hr_1, h_6⟩
  · have h_4 : 0 ≤ a0.toInt := h_4
    have h_5 : a0.toInt ≤ 39 := h_5
    obtain rfl : r_1 = 1 := hr_1.trans (by decide)
    refine b_if_eq hx hb zl_1 (tgt := 58) dX11_broke_4 (by decide) (fun c_7 => by exfalso; omega) (fun c_7 => ?_)
    refine lv_iload hx hb dX11_broke_7 (lv_at hl 4 rfl) ?_
    refine kJi (wr := [(k, .inr (11, [.ref k0, .ref k1, .ref k2, .int c3, .ref k4, .ref k5, .ref k6, .ref k7, .ref k8, .int c9, .ref ka, .ref kb, .int cc, .int cd, .int ce, .int cf, .int cg, .int ch, .int ci, .int cj, .int ck, .ref kl, .int cm, .int cn, .ref ko])), (k4, .inl (cI, 6, .inl c4))]) (va_runS (As := [.int a3]) (rest := []) ⟨hx, hb, hml, hown, hT⟩ (c_X11_isMileG l D cI aK aV H.size a3) (cwS 1 hT (gS_in mw_1251 mw_1249 mw_1250 mw_12) rfl rfl rfl (by decide +kernel) ⟨Nat.le_of_ble_eq_true rfl, Nat.le_of_ble_eq_true rfl⟩) (kStatX hK hP hD hN hXS hS hA [] rfl (by decide)) rfl rfl hl.1 rfl (lv_room (Nat.le_of_ble_eq_true rfl)) dX11_broke_9 ⟨Nat.le_of_ble_eq_true rfl, Nat.le_of_ble_eq_true rfl⟩) hP hD hS hA [] [0, 1] rfl rfl (by decide) (by decide) (fun r_8 u_10 H locs w_9 hP hD hS => ?_)
    have hP : va_P D vwCl [(k, .inr (11, [.ref k0, .ref k1, .ref k2, .int c3, .ref k4, .ref k5, .ref k6, .ref k7, .ref k8, .int c9, .ref ka, .ref kb, .int cc, .int cd, .int ce, .int cf, .int cg, .int ch, .int ci, .int cj, .int ck, .ref kl, .int cm, .int cn, .ref ko])), (k4, .inl (cI, 6, .inl c4))] H := hP
    have hD : va_D A [(k, .inr (11, [.ref k0, .ref k1, .ref k2, .int c3, .ref k4, .ref k5, .ref k6, .ref k7, .ref k8, .int c9, .ref ka, .ref kb, .int cc, .int cd, .int ce, .int cf, .int cg, .int ch, .int ci, .int cj, .int ck, .ref kl, .int cm, .int cn, .ref ko])), (k4, .inl (cI, 6, .inl c4))] := hD
    rcases w_9 with ⟨hr_8, h_11, h_12⟩ | ⟨hr_8, h_13⟩
    · have h_11 : 0 ≤ a3.toInt := h_11
      have h_12 : a3.toInt ≤ 39 := h_12
      obtain rfl : r_8 = 1 := hr_8.trans (by decide)
      refine b_if_eq hx hb zl_1 (tgt := 58) dX11_broke_12 (by decide) (fun c_14 => by exfalso; omega) (fun c_14 => ?_)
      refine lv_iload_n hx hb dX11_broke_15 rfl (lv_at hl 1 rfl) ?_
      refine lv_iload hx hb dX11_broke_16 (lv_at hl 4 rfl) ?_
      refine b_icmp_ge hx hb rfl rfl (tgt := 58) dX11_broke_18 (by decide) (fun c_15 => ?_) (fun c_15 => ?_)
      · refine lv_aload_n hx hb dX11_broke_58 rfl (lv_at hl 0 rfl) ?_
        refine lv_ldc (v := (-1000001)) hx hb hown (hT _ mw_1239) dX11_broke_59 ?_
        refine kJi (wr := []) (va_runV (As := [.int (-1000001)]) (rest := []) ⟨hx, hb, hml, hown, hT⟩ (c_X11_findingG l D cI aK aV k k0 k1 k2 k4 k5 k6 k7 k8 ka kb kl ko H.size c3 c9 cc cd ce cf cg ch ci cj ck cm cn c4 (-1000001) (by first | omega | (simp only [zl_m1000001] <;> omega) | decide | assumption | rfl) (by first | omega | (simp only [zl_m1000001] <;> omega) | decide | assumption | rfl)) (cwV 1 hT (gV_in mw_1243 mw_1240 mw_1242 mw_p3_8 mw_12) rfl rfl rfl (by decide +kernel) ⟨Nat.le_of_ble_eq_true rfl, Nat.le_of_ble_eq_true rfl⟩) (kRecvX (q0 := 0) (ci := 11) hK hP hD hN hXS hS hA rfl rfl [0, 1] rfl (by decide)) rfl rfl hl.1 rfl (lv_room (Nat.le_of_ble_eq_true rfl)) dX11_broke_61 ⟨Nat.le_of_ble_eq_true rfl, Nat.le_of_ble_eq_true rfl⟩) hP hD hS hA [0, 1] [] rfl rfl (by decide) (by decide) (fun r_16 sc4_18 H locs w_17 hP hD hS => ?_)
        have hP : va_P D vwCl [(k, .inr (11, [.ref k0, .ref k1, .ref k2, .int c3, .ref k4, .ref k5, .ref k6, .ref k7, .ref k8, .int c9, .ref ka, .ref kb, .int cc, .int cd, .int ce, .int cf, .int cg, .int ch, .int ci, .int cj, .int ck, .ref kl, .int cm, .int cn, .ref ko])), (k4, .inl (cI, 6, .inl sc4_18))] H := hP
        have hD : va_D A [(k, .inr (11, [.ref k0, .ref k1, .ref k2, .int c3, .ref k4, .ref k5, .ref k6, .ref k7, .ref k8, .int c9, .ref ka, .ref kb, .int cc, .int cd, .int ce, .int cf, .int cg, .int ch, .int ci, .int cj, .int ck, .ref kl, .int cm, .int cn, .ref ko])), (k4, .inl (cI, 6, .inl sc4_18))] := hD
        have hr_16 := w_17
        obtain rfl : r_16 = (-1000001) := hr_16.trans (by decide)
        exact hRet sc4_18 [0, 1] (by unfold sp_broke; first | (rw [if_neg (by omega)]; first | decide | omega) | (rw [if_pos (by omega), if_neg (by omega)]; first | decide | omega) | (rw [if_pos (by omega), if_pos (by omega)]; omega)) hP hD (by decide) rfl hS rfl dX11_broke_64
      · refine lv_iload_n hx hb dX11_broke_21 rfl (lv_at hl 2 rfl) ?_
        refine kJi (wr := [(k, .inr (11, [.ref k0, .ref k1, .ref k2, .int c3, .ref k4, .ref k5, .ref k6, .ref k7, .ref k8, .int c9, .ref ka, .ref kb, .int cc, .int cd, .int ce, .int cf, .int cg, .int ch, .int ci, .int cj, .int ck, .ref kl, .int cm, .int cn, .ref ko])), (k4, .inl (cI, 6, .inl c4))]) (va_runS (As := [.int a1]) (rest := []) ⟨hx, hb, hml, hown, hT⟩ (c_X11_isMileG l D cI aK aV H.size a1) (cwS 1 hT (gS_in mw_1251 mw_1249 mw_1250 mw_12) rfl rfl rfl (by decide +kernel) ⟨Nat.le_of_ble_eq_true rfl, Nat.le_of_ble_eq_true rfl⟩) (kStatX hK hP hD hN hXS hS hA [] rfl (by decide)) rfl rfl hl.1 rfl (lv_room (Nat.le_of_ble_eq_true rfl)) dX11_broke_22 ⟨Nat.le_of_ble_eq_true rfl, Nat.le_of_ble_eq_true rfl⟩) hP hD hS hA [] [0, 1] rfl rfl (by decide) (by decide) (fun r_19 u_21 H locs w_20 hP hD hS => ?_)
        have hP : va_P D vwCl [(k, .inr (11, [.ref k0, .ref k1, .ref k2, .int c3, .ref k4, .ref k5, .ref k6, .ref k7, .ref k8, .int c9, .ref ka, .ref kb, .int cc, .int cd, .int ce, .int cf, .int cg, .int ch, .int ci, .int cj, .int ck, .ref kl, .int cm, .int cn, .ref ko])), (k4, .inl (cI, 6, .inl c4))] H := hP
        have hD : va_D A [(k, .inr (11, [.ref k0, .ref k1, .ref k2, .int c3, .ref k4, .ref k5, .ref k6, .ref k7, .ref k8, .int c9, .ref ka, .ref kb, .int cc, .int cd, .int ce, .int cf, .int cg, .int ch, .int ci, .int cj, .int ck, .ref kl, .int cm, .int cn, .ref ko])), (k4, .inl (cI, 6, .inl c4))] := hD
        rcases w_20 with ⟨hr_19, h_22, h_23⟩ | ⟨hr_19, h_24⟩
        · have h_22 : 0 ≤ a1.toInt := h_22
          have h_23 : a1.toInt ≤ 39 := h_23
          obtain rfl : r_19 = 1 := hr_19.trans (by decide)
          refine b_if_eq hx hb zl_1 (tgt := 58) dX11_broke_25 (by decide) (fun c_25 => by exfalso; omega) (fun c_25 => ?_)
          refine lv_iload_n hx hb dX11_broke_28 rfl (lv_at hl 3 rfl) ?_
          refine lv_iload_n hx hb dX11_broke_29 rfl (lv_at hl 2 rfl) ?_
          refine lv_bipush (v := 39) hx hb dX11_broke_30 (by decide) ?_
          refine kJi (wr := [(k, .inr (11, [.ref k0, .ref k1, .ref k2, .int c3, .ref k4, .ref k5, .ref k6, .ref k7, .ref k8, .int c9, .ref ka, .ref kb, .int cc, .int cd, .int ce, .int cf, .int cg, .int ch, .int ci, .int cj, .int ck, .ref kl, .int cm, .int cn, .ref ko])), (k4, .inl (cI, 6, .inl c4))]) (va_runS (As := [.int a2, .int a1, .int 39]) (rest := []) ⟨hx, hb, hml, hown, hT⟩ (c_X11_inG l D cI aK aV H.size a2 a1 39) (cwS 3 hT (gS_in mw_1238 mw_1236 mw_1237 mw_12) rfl rfl rfl (by decide +kernel) ⟨Nat.le_of_ble_eq_true rfl, Nat.le_of_ble_eq_true rfl⟩) (kStatX hK hP hD hN hXS hS hA [] rfl (by decide)) rfl rfl hl.1 rfl (lv_room (Nat.le_of_ble_eq_true rfl)) dX11_broke_32 ⟨Nat.le_of_ble_eq_true rfl, Nat.le_of_ble_eq_true rfl⟩) hP hD hS hA [] [0, 1] rfl rfl (by decide) (by decide) (fun r_26 u_28 H locs w_27 hP hD hS => ?_)
          have hP : va_P D vwCl [(k, .inr (11, [.ref k0, .ref k1, .ref k2, .int c3, .ref k4, .ref k5, .ref k6, .ref k7, .ref k8, .int c9, .ref ka, .ref kb, .int cc, .int cd, .int ce, .int cf, .int cg, .int ch, .int ci, .int cj, .int ck, .ref kl, .int cm, .int cn, .ref ko])), (k4, .inl (cI, 6, .inl c4))] H := hP
          have hD : va_D A [(k, .inr (11, [.ref k0, .ref k1, .ref k2, .int c3, .ref k4, .ref k5, .ref k6, .ref k7, .ref k8, .int c9, .ref ka, .ref kb, .int cc, .int cd, .int ce, .int cf, .int cg, .int ch, .int ci, .int cj, .int ck, .ref kl, .int cm, .int cn, .ref ko])), (k4, .inl (cI, 6, .inl c4))] := hD
          rcases w_27 with ⟨hr_26, h_29, h_30⟩ | ⟨hr_26, h_31⟩
          · try simp only [zl_39] at h_29
            have h_29 : a1.toInt ≤ a2.toInt := h_29
            try simp only [zl_39] at h_30
            have h_30 : a2.toInt ≤ 39 := h_30
            obtain rfl : r_26 = 1 := hr_26.trans (by decide)
            refine b_if_eq hx hb zl_1 (tgt := 58) dX11_broke_35 (by decide) (fun c_32 => by exfalso; omega) (fun c_32 => ?_)
            refine lv_iload hx hb dX11_broke_38 (lv_at hl 5 rfl) ?_
            refine kJi (wr := [(k, .inr (11, [.ref k0, .ref k1, .ref k2, .int c3, .ref k4, .ref k5, .ref k6, .ref k7, .ref k8, .int c9, .ref ka, .ref kb, .int cc, .int cd, .int ce, .int cf, .int cg, .int ch, .int ci, .int cj, .int ck, .ref kl, .int cm, .int cn, .ref ko])), (k4, .inl (cI, 6, .inl c4))]) (va_runS (As := [.int a4]) (rest := []) ⟨hx, hb, hml, hown, hT⟩ (c_X11_isMileG l D cI aK aV H.size a4) (cwS 1 hT (gS_in mw_1251 mw_1249 mw_1250 mw_12) rfl rfl rfl (by decide +kernel) ⟨Nat.le_of_ble_eq_true rfl, Nat.le_of_ble_eq_true rfl⟩) (kStatX hK hP hD hN hXS hS hA [] rfl (by decide)) rfl rfl hl.1 rfl (lv_room (Nat.le_of_ble_eq_true rfl)) dX11_broke_40 ⟨Nat.le_of_ble_eq_true rfl, Nat.le_of_ble_eq_true rfl⟩) hP hD hS hA [] [0, 1] rfl rfl (by decide) (by decide) (fun r_33 u_35 H locs w_34 hP hD hS => ?_)
            have hP : va_P D vwCl [(k, .inr (11, [.ref k0, .ref k1, .ref k2, .int c3, .ref k4, .ref k5, .ref k6, .ref k7, .ref k8, .int c9, .ref ka, .ref kb, .int cc, .int cd, .int ce, .int cf, .int cg, .int ch, .int ci, .int cj, .int ck, .ref kl, .int cm, .int cn, .ref ko])), (k4, .inl (cI, 6, .inl c4))] H := hP
            have hD : va_D A [(k, .inr (11, [.ref k0, .ref k1, .ref k2, .int c3, .ref k4, .ref k5, .ref k6, .ref k7, .ref k8, .int c9, .ref ka, .ref kb, .int cc, .int cd, .int ce, .int cf, .int cg, .int ch, .int ci, .int cj, .int ck, .ref kl, .int cm, .int cn, .ref ko])), (k4, .inl (cI, 6, .inl c4))] := hD
            rcases w_34 with ⟨hr_33, h_36, h_37⟩ | ⟨hr_33, h_38⟩
            · have h_36 : 0 ≤ a4.toInt := h_36
              have h_37 : a4.toInt ≤ 39 := h_37
              obtain rfl : r_33 = 1 := hr_33.trans (by decide)
              refine b_if_eq hx hb zl_1 (tgt := 58) dX11_broke_43 (by decide) (fun c_39 => by exfalso; omega) (fun c_39 => ?_)
              refine lv_iload hx hb dX11_broke_46 (lv_at hl 6 rfl) ?_
              refine lv_iload hx hb dX11_broke_48 (lv_at hl 5 rfl) ?_
              refine lv_bipush (v := 39) hx hb dX11_broke_50 (by decide) ?_
              refine kJi (wr := [(k, .inr (11, [.ref k0, .ref k1, .ref k2, .int c3, .ref k4, .ref k5, .ref k6, .ref k7, .ref k8, .int c9, .ref ka, .ref kb, .int cc, .int cd, .int ce, .int cf, .int cg, .int ch, .int ci, .int cj, .int ck, .ref kl, .int cm, .int cn, .ref ko])), (k4, .inl (cI, 6, .inl c4))]) (va_runS (As := [.int a5, .int a4, .int 39]) (rest := []) ⟨hx, hb, hml, hown, hT⟩ (c_X11_inG l D cI aK aV H.size a5 a4 39) (cwS 3 hT (gS_in mw_1238 mw_1236 mw_1237 mw_12) rfl rfl rfl (by decide +kernel) ⟨Nat.le_of_ble_eq_true rfl, Nat.le_of_ble_eq_true rfl⟩) (kStatX hK hP hD hN hXS hS hA [] rfl (by decide)) rfl rfl hl.1 rfl (lv_room (Nat.le_of_ble_eq_true rfl)) dX11_broke_52 ⟨Nat.le_of_ble_eq_true rfl, Nat.le_of_ble_eq_true rfl⟩) hP hD hS hA [] [0, 1] rfl rfl (by decide) (by decide) (fun r_40 u_42 H locs w_41 hP hD hS => ?_)
              have hP : va_P D vwCl [(k, .inr (11, [.ref k0, .ref k1, .ref k2, .int c3, .ref k4, .ref k5, .ref k6, .ref k7, .ref k8, .int c9, .ref ka, .ref kb, .int cc, .int cd, .int ce, .int cf, .int cg, .int ch, .int ci, .int cj, .int ck, .ref kl, .int cm, .int cn, .ref ko])), (k4, .inl (cI, 6, .inl c4))] H := hP
              have hD : va_D A [(k, .inr (11, [.ref k0, .ref k1, .ref k2, .int c3, .ref k4, .ref k5, .ref k6, .ref k7, .ref k8, .int c9, .ref ka, .ref kb, .int cc, .int cd, .int ce, .int cf, .int cg, .int ch, .int ci, .int cj, .int ck, .ref kl, .int cm, .int cn, .ref ko])), (k4, .inl (cI, 6, .inl c4))] := hD
              rcases w_41 with ⟨hr_40, h_43, h_44⟩ | ⟨hr_40, h_45⟩
              · try simp only [zl_39] at h_43
                have h_43 : a4.toInt ≤ a5.toInt := h_43
                try simp only [zl_39] at h_44
                have h_44 : a5.toInt ≤ 39 := h_44
                obtain rfl : r_40 = 1 := hr_40.trans (by decide)
                refine b_if_ne hx hb zl_1 (tgt := 65) dX11_broke_55 (by decide) (fun c_46 => ?_) (fun c_46 => by exfalso; omega)
                refine lv_iconst (v := (-1)) hx hb dX11_broke_65 (by decide) ?_
                refine lv_istore (lv' := [(7, .int (-1)), (0, .ref k), (1, .int a0), (2, .int a1), (3, .int a2), (4, .int a3), (5, .int a4), (6, .int a5)]) hx hb dX11_broke_66 hl (by decide) rfl (fun ls hl => ?_)
                refine lv_iconst (v := (-1)) hx hb dX11_broke_68 (by decide) ?_
                refine lv_istore (lv' := [(8, .int (-1)), (7, .int (-1)), (0, .ref k), (1, .int a0), (2, .int a1), (3, .int a2), (4, .int a3), (5, .int a4), (6, .int a5)]) hx hb dX11_broke_69 hl (by decide) rfl (fun ls hl => ?_)
                refine lv_iload_n hx hb dX11_broke_71 rfl (lv_at hl 3 rfl) ?_
                refine lv_istore (lv' := [(9, .int a0), (8, .int (-1)), (7, .int (-1)), (0, .ref k), (1, .int a0), (2, .int a1), (3, .int a2), (4, .int a3), (5, .int a4), (6, .int a5)]) hx hb dX11_broke_72 hl (by decide) rfl (fun ls hl => ?_)
                have hloop_74 : ∀ (fu_ : Nat) (l74_7 : Int32) (l74_8 : Int32) (l74_9 : Int32), (-1) ≤ l74_7.toInt → (-1) ≤ l74_8.toInt → a0.toInt ≤ l74_9.toInt → a0.toInt ≤ l74_9.toInt → l74_9.toInt ≤ a3.toInt + 1 → -1 ≤ l74_7.toInt → l74_7.toInt ≤ 39 → -1 ≤ l74_8.toInt → l74_8.toInt ≤ 39 → ((l74_7.toInt = -1 ∧ l74_8.toInt = -1 ∧ (l74_9.toInt ≤ k_max (a0.toInt + a1.toInt) (a3.toInt - a5.toInt) ∨ k_min (a0.toInt + a2.toInt) (a3.toInt - a4.toInt) < k_max (a0.toInt + a1.toInt) (a3.toInt - a5.toInt))) ∨ (l74_7.toInt = k_max (a0.toInt + a1.toInt) (a3.toInt - a5.toInt) ∧ k_max (a0.toInt + a1.toInt) (a3.toInt - a5.toInt) ≤ k_min (a0.toInt + a2.toInt) (a3.toInt - a4.toInt) ∧ k_max (a0.toInt + a1.toInt) (a3.toInt - a5.toInt) < l74_9.toInt ∧ ((l74_8.toInt = l74_9.toInt - 1 ∧ l74_9.toInt - 1 ≤ k_min (a0.toInt + a2.toInt) (a3.toInt - a4.toInt)) ∨ (l74_8.toInt = k_min (a0.toInt + a2.toInt) (a3.toInt - a4.toInt) ∧ k_min (a0.toInt + a2.toInt) (a3.toInt - a4.toInt) < l74_9.toInt)))) → (41 - l74_9.toInt).toNat < fu_ → ∀ (ls : Array Slot) (H : Heap) (locs : List Loc), lv_has ls 10 [(9, .int l74_9), (8, .int l74_8), (7, .int l74_7), (0, .ref k), (1, .int a0), (2, .int a1), (3, .int a2), (4, .int a3), (5, .int a4), (6, .int a5)] → va_P D vwCl [(k, .inr (11, [.ref k0, .ref k1, .ref k2, .int c3, .ref k4, .ref k5, .ref k6, .ref k7, .ref k8, .int c9, .ref ka, .ref kb, .int cc, .int cd, .int ce, .int cf, .int cg, .int ch, .int ci, .int cj, .int ck, .ref kl, .int cm, .int cn, .ref ko])), (k4, .inl (cI, 6, .inl c4))] H → va_D A [(k, .inr (11, [.ref k0, .ref k1, .ref k2, .int c3, .ref k4, .ref k5, .ref k6, .ref k7, .ref k8, .int c9, .ref ka, .ref kb, .int cc, .int cd, .int ce, .int cf, .int cg, .int ch, .int ci, .int cj, .int ck, .ref kl, .int cm, .int cn, .ref ko])), (k4, .inl (cI, 6, .inl c4))] → va_S A s.heap H locs → W p l e ({ frames := 2, cells := 0, slots := 0, locals := 42 } : Room) s m args below meth c H locs 0 0 Q (F0 m 74 ls []) := by
                  intro fu_; induction fu_ with
                  | zero => intro l74_7 l74_8 l74_9 i74_0 i74_1 i74_2 i74_3 i74_4 i74_5 i74_6 i74_7 i74_8 i74_9 hm; exact absurd hm (by omega)
                  | succ fu_ ih74 =>
                      intro l74_7 l74_8 l74_9 i74_0 i74_1 i74_2 i74_3 i74_4 i74_5 i74_6 i74_7 i74_8 i74_9 hm ls H locs hl hP hD hS
                      have lo_l74_7 := k_lo l74_7
                      have hi_l74_7 := k_hi l74_7
                      have lo_l74_8 := k_lo l74_8
                      have hi_l74_8 := k_hi l74_8
                      have lo_l74_9 := k_lo l74_9
                      have hi_l74_9 := k_hi l74_9
                      refine lv_iload hx hb dX11_broke_74 (lv_at hl 0 rfl) ?_
                      refine lv_iload hx hb dX11_broke_76 (lv_at hl 7 rfl) ?_
                      refine b_icmp_gt hx hb rfl rfl (tgt := 132) dX11_broke_78 (by decide) (fun c_47 => ?_) (fun c_47 => ?_)
                      · refine lv_iload hx hb dX11_broke_132 (lv_at hl 2 rfl) ?_
                        refine b_if_ge hx hb rfl (tgt := 146) dX11_broke_134 (by decide) (fun c_48 => ?_) (fun c_48 => ?_)
                        · refine lv_bipush (v := 100) hx hb dX11_broke_146 (by decide) ?_
                          refine lv_iload hx hb dX11_broke_148 (lv_at hl 2 rfl) ?_
                          refine lv_imul hx hb dX11_broke_150 ?_
                          refine lv_topi (fun v_49 ev_49 => ?_)
                          have tv_49 : v_49.toInt = 100 * l74_7.toInt := by rw [ev_49]; exact k_mulv zl_100 rfl (by omega) (by omega)
                          refine lv_iload hx hb dX11_broke_151 (lv_at hl 1 rfl) ?_
                          refine lv_iadd hx hb dX11_broke_153 ?_
                          refine lv_topi (fun v_50 ev_50 => ?_)
                          have tv_50 : v_50.toInt = v_49.toInt + l74_8.toInt := by rw [ev_50]; exact k_addv rfl rfl (by omega) (by omega)
                          exact hRet c4 [0, 1] (by unfold sp_broke; first | (rw [if_neg (by omega)]; first | decide | omega) | (rw [if_pos (by omega), if_neg (by omega)]; first | decide | omega) | (rw [if_pos (by omega), if_pos (by omega)]; omega)) hP hD (by decide) rfl hS rfl dX11_broke_154
                        · refine lv_aload_n hx hb dX11_broke_137 rfl (lv_at hl 3 rfl) ?_
                          refine lv_ldc (v := (-1000002)) hx hb hown (hT _ mw_1392) dX11_broke_138 ?_
                          refine kJi (wr := []) (va_runV (As := [.int (-1000002)]) (rest := []) ⟨hx, hb, hml, hown, hT⟩ (c_X11_findingG l D cI aK aV k k0 k1 k2 k4 k5 k6 k7 k8 ka kb kl ko H.size c3 c9 cc cd ce cf cg ch ci cj ck cm cn c4 (-1000002) (by first | omega | (simp only [zl_m1000002] <;> omega) | decide | assumption | rfl) (by first | omega | (simp only [zl_m1000002] <;> omega) | decide | assumption | rfl)) (cwV 1 hT (gV_in mw_1243 mw_1240 mw_1242 mw_p3_8 mw_12) rfl rfl rfl (by decide +kernel) ⟨Nat.le_of_ble_eq_true rfl, Nat.le_of_ble_eq_true rfl⟩) (kRecvX (q0 := 0) (ci := 11) hK hP hD hN hXS hS hA rfl rfl [0, 1] rfl (by decide)) rfl rfl hl.1 rfl (lv_room (Nat.le_of_ble_eq_true rfl)) dX11_broke_140 ⟨Nat.le_of_ble_eq_true rfl, Nat.le_of_ble_eq_true rfl⟩) hP hD hS hA [0, 1] [] rfl rfl (by decide) (by decide) (fun r_51 sc4_53 H locs w_52 hP hD hS => ?_)
                          have hP : va_P D vwCl [(k, .inr (11, [.ref k0, .ref k1, .ref k2, .int c3, .ref k4, .ref k5, .ref k6, .ref k7, .ref k8, .int c9, .ref ka, .ref kb, .int cc, .int cd, .int ce, .int cf, .int cg, .int ch, .int ci, .int cj, .int ck, .ref kl, .int cm, .int cn, .ref ko])), (k4, .inl (cI, 6, .inl sc4_53))] H := hP
                          have hD : va_D A [(k, .inr (11, [.ref k0, .ref k1, .ref k2, .int c3, .ref k4, .ref k5, .ref k6, .ref k7, .ref k8, .int c9, .ref ka, .ref kb, .int cc, .int cd, .int ce, .int cf, .int cg, .int ch, .int ci, .int cj, .int ck, .ref kl, .int cm, .int cn, .ref ko])), (k4, .inl (cI, 6, .inl sc4_53))] := hD
                          have hr_51 := w_52
                          obtain rfl : r_51 = (-1000002) := hr_51.trans (by decide)
                          refine lv_goto (tgt := 154) hx hb dX11_broke_143 (by decide) ?_
                          exact hRet sc4_53 [0, 1] (by unfold sp_broke; first | (rw [if_neg (by omega)]; first | decide | omega) | (rw [if_pos (by omega), if_neg (by omega)]; first | decide | omega) | (rw [if_pos (by omega), if_pos (by omega)]; omega)) hP hD (by decide) rfl hS rfl dX11_broke_154
                      · refine lv_iload hx hb dX11_broke_81 (lv_at hl 0 rfl) ?_
                        refine lv_iload_n hx hb dX11_broke_83 rfl (lv_at hl 4 rfl) ?_
                        refine lv_isub hx hb dX11_broke_84 ?_
                        refine lv_topi (fun v_54 ev_54 => ?_)
                        have tv_54 : v_54.toInt = l74_9.toInt - a0.toInt := by rw [ev_54]; exact k_subv rfl rfl (by omega) (by omega)
                        refine lv_iload_n hx hb dX11_broke_85 rfl (lv_at hl 5 rfl) ?_
                        refine lv_iload_n hx hb dX11_broke_86 rfl (lv_at hl 6 rfl) ?_
                        refine kJi (wr := [(k, .inr (11, [.ref k0, .ref k1, .ref k2, .int c3, .ref k4, .ref k5, .ref k6, .ref k7, .ref k8, .int c9, .ref ka, .ref kb, .int cc, .int cd, .int ce, .int cf, .int cg, .int ch, .int ci, .int cj, .int ck, .ref kl, .int cm, .int cn, .ref ko])), (k4, .inl (cI, 6, .inl c4))]) (va_runS (As := [.int v_54, .int a1, .int a2]) (rest := []) ⟨hx, hb, hml, hown, hT⟩ (c_X11_inG l D cI aK aV H.size v_54 a1 a2) (cwS 3 hT (gS_in mw_1238 mw_1236 mw_1237 mw_12) rfl rfl rfl (by decide +kernel) ⟨Nat.le_of_ble_eq_true rfl, Nat.le_of_ble_eq_true rfl⟩) (kStatX hK hP hD hN hXS hS hA [] rfl (by decide)) rfl rfl hl.1 rfl (lv_room (Nat.le_of_ble_eq_true rfl)) dX11_broke_87 ⟨Nat.le_of_ble_eq_true rfl, Nat.le_of_ble_eq_true rfl⟩) hP hD hS hA [] [0, 1] rfl rfl (by decide) (by decide) (fun r_55 u_57 H locs w_56 hP hD hS => ?_)
                        have hP : va_P D vwCl [(k, .inr (11, [.ref k0, .ref k1, .ref k2, .int c3, .ref k4, .ref k5, .ref k6, .ref k7, .ref k8, .int c9, .ref ka, .ref kb, .int cc, .int cd, .int ce, .int cf, .int cg, .int ch, .int ci, .int cj, .int ck, .ref kl, .int cm, .int cn, .ref ko])), (k4, .inl (cI, 6, .inl c4))] H := hP
                        have hD : va_D A [(k, .inr (11, [.ref k0, .ref k1, .ref k2, .int c3, .ref k4, .ref k5, .ref k6, .ref k7, .ref k8, .int c9, .ref ka, .ref kb, .int cc, .int cd, .int ce, .int cf, .int cg, .int ch, .int ci, .int cj, .int ck, .ref kl, .int cm, .int cn, .ref ko])), (k4, .inl (cI, 6, .inl c4))] := hD
                        rcases w_56 with ⟨hr_55, h_58, h_59⟩ | ⟨hr_55, h_60⟩
                        · have h_58 : a1.toInt ≤ v_54.toInt := h_58
                          have h_59 : v_54.toInt ≤ a2.toInt := h_59
                          obtain rfl : r_55 = 1 := hr_55.trans (by decide)
                          refine b_if_eq hx hb zl_1 (tgt := 126) dX11_broke_90 (by decide) (fun c_61 => by exfalso; omega) (fun c_61 => ?_)
                          refine lv_iload hx hb dX11_broke_93 (lv_at hl 7 rfl) ?_
                          refine lv_iload hx hb dX11_broke_95 (lv_at hl 0 rfl) ?_
                          refine lv_isub hx hb dX11_broke_97 ?_
                          refine lv_topi (fun v_62 ev_62 => ?_)
                          have tv_62 : v_62.toInt = a3.toInt - l74_9.toInt := by rw [ev_62]; exact k_subv rfl rfl (by omega) (by omega)
                          refine lv_iload hx hb dX11_broke_98 (lv_at hl 8 rfl) ?_
                          refine lv_iload hx hb dX11_broke_100 (lv_at hl 9 rfl) ?_
                          refine kJi (wr := [(k, .inr (11, [.ref k0, .ref k1, .ref k2, .int c3, .ref k4, .ref k5, .ref k6, .ref k7, .ref k8, .int c9, .ref ka, .ref kb, .int cc, .int cd, .int ce, .int cf, .int cg, .int ch, .int ci, .int cj, .int ck, .ref kl, .int cm, .int cn, .ref ko])), (k4, .inl (cI, 6, .inl c4))]) (va_runS (As := [.int v_62, .int a4, .int a5]) (rest := []) ⟨hx, hb, hml, hown, hT⟩ (c_X11_inG l D cI aK aV H.size v_62 a4 a5) (cwS 3 hT (gS_in mw_1238 mw_1236 mw_1237 mw_12) rfl rfl rfl (by decide +kernel) ⟨Nat.le_of_ble_eq_true rfl, Nat.le_of_ble_eq_true rfl⟩) (kStatX hK hP hD hN hXS hS hA [] rfl (by decide)) rfl rfl hl.1 rfl (lv_room (Nat.le_of_ble_eq_true rfl)) dX11_broke_102 ⟨Nat.le_of_ble_eq_true rfl, Nat.le_of_ble_eq_true rfl⟩) hP hD hS hA [] [0, 1] rfl rfl (by decide) (by decide) (fun r_63 u_65 H locs w_64 hP hD hS => ?_)
                          have hP : va_P D vwCl [(k, .inr (11, [.ref k0, .ref k1, .ref k2, .int c3, .ref k4, .ref k5, .ref k6, .ref k7, .ref k8, .int c9, .ref ka, .ref kb, .int cc, .int cd, .int ce, .int cf, .int cg, .int ch, .int ci, .int cj, .int ck, .ref kl, .int cm, .int cn, .ref ko])), (k4, .inl (cI, 6, .inl c4))] H := hP
                          have hD : va_D A [(k, .inr (11, [.ref k0, .ref k1, .ref k2, .int c3, .ref k4, .ref k5, .ref k6, .ref k7, .ref k8, .int c9, .ref ka, .ref kb, .int cc, .int cd, .int ce, .int cf, .int cg, .int ch, .int ci, .int cj, .int ck, .ref kl, .int cm, .int cn, .ref ko])), (k4, .inl (cI, 6, .inl c4))] := hD
                          rcases w_64 with ⟨hr_63, h_66, h_67⟩ | ⟨hr_63, h_68⟩
                          · have h_66 : a4.toInt ≤ v_62.toInt := h_66
                            have h_67 : v_62.toInt ≤ a5.toInt := h_67
                            obtain rfl : r_63 = 1 := hr_63.trans (by decide)
                            refine b_if_eq hx hb zl_1 (tgt := 126) dX11_broke_105 (by decide) (fun c_69 => by exfalso; omega) (fun c_69 => ?_)
                            refine lv_iload hx hb dX11_broke_108 (lv_at hl 2 rfl) ?_
                            refine b_if_ge hx hb rfl (tgt := 118) dX11_broke_110 (by decide) (fun c_70 => ?_) (fun c_70 => ?_)
                            · refine lv_iload hx hb dX11_broke_118 (lv_at hl 2 rfl) ?_
                              refine lv_istore (lv' := [(7, .int l74_7), (9, .int l74_9), (8, .int l74_8), (0, .ref k), (1, .int a0), (2, .int a1), (3, .int a2), (4, .int a3), (5, .int a4), (6, .int a5)]) hx hb dX11_broke_120 hl (by decide) rfl (fun ls hl => ?_)
                              refine lv_iload hx hb dX11_broke_122 (lv_at hl 1 rfl) ?_
                              refine lv_istore (lv' := [(8, .int l74_9), (7, .int l74_7), (9, .int l74_9), (0, .ref k), (1, .int a0), (2, .int a1), (3, .int a2), (4, .int a3), (5, .int a4), (6, .int a5)]) hx hb dX11_broke_124 hl (by decide) rfl (fun ls hl => ?_)
                              obtain ⟨v_71, ev_71⟩ : ∃ y : Int32, y = l74_9 + 1 := ⟨_, rfl⟩
                              have tv_71 : v_71.toInt = l74_9.toInt + 1 := by rw [ev_71]; exact k_addv rfl zl_1 (by omega) (by omega)
                              refine lv_iinc (v := v_71) (lv' := [(9, .int v_71), (8, .int l74_9), (7, .int l74_7), (0, .ref k), (1, .int a0), (2, .int a1), (3, .int a2), (4, .int a3), (5, .int a4), (6, .int a5)]) hx hb dX11_broke_126 hl (k := 2) rfl (by rw [ev_71]; rfl) (by decide) rfl (fun ls hl => ?_)
                              refine lv_goto (tgt := 74) hx hb dX11_broke_129 (by decide) ?_
                              exact ih74 l74_7 l74_9 v_71 (by first | omega | decide | assumption | rfl) (by first | omega | decide | assumption | rfl) (by first | omega | decide | assumption | rfl) (by first | omega | decide | assumption | rfl) (by first | omega | decide | assumption | rfl) (by first | omega | decide | assumption | rfl) (by first | omega | decide | assumption | rfl) (by first | omega | decide | assumption | rfl) (by first | omega | decide | assumption | rfl) (by omega) (by omega) ls _ _ (lv_sub hl [0, 1, 2, 3, 4, 5, 6, 7, 8, 9] rfl) (hP.sub [0, 1] rfl) (hD.sub [0, 1] (by decide) rfl) hS
                            · refine lv_iload hx hb dX11_broke_113 (lv_at hl 0 rfl) ?_
                              refine lv_goto (tgt := 120) hx hb dX11_broke_115 (by decide) ?_
                              refine lv_istore (lv' := [(7, .int l74_9), (9, .int l74_9), (8, .int l74_8), (0, .ref k), (1, .int a0), (2, .int a1), (3, .int a2), (4, .int a3), (5, .int a4), (6, .int a5)]) hx hb dX11_broke_120 hl (by decide) rfl (fun ls hl => ?_)
                              refine lv_iload hx hb dX11_broke_122 (lv_at hl 1 rfl) ?_
                              refine lv_istore (lv' := [(8, .int l74_9), (7, .int l74_9), (9, .int l74_9), (0, .ref k), (1, .int a0), (2, .int a1), (3, .int a2), (4, .int a3), (5, .int a4), (6, .int a5)]) hx hb dX11_broke_124 hl (by decide) rfl (fun ls hl => ?_)
                              obtain ⟨v_72, ev_72⟩ : ∃ y : Int32, y = l74_9 + 1 := ⟨_, rfl⟩
                              have tv_72 : v_72.toInt = l74_9.toInt + 1 := by rw [ev_72]; exact k_addv rfl zl_1 (by omega) (by omega)
                              refine lv_iinc (v := v_72) (lv' := [(9, .int v_72), (8, .int l74_9), (7, .int l74_9), (0, .ref k), (1, .int a0), (2, .int a1), (3, .int a2), (4, .int a3), (5, .int a4), (6, .int a5)]) hx hb dX11_broke_126 hl (k := 2) rfl (by rw [ev_72]; rfl) (by decide) rfl (fun ls hl => ?_)
                              refine lv_goto (tgt := 74) hx hb dX11_broke_129 (by decide) ?_
                              exact ih74 l74_9 l74_9 v_72 (by first | omega | decide | assumption | rfl) (by first | omega | decide | assumption | rfl) (by first | omega | decide | assumption | rfl) (by first | omega | decide | assumption | rfl) (by first | omega | decide | assumption | rfl) (by first | omega | decide | assumption | rfl) (by first | omega | decide | assumption | rfl) (by first | omega | decide | assumption | rfl) (by first | omega | decide | assumption | rfl) (by omega) (by omega) ls _ _ (lv_sub hl [0, 1, 2, 3, 4, 5, 6, 7, 8, 9] rfl) (hP.sub [0, 1] rfl) (hD.sub [0, 1] (by decide) rfl) hS
                          · have h_68 : v_62.toInt < a4.toInt ∨ a5.toInt < v_62.toInt := h_68
                            obtain rfl : r_63 = 0 := hr_63.trans (by decide)
                            refine b_if_eq hx hb zl_0 (tgt := 126) dX11_broke_105 (by decide) (fun c_73 => ?_) (fun c_73 => by exfalso; omega)
                            obtain ⟨v_74, ev_74⟩ : ∃ y : Int32, y = l74_9 + 1 := ⟨_, rfl⟩
                            have tv_74 : v_74.toInt = l74_9.toInt + 1 := by rw [ev_74]; exact k_addv rfl zl_1 (by omega) (by omega)
                            refine lv_iinc (v := v_74) (lv' := [(9, .int v_74), (8, .int l74_8), (7, .int l74_7), (0, .ref k), (1, .int a0), (2, .int a1), (3, .int a2), (4, .int a3), (5, .int a4), (6, .int a5)]) hx hb dX11_broke_126 hl (k := 0) rfl (by rw [ev_74]; rfl) (by decide) rfl (fun ls hl => ?_)
                            refine lv_goto (tgt := 74) hx hb dX11_broke_129 (by decide) ?_
                            exact ih74 l74_7 l74_8 v_74 (by first | omega | decide | assumption | rfl) (by first | omega | decide | assumption | rfl) (by first | omega | decide | assumption | rfl) (by first | omega | decide | assumption | rfl) (by first | omega | decide | assumption | rfl) (by first | omega | decide | assumption | rfl) (by first | omega | decide | assumption | rfl) (by first | omega | decide | assumption | rfl) (by first | omega | decide | assumption | rfl) (by omega) (by omega) ls _ _ (lv_sub hl [0, 1, 2, 3, 4, 5, 6, 7, 8, 9] rfl) (hP.sub [0, 1] rfl) (hD.sub [0, 1] (by decide) rfl) hS
                        · have h_60 : v_54.toInt < a1.toInt ∨ a2.toInt < v_54.toInt := h_60
                          obtain rfl : r_55 = 0 := hr_55.trans (by decide)
                          refine b_if_eq hx hb zl_0 (tgt := 126) dX11_broke_90 (by decide) (fun c_75 => ?_) (fun c_75 => by exfalso; omega)
                          obtain ⟨v_76, ev_76⟩ : ∃ y : Int32, y = l74_9 + 1 := ⟨_, rfl⟩
                          have tv_76 : v_76.toInt = l74_9.toInt + 1 := by rw [ev_76]; exact k_addv rfl zl_1 (by omega) (by omega)
                          refine lv_iinc (v := v_76) (lv' := [(9, .int v_76), (8, .int l74_8), (7, .int l74_7), (0, .ref k), (1, .int a0), (2, .int a1), (3, .int a2), (4, .int a3), (5, .int a4), (6, .int a5)]) hx hb dX11_broke_126 hl (k := 0) rfl (by rw [ev_76]; rfl) (by decide) rfl (fun ls hl => ?_)
                          refine lv_goto (tgt := 74) hx hb dX11_broke_129 (by decide) ?_
                          exact ih74 l74_7 l74_8 v_76 (by first | omega | decide | assumption | rfl) (by first | omega | decide | assumption | rfl) (by first | omega | decide | assumption | rfl) (by first | omega | decide | assumption | rfl) (by first | omega | decide | assumption | rfl) (by first | omega | decide | assumption | rfl) (by first | omega | decide | assumption | rfl) (by first | omega | decide | assumption | rfl) (by first | omega | decide | assumption | rfl) (by omega) (by omega) ls _ _ (lv_sub hl [0, 1, 2, 3, 4, 5, 6, 7, 8, 9] rfl) (hP.sub [0, 1] rfl) (hD.sub [0, 1] (by decide) rfl) hS
                exact hloop_74 _ (-1) (-1) a0 (by first | omega | (simp only [zl_m1] <;> omega) | decide | assumption | rfl) (by first | omega | (simp only [zl_m1] <;> omega) | decide | assumption | rfl) (by first | omega | (simp only [zl_m1] <;> omega) | decide | assumption | rfl) (by first | omega | (simp only [zl_m1] <;> omega) | decide | assumption | rfl) (by first | omega | (simp only [zl_m1] <;> omega) | decide | assumption | rfl) (by first | omega | (simp only [zl_m1] <;> omega) | decide | assumption | rfl) (by first | omega | (simp only [zl_m1] <;> omega) | decide | assumption | rfl) (by first | omega | (simp only [zl_m1] <;> omega) | decide | assumption | rfl) (by first | omega | (simp only [zl_m1] <;> omega) | decide | assumption | rfl) (by rw [zl_m1]; omega) (Nat.lt_succ_self _) ls _ _ (lv_sub hl [0, 1, 2, 3, 4, 5, 6, 7, 8, 9] rfl) hP hD hS
              · try simp only [zl_39] at h_45
                have h_45 : a5.toInt < a4.toInt ∨ 39 < a5.toInt := h_45
                obtain rfl : r_40 = 0 := hr_40.trans (by decide)
                refine b_if_ne hx hb zl_0 (tgt := 65) dX11_broke_55 (by decide) (fun c_77 => by exfalso; omega) (fun c_77 => ?_)
                refine lv_aload_n hx hb dX11_broke_58 rfl (lv_at hl 0 rfl) ?_
                refine lv_ldc (v := (-1000001)) hx hb hown (hT _ mw_1239) dX11_broke_59 ?_
                refine kJi (wr := []) (va_runV (As := [.int (-1000001)]) (rest := []) ⟨hx, hb, hml, hown, hT⟩ (c_X11_findingG l D cI aK aV k k0 k1 k2 k4 k5 k6 k7 k8 ka kb kl ko H.size c3 c9 cc cd ce cf cg ch ci cj ck cm cn c4 (-1000001) (by first | omega | (simp only [zl_m1000001] <;> omega) | decide | assumption | rfl) (by first | omega | (simp only [zl_m1000001] <;> omega) | decide | assumption | rfl)) (cwV 1 hT (gV_in mw_1243 mw_1240 mw_1242 mw_p3_8 mw_12) rfl rfl rfl (by decide +kernel) ⟨Nat.le_of_ble_eq_true rfl, Nat.le_of_ble_eq_true rfl⟩) (kRecvX (q0 := 0) (ci := 11) hK hP hD hN hXS hS hA rfl rfl [0, 1] rfl (by decide)) rfl rfl hl.1 rfl (lv_room (Nat.le_of_ble_eq_true rfl)) dX11_broke_61 ⟨Nat.le_of_ble_eq_true rfl, Nat.le_of_ble_eq_true rfl⟩) hP hD hS hA [0, 1] [] rfl rfl (by decide) (by decide) (fun r_78 sc4_80 H locs w_79 hP hD hS => ?_)
                have hP : va_P D vwCl [(k, .inr (11, [.ref k0, .ref k1, .ref k2, .int c3, .ref k4, .ref k5, .ref k6, .ref k7, .ref k8, .int c9, .ref ka, .ref kb, .int cc, .int cd, .int ce, .int cf, .int cg, .int ch, .int ci, .int cj, .int ck, .ref kl, .int cm, .int cn, .ref ko])), (k4, .inl (cI, 6, .inl sc4_80))] H := hP
                have hD : va_D A [(k, .inr (11, [.ref k0, .ref k1, .ref k2, .int c3, .ref k4, .ref k5, .ref k6, .ref k7, .ref k8, .int c9, .ref ka, .ref kb, .int cc, .int cd, .int ce, .int cf, .int cg, .int ch, .int ci, .int cj, .int ck, .ref kl, .int cm, .int cn, .ref ko])), (k4, .inl (cI, 6, .inl sc4_80))] := hD
                have hr_78 := w_79
                obtain rfl : r_78 = (-1000001) := hr_78.trans (by decide)
                exact hRet sc4_80 [0, 1] (by unfold sp_broke; first | (rw [if_neg (by omega)]; first | decide | omega) | (rw [if_pos (by omega), if_neg (by omega)]; first | decide | omega) | (rw [if_pos (by omega), if_pos (by omega)]; omega)) hP hD (by decide) rfl hS rfl dX11_broke_64
            · have h_38 : a4.toInt < 0 ∨ 39 < a4.toInt := h_38
              obtain rfl : r_33 = 0 := hr_33.trans (by decide)
              refine b_if_eq hx hb zl_0 (tgt := 58) dX11_broke_43 (by decide) (fun c_81 => ?_) (fun c_81 => by exfalso; omega)
              refine lv_aload_n hx hb dX11_broke_58 rfl (lv_at hl 0 rfl) ?_
              refine lv_ldc (v := (-1000001)) hx hb hown (hT _ mw_1239) dX11_broke_59 ?_
              refine kJi (wr := []) (va_runV (As := [.int (-1000001)]) (rest := []) ⟨hx, hb, hml, hown, hT⟩ (c_X11_findingG l D cI aK aV k k0 k1 k2 k4 k5 k6 k7 k8 ka kb kl ko H.size c3 c9 cc cd ce cf cg ch ci cj ck cm cn c4 (-1000001) (by first | omega | (simp only [zl_m1000001] <;> omega) | decide | assumption | rfl) (by first | omega | (simp only [zl_m1000001] <;> omega) | decide | assumption | rfl)) (cwV 1 hT (gV_in mw_1243 mw_1240 mw_1242 mw_p3_8 mw_12) rfl rfl rfl (by decide +kernel) ⟨Nat.le_of_ble_eq_true rfl, Nat.le_of_ble_eq_true rfl⟩) (kRecvX (q0 := 0) (ci := 11) hK hP hD hN hXS hS hA rfl rfl [0, 1] rfl (by decide)) rfl rfl hl.1 rfl (lv_room (Nat.le_of_ble_eq_true rfl)) dX11_broke_61 ⟨Nat.le_of_ble_eq_true rfl, Nat.le_of_ble_eq_true rfl⟩) hP hD hS hA [0, 1] [] rfl rfl (by decide) (by decide) (fun r_82 sc4_84 H locs w_83 hP hD hS => ?_)
              have hP : va_P D vwCl [(k, .inr (11, [.ref k0, .ref k1, .ref k2, .int c3, .ref k4, .ref k5, .ref k6, .ref k7, .ref k8, .int c9, .ref ka, .ref kb, .int cc, .int cd, .int ce, .int cf, .int cg, .int ch, .int ci, .int cj, .int ck, .ref kl, .int cm, .int cn, .ref ko])), (k4, .inl (cI, 6, .inl sc4_84))] H := hP
              have hD : va_D A [(k, .inr (11, [.ref k0, .ref k1, .ref k2, .int c3, .ref k4, .ref k5, .ref k6, .ref k7, .ref k8, .int c9, .ref ka, .ref kb, .int cc, .int cd, .int ce, .int cf, .int cg, .int ch, .int ci, .int cj, .int ck, .ref kl, .int cm, .int cn, .ref ko])), (k4, .inl (cI, 6, .inl sc4_84))] := hD
              have hr_82 := w_83
              obtain rfl : r_82 = (-1000001) := hr_82.trans (by decide)
              exact hRet sc4_84 [0, 1] (by unfold sp_broke; first | (rw [if_neg (by omega)]; first | decide | omega) | (rw [if_pos (by omega), if_neg (by omega)]; first | decide | omega) | (rw [if_pos (by omega), if_pos (by omega)]; omega)) hP hD (by decide) rfl hS rfl dX11_broke_64
          · try simp only [zl_39] at h_31
            have h_31 : a2.toInt < a1.toInt ∨ 39 < a2.toInt := h_31
            obtain rfl : r_26 = 0 := hr_26.trans (by decide)
            refine b_if_eq hx hb zl_0 (tgt := 58) dX11_broke_35 (by decide) (fun c_85 => ?_) (fun c_85 => by exfalso; omega)
            refine lv_aload_n hx hb dX11_broke_58 rfl (lv_at hl 0 rfl) ?_
            refine lv_ldc (v := (-1000001)) hx hb hown (hT _ mw_1239) dX11_broke_59 ?_
            refine kJi (wr := []) (va_runV (As := [.int (-1000001)]) (rest := []) ⟨hx, hb, hml, hown, hT⟩ (c_X11_findingG l D cI aK aV k k0 k1 k2 k4 k5 k6 k7 k8 ka kb kl ko H.size c3 c9 cc cd ce cf cg ch ci cj ck cm cn c4 (-1000001) (by first | omega | (simp only [zl_m1000001] <;> omega) | decide | assumption | rfl) (by first | omega | (simp only [zl_m1000001] <;> omega) | decide | assumption | rfl)) (cwV 1 hT (gV_in mw_1243 mw_1240 mw_1242 mw_p3_8 mw_12) rfl rfl rfl (by decide +kernel) ⟨Nat.le_of_ble_eq_true rfl, Nat.le_of_ble_eq_true rfl⟩) (kRecvX (q0 := 0) (ci := 11) hK hP hD hN hXS hS hA rfl rfl [0, 1] rfl (by decide)) rfl rfl hl.1 rfl (lv_room (Nat.le_of_ble_eq_true rfl)) dX11_broke_61 ⟨Nat.le_of_ble_eq_true rfl, Nat.le_of_ble_eq_true rfl⟩) hP hD hS hA [0, 1] [] rfl rfl (by decide) (by decide) (fun r_86 sc4_88 H locs w_87 hP hD hS => ?_)
            have hP : va_P D vwCl [(k, .inr (11, [.ref k0, .ref k1, .ref k2, .int c3, .ref k4, .ref k5, .ref k6, .ref k7, .ref k8, .int c9, .ref ka, .ref kb, .int cc, .int cd, .int ce, .int cf, .int cg, .int ch, .int ci, .int cj, .int ck, .ref kl, .int cm, .int cn, .ref ko])), (k4, .inl (cI, 6, .inl sc4_88))] H := hP
            have hD : va_D A [(k, .inr (11, [.ref k0, .ref k1, .ref k2, .int c3, .ref k4, .ref k5, .ref k6, .ref k7, .ref k8, .int c9, .ref ka, .ref kb, .int cc, .int cd, .int ce, .int cf, .int cg, .int ch, .int ci, .int cj, .int ck, .ref kl, .int cm, .int cn, .ref ko])), (k4, .inl (cI, 6, .inl sc4_88))] := hD
            have hr_86 := w_87
            obtain rfl : r_86 = (-1000001) := hr_86.trans (by decide)
            exact hRet sc4_88 [0, 1] (by unfold sp_broke; first | (rw [if_neg (by omega)]; first | decide | omega) | (rw [if_pos (by omega), if_neg (by omega)]; first | decide | omega) | (rw [if_pos (by omega), if_pos (by omega)]; omega)) hP hD (by decide) rfl hS rfl dX11_broke_64
        · have h_24 : a1.toInt < 0 ∨ 39 < a1.toInt := h_24
          obtain rfl : r_19 = 0 := hr_19.trans (by decide)
          refine b_if_eq hx hb zl_0 (tgt := 58) dX11_broke_25 (by decide) (fun c_89 => ?_) (fun c_89 => by exfalso; omega)
          refine lv_aload_n hx hb dX11_broke_58 rfl (lv_at hl 0 rfl) ?_
          refine lv_ldc (v := (-1000001)) hx hb hown (hT _ mw_1239) dX11_broke_59 ?_
          refine kJi (wr := []) (va_runV (As := [.int (-1000001)]) (rest := []) ⟨hx, hb, hml, hown, hT⟩ (c_X11_findingG l D cI aK aV k k0 k1 k2 k4 k5 k6 k7 k8 ka kb kl ko H.size c3 c9 cc cd ce cf cg ch ci cj ck cm cn c4 (-1000001) (by first | omega | (simp only [zl_m1000001] <;> omega) | decide | assumption | rfl) (by first | omega | (simp only [zl_m1000001] <;> omega) | decide | assumption | rfl)) (cwV 1 hT (gV_in mw_1243 mw_1240 mw_1242 mw_p3_8 mw_12) rfl rfl rfl (by decide +kernel) ⟨Nat.le_of_ble_eq_true rfl, Nat.le_of_ble_eq_true rfl⟩) (kRecvX (q0 := 0) (ci := 11) hK hP hD hN hXS hS hA rfl rfl [0, 1] rfl (by decide)) rfl rfl hl.1 rfl (lv_room (Nat.le_of_ble_eq_true rfl)) dX11_broke_61 ⟨Nat.le_of_ble_eq_true rfl, Nat.le_of_ble_eq_true rfl⟩) hP hD hS hA [0, 1] [] rfl rfl (by decide) (by decide) (fun r_90 sc4_92 H locs w_91 hP hD hS => ?_)
          have hP : va_P D vwCl [(k, .inr (11, [.ref k0, .ref k1, .ref k2, .int c3, .ref k4, .ref k5, .ref k6, .ref k7, .ref k8, .int c9, .ref ka, .ref kb, .int cc, .int cd, .int ce, .int cf, .int cg, .int ch, .int ci, .int cj, .int ck, .ref kl, .int cm, .int cn, .ref ko])), (k4, .inl (cI, 6, .inl sc4_92))] H := hP
          have hD : va_D A [(k, .inr (11, [.ref k0, .ref k1, .ref k2, .int c3, .ref k4, .ref k5, .ref k6, .ref k7, .ref k8, .int c9, .ref ka, .ref kb, .int cc, .int cd, .int ce, .int cf, .int cg, .int ch, .int ci, .int cj, .int ck, .ref kl, .int cm, .int cn, .ref ko])), (k4, .inl (cI, 6, .inl sc4_92))] := hD
          have hr_90 := w_91
          obtain rfl : r_90 = (-1000001) := hr_90.trans (by decide)
          exact hRet sc4_92 [0, 1] (by unfold sp_broke; first | (rw [if_neg (by omega)]; first | decide | omega) | (rw [if_pos (by omega), if_neg (by omega)]; first | decide | omega) | (rw [if_pos (by omega), if_pos (by omega)]; omega)) hP hD (by decide) rfl hS rfl dX11_broke_64
    · have h_13 : a3.toInt < 0 ∨ 39 < a3.toInt := h_13
      obtain rfl : r_8 = 0 := hr_8.trans (by decide)
      refine b_if_eq hx hb zl_0 (tgt := 58) dX11_broke_12 (by decide) (fun c_93 => ?_) (fun c_93 => by exfalso; omega)
      refine lv_aload_n hx hb dX11_broke_58 rfl (lv_at hl 0 rfl) ?_
      refine lv_ldc (v := (-1000001)) hx hb hown (hT _ mw_1239) dX11_broke_59 ?_
      refine kJi (wr := []) (va_runV (As := [.int (-1000001)]) (rest := []) ⟨hx, hb, hml, hown, hT⟩ (c_X11_findingG l D cI aK aV k k0 k1 k2 k4 k5 k6 k7 k8 ka kb kl ko H.size c3 c9 cc cd ce cf cg ch ci cj ck cm cn c4 (-1000001) (by first | omega | (simp only [zl_m1000001] <;> omega) | decide | assumption | rfl) (by first | omega | (simp only [zl_m1000001] <;> omega) | decide | assumption | rfl)) (cwV 1 hT (gV_in mw_1243 mw_1240 mw_1242 mw_p3_8 mw_12) rfl rfl rfl (by decide +kernel) ⟨Nat.le_of_ble_eq_true rfl, Nat.le_of_ble_eq_true rfl⟩) (kRecvX (q0 := 0) (ci := 11) hK hP hD hN hXS hS hA rfl rfl [0, 1] rfl (by decide)) rfl rfl hl.1 rfl (lv_room (Nat.le_of_ble_eq_true rfl)) dX11_broke_61 ⟨Nat.le_of_ble_eq_true rfl, Nat.le_of_ble_eq_true rfl⟩) hP hD hS hA [0, 1] [] rfl rfl (by decide) (by decide) (fun r_94 sc4_96 H locs w_95 hP hD hS => ?_)
      have hP : va_P D vwCl [(k, .inr (11, [.ref k0, .ref k1, .ref k2, .int c3, .ref k4, .ref k5, .ref k6, .ref k7, .ref k8, .int c9, .ref ka, .ref kb, .int cc, .int cd, .int ce, .int cf, .int cg, .int ch, .int ci, .int cj, .int ck, .ref kl, .int cm, .int cn, .ref ko])), (k4, .inl (cI, 6, .inl sc4_96))] H := hP
      have hD : va_D A [(k, .inr (11, [.ref k0, .ref k1, .ref k2, .int c3, .ref k4, .ref k5, .ref k6, .ref k7, .ref k8, .int c9, .ref ka, .ref kb, .int cc, .int cd, .int ce, .int cf, .int cg, .int ch, .int ci, .int cj, .int ck, .ref kl, .int cm, .int cn, .ref ko])), (k4, .inl (cI, 6, .inl sc4_96))] := hD
      have hr_94 := w_95
      obtain rfl : r_94 = (-1000001) := hr_94.trans (by decide)
      exact hRet sc4_96 [0, 1] (by unfold sp_broke; first | (rw [if_neg (by omega)]; first | decide | omega) | (rw [if_pos (by omega), if_neg (by omega)]; first | decide | omega) | (rw [if_pos (by omega), if_pos (by omega)]; omega)) hP hD (by decide) rfl hS rfl dX11_broke_64
  · have h_6 : a0.toInt < 0 ∨ 39 < a0.toInt := h_6
    obtain rfl : r_1 = 0 := hr_1.trans (by decide)
    refine b_if_eq hx hb zl_0 (tgt := 58) dX11_broke_4 (by decide) (fun c_97 => ?_) (fun c_97 => by exfalso; omega)
    refine lv_aload_n hx hb dX11_broke_58 rfl (lv_at hl 0 rfl) ?_
    refine lv_ldc (v := (-1000001)) hx hb hown (hT _ mw_1239) dX11_broke_59 ?_
    refine kJi (wr := []) (va_runV (As := [.int (-1000001)]) (rest := []) ⟨hx, hb, hml, hown, hT⟩ (c_X11_findingG l D cI aK aV k k0 k1 k2 k4 k5 k6 k7 k8 ka kb kl ko H.size c3 c9 cc cd ce cf cg ch ci cj ck cm cn c4 (-1000001) (by first | omega | (simp only [zl_m1000001] <;> omega) | decide | assumption | rfl) (by first | omega | (simp only [zl_m1000001] <;> omega) | decide | assumption | rfl)) (cwV 1 hT (gV_in mw_1243 mw_1240 mw_1242 mw_p3_8 mw_12) rfl rfl rfl (by decide +kernel) ⟨Nat.le_of_ble_eq_true rfl, Nat.le_of_ble_eq_true rfl⟩) (kRecvX (q0 := 0) (ci := 11) hK hP hD hN hXS hS hA rfl rfl [0, 1] rfl (by decide)) rfl rfl hl.1 rfl (lv_room (Nat.le_of_ble_eq_true rfl)) dX11_broke_61 ⟨Nat.le_of_ble_eq_true rfl, Nat.le_of_ble_eq_true rfl⟩) hP hD hS hA [0, 1] [] rfl rfl (by decide) (by decide) (fun r_98 sc4_100 H locs w_99 hP hD hS => ?_)
    have hP : va_P D vwCl [(k, .inr (11, [.ref k0, .ref k1, .ref k2, .int c3, .ref k4, .ref k5, .ref k6, .ref k7, .ref k8, .int c9, .ref ka, .ref kb, .int cc, .int cd, .int ce, .int cf, .int cg, .int ch, .int ci, .int cj, .int ck, .ref kl, .int cm, .int cn, .ref ko])), (k4, .inl (cI, 6, .inl sc4_100))] H := hP
    have hD : va_D A [(k, .inr (11, [.ref k0, .ref k1, .ref k2, .int c3, .ref k4, .ref k5, .ref k6, .ref k7, .ref k8, .int c9, .ref ka, .ref kb, .int cc, .int cd, .int ce, .int cf, .int cg, .int ch, .int ci, .int cj, .int ck, .ref kl, .int cm, .int cn, .ref ko])), (k4, .inl (cI, 6, .inl sc4_100))] := hD
    have hr_98 := w_99
    obtain rfl : r_98 = (-1000001) := hr_98.trans (by decide)
    exact hRet sc4_100 [0, 1] (by unfold sp_broke; first | (rw [if_neg (by omega)]; first | decide | omega) | (rw [if_pos (by omega), if_neg (by omega)]; first | decide | omega) | (rw [if_pos (by omega), if_pos (by omega)]; omega)) hP hD (by decide) rfl hS rfl dX11_broke_64