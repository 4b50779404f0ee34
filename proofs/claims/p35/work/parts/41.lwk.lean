def LWK (p : Program) (l : Launch) (e : Env) (s : State) (m : MethodId) (below : List Frame) (meth : Method) (c : Code) (b : Nat) (D : va_G) (cI : ClassId) (A : Nat → Prop) (k k0 k1 k2 k3 k4 k5 k6 k7 k8 k9 ka kb k00 k01 k02 k03 k04 k05 k10 k11 k12 k13 k14 k15 k20 k21 k22 k23 k24 k25 k30 k31 k32 k33 k34 k40 k41 k42 k43 k44 k50 k60 k61 k62 k63 k64 k70 k71 k80 k81 k90 ka0 ka1 ka2 k040 k041 k042 k043 k044 k045 k046 k047 k048 k050 k140 k141 k142 k143 k144 k145 k146 k147 k148 k150 k240 k241 k242 k243 k244 k245 k246 k247 k248 k250 o o0 o1 o2 o4 o5 o6 o7 o8 oa ob ol oo : Nat) (pc : Nat) (i : Int32) : Prop :=
  ∀ (cc : Int32) (c06 : Int32) (c07 : Int32) (c08 : Int32) (c16 : Int32) (c17 : Int32) (c18 : Int32) (c26 : Int32) (c27 : Int32) (c28 : Int32) (c35 : Int32) (c36 : Int32) (c45 : Int32) (c46 : Int32) (c51 : Int32) (c52 : Int32) (c53 : Int32) (c54 : Int32) (c55 : Int32) (c56 : Int32) (c57 : Int32) (c65 : Int32) (c72 : Int32) (c73 : Int32) (c91 : Int32) (c92 : Int32) (c93 : Int32) (c94 : Int32) (cb : Nat → Int32) (c00 : Nat → Int32) (c01 : Nat → Int32) (c02 : Nat → Int32) (c03 : Nat → Int32) (c049 : Int32) (c051 : Int32) (c10 : Nat → Int32) (c11 : Nat → Int32) (c12 : Nat → Int32) (c13 : Nat → Int32) (c149 : Int32) (c151 : Int32) (c20 : Nat → Int32) (c21 : Nat → Int32) (c22 : Nat → Int32) (c23 : Nat → Int32) (c249 : Int32) (c251 : Int32) (c30 : Nat → Int32) (c31 : Nat → Int32) (c32 : Nat → Int32) (c33 : Nat → Int32) (c34 : Nat → Int32) (c40 : Nat → Int32) (c41 : Nat → Int32) (c42 : Nat → Int32) (c43 : Nat → Int32) (c44 : Nat → Int32) (c50 : Nat → Int32) (c60 : Nat → Int32) (c61 : Nat → Int32) (c62 : Nat → Int32) (c63 : Nat → Int32) (c64 : Nat → Int32) (c70 : Nat → Int32) (c71 : Nat → Int32) (c80 : Nat → Int32) (c81 : Nat → Int32) (c90 : Nat → Int32) (ca0 : Nat → Int32) (ca1 : Nat → Int32) (ca2 : Nat → Int32) (c040 : Nat → Int32) (c041 : Nat → Int32) (c042 : Nat → Int32) (c043 : Nat → Int32) (c044 : Nat → Int32) (c045 : Nat → Int32) (c046 : Nat → Int32) (c047 : Nat → Int32) (c048 : Nat → Int32) (c050 : Nat → Int32) (c140 : Nat → Int32) (c141 : Nat → Int32) (c142 : Nat → Int32) (c143 : Nat → Int32) (c144 : Nat → Int32) (c145 : Nat → Int32) (c146 : Nat → Int32) (c147 : Nat → Int32) (c148 : Nat → Int32) (c150 : Nat → Int32) (c240 : Nat → Int32) (c241 : Nat → Int32) (c242 : Nat → Int32) (c243 : Nat → Int32) (c244 : Nat → Int32) (c245 : Nat → Int32) (c246 : Nat → Int32) (c247 : Nat → Int32) (c248 : Nat → Int32) (c250 : Nat → Int32) (x3 : Int32) (x9 : Int32) (xc : Int32) (xd : Int32) (xe : Int32) (xf : Int32) (xg : Int32) (xh : Int32) (xi : Int32) (xj : Int32) (xk : Int32) (xm : Int32) (xn : Int32) (x0 : Nat → Int32) (x1 : Nat → Int32) (x2 : Nat → Int32) (x4 : Nat → Int32) (x5 : Nat → Int32) (x6 : Nat → Int32) (x7 : Nat → Int32) (x8 : Nat → Int32) (xa : Nat → Int32) (xb : Nat → Int32) (xl : Nat → Int32) (xo : Nat → Int32), (∀ k : Nat, k < 4 → 0 ≤ (ca1 k).toInt ∧ (ca1 k).toInt ≤ 36) → SIX x0 (-1) → SIX x1 (-1) → (∀ k : Nat, k < 4 → 0 ≤ (x6 k).toInt ∧ (x6 k).toInt ≤ 36) → 0 ≤ x9.toInt → x9.toInt ≤ 40 → ∀ (ls : Array Slot) (H : Heap) (locs : List Loc), lv_has ls 4 [(3, .int i), (2, .ref o), (1, .ref k), (0, .ref b)] → va_P D vwCl [(k, .inr (10, [.ref k0, .ref k1, .ref k2, .ref k3, .ref k4, .ref k5, .ref k6, .ref k7, .ref k8, .ref k9, .ref ka, .ref kb, .int cc])), (k0, .inr (9, [.ref k00, .ref k01, .ref k02, .ref k03, .ref k04, .ref k05, .int c06, .int c07, .int c08])), (k1, .inr (9, [.ref k10, .ref k11, .ref k12, .ref k13, .ref k14, .ref k15, .int c16, .int c17, .int c18])), (k2, .inr (9, [.ref k20, .ref k21, .ref k22, .ref k23, .ref k24, .ref k25, .int c26, .int c27, .int c28])), (k3, .inr (4, [.ref k30, .ref k31, .ref k32, .ref k33, .ref k34, .int c35, .int c36])), (k4, .inr (4, [.ref k40, .ref k41, .ref k42, .ref k43, .ref k44, .int c45, .int c46])), (k5, .inr (5, [.ref k50, .int c51, .int c52, .int c53, .int c54, .int c55, .int c56, .int c57])), (k6, .inr (0, [.ref k60, .ref k61, .ref k62, .ref k63, .ref k64, .int c65])), (k7, .inr (1, [.ref k70, .ref k71, .int c72, .int c73])), (k8, .inr (2, [.ref k80, .ref k81])), (k9, .inr (7, [.ref k90, .int c91, .int c92, .int c93, .int c94])), (ka, .inr (6, [.ref ka0, .ref ka1, .ref ka2])), (kb, .inl (cI, 6, .inl cb)), (k00, .inl (cI, 12, .inl c00)), (k01, .inl (cI, 40, .inl c01)), (k02, .inl (cI, 40, .inl c02)), (k03, .inl (cI, 20, .inl c03)), (k04, .inr (8, [.ref k040, .ref k041, .ref k042, .ref k043, .ref k044, .ref k045, .ref k046, .ref k047, .ref k048, .int c049])), (k05, .inr (3, [.ref k050, .int c051])), (k10, .inl (cI, 12, .inl c10)), (k11, .inl (cI, 40, .inl c11)), (k12, .inl (cI, 40, .inl c12)), (k13, .inl (cI, 20, .inl c13)), (k14, .inr (8, [.ref k140, .ref k141, .ref k142, .ref k143, .ref k144, .ref k145, .ref k146, .ref k147, .ref k148, .int c149])), (k15, .inr (3, [.ref k150, .int c151])), (k20, .inl (cI, 12, .inl c20)), (k21, .inl (cI, 40, .inl c21)), (k22, .inl (cI, 40, .inl c22)), (k23, .inl (cI, 20, .inl c23)), (k24, .inr (8, [.ref k240, .ref k241, .ref k242, .ref k243, .ref k244, .ref k245, .ref k246, .ref k247, .ref k248, .int c249])), (k25, .inr (3, [.ref k250, .int c251])), (k30, .inl (cI, 50, .inl c30)), (k31, .inl (cI, 600, .inl c31)), (k32, .inl (cI, 12, .inl c32)), (k33, .inl (cI, 12, .inl c33)), (k34, .inl (cI, 12, .inl c34)), (k40, .inl (cI, 50, .inl c40)), (k41, .inl (cI, 600, .inl c41)), (k42, .inl (cI, 12, .inl c42)), (k43, .inl (cI, 12, .inl c43)), (k44, .inl (cI, 12, .inl c44)), (k50, .inl (cI, 50, .inl c50)), (k60, .inl (cI, 41, .inl c60)), (k61, .inl (cI, 41, .inl c61)), (k62, .inl (cI, 60, .inl c62)), (k63, .inl (cI, 60, .inl c63)), (k64, .inl (cI, 60, .inl c64)), (k70, .inl (cI, 5409, .inl c70)), (k71, .inl (cI, 8, .inl c71)), (k80, .inl (cI, 40, .inl c80)), (k81, .inl (cI, 40, .inl c81)), (k90, .inl (cI, 40, .inl c90)), (ka0, .inl (cI, 4, .inl ca0)), (ka1, .inl (cI, 4, .inl ca1)), (ka2, .inl (cI, 144, .inl ca2)), (k040, .inl (cI, 60, .inl c040)), (k041, .inl (cI, 60, .inl c041)), (k042, .inl (cI, 60, .inl c042)), (k043, .inl (cI, 60, .inl c043)), (k044, .inl (cI, 60, .inl c044)), (k045, .inl (cI, 60, .inl c045)), (k046, .inl (cI, 40, .inl c046)), (k047, .inl (cI, 40, .inl c047)), (k048, .inl (cI, 40, .inl c048)), (k050, .inl (cI, 36, .inl c050)), (k140, .inl (cI, 60, .inl c140)), (k141, .inl (cI, 60, .inl c141)), (k142, .inl (cI, 60, .inl c142)), (k143, .inl (cI, 60, .inl c143)), (k144, .inl (cI, 60, .inl c144)), (k145, .inl (cI, 60, .inl c145)), (k146, .inl (cI, 40, .inl c146)), (k147, .inl (cI, 40, .inl c147)), (k148, .inl (cI, 40, .inl c148)), (k150, .inl (cI, 36, .inl c150)), (k240, .inl (cI, 60, .inl c240)), (k241, .inl (cI, 60, .inl c241)), (k242, .inl (cI, 60, .inl c242)), (k243, .inl (cI, 60, .inl c243)), (k244, .inl (cI, 60, .inl c244)), (k245, .inl (cI, 60, .inl c245)), (k246, .inl (cI, 40, .inl c246)), (k247, .inl (cI, 40, .inl c247)), (k248, .inl (cI, 40, .inl c248)), (k250, .inl (cI, 36, .inl c250)), (o, .inr (11, [.ref o0, .ref o1, .ref o2, .int x3, .ref o4, .ref o5, .ref o6, .ref o7, .ref o8, .int x9, .ref oa, .ref ob, .int xc, .int xd, .int xe, .int xf, .int xg, .int xh, .int xi, .int xj, .int xk, .ref ol, .int xm, .int xn, .ref oo])), (o0, .inl (cI, 1201, .inl x0)), (o1, .inl (cI, 1201, .inl x1)), (o2, .inl (cI, 1201, .inl x2)), (o4, .inl (cI, 6, .inl x4)), (o5, .inl (cI, 4, .inl x5)), (o6, .inl (cI, 4, .inl x6)), (o7, .inl (cI, 144, .inl x7)), (o8, .inl (cI, 40, .inl x8)), (oa, .inl (cI, 60, .inl xa)), (ob, .inl (cI, 60, .inl xb)), (ol, .inl (cI, 8, .inl xl)), (oo, .inl (cI, 36, .inl xo))] H → va_D A [(k, .inr (10, [.ref k0, .ref k1, .ref k2, .ref k3, .ref k4, .ref k5, .ref k6, .ref k7, .ref k8, .ref k9, .ref ka, .ref kb, .int cc])), (k0, .inr (9, [.ref k00, .ref k01, .ref k02, .ref k03, .ref k04, .ref k05, .int c06, .int c07, .int c08])), (k1, .inr (9, [.ref k10, .ref k11, .ref k12, .ref k13, .ref k14, .ref k15, .int c16, .int c17, .int c18])), (k2, .inr (9, [.ref k20, .ref k21, .ref k22, .ref k23, .ref k24, .ref k25, .int c26, .int c27, .int c28])), (k3, .inr (4, [.ref k30, .ref k31, .ref k32, .ref k33, .ref k34, .int c35, .int c36])), (k4, .inr (4, [.ref k40, .ref k41, .ref k42, .ref k43, .ref k44, .int c45, .int c46])), (k5, .inr (5, [.ref k50, .int c51, .int c52, .int c53, .int c54, .int c55, .int c56, .int c57])), (k6, .inr (0, [.ref k60, .ref k61, .ref k62, .ref k63, .ref k64, .int c65])), (k7, .inr (1, [.ref k70, .ref k71, .int c72, .int c73])), (k8, .inr (2, [.ref k80, .ref k81])), (k9, .inr (7, [.ref k90, .int c91, .int c92, .int c93, .int c94])), (ka, .inr (6, [.ref ka0, .ref ka1, .ref ka2])), (kb, .inl (cI, 6, .inl cb)), (k00, .inl (cI, 12, .inl c00)), (k01, .inl (cI, 40, .inl c01)), (k02, .inl (cI, 40, .inl c02)), (k03, .inl (cI, 20, .inl c03)), (k04, .inr (8, [.ref k040, .ref k041, .ref k042, .ref k043, .ref k044, .ref k045, .ref k046, .ref k047, .ref k048, .int c049])), (k05, .inr (3, [.ref k050, .int c051])), (k10, .inl (cI, 12, .inl c10)), (k11, .inl (cI, 40, .inl c11)), (k12, .inl (cI, 40, .inl c12)), (k13, .inl (cI, 20, .inl c13)), (k14, .inr (8, [.ref k140, .ref k141, .ref k142, .ref k143, .ref k144, .ref k145, .ref k146, .ref k147, .ref k148, .int c149])), (k15, .inr (3, [.ref k150, .int c151])), (k20, .inl (cI, 12, .inl c20)), (k21, .inl (cI, 40, .inl c21)), (k22, .inl (cI, 40, .inl c22)), (k23, .inl (cI, 20, .inl c23)), (k24, .inr (8, [.ref k240, .ref k241, .ref k242, .ref k243, .ref k244, .ref k245, .ref k246, .ref k247, .ref k248, .int c249])), (k25, .inr (3, [.ref k250, .int c251])), (k30, .inl (cI, 50, .inl c30)), (k31, .inl (cI, 600, .inl c31)), (k32, .inl (cI, 12, .inl c32)), (k33, .inl (cI, 12, .inl c33)), (k34, .inl (cI, 12, .inl c34)), (k40, .inl (cI, 50, .inl c40)), (k41, .inl (cI, 600, .inl c41)), (k42, .inl (cI, 12, .inl c42)), (k43, .inl (cI, 12, .inl c43)), (k44, .inl (cI, 12, .inl c44)), (k50, .inl (cI, 50, .inl c50)), (k60, .inl (cI, 41, .inl c60)), (k61, .inl (cI, 41, .inl c61)), (k62, .inl (cI, 60, .inl c62)), (k63, .inl (cI, 60, .inl c63)), (k64, .inl (cI, 60, .inl c64)), (k70, .inl (cI, 5409, .inl c70)), (k71, .inl (cI, 8, .inl c71)), (k80, .inl (cI, 40, .inl c80)), (k81, .inl (cI, 40, .inl c81)), (k90, .inl (cI, 40, .inl c90)), (ka0, .inl (cI, 4, .inl ca0)), (ka1, .inl (cI, 4, .inl ca1)), (ka2, .inl (cI, 144, .inl ca2)), (k040, .inl (cI, 60, .inl c040)), (k041, .inl (cI, 60, .inl c041)), (k042, .inl (cI, 60, .inl c042)), (k043, .inl (cI, 60, .inl c043)), (k044, .inl (cI, 60, .inl c044)), (k045, .inl (cI, 60, .inl c045)), (k046, .inl (cI, 40, .inl c046)), (k047, .inl (cI, 40, .inl c047)), (k048, .inl (cI, 40, .inl c048)), (k050, .inl (cI, 36, .inl c050)), (k140, .inl (cI, 60, .inl c140)), (k141, .inl (cI, 60, .inl c141)), (k142, .inl (cI, 60, .inl c142)), (k143, .inl (cI, 60, .inl c143)), (k144, .inl (cI, 60, .inl c144)), (k145, .inl (cI, 60, .inl c145)), (k146, .inl (cI, 40, .inl c146)), (k147, .inl (cI, 40, .inl c147)), (k148, .inl (cI, 40, .inl c148)), (k150, .inl (cI, 36, .inl c150)), (k240, .inl (cI, 60, .inl c240)), (k241, .inl (cI, 60, .inl c241)), (k242, .inl (cI, 60, .inl c242)), (k243, .inl (cI, 60, .inl c243)), (k244, .inl (cI, 60, .inl c244)), (k245, .inl (cI, 60, .inl c245)), (k246, .inl (cI, 40, .inl c246)), (k247, .inl (cI, 40, .inl c247)), (k248, .inl (cI, 40, .inl c248)), (k250, .inl (cI, 36, .inl c250)), (o, .inr (11, [.ref o0, .ref o1, .ref o2, .int x3, .ref o4, .ref o5, .ref o6, .ref o7, .ref o8, .int x9, .ref oa, .ref ob, .int xc, .int xd, .int xe, .int xf, .int xg, .int xh, .int xi, .int xj, .int xk, .ref ol, .int xm, .int xn, .ref oo])), (o0, .inl (cI, 1201, .inl x0)), (o1, .inl (cI, 1201, .inl x1)), (o2, .inl (cI, 1201, .inl x2)), (o4, .inl (cI, 6, .inl x4)), (o5, .inl (cI, 4, .inl x5)), (o6, .inl (cI, 4, .inl x6)), (o7, .inl (cI, 144, .inl x7)), (o8, .inl (cI, 40, .inl x8)), (oa, .inl (cI, 60, .inl xa)), (ob, .inl (cI, 60, .inl xb)), (ol, .inl (cI, 8, .inl xl)), (oo, .inl (cI, 36, .inl xo))] → va_S A s.heap H locs → W p l e room_1 s m #[Value.ref b] below meth c H locs 98 13371 (lw_Z below #[Value.ref b] s) (F0 m pc ls [])
def sp_sheet (a b d : Int32) : Int32 := if 0 ≤ a.toInt ∧ a.toInt ≤ 3 ∧ (b.toInt = 0 ∨ b.toInt = 8 ∨ b.toInt = 16 ∨ b.toInt = 32) then (if b.toInt ≠ 0 ∧ d.toInt < 0 then (-1000003) else if b.toInt ≠ 0 ∧ 36 < d.toInt then (-1000001) else 1) else (-1000001)
set_option maxHeartbeats 4000000 in
set_option maxRecDepth 100000 in
theorem c_X10_findingH (l : Launch) (D : va_G) (cI : ClassId) (aK aV : Nat → Nat) (k k0 k1 k2 k3 k4 k5 k6 k7 k8 k9 ka kb : Nat) (sz : Nat) (cc : Int32) (cb : Nat → Int32) (a0 : Int32) (pre0 : 1 ≤ a0.toInt) (pre1 : a0.toInt ≤ 5) : Met l yX10_finding (gW yX10_finding cX10_finding 2 (some .int)) ({ frames := 0, cells := 0, slots := 0, locals := 0 } : Room) (kPreX D cI aK aV [.ref k, .int a0] [(k, .inr (10, [.ref k0, .ref k1, .ref k2, .ref k3, .ref k4, .ref k5, .ref k6, .ref k7, .ref k8, .ref k9, .ref ka, .ref kb, .int cc])), (kb, .inl (cI, 6, .inl cb))] sz) (va_Qi (fun (r : Int32) (u : (Nat → Int32)) => r = (-1000000) - a0) (fun u t => kWd D cI (va_A [(k, .inr (10, [.ref k0, .ref k1, .ref k2, .ref k3, .ref k4, .ref k5, .ref k6, .ref k7, .ref k8, .ref k9, .ref ka, .ref kb, .int cc])), (kb, .inl (cI, 6, .inl cb))] sz) [(k, .inr (10, [.ref k0, .ref k1, .ref k2, .ref k3, .ref k4, .ref k5, .ref k6, .ref k7, .ref k8, .ref k9, .ref ka, .ref kb, .int cc])), (kb, .inl (cI, 6, .inl u))] t) (va_A [(k, .inr (10, [.ref k0, .ref k1, .ref k2, .ref k3, .ref k4, .ref k5, .ref k6, .ref k7, .ref k8, .ref k9, .ref ka, .ref kb, .int cc])), (kb, .inl (cI, 6, .inl cb))] sz)) 0 0 (va_A [(k, .inr (10, [.ref k0, .ref k1, .ref k2, .ref k3, .ref k4, .ref k5, .ref k6, .ref k7, .ref k8, .ref k9, .ref ka, .ref kb, .int cc])), (kb, .inl (cI, 6, .inl cb))] sz) := by
  refine kMetIX (own := RX10) (by decide) rfl (Nat.le_of_ble_eq_true rfl) ?_
  intro p e s m args below meth c hx hb hT hown hname hml A Q hK hP hD hS hA hN hXS hRet ls hl
  have hl : lv_has ls 2 [(0, .ref k), (1, .int a0)] := hl
  have lo_a0 := k_lo a0
  have hi_a0 := k_hi a0
  have lo_cc := k_lo cc
  have hi_cc := k_hi cc
  refine lv_iload_n hx hb dX10_finding_0 rfl (lv_at hl 1 rfl) ?_
  refine b_if_le hx hb rfl (tgt := 19) dX10_finding_1 (by decide) (fun c_1 => by exfalso; omega) (fun c_1 => ?_)
  refine lv_iload_n hx hb dX10_finding_4 rfl (lv_at hl 1 rfl) ?_
  refine lv_iconst (v := 5) hx hb dX10_finding_5 (by decide) ?_
  refine b_icmp_gt hx hb rfl zl_5 (tgt := 19) dX10_finding_6 (by decide) (fun c_2 => by exfalso; omega) (fun c_2 => ?_)
  refine lv_aload_n hx hb dX10_finding_9 rfl (lv_at hl 0 rfl) ?_
  refine va_get (D := D) (ci := 10) (v := .ref kb) (C := RX10) (T := TX10) (N := 13) hx hb hT giX10 hown hK hP 0 rfl rfl 11 (by decide) (hT (Cond.fieldLink RX10 74 "DesertWire" "findings" "[I") mw_302) (fun _ h9 => h9) rfl dX10_finding_10 ?_
  refine lv_iload_n hx hb dX10_finding_13 rfl (lv_at hl 1 rfl) ?_
  refine lv_dup2_11 hx hb dX10_finding_14 rfl rfl ?_
  refine k_iald (v := (cb a0.toNatClampNeg)) hx hb hK hP 1 0 rfl rfl (k_in (by omega) (by omega)) rfl dX10_finding_15 ?_
  refine lv_topi (fun v_3 ev_3 => ?_)
  have lo_v_3 := k_lo v_3
  have hi_v_3 := k_hi v_3
  have tv_3 : v_3.toInt = (cb a0.toNatClampNeg).toInt := by rw [ev_3]
  refine lv_iconst (v := 1) hx hb dX10_finding_16 (by decide) ?_
  refine lv_iadd hx hb dX10_finding_17 ?_
  refine lv_topi (fun v_4 ev_4 => ?_)
  have lo_v_4 := k_lo v_4
  have hi_v_4 := k_hi v_4
  refine va_iast hx hb hK hP hD hS 1 0 rfl rfl (k_in (by omega) (by omega)) dX10_finding_18 (fun H locs hP hD hS => ?_)
  have hP : va_P D vwCl [(k, .inr (10, [.ref k0, .ref k1, .ref k2, .ref k3, .ref k4, .ref k5, .ref k6, .ref k7, .ref k8, .ref k9, .ref ka, .ref kb, .int cc])), (kb, .inl (cI, 6, .inl (upd cb a0.toNatClampNeg v_4)))] H := hP
  have hD : va_D A [(k, .inr (10, [.ref k0, .ref k1, .ref k2, .ref k3, .ref k4, .ref k5, .ref k6, .ref k7, .ref k8, .ref k9, .ref ka, .ref kb, .int cc])), (kb, .inl (cI, 6, .inl (upd cb a0.toNatClampNeg v_4)))] := hD
  obtain ⟨f_5, ef_5⟩ : ∃ g : Nat → Int32, g = upd cb a0.toNatClampNeg v_4 := ⟨_, rfl⟩
  rw [← ef_5] at hP hD
  refine lv_ldcw (v := (-1000000)) hx hb hown (hT _ mw_339) dX10_finding_19 ?_
  refine lv_iload_n hx hb dX10_finding_22 rfl (lv_at hl 1 rfl) ?_
  refine lv_isub hx hb dX10_finding_23 ?_
  refine lv_topi (fun v_6 ev_6 => ?_)
  have tv_6 : v_6.toInt = (-1000000) - a0.toInt := by rw [ev_6]; exact k_subv zl_m1000000 rfl (by omega) (by omega)
  exact hRet f_5 [0, 1] ev_6 hP hD (by decide) rfl hS rfl dX10_finding_24

set_option maxHeartbeats 4000000 in
set_option maxRecDepth 100000 in
theorem c_X10_sheetP (l : Launch) (D : va_G) (cI : ClassId) (aK aV : Nat → Nat) (k k0 k1 k2 k3 k4 k5 k6 k7 k8 k9 ka kb ka0 ka1 ka2 : Nat) (sz : Nat) (cc : Int32) (cb : Nat → Int32) (ca0 : Nat → Int32) (ca1 : Nat → Int32) (ca2 : Nat → Int32) (a0 : Int32) (a1 : Int32) (a2 : Int32) (pre0 : ∀ k : Nat, k < 4 → 0 ≤ (ca1 k).toInt ∧ (ca1 k).toInt ≤ 36) : Met l yX10_sheet (gW yX10_sheet cX10_sheet 4 (some .int)) ({ frames := 2, cells := 0, slots := 0, locals := 44 } : Room) (kPreX D cI aK aV [.ref k, .int a0, .int a1, .int a2] [(k, .inr (10, [.ref k0, .ref k1, .ref k2, .ref k3, .ref k4, .ref k5, .ref k6, .ref k7, .ref k8, .ref k9, .ref ka, .ref kb, .int cc])), (ka, .inr (6, [.ref ka0, .ref ka1, .ref ka2])), (kb, .inl (cI, 6, .inl cb)), (ka0, .inl (cI, 4, .inl ca0)), (ka1, .inl (cI, 4, .inl ca1)), (ka2, .inl (cI, 144, .inl ca2))] sz) (va_Qi (fun (r : Int32) (u : (Nat → Int32) × (Nat → Int32) × (Nat → Int32) × (Nat → Int32)) => r = sp_sheet a0 a1 a2 ∧ (∀ k : Nat, k < 4 → 0 ≤ (u.2.2.1 k).toInt ∧ (u.2.2.1 k).toInt ≤ 36)) (fun u t => kWd D cI (va_A [(k, .inr (10, [.ref k0, .ref k1, .ref k2, .ref k3, .ref k4, .ref k5, .ref k6, .ref k7, .ref k8, .ref k9, .ref ka, .ref kb, .int cc])), (ka, .inr (6, [.ref ka0, .ref ka1, .ref ka2])), (kb, .inl (cI, 6, .inl cb)), (ka0, .inl (cI, 4, .inl ca0)), (ka1, .inl (cI, 4, .inl ca1)), (ka2, .inl (cI, 144, .inl ca2))] sz) [(k, .inr (10, [.ref k0, .ref k1, .ref k2, .ref k3, .ref k4, .ref k5, .ref k6, .ref k7, .ref k8, .ref k9, .ref ka, .ref kb, .int cc])), (ka, .inr (6, [.ref ka0, .ref ka1, .ref ka2])), (kb, .inl (cI, 6, .inl u.1)), (ka0, .inl (cI, 4, .inl u.2.1)), (ka1, .inl (cI, 4, .inl u.2.2.1)), (ka2, .inl (cI, 144, .inl u.2.2.2))] t) (va_A [(k, .inr (10, [.ref k0, .ref k1, .ref k2, .ref k3, .ref k4, .ref k5, .ref k6, .ref k7, .ref k8, .ref k9, .ref ka, .ref kb, .int cc])), (ka, .inr (6, [.ref ka0, .ref ka1, .ref ka2])), (kb, .inl (cI, 6, .inl cb)), (ka0, .inl (cI, 4, .inl ca0)), (ka1, .inl (cI, 4, .inl ca1)), (ka2, .inl (cI, 144, .inl ca2))] sz)) 0 0 (va_A [(k, .inr (10, [.ref k0, .ref k1, .ref k2, .ref k3, .ref k4, .ref k5, .ref k6, .ref k7, .ref k8, .ref k9, .ref ka, .ref kb, .int cc])), (ka, .inr (6, [.ref ka0, .ref ka1, .ref ka2])), (kb, .inl (cI, 6, .inl cb)), (ka0, .inl (cI, 4, .inl ca0)), (ka1, .inl (cI, 4, .inl ca1)), (ka2, .inl (cI, 144, .inl ca2))] sz) := by
  refine kMetIX (own := RX10) (by decide) rfl (Nat.le_of_ble_eq_true rfl) ?_
  intro p e s m args below meth c hx hb hT hown hname hml A Q hK hP hD hS hA hN hXS hRet ls hl
  have hl : lv_has ls 4 [(0, .ref k), (1, .int a0), (2, .int a1), (3, .int a2)] := hl
  have lo_a0 := k_lo a0
  have hi_a0 := k_hi a0
  have lo_a1 := k_lo a1
  have hi_a1 := k_hi a1
  have lo_a2 := k_lo a2
  have hi_a2 := k_hi a2
  have lo_cc := k_lo cc
  have hi_cc := k_hi cc
  refine lv_iload_n hx hb dX10_sheet_0 rfl (lv_at hl 1 rfl) ?_
  refine kJi (wr := [(k, .inr (10, [.ref k0, .ref k1, .ref k2, .ref k3, .ref k4, .ref k5, .ref k6, .ref k7, .ref k8, .ref k9, .ref ka, .ref kb, .int cc])), (ka, .inr (6, [.ref ka0, .ref ka1, .ref ka2])), (kb, .inl (cI, 6, .inl cb)), (ka0, .inl (cI, 4, .inl ca0)), (ka1, .inl (cI, 4, .inl ca1)), (ka2, .inl (cI, 144, .inl ca2))]) (va_runS (As := [.int a0]) (rest := []) ⟨hx, hb, hml, hown, hT⟩ (c_X10_isSheetG l D cI aK aV s.heap.size a0) (cwS 1 hT (gS_in mw_662 mw_660 mw_661 mw_1) rfl rfl rfl (by decide +kernel) ⟨Nat.le_of_ble_eq_true rfl, Nat.le_of_ble_eq_true rfl⟩) (kStatX hK hP hD hN hXS hS hA [] rfl (by decide)) rfl rfl hl.1 rfl (lv_room (Nat.le_of_ble_eq_true rfl)) dX10_sheet_1 ⟨Nat.le_of_ble_eq_true rfl, Nat.le_of_ble_eq_true rfl⟩) hP hD hS hA [] [0, 1, 2, 3, 4, 5] rfl rfl (by decide) (by decide) (fun r_1 u_3 H locs w_2 hP hD hS => ?_)
  have hP : va_P D vwCl [(k, .inr (10, [.ref k0, .ref k1, .ref k2, .ref k3, .ref k4, .ref k5, .ref k6, .ref k7, .ref k8, .ref k9, .ref ka, .ref kb, .int cc])), (ka, .inr (6, [.ref ka0, .ref ka1, .ref ka2])), (kb, .inl (cI, 6, .inl cb)), (ka0, .inl (cI, 4, .inl ca0)), (ka1, .inl (cI, 4, .inl ca1)), (ka2, .inl (cI, 144, .inl ca2))] H := hP
  have hD : va_D A [(k, .inr (10, [.ref k0, .ref k1, .ref k2, .ref k3, .ref k4, .ref k5, .ref k6, .ref k7, .ref k8, .ref k9, .ref ka, .ref kb, .int cc])), (ka, .inr (6, [.ref ka0, .ref ka1, .ref ka2])), (kb, .inl (cI, 6, .inl cb)), (ka0, .inl (cI, 4, .inl ca0)), (ka1, .inl (cI, 4, .inl ca1)), (ka2, .inl (cI, 144, .inl ca2))] := hD
  rcases w_2 with ⟨hr_1, h_4, h_5⟩ | ⟨hr_1, h_6⟩
  · have h_4 : 0 ≤ a0.toInt := h_4
    have h_5 : a0.toInt ≤ 3 := h_5
    obtain rfl : r_1 = 1 := hr_1.trans (by decide)
    refine b_if_eq hx hb zl_1 (tgt := 29) dX10_sheet_4 (by decide) (fun c_7 => by exfalso; omega) (fun c_7 => ?_)
    refine lv_iload_n hx hb dX10_sheet_7 rfl (lv_at hl 2 rfl) ?_
    refine b_if_eq hx hb rfl (tgt := 35) dX10_sheet_8 (by decide) (fun c_8 => ?_) (fun c_8 => ?_)
    · refine lv_iload_n hx hb dX10_sheet_35 rfl (lv_at hl 2 rfl) ?_
      refine b_if_eq hx hb rfl (tgt := 49) dX10_sheet_36 (by decide) (fun c_9 => ?_) (fun c_9 => by exfalso; omega)
      refine lv_iload_n hx hb dX10_sheet_49 rfl (lv_at hl 2 rfl) ?_
      refine b_if_eq hx hb rfl (tgt := 65) dX10_sheet_50 (by decide) (fun c_10 => ?_) (fun c_10 => by exfalso; omega)
      refine lv_aload_n hx hb dX10_sheet_65 rfl (lv_at hl 0 rfl) ?_
      refine va_get (D := D) (ci := 10) (v := .ref ka) (C := RX10) (T := TX10) (N := 13) hx hb hT giX10 hown hK hP 0 rfl rfl 10 (by decide) (hT (Cond.fieldLink RX10 70 "DesertWire" "sheets" "LDesertWire$Sheets;") mw_301) (fun _ h9 => h9) rfl dX10_sheet_66 ?_
      refine lv_iload_n hx hb dX10_sheet_69 rfl (lv_at hl 1 rfl) ?_
      refine lv_iload_n hx hb dX10_sheet_70 rfl (lv_at hl 2 rfl) ?_
      refine lv_iload_n hx hb dX10_sheet_71 rfl (lv_at hl 2 rfl) ?_
      refine b_if_ne hx hb rfl (tgt := 79) dX10_sheet_72 (by decide) (fun c_11 => by exfalso; omega) (fun c_11 => ?_)
      refine lv_iconst (v := 0) hx hb dX10_sheet_75 (by decide) ?_
      refine lv_goto (tgt := 80) hx hb dX10_sheet_76 (by decide) ?_
      refine kJv (wr := [(k, .inr (10, [.ref k0, .ref k1, .ref k2, .ref k3, .ref k4, .ref k5, .ref k6, .ref k7, .ref k8, .ref k9, .ref ka, .ref kb, .int cc])), (kb, .inl (cI, 6, .inl cb))]) (va_runV (As := [.int a0, .int a1, .int 0]) (rest := []) ⟨hx, hb, hml, hown, hT⟩ (c_X6_blankG l D cI aK aV ka ka0 ka1 ka2 H.size ca0 ca1 ca2 a0 a1 0 (by first | omega | (simp only [zl_0] <;> omega) | decide | assumption | rfl)) (cwV 3 hT (gV_in mw_1076 mw_1073 mw_1074 mw_1075 mw_11) rfl rfl rfl (by decide +kernel) ⟨Nat.le_of_ble_eq_true rfl, Nat.le_of_ble_eq_true rfl⟩) (kRecvX (q0 := 1) (ci := 6) hK hP hD hN hXS hS hA rfl rfl [1, 3, 4, 5] rfl (by decide)) rfl rfl hl.1 rfl (lv_room (Nat.le_of_ble_eq_true rfl)) dX10_sheet_80 ⟨Nat.le_of_ble_eq_true rfl, Nat.le_of_ble_eq_true rfl⟩) hP hD hS hA [1, 3, 4, 5] [0, 2] rfl rfl (by decide) (by decide) (fun u_17 H locs w_13 hP hD hS => ?_)
      obtain ⟨sc0_14, sc1_15, sc2_16⟩ := u_17
      have hP : va_P D vwCl [(k, .inr (10, [.ref k0, .ref k1, .ref k2, .ref k3, .ref k4, .ref k5, .ref k6, .ref k7, .ref k8, .ref k9, .ref ka, .ref kb, .int cc])), (kb, .inl (cI, 6, .inl cb)), (ka, .inr (6, [.ref ka0, .ref ka1, .ref ka2])), (ka0, .inl (cI, 4, .inl sc0_14)), (ka1, .inl (cI, 4, .inl sc1_15)), (ka2, .inl (cI, 144, .inl sc2_16))] H := hP
      have hD : va_D A [(k, .inr (10, [.ref k0, .ref k1, .ref k2, .ref k3, .ref k4, .ref k5, .ref k6, .ref k7, .ref k8, .ref k9, .ref ka, .ref kb, .int cc])), (kb, .inl (cI, 6, .inl cb)), (ka, .inr (6, [.ref ka0, .ref ka1, .ref ka2])), (ka0, .inl (cI, 4, .inl sc0_14)), (ka1, .inl (cI, 4, .inl sc1_15)), (ka2, .inl (cI, 144, .inl sc2_16))] := hD
      have h_18 := w_13
      try simp only [zl_0] at h_18
      have h_18 : ∀ ka : Nat, ka < 4 → 0 ≤ (sc1_15 ka).toInt ∧ (sc1_15 ka).toInt ≤ 36 := h_18
      refine lv_iconst (v := 1) hx hb dX10_sheet_83 (by decide) ?_
      exact hRet (cb, sc0_14, sc1_15, sc2_16) [0, 2, 1, 3, 4, 5] ⟨(by unfold sp_sheet; repeat (first | rw [if_pos (by omega)] | rw [if_neg (by omega)])), (by assumption)⟩ hP hD (by decide) rfl hS rfl dX10_sheet_84
    · refine lv_iload_n hx hb dX10_sheet_11 rfl (lv_at hl 2 rfl) ?_
      refine lv_bipush (v := 8) hx hb dX10_sheet_12 (by decide) ?_
      refine b_icmp_eq hx hb rfl zl_8 (tgt := 35) dX10_sheet_14 (by decide) (fun c_19 => ?_) (fun c_19 => ?_)
      · refine lv_iload_n hx hb dX10_sheet_35 rfl (lv_at hl 2 rfl) ?_
        refine b_if_eq hx hb rfl (tgt := 49) dX10_sheet_36 (by decide) (fun c_20 => by exfalso; omega) (fun c_20 => ?_)
        refine lv_iload_n hx hb dX10_sheet_39 rfl (lv_at hl 3 rfl) ?_
        refine b_if_ge hx hb rfl (tgt := 49) dX10_sheet_40 (by decide) (fun c_21 => ?_) (fun c_21 => ?_)
        · refine lv_iload_n hx hb dX10_sheet_49 rfl (lv_at hl 2 rfl) ?_
          refine b_if_eq hx hb rfl (tgt := 65) dX10_sheet_50 (by decide) (fun c_22 => by exfalso; omega) (fun c_22 => ?_)
          refine lv_iload_n hx hb dX10_sheet_53 rfl (lv_at hl 3 rfl) ?_
          refine lv_bipush (v := 36) hx hb dX10_sheet_54 (by decide) ?_
          refine b_icmp_le hx hb rfl zl_36 (tgt := 65) dX10_sheet_56 (by decide) (fun c_23 => ?_) (fun c_23 => ?_)
          · refine lv_aload_n hx hb dX10_sheet_65 rfl (lv_at hl 0 rfl) ?_
            refine va_get (D := D) (ci := 10) (v := .ref ka) (C := RX10) (T := TX10) (N := 13) hx hb hT giX10 hown hK hP 0 rfl rfl 10 (by decide) (hT (Cond.fieldLink RX10 70 "DesertWire" "sheets" "LDesertWire$Sheets;") mw_301) (fun _ h9 => h9) rfl dX10_sheet_66 ?_
            refine lv_iload_n hx hb dX10_sheet_69 rfl (lv_at hl 1 rfl) ?_
            refine lv_iload_n hx hb dX10_sheet_70 rfl (lv_at hl 2 rfl) ?_
            refine lv_iload_n hx hb dX10_sheet_71 rfl (lv_at hl 2 rfl) ?_
            refine b_if_ne hx hb rfl (tgt := 79) dX10_sheet_72 (by decide) (fun c_24 => ?_) (fun c_24 => by exfalso; omega)
            refine lv_iload_n hx hb dX10_sheet_79 rfl (lv_at hl 3 rfl) ?_
            refine kJv (wr := [(k, .inr (10, [.ref k0, .ref k1, .ref k2, .ref k3, .ref k4, .ref k5, .ref k6, .ref k7, .ref k8, .ref k9, .ref ka, .ref kb, .int cc])), (kb, .inl (cI, 6, .inl cb))]) (va_runV (As := [.int a0, .int a1, .int a2]) (rest := []) ⟨hx, hb, hml, hown, hT⟩ (c_X6_blankG l D cI aK aV ka ka0 ka1 ka2 H.size ca0 ca1 ca2 a0 a1 a2 (by first | omega | decide | assumption | rfl)) (cwV 3 hT (gV_in mw_1076 mw_1073 mw_1074 mw_1075 mw_11) rfl rfl rfl (by decide +kernel) ⟨Nat.le_of_ble_eq_true rfl, Nat.le_of_ble_eq_true rfl⟩) (kRecvX (q0 := 1) (ci := 6) hK hP hD hN hXS hS hA rfl rfl [1, 3, 4, 5] rfl (by decide)) rfl rfl hl.1 rfl (lv_room (Nat.le_of_ble_eq_true rfl)) dX10_sheet_80 ⟨Nat.le_of_ble_eq_true rfl, Nat.le_of_ble_eq_true rfl⟩) hP hD hS hA [1, 3, 4, 5] [0, 2] rfl rfl (by decide) (by decide) (fun u_30 H locs w_26 hP hD hS => ?_)
            obtain ⟨sc0_27, sc1_28, sc2_29⟩ := u_30
            have hP : va_P D vwCl [(k, .inr (10, [.ref k0, .ref k1, .ref k2, .ref k3, .ref k4, .ref k5, .ref k6, .ref k7, .ref k8, .ref k9, .ref ka, .ref kb, .int cc])), (kb, .inl (cI, 6, .inl cb)), (ka, .inr (6, [.ref ka0, .ref ka1, .ref ka2])), (ka0, .inl (cI, 4, .inl sc0_27)), (ka1, .inl (cI, 4, .inl sc1_28)), (ka2, .inl (cI, 144, .inl sc2_29))] H := hP
            have hD : va_D A [(k, .inr (10, [.ref k0, .ref k1, .ref k2, .ref k3, .ref k4, .ref k5, .ref k6, .ref k7, .ref k8, .ref k9, .ref ka, .ref kb, .int cc])), (kb, .inl (cI, 6, .inl cb)), (ka, .inr (6, [.ref ka0, .ref ka1, .ref ka2])), (ka0, .inl (cI, 4, .inl sc0_27)), (ka1, .inl (cI, 4, .inl sc1_28)), (ka2, .inl (cI, 144, .inl sc2_29))] := hD
            have h_31 := w_26
            have h_31 : ∀ ka : Nat, ka < 4 → 0 ≤ (sc1_28 ka).toInt ∧ (sc1_28 ka).toInt ≤ 36 := h_31
            refine lv_iconst (v := 1) hx hb dX10_sheet_83 (by decide) ?_
            exact hRet (cb, sc0_27, sc1_28, sc2_29) [0, 2, 1, 3, 4, 5] ⟨(by unfold sp_sheet; repeat (first | rw [if_pos (by omega)] | rw [if_neg (by omega)])), (by assumption)⟩ hP hD (by decide) rfl hS rfl dX10_sheet_84
          · refine lv_aload_n hx hb dX10_sheet_59 rfl (lv_at hl 0 rfl) ?_
            refine lv_iconst (v := 1) hx hb dX10_sheet_60 (by decide) ?_
            refine kJi (wr := [(ka, .inr (6, [.ref ka0, .ref ka1, .ref ka2])), (ka0, .inl (cI, 4, .inl ca0)), (ka1, .inl (cI, 4, .inl ca1)), (ka2, .inl (cI, 144, .inl ca2))]) (va_runV (As := [.int 1]) (rest := []) ⟨hx, hb, hml, hown, hT⟩ (c_X10_findingH l D cI aK aV k k0 k1 k2 k3 k4 k5 k6 k7 k8 k9 ka kb H.size cc cb 1 (by first | omega | (simp only [zl_1] <;> omega) | decide | assumption | rfl) (by first | omega | (simp only [zl_1] <;> omega) | decide | assumption | rfl)) (cwV 1 hT (gV_in mw_338 mw_335 mw_337 mw_p1_0 mw_1) rfl rfl rfl (by decide +kernel) ⟨Nat.le_of_ble_eq_true rfl, Nat.le_of_ble_eq_true rfl⟩) (kRecvX (q0 := 0) (ci := 10) hK hP hD hN hXS hS hA rfl rfl [0, 2] rfl (by decide)) rfl rfl hl.1 rfl (lv_room (Nat.le_of_ble_eq_true rfl)) dX10_sheet_61 ⟨Nat.le_of_ble_eq_true rfl, Nat.le_of_ble_eq_true rfl⟩) hP hD hS hA [0, 2] [1, 3, 4, 5] rfl rfl (by decide) (by decide) (fun r_32 scb_34 H locs w_33 hP hD hS => ?_)
            have hP : va_P D vwCl [(ka, .inr (6, [.ref ka0, .ref ka1, .ref ka2])), (ka0, .inl (cI, 4, .inl ca0)), (ka1, .inl (cI, 4, .inl ca1)), (ka2, .inl (cI, 144, .inl ca2)), (k, .inr (10, [.ref k0, .ref k1, .ref k2, .ref k3, .ref k4, .ref k5, .ref k6, .ref k7, .ref k8, .ref k9, .ref ka, .ref kb, .int cc])), (kb, .inl (cI, 6, .inl scb_34))] H := hP
            have hD : va_D A [(ka, .inr (6, [.ref ka0, .ref ka1, .ref ka2])), (ka0, .inl (cI, 4, .inl ca0)), (ka1, .inl (cI, 4, .inl ca1)), (ka2, .inl (cI, 144, .inl ca2)), (k, .inr (10, [.ref k0, .ref k1, .ref k2, .ref k3, .ref k4, .ref k5, .ref k6, .ref k7, .ref k8, .ref k9, .ref ka, .ref kb, .int cc])), (kb, .inl (cI, 6, .inl scb_34))] := hD
            have hr_32 := w_33
            obtain rfl : r_32 = (-1000001) := hr_32.trans (by decide)
            exact hRet (scb_34, ca0, ca1, ca2) [4, 0, 5, 1, 2, 3] ⟨(by unfold sp_sheet; repeat (first | rw [if_pos (by omega)] | rw [if_neg (by omega)])), (by assumption)⟩ hP hD (by decide) rfl hS rfl dX10_sheet_64
        · refine lv_aload_n hx hb dX10_sheet_43 rfl (lv_at hl 0 rfl) ?_
          refine lv_iconst (v := 3) hx hb dX10_sheet_44 (by decide) ?_
          refine kJi (wr := [(ka, .inr (6, [.ref ka0, .ref ka1, .ref ka2])), (ka0, .inl (cI, 4, .inl ca0)), (ka1, .inl (cI, 4, .inl ca1)), (ka2, .inl (cI, 144, .inl ca2))]) (va_runV (As := [.int 3]) (rest := []) ⟨hx, hb, hml, hown, hT⟩ (c_X10_findingH l D cI aK aV k k0 k1 k2 k3 k4 k5 k6 k7 k8 k9 ka kb H.size cc cb 3 (by first | omega | (simp only [zl_3] <;> omega) | decide | assumption | rfl) (by first | omega | (simp only [zl_3] <;> omega) | decide | assumption | rfl)) (cwV 1 hT (gV_in mw_338 mw_335 mw_337 mw_p1_0 mw_1) rfl rfl rfl (by decide +kernel) ⟨Nat.le_of_ble_eq_true rfl, Nat.le_of_ble_eq_true rfl⟩) (kRecvX (q0 := 0) (ci := 10) hK hP hD hN hXS hS hA rfl rfl [0, 2] rfl (by decide)) rfl rfl hl.1 rfl (lv_room (Nat.le_of_ble_eq_true rfl)) dX10_sheet_45 ⟨Nat.le_of_ble_eq_true rfl, Nat.le_of_ble_eq_true rfl⟩) hP hD hS hA [0, 2] [1, 3, 4, 5] rfl rfl (by decide) (by decide) (fun r_35 scb_37 H locs w_36 hP hD hS => ?_)
          have hP : va_P D vwCl [(ka, .inr (6, [.ref ka0, .ref ka1, .ref ka2])), (ka0, .inl (cI, 4, .inl ca0)), (ka1, .inl (cI, 4, .inl ca1)), (ka2, .inl (cI, 144, .inl ca2)), (k, .inr (10, [.ref k0, .ref k1, .ref k2, .ref k3, .ref k4, .ref k5, .ref k6, .ref k7, .ref k8, .ref k9, .ref ka, .ref kb, .int cc])), (kb, .inl (cI, 6, .inl scb_37))] H := hP
          have hD : va_D A [(ka, .inr (6, [.ref ka0, .ref ka1, .ref ka2])), (ka0, .inl (cI, 4, .inl ca0)), (ka1, .inl (cI, 4, .inl ca1)), (ka2, .inl (cI, 144, .inl ca2)), (k, .inr (10, [.ref k0, .ref k1, .ref k2, .ref k3, .ref k4, .ref k5, .ref k6, .ref k7, .ref k8, .ref k9, .ref ka, .ref kb, .int cc])), (kb, .inl (cI, 6, .inl scb_37))] := hD
          have hr_35 := w_36
          obtain rfl : r_35 = (-1000003) := hr_35.trans (by decide)
          exact hRet (scb_37, ca0, ca1, ca2) [4, 0, 5, 1, 2, 3] ⟨(by unfold sp_sheet; repeat (first | rw [if_pos (by omega)] | rw [if_neg (by omega)])), (by assumption)⟩ hP hD (by decide) rfl hS rfl dX10_sheet_48
      · refine lv_iload_n hx hb dX10_sheet_17 rfl (lv_at hl 2 rfl) ?_
        refine lv_bipush (v := 16) hx hb dX10_sheet_18 (by decide) ?_
        refine b_icmp_eq hx hb rfl zl_16 (tgt := 35) dX10_sheet_20 (by decide) (fun c_38 => ?_) (fun c_38 => ?_)
        · refine lv_iload_n hx hb dX10_sheet_35 rfl (lv_at hl 2 rfl) ?_
          refine b_if_eq hx hb rfl (tgt := 49) dX10_sheet_36 (by decide) (fun c_39 => by exfalso; omega) (fun c_39 => ?_)
          refine lv_iload_n hx hb dX10_sheet_39 rfl (lv_at hl 3 rfl) ?_
          refine b_if_ge hx hb rfl (tgt := 49) dX10_sheet_40 (by decide) (fun c_40 => ?_) (fun c_40 => ?_)
          · refine lv_iload_n hx hb dX10_sheet_49 rfl (lv_at hl 2 rfl) ?_
            refine b_if_eq hx hb rfl (tgt := 65) dX10_sheet_50 (by decide) (fun c_41 => by exfalso; omega) (fun c_41 => ?_)
            refine lv_iload_n hx hb dX10_sheet_53 rfl (lv_at hl 3 rfl) ?_
            refine lv_bipush (v := 36) hx hb dX10_sheet_54 (by decide) ?_
            refine b_icmp_le hx hb rfl zl_36 (tgt := 65) dX10_sheet_56 (by decide) (fun c_42 => ?_) (fun c_42 => ?_)
            · refine lv_aload_n hx hb dX10_sheet_65 rfl (lv_at hl 0 rfl) ?_
              refine va_get (D := D) (ci := 10) (v := .ref ka) (C := RX10) (T := TX10) (N := 13) hx hb hT giX10 hown hK hP 0 rfl rfl 10 (by decide) (hT (Cond.fieldLink RX10 70 "DesertWire" "sheets" "LDesertWire$Sheets;") mw_301) (fun _ h9 => h9) rfl dX10_sheet_66 ?_
              refine lv_iload_n hx hb dX10_sheet_69 rfl (lv_at hl 1 rfl) ?_
              refine lv_iload_n hx hb dX10_sheet_70 rfl (lv_at hl 2 rfl) ?_
              refine lv_iload_n hx hb dX10_sheet_71 rfl (lv_at hl 2 rfl) ?_
              refine b_if_ne hx hb rfl (tgt := 79) dX10_sheet_72 (by decide) (fun c_43 => ?_) (fun c_43 => by exfalso; omega)
              refine lv_iload_n hx hb dX10_sheet_79 rfl (lv_at hl 3 rfl) ?_
              refine kJv (wr := [(k, .inr (10, [.ref k0, .ref k1, .ref k2, .ref k3, .ref k4, .ref k5, .ref k6, .ref k7, .ref k8, .ref k9, .ref ka, .ref kb, .int cc])), (kb, .inl (cI, 6, .inl cb))]) (va_runV (As := [.int a0, .int a1, .int a2]) (rest := []) ⟨hx, hb, hml, hown, hT⟩ (c_X6_blankG l D cI aK aV ka ka0 ka1 ka2 H.size ca0 ca1 ca2 a0 a1 a2 (by first | omega | decide | assumption | rfl)) (cwV 3 hT (gV_in mw_1076 mw_1073 mw_1074 mw_1075 mw_11) rfl rfl rfl (by decide +kernel) ⟨Nat.le_of_ble_eq_true rfl, Nat.le_of_ble_eq_true rfl⟩) (kRecvX (q0 := 1) (ci := 6) hK hP hD hN hXS hS hA rfl rfl [1, 3, 4, 5] rfl (by decide)) rfl rfl hl.1 rfl (lv_room (Nat.le_of_ble_eq_true rfl)) dX10_sheet_80 ⟨Nat.le_of_ble_eq_true rfl, Nat.le_of_ble_eq_true rfl⟩) hP hD hS hA [1, 3, 4, 5] [0, 2] rfl rfl (by decide) (by decide) (fun u_49 H locs w_45 hP hD hS => ?_)
              obtain ⟨sc0_46, sc1_47, sc2_48⟩ := u_49
              have hP : va_P D vwCl [(k, .inr (10, [.ref k0, .ref k1, .ref k2, .ref k3, .ref k4, .ref k5, .ref k6, .ref k7, .ref k8, .ref k9, .ref ka, .ref kb, .int cc])), (kb, .inl (cI, 6, .inl cb)), (ka, .inr (6, [.ref ka0, .ref ka1, .ref ka2])), (ka0, .inl (cI, 4, .inl sc0_46)), (ka1, .inl (cI, 4, .inl sc1_47)), (ka2, .inl (cI, 144, .inl sc2_48))] H := hP
              have hD : va_D A [(k, .inr (10, [.ref k0, .ref k1, .ref k2, .ref k3, .ref k4, .ref k5, .ref k6, .ref k7, .ref k8, .ref k9, .ref ka, .ref kb, .int cc])), (kb, .inl (cI, 6, .inl cb)), (ka, .inr (6, [.ref ka0, .ref ka1, .ref ka2])), (ka0, .inl (cI, 4, .inl sc0_46)), (ka1, .inl (cI, 4, .inl sc1_47)), (ka2, .inl (cI, 144, .inl sc2_48))] := hD
              have h_50 := w_45
              have h_50 : ∀ ka : Nat, ka < 4 → 0 ≤ (sc1_47 ka).toInt ∧ (sc1_47 ka).toInt ≤ 36 := h_50
              refine lv_iconst (v := 1) hx hb dX10_sheet_83 (by decide) ?_
              exact hRet (cb, sc0_46, sc1_47, sc2_48) [0, 2, 1, 3, 4, 5] ⟨(by unfold sp_sheet; repeat (first | rw [if_pos (by omega)] | rw [if_neg (by omega)])), (by assumption)⟩ hP hD (by decide) rfl hS rfl dX10_sheet_84
            · refine lv_aload_n hx hb dX10_sheet_59 rfl (lv_at hl 0 rfl) ?_
              refine lv_iconst (v := 1) hx hb dX10_sheet_60 (by decide) ?_
              refine kJi (wr := [(ka, .inr (6, [.ref ka0, .ref ka1, .ref ka2])), (ka0, .inl (cI, 4, .inl ca0)), (ka1, .inl (cI, 4, .inl ca1)), (ka2, .inl (cI, 144, .inl ca2))]) (va_runV (As := [.int 1]) (rest := []) ⟨hx, hb, hml, hown, hT⟩ (c_X10_findingH l D cI aK aV k k0 k1 k2 k3 k4 k5 k6 k7 k8 k9 ka kb H.size cc cb 1 (by first | omega | (simp only [zl_1] <;> omega) | decide | assumption | rfl) (by first | omega | (simp only [zl_1] <;> omega) | decide | assumption | rfl)) (cwV 1 hT (gV_in mw_338 mw_335 mw_337 mw_p1_0 mw_1) rfl rfl rfl (by decide +kernel) ⟨Nat.le_of_ble_eq_true rfl, Nat.le_of_ble_eq_true rfl⟩) (kRecvX (q0 := 0) (ci := 10) hK hP hD hN hXS hS hA rfl rfl [0, 2] rfl (by decide)) rfl rfl hl.1 rfl (lv_room (Nat.le_of_ble_eq_true rfl)) dX10_sheet_61 ⟨Nat.le_of_ble_eq_true rfl, Nat.le_of_ble_eq_true rfl⟩) hP hD hS hA [0, 2] [1, 3, 4, 5] rfl rfl (by decide) (by decide) (fun r_51 scb_53 H locs w_52 hP hD hS => ?_)
              have hP : va_P D vwCl [(ka, .inr (6, [.ref ka0, .ref ka1, .ref ka2])), (ka0, .inl (cI, 4, .inl ca0)), (ka1, .inl (cI, 4, .inl ca1)), (ka2, .inl (cI, 144, .inl ca2)), (k, .inr (10, [.ref k0, .ref k1, .ref k2, .ref k3, .ref k4, .ref k5, .ref k6, .ref k7, .ref k8, .ref k9, .ref ka, .ref kb, .int cc])), (kb, .inl (cI, 6, .inl scb_53))] H := hP
              have hD : va_D A [(ka, .inr (6, [.ref ka0, .ref ka1, .ref ka2])), (ka0, .inl (cI, 4, .inl ca0)), (ka1, .inl (cI, 4, .inl ca1)), (ka2, .inl (cI, 144, .inl ca2)), (k, .inr (10, [.ref k0, .ref k1, .ref k2, .ref k3, .ref k4, .ref k5, .ref k6, .ref k7, .ref k8, .ref k9, .ref ka, .ref kb, .int cc])), (kb, .inl (cI, 6, .inl scb_53))] := hD
              have hr_51 := w_52
              obtain rfl : r_51 = (-1000001) := hr_51.trans (by decide)
              exact hRet (scb_53, ca0, ca1, ca2) [4, 0, 5, 1, 2, 3] ⟨(by unfold sp_sheet; repeat (first | rw [if_pos (by omega)] | rw [if_neg (by omega)])), (by assumption)⟩ hP hD (by decide) rfl hS rfl dX10_sheet_64
          · refine lv_aload_n hx hb dX10_sheet_43 rfl (lv_at hl 0 rfl) ?_
            refine lv_iconst (v := 3) hx hb dX10_sheet_44 (by decide) ?_
            refine kJi (wr := [(ka, .inr (6, [.ref ka0, .ref ka1, .ref ka2])), (ka0, .inl (cI, 4, .inl ca0)), (ka1, .inl (cI, 4, .inl ca1)), (ka2, .inl (cI, 144, .inl ca2))]) (va_runV (As := [.int 3]) (rest := []) ⟨hx, hb, hml, hown, hT⟩ (c_X10_findingH l D cI aK aV k k0 k1 k2 k3 k4 k5 k6 k7 k8 k9 ka kb H.size cc cb 3 (by first | omega | (simp only [zl_3] <;> omega) | decide | assumption | rfl) (by first | omega | (simp only [zl_3] <;> omega) | decide | assumption | rfl)) (cwV 1 hT (gV_in mw_338 mw_335 mw_337 mw_p1_0 mw_1) rfl rfl rfl (by decide +kernel) ⟨Nat.le_of_ble_eq_true rfl, Nat.le_of_ble_eq_true rfl⟩) (kRecvX (q0 := 0) (ci := 10) hK hP hD hN hXS hS hA rfl rfl [0, 2] rfl (by decide)) rfl rfl hl.1 rfl (lv_room (Nat.le_of_ble_eq_true rfl)) dX10_sheet_45 ⟨Nat.le_of_ble_eq_true rfl, Nat.le_of_ble_eq_true rfl⟩) hP hD hS hA [0, 2] [1, 3, 4, 5] rfl rfl (by decide) (by decide) (fun r_54 scb_56 H locs w_55 hP hD hS => ?_)
            have hP : va_P D vwCl [(ka, .inr (6, [.ref ka0, .ref ka1, .ref ka2])), (ka0, .inl (cI, 4, .inl ca0)), (ka1, .inl (cI, 4, .inl ca1)), (ka2, .inl (cI, 144, .inl ca2)), (k, .inr (10, [.ref k0, .ref k1, .ref k2, .ref k3, .ref k4, .ref k5, .ref k6, .ref k7, .ref k8, .ref k9, .ref ka, .ref kb, .int cc])), (kb, .inl (cI, 6, .inl scb_56))] H := hP
            have hD : va_D A [(ka, .inr (6, [.ref ka0, .ref ka1, .ref ka2])), (ka0, .inl (cI, 4, .inl ca0)), (ka1, .inl (cI, 4, .inl ca1)), (ka2, .inl (cI, 144, .inl ca2)), (k, .inr (10, [.ref k0, .ref k1, .ref k2, .ref k3, .ref k4, .ref k5, .ref k6, .ref k7, .ref k8, .ref k9, .ref ka, .ref kb, .int cc])), (kb, .inl (cI, 6, .inl scb_56))] := hD
            have hr_54 := w_55
            obtain rfl : r_54 = (-1000003) := hr_54.trans (by decide)
            exact hRet (scb_56, ca0, ca1, ca2) [4, 0, 5, 1, 2, 3] ⟨(by unfold sp_sheet; repeat (first | rw [if_pos (by omega)] | rw [if_neg (by omega)])), (by assumption)⟩ hP hD (by decide) rfl hS rfl dX10_sheet_48
        · refine lv_iload_n hx hb dX10_sheet_23 rfl (lv_at hl 2 rfl) ?_
          refine lv_bipush (v := 32) hx hb dX10_sheet_24 (by decide) ?_
          refine b_icmp_eq hx hb rfl zl_32 (tgt := 35) dX10_sheet_26 (by decide) (fun c_57 => ?_) (fun c_57 => ?_)
          · refine lv_iload_n hx hb dX10_sheet_35 rfl (lv_at hl 2 rfl) ?_
            refine b_if_eq hx hb rfl (tgt := 49) dX10_sheet_36 (by decide) (fun c_58 => by exfalso; omega) (fun c_58 => ?_)
            refine lv_iload_n hx hb dX10_sheet_39 rfl (lv_at hl 3 rfl) ?_
            refine b_if_ge hx hb rfl (tgt := 49) dX10_sheet_40 (by decide) (fun c_59 => ?_) (fun c_59 => ?_)
            · refine lv_iload_n hx hb dX10_sheet_49 rfl (lv_at hl 2 rfl) ?_
              refine b_if_eq hx hb rfl (tgt := 65) dX10_sheet_50 (by decide) (fun c_60 => by exfalso; omega) (fun c_60 => ?_)
              refine lv_iload_n hx hb dX10_sheet_53 rfl (lv_at hl 3 rfl) ?_
              refine lv_bipush (v := 36) hx hb dX10_sheet_54 (by decide) ?_
              refine b_icmp_le hx hb rfl zl_36 (tgt := 65) dX10_sheet_56 (by decide) (fun c_61 => ?_) (fun c_61 => ?_)
              · refine lv_aload_n hx hb dX10_sheet_65 rfl (lv_at hl 0 rfl) ?_
                refine va_get (D := D) (ci := 10) (v := .ref ka) (C := RX10) (T := TX10) (N := 13) hx hb hT giX10 hown hK hP 0 rfl rfl 10 (by decide) (hT (Cond.fieldLink RX10 70 "DesertWire" "sheets" "LDesertWire$Sheets;") mw_301) (fun _ h9 => h9) rfl dX10_sheet_66 ?_
                refine lv_iload_n hx hb dX10_sheet_69 rfl (lv_at hl 1 rfl) ?_
                refine lv_iload_n hx hb dX10_sheet_70 rfl (lv_at hl 2 rfl) ?_
                refine lv_iload_n hx hb dX10_sheet_71 rfl (lv_at hl 2 rfl) ?_
                refine b_if_ne hx hb rfl (tgt := 79) dX10_sheet_72 (by decide) (fun c_62 => ?_) (fun c_62 => by exfalso; omega)
                refine lv_iload_n hx hb dX10_sheet_79 rfl (lv_at hl 3 rfl) ?_
                refine kJv (wr := [(k, .inr (10, [.ref k0, .ref k1, .ref k2, .ref k3, .ref k4, .ref k5, .ref k6, .ref k7, .ref k8, .ref k9, .ref ka, .ref kb, .int cc])), (kb, .inl (cI, 6, .inl cb))]) (va_runV (As := [.int a0, .int a1, .int a2]) (rest := []) ⟨hx, hb, hml, hown, hT⟩ (c_X6_blankG l D cI aK aV ka ka0 ka1 ka2 H.size ca0 ca1 ca2 a0 a1 a2 (by first | omega | decide | assumption | rfl)) (cwV 3 hT (gV_in mw_1076 mw_1073 mw_1074 mw_1075 mw_11) rfl rfl rfl (by decide +kernel) ⟨Nat.le_of_ble_eq_true rfl, Nat.le_of_ble_eq_true rfl⟩) (kRecvX (q0 := 1) (ci := 6) hK hP hD hN hXS hS hA rfl rfl [1, 3, 4, 5] rfl (by decide)) rfl rfl hl.1 rfl (lv_room (Nat.le_of_ble_eq_true rfl)) dX10_sheet_80 ⟨Nat.le_of_ble_eq_true rfl, Nat.le_of_ble_eq_true rfl⟩) hP hD hS hA [1, 3, 4, 5] [0, 2] rfl rfl (by decide) (by decide) (fun u_68 H locs w_64 hP hD hS => ?_)
                obtain ⟨sc0_65, sc1_66, sc2_67⟩ := u_68
                have hP : va_P D vwCl [(k, .inr (10, [.ref k0, .ref k1, .ref k2, .ref k3, .ref k4, .ref k5, .ref k6, .ref k7, .ref k8, .ref k9, .ref ka, .ref kb, .int cc])), (kb, .inl (cI, 6, .inl cb)), (ka, .inr (6, [.ref ka0, .ref ka1, .ref ka2])), (ka0, .inl (cI, 4, .inl sc0_65)), (ka1, .inl (cI, 4, .inl sc1_66)), (ka2, .inl (cI, 144, .inl sc2_67))] H := hP
                have hD : va_D A [(k, .inr (10, [.ref k0, .ref k1, .ref k2, .ref k3, .ref k4, .ref k5, .ref k6, .ref k7, .ref k8, .ref k9, .ref ka, .ref kb, .int cc])), (kb, .inl (cI, 6, .inl cb)), (ka, .inr (6, [.ref ka0, .ref ka1, .ref ka2])), (ka0, .inl (cI, 4, .inl sc0_65)), (ka1, .inl (cI, 4, .inl sc1_66)), (ka2, .inl (cI, 144, .inl sc2_67))] := hD
                have h_69 := w_64
                have h_69 : ∀ ka : Nat, ka < 4 → 0 ≤ (sc1_66 ka).toInt ∧ (sc1_66 ka).toInt ≤ 36 := h_69
                refine lv_iconst (v := 1) hx hb dX10_sheet_83 (by decide) ?_
                exact hRet (cb, sc0_65, sc1_66, sc2_67) [0, 2, 1, 3, 4, 5] ⟨(by unfold sp_sheet; repeat (first | rw [if_pos (by omega)] | rw [if_neg (by omega)])), (by assumption)⟩ hP hD (by decide) rfl hS rfl dX10_sheet_84
              · refine lv_aload_n hx hb dX10_sheet_59 rfl (lv_at hl 0 rfl) ?_
                refine lv_iconst (v := 1) hx hb dX10_sheet_60 (by decide) ?_
                refine kJi (wr := [(ka, .inr (6, [.ref ka0, .ref ka1, .ref ka2])), (ka0, .inl (cI, 4, .inl ca0)), (ka1, .inl (cI, 4, .inl ca1)), (ka2, .inl (cI, 144, .inl ca2))]) (va_runV (As := [.int 1]) (rest := []) ⟨hx, hb, hml, hown, hT⟩ (c_X10_findingH l D cI aK aV k k0 k1 k2 k3 k4 k5 k6 k7 k8 k9 ka kb H.size cc cb 1 (by first | omega | (simp only [zl_1] <;> omega) | decide | assumption | rfl) (by first | omega | (simp only [zl_1] <;> omega) | decide | assumption | rfl)) (cwV 1 hT (gV_in mw_338 mw_335 mw_337 mw_p1_0 mw_1) rfl rfl rfl (by decide +kernel) ⟨Nat.le_of_ble_eq_true rfl, Nat.le_of_ble_eq_true rfl⟩) (kRecvX (q0 := 0) (ci := 10) hK hP hD hN hXS hS hA rfl rfl [0, 2] rfl (by decide)) rfl rfl hl.1 rfl (lv_room (Nat.le_of_ble_eq_true rfl)) dX10_sheet_61 ⟨Nat.le_of_ble_eq_true rfl, Nat.le_of_ble_eq_true rfl⟩) hP hD hS hA [0, 2] [1, 3, 4, 5] rfl rfl (by decide) (by decide) (fun r_70 scb_72 H locs w_71 hP hD hS => ?_)
                have hP : va_P D vwCl [(ka, .inr (6, [.ref ka0, .ref ka1, .ref ka2])), (ka0, .inl (cI, 4, .inl ca0)), (ka1, .inl (cI, 4, .inl ca1)), (ka2, .inl (cI, 144, .inl ca2)), (k, .inr (10, [.ref k0, .ref k1, .ref k2, .ref k3, .ref k4, .ref k5, .ref k6, .ref k7, .ref k8, .ref k9, .ref ka, .ref kb, .int cc])), (kb, .inl (cI, 6, .inl scb_72))] H := hP
                have hD : va_D A [(ka, .inr (6, [.ref ka0, .ref ka1, .ref ka2])), (ka0, .inl (cI, 4, .inl ca0)), (ka1, .inl (cI, 4, .inl ca1)), (ka2, .inl (cI, 144, .inl ca2)), (k, .inr (10, [.ref k0, .ref k1, .ref k2, .ref k3, .ref k4, .ref k5, .ref k6, .ref k7, .ref k8, .ref k9, .ref ka, .ref kb, .int cc])), (kb, .inl (cI, 6, .inl scb_72))] := hD
                have hr_70 := w_71
                obtain rfl : r_70 = (-1000001) := hr_70.trans (by decide)
                exact hRet (scb_72, ca0, ca1, ca2) [4, 0, 5, 1, 2, 3] ⟨(by unfold sp_sheet; repeat (first | rw [if_pos (by omega)] | rw [if_neg (by omega)])), (by assumption)⟩ hP hD (by decide) rfl hS rfl dX10_sheet_64
            · refine lv_aload_n hx hb dX10_sheet_43 rfl (lv_at hl 0 rfl) ?_
              refine lv_iconst (v := 3) hx hb dX10_sheet_44 (by decide) ?_
              refine kJi (wr := [(ka, .inr (6, [.ref ka0, .ref ka1, .ref ka2])), (ka0, .inl (cI, 4, .inl ca0)), (ka1, .inl (cI, 4, .inl ca1)), (ka2, .inl (cI, 144, .inl ca2))]) (va_runV (As := [.int 3]) (rest := []) ⟨hx, hb, hml, hown, hT⟩ (c_X10_findingH l D cI aK aV k k0 k1 k2 k3 k4 k5 k6 k7 k8 k9 ka kb H.size cc cb 3 (by first | omega | (simp only [zl_3] <;> omega) | decide | assumption | rfl) (by first | omega | (simp only [zl_3] <;> omega) | decide | assumption | rfl)) (cwV 1 hT (gV_in mw_338 mw_335 mw_337 mw_p1_0 mw_1) rfl rfl rfl (by decide +kernel) ⟨Nat.le_of_ble_eq_true rfl, Nat.le_of_ble_eq_true rfl⟩) (kRecvX (q0 := 0) (ci := 10) hK hP hD hN hXS hS hA rfl rfl [0, 2] rfl (by decide)) rfl rfl hl.1 rfl (lv_room (Nat.le_of_ble_eq_true rfl)) dX10_sheet_45 ⟨Nat.le_of_ble_eq_true rfl, Nat.le_of_ble_eq_true rfl⟩) hP hD hS hA [0, 2] [1, 3, 4, 5] rfl rfl (by decide) (by decide) (fun r_73 scb_75 H locs w_74 hP hD hS => ?_)
              have hP : va_P D vwCl [(ka, .inr (6, [.ref ka0, .ref ka1, .ref ka2])), (ka0, .inl (cI, 4, .inl ca0)), (ka1, .inl (cI, 4, .inl ca1)), (ka2, .inl (cI, 144, .inl ca2)), (k, .inr (10, [.ref k0, .ref k1, .ref k2, .ref k3, .ref k4, .ref k5, .ref k6, .ref k7, .ref k8, .ref k9, .ref ka, .ref kb, .int cc])), (kb, .inl (cI, 6, .inl scb_75))] H := hP
              have hD : va_D A [(ka, .inr (6, [.ref ka0, .ref ka1, .ref ka2])), (ka0, .inl (cI, 4, .inl ca0)), (ka1, .inl (cI, 4, .inl ca1)), (ka2, .inl (cI, 144, .inl ca2)), (k, .inr (10, [.ref k0, .ref k1, .ref k2, .ref k3, .ref k4, .ref k5, .ref k6, .ref k7, .ref k8, .ref k9, .ref ka, .ref kb, .int cc])), (kb, .inl (cI, 6, .inl scb_75))] := hD
              have hr_73 := w_74
              obtain rfl : r_73 = (-1000003) := hr_73.trans (by decide)
              exact hRet (scb_75, ca0, ca1, ca2) [4, 0, 5, 1, 2, 3] ⟨(by unfold sp_sheet; repeat (first | rw [if_pos (by omega)] | rw [if_neg (by omega)])), (by assumption)⟩ hP hD (by decide) rfl hS rfl dX10_sheet_48
          · refine lv_aload_n hx hb dX10_sheet_29 rfl (lv_at hl 0 rfl) ?_
            refine lv_iconst (v := 1) hx hb dX10_sheet_30 (by decide) ?_
            refine kJi (wr := [(ka, .inr (6, [.ref ka0, .ref ka1, .ref ka2])), (ka0, .inl (cI, 4, .inl ca0)), (ka1, .inl (cI, 4, .inl ca1)), (ka2, .inl (cI, 144, .inl ca2))]) (va_runV (As := [.int 1]) (rest := []) ⟨hx, hb, hml, hown, hT⟩ (c_X10_findingH l D cI aK aV k k0 k1 k2 k3 k4 k5 k6 k7 k8 k9 ka kb H.size cc cb 1 (by first | omega | (simp only [zl_1] <;> omega) | decide | assumption | rfl) (by first | omega | (simp only [zl_1] <;> omega) | decide | assumption | rfl)) (cwV 1 hT (gV_in mw_338 mw_335 mw_337 mw_p1_0 mw_1) rfl rfl rfl (by decide +kernel) ⟨Nat.le_of_ble_eq_true rfl, Nat.le_of_ble_eq_true rfl⟩) (kRecvX (q0 := 0) (ci := 10) hK hP hD hN hXS hS hA rfl rfl [0, 2] rfl (by decide)) rfl rfl hl.1 rfl (lv_room (Nat.le_of_ble_eq_true rfl)) dX10_sheet_31 ⟨Nat.le_of_ble_eq_true rfl, Nat.le_of_ble_eq_true rfl⟩) hP hD hS hA [0, 2] [1, 3, 4, 5] rfl rfl (by decide) (by decide) (fun r_76 scb_78 H locs w_77 hP hD hS => ?_)
            have hP : va_P D vwCl [(ka, .inr (6, [.ref ka0, .ref ka1, .ref ka2])), (ka0, .inl (cI, 4, .inl ca0)), (ka1, .inl (cI, 4, .inl ca1)), (ka2, .inl (cI, 144, .inl ca2)), (k, .inr (10, [.ref k0, .ref k1, .ref k2, .ref k3, .ref k4, .ref k5, .ref k6, .ref k7, .ref k8, .ref k9, .ref ka, .ref kb, .int cc])), (kb, .inl (cI, 6, .inl scb_78))] H := hP
            have hD : va_D A [(ka, .inr (6, [.ref ka0, .ref ka1, .ref ka2])), (ka0, .inl (cI, 4, .inl ca0)), (ka1, .inl (cI, 4, .inl ca1)), (ka2, .inl (cI, 144, .inl ca2)), (k, .inr (10, [.ref k0, .ref k1, .ref k2, .ref k3, .ref k4, .ref k5, .ref k6, .ref k7, .ref k8, .ref k9, .ref ka, .ref kb, .int cc])), (kb, .inl (cI, 6, .inl scb_78))] := hD
            have hr_76 := w_77
            obtain rfl : r_76 = (-1000001) := hr_76.trans (by decide)
            exact hRet (scb_78, ca0, ca1, ca2) [4, 0, 5, 1, 2, 3] ⟨(by unfold sp_sheet; repeat (first | rw [if_pos (by omega)] | rw [if_neg (by omega)])), (by assumption)⟩ hP hD (by decide) rfl hS rfl dX10_sheet_34
  · have h_6 : a0.toInt < 0 ∨ 3 < a0.toInt := h_6
    obtain rfl : r_1 = 0 := hr_1.trans (by decide)
    refine b_if_eq hx hb zl_0 (tgt := 29) dX10_sheet_4 (by decide) (fun c_79 => ?_) (fun c_79 => by exfalso; omega)
    refine lv_aload_n hx hb dX10_sheet_29 rfl (lv_at hl 0 rfl) ?_
    refine lv_iconst (v := 1) hx hb dX10_sheet_30 (by decide) ?_
    refine kJi (wr := [(ka, .inr (6, [.ref ka0, .ref ka1, .ref ka2])), (ka0, .inl (cI, 4, .inl ca0)), (ka1, .inl (cI, 4, .inl ca1)), (ka2, .inl (cI, 144, .inl ca2))]) (va_runV (As := [.int 1]) (rest := []) ⟨hx, hb, hml, hown, hT⟩ (c_X10_findingH l D cI aK aV k k0 k1 k2 k3 k4 k5 k6 k7 k8 k9 ka kb H.size cc cb 1 (by first | omega | (simp only [zl_1] <;> omega) | decide | assumption | rfl) (by first | omega | (simp only [zl_1] <;> omega) | decide | assumption | rfl)) (cwV 1 hT (gV_in mw_338 mw_335 mw_337 mw_p1_0 mw_1) rfl rfl rfl (by decide +kernel) ⟨Nat.le_of_ble_eq_true rfl, Nat.le_of_ble_eq_true rfl⟩) (kRecvX (q0 := 0) (ci := 10) hK hP hD hN hXS hS hA rfl rfl [0, 2] rfl (by decide)) rfl rfl hl.1 rfl (lv_room (Nat.le_of_ble_eq_true rfl)) dX10_sheet_31 ⟨Nat.le_of_ble_eq_true rfl, Nat.le_of_ble_eq_true rfl⟩) hP hD hS hA [0, 2] [1, 3, 4, 5] rfl rfl (by decide) (by decide) (fun r_80 scb_82 H locs w_81 hP hD hS => ?_)
    have hP : va_P D vwCl [(ka, .inr (6, [.ref ka0, .ref ka1, .ref ka2])), (ka0, .inl (cI, 4, .inl ca0)), (ka1, .inl (cI, 4, .inl ca1)), (ka2, .inl (cI, 144, .inl ca2)), (k, .inr (10, [.ref k0, .ref k1, .ref k2, .ref k3, .ref k4, .ref k5, .ref k6, .ref k7, .ref k8, .ref k9, .ref ka, .ref kb, .int cc])), (kb, .inl (cI, 6, .inl scb_82))] H := hP
    have hD : va_D A [(ka, .inr (6, [.ref ka0, .ref ka1, .ref ka2])), (ka0, .inl (cI, 4, .inl ca0)), (ka1, .inl (cI, 4, .inl ca1)), (ka2, .inl (cI, 144, .inl ca2)), (k, .inr (10, [.ref k0, .ref k1, .ref k2, .ref k3, .ref k4, .ref k5, .ref k6, .ref k7, .ref k8, .ref k9, .ref ka, .ref kb, .int cc])), (kb, .inl (cI, 6, .inl scb_82))] := hD
    have hr_80 := w_81
    obtain rfl : r_80 = (-1000001) := hr_80.trans (by decide)
    exact hRet (scb_82, ca0, ca1, ca2) [4, 0, 5, 1, 2, 3] ⟨(by unfold sp_sheet; repeat (first | rw [if_pos (by omega)] | rw [if_neg (by omega)])), (by assumption)⟩ hP hD (by decide) rfl hS rfl dX10_sheet_34

set_option maxHeartbeats 4000000 in
set_option maxRecDepth 100000 in
theorem c_X11_sheetP (l : Launch) (D : va_G) (cI : ClassId) (aK aV : Nat → Nat) (k k0 k1 k2 k4 k5 k6 k7 k8 ka kb kl ko : Nat) (sz : Nat) (c3 : Int32) (c9 : Int32) (cc : Int32) (cd : Int32) (ce : Int32) (cf : Int32) (cg : Int32) (ch : Int32) (ci : Int32) (cj : Int32) (ck : Int32) (cm : Int32) (cn : Int32) (c4 : Nat → Int32) (c5 : Nat → Int32) (c6 : Nat → Int32) (c7 : Nat → Int32) (a0 : Int32) (a1 : Int32) (a2 : Int32) (pre0 : ∀ k : Nat, k < 4 → 0 ≤ (c6 k).toInt ∧ (c6 k).toInt ≤ 36) : Met l yX11_sheet (gW yX11_sheet cX11_sheet 5 (some .int)) ({ frames := 2, cells := 0, slots := 0, locals := 42 } : Room) (kPreX D cI aK aV [.ref k, .int a0, .int a1, .int a2] [(k, .inr (11, [.ref k0, .ref k1, .ref k2, .int c3, .ref k4, .ref k5, .ref k6, .ref k7, .ref k8, .int c9, .ref ka, .ref kb, .int cc, .int cd, .int ce, .int cf, .int cg, .int ch, .int ci, .int cj, .int ck, .ref kl, .int cm, .int cn, .ref ko])), (k4, .inl (cI, 6, .inl c4)), (k5, .inl (cI, 4, .inl c5)), (k6, .inl (cI, 4, .inl c6)), (k7, .inl (cI, 144, .inl c7))] sz) (va_Qi (fun (r : Int32) (u : (Nat → Int32) × (Nat → Int32) × (Nat → Int32) × (Nat → Int32)) => r = sp_sheet a0 a1 a2 ∧ (∀ k : Nat, k < 4 → 0 ≤ (u.2.2.1 k).toInt ∧ (u.2.2.1 k).toInt ≤ 36)) (fun u t => kWd D cI (va_A [(k, .inr (11, [.ref k0, .ref k1, .ref k2, .int c3, .ref k4, .ref k5, .ref k6, .ref k7, .ref k8, .int c9, .ref ka, .ref kb, .int cc, .int cd, .int ce, .int cf, .int cg, .int ch, .int ci, .int cj, .int ck, .ref kl, .int cm, .int cn, .ref ko])), (k4, .inl (cI, 6, .inl c4)), (k5, .inl (cI, 4, .inl c5)), (k6, .inl (cI, 4, .inl c6)), (k7, .inl (cI, 144, .inl c7))] sz) [(k, .inr (11, [.ref k0, .ref k1, .ref k2, .int c3, .ref k4, .ref k5, .ref k6, .ref k7, .ref k8, .int c9, .ref ka, .ref kb, .int cc, .int cd, .int ce, .int cf, .int cg, .int ch, .int ci, .int cj, .int ck, .ref kl, .int cm, .int cn, .ref ko])), (k4, .inl (cI, 6, .inl u.1)), (k5, .inl (cI, 4, .inl u.2.1)), (k6, .inl (cI, 4, .inl u.2.2.1)), (k7, .inl (cI, 144, .inl u.2.2.2))] t) (va_A [(k, .inr (11, [.ref k0, .ref k1, .ref k2, .int c3, .ref k4, .ref k5, .ref k6, .ref k7, .ref k8, .int c9, .ref ka, .ref kb, .int cc, .int cd, .int ce, .int cf, .int cg, .int ch, .int ci, .int cj, .int ck, .ref kl, .int cm, .int cn, .ref ko])), (k4, .inl (cI, 6, .inl c4)), (k5, .inl (cI, 4, .inl c5)), (k6, .inl (cI, 4, .inl c6)), (k7, .inl (cI, 144, .inl c7))] sz)) 0 0 (va_A [(k, .inr (11, [.ref k0, .ref k1, .ref k2, .int c3, .ref k4, .ref k5, .ref k6, .ref k7, .ref k8, .int c9, .ref ka, .ref kb, .int cc, .int cd, .int ce, .int cf, .int cg, .int ch, .int ci, .int cj, .int ck, .ref kl, .int cm, .int cn, .ref ko])), (k4, .inl (cI, 6, .inl c4)), (k5, .inl (cI, 4, .inl c5)), (k6, .inl (cI, 4, .inl c6)), (k7, .inl (cI, 144, .inl c7))] sz) := by
  refine kMetIX (own := RX11) (by decide) rfl (Nat.le_of_ble_eq_true rfl) ?_
  intro p e s m args below meth c hx hb hT hown hname hml A Q hK hP hD hS hA hN hXS hRet ls hl
  have hl : lv_has ls 5 [(0, .ref k), (1, .int a0), (2, .int a1), (3, .int a2)] := hl
  have lo_a0 := k_lo a0
  have hi_a0 := k_hi a0
  have lo_a1 := k_lo a1
  have hi_a1 := k_hi a1
  have lo_a2 := k_lo a2
  have hi_a2 := k_hi a2
  have lo_c3 := k_lo c3
  have hi_c3 := k_hi c3
  have lo_c9 := k_lo c9
  have hi_c9 := k_hi c9
  have lo_cc := k_lo cc
  have hi_cc := k_hi cc
  have lo_cd := k_lo cd
  have hi_cd := k_hi cd
  have lo_ce := k_lo ce
  have hi_ce := k_hi ce
  have lo_cf := k_lo cf
  have hi_cf := k_hi cf
  have lo_cg := k_lo cg
  have hi_cg := k_hi cg
  have lo_ch := k_lo ch
  have hi_ch := k_hi ch
  have lo_ci := k_lo ci
  have hi_ci := k_hi ci
  have lo_cj := k_lo cj
  have hi_cj := k_hi cj
  have lo_ck := k_lo ck
  have hi_ck := k_hi ck
  have lo_cm := k_lo cm
  have hi_cm := k_hi cm
  have lo_cn := k_lo cn
  have hi_cn := k_hi cn
  refine lv_iload_n hx hb dX11_sheet_0 rfl (lv_at hl 1 rfl) ?_
  refine kJi (wr := [(k, .inr (11, [.ref k0, .ref k1, .ref k2, .int c3, .ref k4, .ref k5, .ref k6, .ref k7, .ref k8, .int c9, .ref ka, .ref kb, .int cc, .int cd, .int ce, .int cf, .int cg, .int ch, .int ci, .int cj, .int ck, .ref kl, .int cm, .int cn, .ref ko])), (k4, .inl (cI, 6, .inl c4)), (k5, .inl (cI, 4, .inl c5)), (k6, .inl (cI, 4, .inl c6)), (k7, .inl (cI, 144, .inl c7))]) (va_runS (As := [.int a0]) (rest := []) ⟨hx, hb, hml, hown, hT⟩ (c_X11_isSheetG l D cI aK aV s.heap.size a0) (cwS 1 hT (gS_in mw_1391 mw_1389 mw_1390 mw_12) rfl rfl rfl (by decide +kernel) ⟨Nat.le_of_ble_eq_true rfl, Nat.le_of_ble_eq_true rfl⟩) (kStatX hK hP hD hN hXS hS hA [] rfl (by decide)) rfl rfl hl.1 rfl (lv_room (Nat.le_of_ble_eq_true rfl)) dX11_sheet_1 ⟨Nat.le_of_ble_eq_true rfl, Nat.le_of_ble_eq_true rfl⟩) hP hD hS hA [] [0, 1, 2, 3, 4] rfl rfl (by decide) (by decide) (fun r_1 u_3 H locs w_2 hP hD hS => ?_)
  have hP : va_P D vwCl [(k, .inr (11, [.ref k0, .ref k1, .ref k2, .int c3, .ref k4, .ref k5, .ref k6, .ref k7, .ref k8, .int c9, .ref ka, .ref kb, .int cc, .int cd, .int ce, .int cf, .int cg, .int ch, .int ci, .int cj, .int ck, .ref kl, .int cm, .int cn, .ref ko])), (k4, .inl (cI, 6, .inl c4)), (k5, .inl (cI, 4, .inl c5)), (k6, .inl (cI, 4, .inl c6)), (k7, .inl (cI, 144, .inl c7))] H := hP
  have hD : va_D A [(k, .inr (11, [.ref k0, .ref k1, .ref k2, .int c3, .ref k4, .ref k5, .ref k6, .ref k7, .ref k8, .int c9, .ref ka, .ref kb, .int cc, .int cd, .int ce, .int cf, .int cg, .int ch, .int ci, .int cj, .int ck, .ref kl, .int cm, .int cn, .ref ko])), (k4, .inl (cI, 6, .inl c4)), (k5, .inl (cI, 4, .inl c5)), (k6, .inl (cI, 4, .inl c6)), (k7, .inl (cI, 144, .inl c7))] := hD
  rcases w_2 with ⟨hr_1, h_4, h_5⟩ | ⟨hr_1, h_6⟩
  · have h_4 : 0 ≤ a0.toInt := h_4
    have h_5 : a0.toInt ≤ 3 := h_5
    obtain rfl : r_1 = 1 := hr_1.trans (by decide)
    refine b_if_eq hx hb zl_1 (tgt := 29) dX11_sheet_4 (by decide) (fun c_7 => by exfalso; omega) (fun c_7 => ?_)
    refine lv_iload_n hx hb dX11_sheet_7 rfl (lv_at hl 2 rfl) ?_
    refine b_if_eq hx hb rfl (tgt := 36) dX11_sheet_8 (by decide) (fun c_8 => ?_) (fun c_8 => ?_)
    · refine lv_iload_n hx hb dX11_sheet_36 rfl (lv_at hl 2 rfl) ?_
      refine b_if_eq hx hb rfl (tgt := 51) dX11_sheet_37 (by decide) (fun c_9 => ?_) (fun c_9 => by exfalso; omega)
      refine lv_iload_n hx hb dX11_sheet_51 rfl (lv_at hl 2 rfl) ?_
      refine b_if_eq hx hb rfl (tgt := 68) dX11_sheet_52 (by decide) (fun c_10 => ?_) (fun c_10 => by exfalso; omega)
      refine lv_aload_n hx hb dX11_sheet_68 rfl (lv_at hl 0 rfl) ?_
      refine va_get (D := D) (ci := 11) (v := .ref k5) (C := RX11) (T := TX11) (N := 25) hx hb hT giX11 hown hK hP 0 rfl rfl 5 (by decide) (hT (Cond.fieldLink RX11 22 "DesertWireModel" "bits" "[I") mw_1161) (fun _ h9 => h9) rfl dX11_sheet_69 ?_
      refine lv_iload_n hx hb dX11_sheet_72 rfl (lv_at hl 1 rfl) ?_
      refine lv_iload_n hx hb dX11_sheet_73 rfl (lv_at hl 2 rfl) ?_
      refine va_iast hx hb hK hP hD hS 2 0 rfl rfl (k_in (by omega) (by omega)) dX11_sheet_74 (fun H locs hP hD hS => ?_)
      have hP : va_P D vwCl [(k, .inr (11, [.ref k0, .ref k1, .ref k2, .int c3, .ref k4, .ref k5, .ref k6, .ref k7, .ref k8, .int c9, .ref ka, .ref kb, .int cc, .int cd, .int ce, .int cf, .int cg, .int ch, .int ci, .int cj, .int ck, .ref kl, .int cm, .int cn, .ref ko])), (k4, .inl (cI, 6, .inl c4)), (k5, .inl (cI, 4, .inl (upd c5 a0.toNatClampNeg a1))), (k6, .inl (cI, 4, .inl c6)), (k7, .inl (cI, 144, .inl c7))] H := hP
      have hD : va_D A [(k, .inr (11, [.ref k0, .ref k1, .ref k2, .int c3, .ref k4, .ref k5, .ref k6, .ref k7, .ref k8, .int c9, .ref ka, .ref kb, .int cc, .int cd, .int ce, .int cf, .int cg, .int ch, .int ci, .int cj, .int ck, .ref kl, .int cm, .int cn, .ref ko])), (k4, .inl (cI, 6, .inl c4)), (k5, .inl (cI, 4, .inl (upd c5 a0.toNatClampNeg a1))), (k6, .inl (cI, 4, .inl c6)), (k7, .inl (cI, 144, .inl c7))] := hD
      obtain ⟨f_11, ef_11⟩ : ∃ g : Nat → Int32, g = upd c5 a0.toNatClampNeg a1 := ⟨_, rfl⟩
      rw [← ef_11] at hP hD
      refine lv_aload_n hx hb dX11_sheet_75 rfl (lv_at hl 0 rfl) ?_
      refine va_get (D := D) (ci := 11) (v := .ref k6) (C := RX11) (T := TX11) (N := 25) hx hb hT giX11 hown hK hP 0 rfl rfl 6 (by decide) (hT (Cond.fieldLink RX11 25 "DesertWireModel" "size" "[I") mw_1162) (fun _ h9 => h9) rfl dX11_sheet_76 ?_
      refine lv_iload_n hx hb dX11_sheet_79 rfl (lv_at hl 1 rfl) ?_
      refine lv_iload_n hx hb dX11_sheet_80 rfl (lv_at hl 2 rfl) ?_
      refine b_if_ne hx hb rfl (tgt := 88) dX11_sheet_81 (by decide) (fun c_12 => by exfalso; omega) (fun c_12 => ?_)
      refine lv_iconst (v := 0) hx hb dX11_sheet_84 (by decide) ?_
      refine lv_goto (tgt := 89) hx hb dX11_sheet_85 (by decide) ?_
      refine va_iast hx hb hK hP hD hS 3 0 rfl rfl (k_in (by omega) (by omega)) dX11_sheet_89 (fun H locs hP hD hS => ?_)
      have hP : va_P D vwCl [(k, .inr (11, [.ref k0, .ref k1, .ref k2, .int c3, .ref k4, .ref k5, .ref k6, .ref k7, .ref k8, .int c9, .ref ka, .ref kb, .int cc, .int cd, .int ce, .int cf, .int cg, .int ch, .int ci, .int cj, .int ck, .ref kl, .int cm, .int cn, .ref ko])), (k4, .inl (cI, 6, .inl c4)), (k5, .inl (cI, 4, .inl f_11)), (k6, .inl (cI, 4, .inl (upd c6 a0.toNatClampNeg 0))), (k7, .inl (cI, 144, .inl c7))] H := hP
      have hD : va_D A [(k, .inr (11, [.ref k0, .ref k1, .ref k2, .int c3, .ref k4, .ref k5, .ref k6, .ref k7, .ref k8, .int c9, .ref ka, .ref kb, .int cc, .int cd, .int ce, .int cf, .int cg, .int ch, .int ci, .int cj, .int ck, .ref kl, .int cm, .int cn, .ref ko])), (k4, .inl (cI, 6, .inl c4)), (k5, .inl (cI, 4, .inl f_11)), (k6, .inl (cI, 4, .inl (upd c6 a0.toNatClampNeg 0))), (k7, .inl (cI, 144, .inl c7))] := hD
      obtain ⟨f_13, ef_13⟩ : ∃ g : Nat → Int32, g = upd c6 a0.toNatClampNeg 0 := ⟨_, rfl⟩
      rw [← ef_13] at hP hD
      refine lv_iconst (v := 0) hx hb dX11_sheet_90 (by decide) ?_
      refine lv_istore (lv' := [(4, .int 0), (0, .ref k), (1, .int a0), (2, .int a1), (3, .int a2)]) hx hb dX11_sheet_91 hl (by decide) rfl (fun ls hl => ?_)
      have hloop_93 : ∀ (fu_ : Nat) (l93_4 : Int32) (g93_k7 : Nat → Int32), 0 ≤ l93_4.toInt → (36 - l93_4.toInt).toNat < fu_ → ∀ (ls : Array Slot) (H : Heap) (locs : List Loc), lv_has ls 5 [(4, .int l93_4), (0, .ref k), (1, .int a0), (2, .int a1), (3, .int a2)] → va_P D vwCl [(k, .inr (11, [.ref k0, .ref k1, .ref k2, .int c3, .ref k4, .ref k5, .ref k6, .ref k7, .ref k8, .int c9, .ref ka, .ref kb, .int cc, .int cd, .int ce, .int cf, .int cg, .int ch, .int ci, .int cj, .int ck, .ref kl, .int cm, .int cn, .ref ko])), (k4, .inl (cI, 6, .inl c4)), (k5, .inl (cI, 4, .inl f_11)), (k6, .inl (cI, 4, .inl f_13)), (k7, .inl (cI, 144, .inl g93_k7))] H → va_D A [(k, .inr (11, [.ref k0, .ref k1, .ref k2, .int c3, .ref k4, .ref k5, .ref k6, .ref k7, .ref k8, .int c9, .ref ka, .ref kb, .int cc, .int cd, .int ce, .int cf, .int cg, .int ch, .int ci, .int cj, .int ck, .ref kl, .int cm, .int cn, .ref ko])), (k4, .inl (cI, 6, .inl c4)), (k5, .inl (cI, 4, .inl f_11)), (k6, .inl (cI, 4, .inl f_13)), (k7, .inl (cI, 144, .inl g93_k7))] → va_S A s.heap H locs → W p l e ({ frames := 2, cells := 0, slots := 0, locals := 42 } : Room) s m args below meth c H locs 0 0 Q (F0 m 93 ls []) := by
        intro fu_; induction fu_ with
        | zero => intro l93_4 g93_k7 i93_0 hm; exact absurd hm (by omega)
        | succ fu_ ih93 =>
            intro l93_4 g93_k7 i93_0 hm ls H locs hl hP hD hS
            have lo_l93_4 := k_lo l93_4
            have hi_l93_4 := k_hi l93_4
            refine lv_iload hx hb dX11_sheet_93 (lv_at hl 0 rfl) ?_
            refine lv_bipush (v := 36) hx hb dX11_sheet_95 (by decide) ?_
            refine b_icmp_ge hx hb rfl zl_36 (tgt := 119) dX11_sheet_97 (by decide) (fun c_14 => ?_) (fun c_14 => ?_)
            · refine lv_iconst (v := 1) hx hb dX11_sheet_119 (by decide) ?_
              exact hRet (c4, f_11, f_13, g93_k7) [0, 1, 2, 3, 4] ⟨(by unfold sp_sheet; repeat (first | rw [if_pos (by omega)] | rw [if_neg (by omega)])), (k_PL pre0 ef_13 (by first | omega | (rw [zl_0]; omega)) (by first | omega | (rw [zl_0]; omega)))⟩ hP hD (by decide) rfl hS rfl dX11_sheet_120
            · refine lv_aload_n hx hb dX11_sheet_100 rfl (lv_at hl 1 rfl) ?_
              refine va_get (D := D) (ci := 11) (v := .ref k7) (C := RX11) (T := TX11) (N := 25) hx hb hT giX11 hown hK hP 0 rfl rfl 7 (by decide) (hT (Cond.fieldLink RX11 28 "DesertWireModel" "number" "[I") mw_1163) (fun _ h9 => h9) rfl dX11_sheet_101 ?_
              refine lv_bipush (v := 36) hx hb dX11_sheet_104 (by decide) ?_
              refine lv_iload_n hx hb dX11_sheet_106 rfl (lv_at hl 2 rfl) ?_
              refine lv_imul hx hb dX11_sheet_107 ?_
              refine lv_topi (fun v_15 ev_15 => ?_)
              have tv_15 : v_15.toInt = 36 * a0.toInt := by rw [ev_15]; exact k_mulv zl_36 rfl (by omega) (by omega)
              refine lv_iload hx hb dX11_sheet_108 (lv_at hl 0 rfl) ?_
              refine lv_iadd hx hb dX11_sheet_110 ?_
              refine lv_topi (fun v_16 ev_16 => ?_)
              have tv_16 : v_16.toInt = v_15.toInt + l93_4.toInt := by rw [ev_16]; exact k_addv rfl rfl (by omega) (by omega)
              refine lv_iconst (v := 0) hx hb dX11_sheet_111 (by decide) ?_
              refine va_iast hx hb hK hP hD hS 4 0 rfl rfl (k_in (by omega) (by omega)) dX11_sheet_112 (fun H locs hP hD hS => ?_)
              have hP : va_P D vwCl [(k, .inr (11, [.ref k0, .ref k1, .ref k2, .int c3, .ref k4, .ref k5, .ref k6, .ref k7, .ref k8, .int c9, .ref ka, .ref kb, .int cc, .int cd, .int ce, .int cf, .int cg, .int ch, .int ci, .int cj, .int ck, .ref kl, .int cm, .int cn, .ref ko])), (k4, .inl (cI, 6, .inl c4)), (k5, .inl (cI, 4, .inl f_11)), (k6, .inl (cI, 4, .inl f_13)), (k7, .inl (cI, 144, .inl (upd g93_k7 v_16.toNatClampNeg 0)))] H := hP
              have hD : va_D A [(k, .inr (11, [.ref k0, .ref k1, .ref k2, .int c3, .ref k4, .ref k5, .ref k6, .ref k7, .ref k8, .int c9, .ref ka, .ref kb, .int cc, .int cd, .int ce, .int cf, .int cg, .int ch, .int ci, .int cj, .int ck, .ref kl, .int cm, .int cn, .ref ko])), (k4, .inl (cI, 6, .inl c4)), (k5, .inl (cI, 4, .inl f_11)), (k6, .inl (cI, 4, .inl f_13)), (k7, .inl (cI, 144, .inl (upd g93_k7 v_16.toNatClampNeg 0)))] := hD
              obtain ⟨f_17, ef_17⟩ : ∃ g : Nat → Int32, g = upd g93_k7 v_16.toNatClampNeg 0 := ⟨_, rfl⟩
              rw [← ef_17] at hP hD
              obtain ⟨v_18, ev_18⟩ : ∃ y : Int32, y = l93_4 + 1 := ⟨_, rfl⟩
              have tv_18 : v_18.toInt = l93_4.toInt + 1 := by rw [ev_18]; exact k_addv rfl zl_1 (by omega) (by omega)
              refine lv_iinc (v := v_18) (lv' := [(4, .int v_18), (0, .ref k), (1, .int a0), (2, .int a1), (3, .int a2)]) hx hb dX11_sheet_113 hl (k := 0) rfl (by rw [ev_18]; rfl) (by decide) rfl (fun ls hl => ?_)
              refine lv_goto (tgt := 93) hx hb dX11_sheet_116 (by decide) ?_
              exact ih93 v_18 f_17 (by first | omega | decide | assumption | rfl) (by omega) ls _ _ (lv_sub hl [0, 1, 2, 3, 4] rfl) (hP.sub [0, 1, 2, 3, 4] rfl) (hD.sub [0, 1, 2, 3, 4] (by decide) rfl) hS
      exact hloop_93 _ 0 c7 (by first | omega | (simp only [zl_0] <;> omega) | decide | assumption | rfl) (Nat.lt_succ_self _) ls _ _ (lv_sub hl [0, 1, 2, 3, 4] rfl) hP hD hS
    · refine lv_iload_n hx hb dX11_sheet_11 rfl (lv_at hl 2 rfl) ?_
      refine lv_bipush (v := 8) hx hb dX11_sheet_12 (by decide) ?_
      refine b_icmp_eq hx hb rfl zl_8 (tgt := 36) dX11_sheet_14 (by decide) (fun c_19 => ?_) (fun c_19 => ?_)
      · refine lv_iload_n hx hb dX11_sheet_36 rfl (lv_at hl 2 rfl) ?_
        refine b_if_eq hx hb rfl (tgt := 51) dX11_sheet_37 (by decide) (fun c_20 => by exfalso; omega) (fun c_20 => ?_)
        refine lv_iload_n hx hb dX11_sheet_40 rfl (lv_at hl 3 rfl) ?_
        refine b_if_ge hx hb rfl (tgt := 51) dX11_sheet_41 (by decide) (fun c_21 => ?_) (fun c_21 => ?_)
        · refine lv_iload_n hx hb dX11_sheet_51 rfl (lv_at hl 2 rfl) ?_
          refine b_if_eq hx hb rfl (tgt := 68) dX11_sheet_52 (by decide) (fun c_22 => by exfalso; omega) (fun c_22 => ?_)
          refine lv_iload_n hx hb dX11_sheet_55 rfl (lv_at hl 3 rfl) ?_
          refine lv_bipush (v := 36) hx hb dX11_sheet_56 (by decide) ?_
          refine b_icmp_le hx hb rfl zl_36 (tgt := 68) dX11_sheet_58 (by decide) (fun c_23 => ?_) (fun c_23 => ?_)
          · refine lv_aload_n hx hb dX11_sheet_68 rfl (lv_at hl 0 rfl) ?_
            refine va_get (D := D) (ci := 11) (v := .ref k5) (C := RX11) (T := TX11) (N := 25) hx hb hT giX11 hown hK hP 0 rfl rfl 5 (by decide) (hT (Cond.fieldLink RX11 22 "DesertWireModel" "bits" "[I") mw_1161) (fun _ h9 => h9) rfl dX11_sheet_69 ?_
            refine lv_iload_n hx hb dX11_sheet_72 rfl (lv_at hl 1 rfl) ?_
            refine lv_iload_n hx hb dX11_sheet_73 rfl (lv_at hl 2 rfl) ?_
            refine va_iast hx hb hK hP hD hS 2 0 rfl rfl (k_in (by omega) (by omega)) dX11_sheet_74 (fun H locs hP hD hS => ?_)
            have hP : va_P D vwCl [(k, .inr (11, [.ref k0, .ref k1, .ref k2, .int c3, .ref k4, .ref k5, .ref k6, .ref k7, .ref k8, .int c9, .ref ka, .ref kb, .int cc, .int cd, .int ce, .int cf, .int cg, .int ch, .int ci, .int cj, .int ck, .ref kl, .int cm, .int cn, .ref ko])), (k4, .inl (cI, 6, .inl c4)), (k5, .inl (cI, 4, .inl (upd c5 a0.toNatClampNeg a1))), (k6, .inl (cI, 4, .inl c6)), (k7, .inl (cI, 144, .inl c7))] H := hP
            have hD : va_D A [(k, .inr (11, [.ref k0, .ref k1, .ref k2, .int c3, .ref k4, .ref k5, .ref k6, .ref k7, .ref k8, .int c9, .ref ka, .ref kb, .int cc, .int cd, .int ce, .int cf, .int cg, .int ch, .int ci, .int cj, .int ck, .ref kl, .int cm, .int cn, .ref ko])), (k4, .inl (cI, 6, .inl c4)), (k5, .inl (cI, 4, .inl (upd c5 a0.toNatClampNeg a1))), (k6, .inl (cI, 4, .inl c6)), (k7, .inl (cI, 144, .inl c7))] := hD
            obtain ⟨f_24, ef_24⟩ : ∃ g : Nat → Int32, g = upd c5 a0.toNatClampNeg a1 := ⟨_, rfl⟩
            rw [← ef_24] at hP hD
            refine lv_aload_n hx hb dX11_sheet_75 rfl (lv_at hl 0 rfl) ?_
            refine va_get (D := D) (ci := 11) (v := .ref k6) (C := RX11) (T := TX11) (N := 25) hx hb hT giX11 hown hK hP 0 rfl rfl 6 (by decide) (hT (Cond.fieldLink RX11 25 "DesertWireModel" "size" "[I") mw_1162) (fun _ h9 => h9) rfl dX11_sheet_76 ?_
            refine lv_iload_n hx hb dX11_sheet_79 rfl (lv_at hl 1 rfl) ?_
            refine lv_iload_n hx hb dX11_sheet_80 rfl (lv_at hl 2 rfl) ?_
            refine b_if_ne hx hb rfl (tgt := 88) dX11_sheet_81 (by decide) (fun c_25 => ?_) (fun c_25 => by exfalso; omega)
            refine lv_iload_n hx hb dX11_sheet_88 rfl (lv_at hl 3 rfl) ?_
            refine va_iast hx hb hK hP hD hS 3 0 rfl rfl (k_in (by omega) (by omega)) dX11_sheet_89 (fun H locs hP hD hS => ?_)
            have hP : va_P D vwCl [(k, .inr (11, [.ref k0, .ref k1, .ref k2, .int c3, .ref k4, .ref k5, .ref k6, .ref k7, .ref k8, .int c9, .ref ka, .ref kb, .int cc, .int cd, .int ce, .int cf, .int cg, .int ch, .int ci, .int cj, .int ck, .ref kl, .int cm, .int cn, .ref ko])), (k4, .inl (cI, 6, .inl c4)), (k5, .inl (cI, 4, .inl f_24)), (k6, .inl (cI, 4, .inl (upd c6 a0.toNatClampNeg a2))), (k7, .inl (cI, 144, .inl c7))] H := hP
            have hD : va_D A [(k, .inr (11, [.ref k0, .ref k1, .ref k2, .int c3, .ref k4, .ref k5, .ref k6, .ref k7, .ref k8, .int c9, .ref ka, .ref kb, .int cc, .int cd, .int ce, .int cf, .int cg, .int ch, .int ci, .int cj, .int ck, .ref kl, .int cm, .int cn, .ref ko])), (k4, .inl (cI, 6, .inl c4)), (k5, .inl (cI, 4, .inl f_24)), (k6, .inl (cI, 4, .inl (upd c6 a0.toNatClampNeg a2))), (k7, .inl (cI, 144, .inl c7))] := hD
            obtain ⟨f_26, ef_26⟩ : ∃ g : Nat → Int32, g = upd c6 a0.toNatClampNeg a2 := ⟨_, rfl⟩
            rw [← ef_26] at hP hD
            refine lv_iconst (v := 0) hx hb dX11_sheet_90 (by decide) ?_
            refine lv_istore (lv' := [(4, .int 0), (0, .ref k), (1, .int a0), (2, .int a1), (3, .int a2)]) hx hb dX11_sheet_91 hl (by decide) rfl (fun ls hl => ?_)
            have hloop_93 : ∀ (fu_ : Nat) (l93_4 : Int32) (g93_k7 : Nat → Int32), 0 ≤ l93_4.toInt → (36 - l93_4.toInt).toNat < fu_ → ∀ (ls : Array Slot) (H : Heap) (locs : List Loc), lv_has ls 5 [(4, .int l93_4), (0, .ref k), (1, .int a0), (2, .int a1), (3, .int a2)] → va_P D vwCl [(k, .inr (11, [.ref k0, .ref k1, .ref k2, .int c3, .ref k4, .ref k5, .ref k6, .ref k7, .ref k8, .int c9, .ref ka, .ref kb, .int cc, .int cd, .int ce, .int cf, .int cg, .int ch, .int ci, .int cj, .int ck, .ref kl, .int cm, .int cn, .ref ko])), (k4, .inl (cI, 6, .inl c4)), (k5, .inl (cI, 4, .inl f_24)), (k6, .inl (cI, 4, .inl f_26)), (k7, .inl (cI, 144, .inl g93_k7))] H → va_D A [(k, .inr (11, [.ref k0, .ref k1, .ref k2, .int c3, .ref k4, .ref k5, .ref k6, .ref k7, .ref k8, .int c9, .ref ka, .ref kb, .int cc, .int cd, .int ce, .int cf, .int cg, .int ch, .int ci, .int cj, .int ck, .ref kl, .int cm, .int cn, .ref ko])), (k4, .inl (cI, 6, .inl c4)), (k5, .inl (cI, 4, .inl f_24)), (k6, .inl (cI, 4, .inl f_26)), (k7, .inl (cI, 144, .inl g93_k7))] → va_S A s.heap H locs → W p l e ({ frames := 2, cells := 0, slots := 0, locals := 42 } : Room) s m args below meth c H locs 0 0 Q (F0 m 93 ls []) := by
              intro fu_; induction fu_ with
              | zero => intro l93_4 g93_k7 i93_0 hm; exact absurd hm (by omega)
              | succ fu_ ih93 =>
                  intro l93_4 g93_k7 i93_0 hm ls H locs hl hP hD hS
                  have lo_l93_4 := k_lo l93_4
                  have hi_l93_4 := k_hi l93_4
                  refine lv_iload hx hb dX11_sheet_93 (lv_at hl 0 rfl) ?_
                  refine lv_bipush (v := 36) hx hb dX11_sheet_95 (by decide) ?_
                  refine b_icmp_ge hx hb rfl zl_36 (tgt := 119) dX11_sheet_97 (by decide) (fun c_27 => ?_) (fun c_27 => ?_)
                  · refine lv_iconst (v := 1) hx hb dX11_sheet_119 (by decide) ?_
                    exact hRet (c4, f_24, f_26, g93_k7) [0, 1, 2, 3, 4] ⟨(by unfold sp_sheet; repeat (first | rw [if_pos (by omega)] | rw [if_neg (by omega)])), (k_PL pre0 ef_26 (by first | omega | (rw [zl_0]; omega)) (by first | omega | (rw [zl_0]; omega)))⟩ hP hD (by decide) rfl hS rfl dX11_sheet_120
                  · refine lv_aload_n hx hb dX11_sheet_100 rfl (lv_at hl 1 rfl) ?_
                    refine va_get (D := D) (ci := 11) (v := .ref k7) (C := RX11) (T := TX11) (N := 25) hx hb hT giX11 hown hK hP 0 rfl rfl 7 (by decide) (hT (Cond.fieldLink RX11 28 "DesertWireModel" "number" "[I") mw_1163) (fun _ h9 => h9) rfl dX11_sheet_101 ?_
                    refine lv_bipush (v := 36) hx hb dX11_sheet_104 (by decide) ?_
                    refine lv_iload_n hx hb dX11_sheet_106 rfl (lv_at hl 2 rfl) ?_
                    refine lv_imul hx hb dX11_sheet_107 ?_
                    refine lv_topi (fun v_28 ev_28 => ?_)
                    have tv_28 : v_28.toInt = 36 * a0.toInt := by rw [ev_28]; exact k_mulv zl_36 rfl (by omega) (by omega)
                    refine lv_iload hx hb dX11_sheet_108 (lv_at hl 0 rfl) ?_
                    refine lv_iadd hx hb dX11_sheet_110 ?_
                    refine lv_topi (fun v_29 ev_29 => ?_)
                    have tv_29 : v_29.toInt = v_28.toInt + l93_4.toInt := by rw [ev_29]; exact k_addv rfl rfl (by omega) (by omega)
                    refine lv_iconst (v := 0) hx hb dX11_sheet_111 (by decide) ?_
                    refine va_iast hx hb hK hP hD hS 4 0 rfl rfl (k_in (by omega) (by omega)) dX11_sheet_112 (fun H locs hP hD hS => ?_)
                    have hP : va_P D vwCl [(k, .inr (11, [.ref k0, .ref k1, .ref k2, .int c3, .ref k4, .ref k5, .ref k6, .ref k7, .ref k8, .int c9, .ref ka, .ref kb, .int cc, .int cd, .int ce, .int cf, .int cg, .int ch, .int ci, .int cj, .int ck, .ref kl, .int cm, .int cn, .ref ko])), (k4, .inl (cI, 6, .inl c4)), (k5, .inl (cI, 4, .inl f_24)), (k6, .inl (cI, 4, .inl f_26)), (k7, .inl (cI, 144, .inl (upd g93_k7 v_29.toNatClampNeg 0)))] H := hP
                    have hD : va_D A [(k, .inr (11, [.ref k0, .ref k1, .ref k2, .int c3, .ref k4, .ref k5, .ref k6, .ref k7, .ref k8, .int c9, .ref ka, .ref kb, .int cc, .int cd, .int ce, .int cf, .int cg, .int ch, .int ci, .int cj, .int ck, .ref kl, .int cm, .int cn, .ref ko])), (k4, .inl (cI, 6, .inl c4)), (k5, .inl (cI, 4, .inl f_24)), (k6, .inl (cI, 4, .inl f_26)), (k7, .inl (cI, 144, .inl (upd g93_k7 v_29.toNatClampNeg 0)))] := hD
                    obtain ⟨f_30, ef_30⟩ : ∃ g : Nat → Int32, g = upd g93_k7 v_29.toNatClampNeg 0 := ⟨_, rfl⟩
                    rw [← ef_30] at hP hD
                    obtain ⟨v_31, ev_31⟩ : ∃ y : Int32, y = l93_4 + 1 := ⟨_, rfl⟩
                    have tv_31 : v_31.toInt = l93_4.toInt + 1 := by rw [ev_31]; exact k_addv rfl zl_1 (by omega) (by omega)
                    refine lv_iinc (v := v_31) (lv' := [(4, .int v_31), (0, .ref k), (1, .int a0), (2, .int a1), (3, .int a2)]) hx hb dX11_sheet_113 hl (k := 0) rfl (by rw [ev_31]; rfl) (by decide) rfl (fun ls hl => ?_)
                    refine lv_goto (tgt := 93) hx hb dX11_sheet_116 (by decide) ?_
                    exact ih93 v_31 f_30 (by first | omega | decide | assumption | rfl) (by omega) ls _ _ (lv_sub hl [0, 1, 2, 3, 4] rfl) (hP.sub [0, 1, 2, 3, 4] rfl) (hD.sub [0, 1, 2, 3, 4] (by decide) rfl) hS
            exact hloop_93 _ 0 c7 (by first | omega | (simp only [zl_0] <;> omega) | decide | assumption | rfl) (Nat.lt_succ_self _) ls _ _ (lv_sub hl [0, 1, 2, 3, 4] rfl) hP hD hS
          · refine lv_aload_n hx hb dX11_sheet_61 rfl (lv_at hl 0 rfl) ?_
            refine lv_ldc (v := (-1000001)) hx hb hown (hT _ mw_1239) dX11_sheet_62 ?_
            refine kJi (wr := [(k5, .inl (cI, 4, .inl c5)), (k6, .inl (cI, 4, .inl c6)), (k7, .inl (cI, 144, .inl c7))]) (va_runV (As := [.int (-1000001)]) (rest := []) ⟨hx, hb, hml, hown, hT⟩ (c_X11_findingG l D cI aK aV k k0 k1 k2 k4 k5 k6 k7 k8 ka kb kl ko H.size c3 c9 cc cd ce cf cg ch ci cj ck cm cn c4 (-1000001) (by first | omega | (simp only [zl_m1000001] <;> omega) | decide | assumption | rfl) (by first | omega | (simp only [zl_m1000001] <;> omega) | decide | assumption | rfl)) (cwV 1 hT (gV_in mw_1243 mw_1240 mw_1242 mw_p3_8 mw_12) rfl rfl rfl (by decide +kernel) ⟨Nat.le_of_ble_eq_true rfl, Nat.le_of_ble_eq_true rfl⟩) (kRecvX (q0 := 0) (ci := 11) hK hP hD hN hXS hS hA rfl rfl [0, 1] rfl (by decide)) rfl rfl hl.1 rfl (lv_room (Nat.le_of_ble_eq_true rfl)) dX11_sheet_64 ⟨Nat.le_of_ble_eq_true rfl, Nat.le_of_ble_eq_true rfl⟩) hP hD hS hA [0, 1] [2, 3, 4] rfl rfl (by decide) (by decide) (fun r_32 sc4_34 H locs w_33 hP hD hS => ?_)
            have hP : va_P D vwCl [(k5, .inl (cI, 4, .inl c5)), (k6, .inl (cI, 4, .inl c6)), (k7, .inl (cI, 144, .inl c7)), (k, .inr (11, [.ref k0, .ref k1, .ref k2, .int c3, .ref k4, .ref k5, .ref k6, .ref k7, .ref k8, .int c9, .ref ka, .ref kb, .int cc, .int cd, .int ce, .int cf, .int cg, .int ch, .int ci, .int cj, .int ck, .ref kl, .int cm, .int cn, .ref ko])), (k4, .inl (cI, 6, .inl sc4_34))] H := hP
            have hD : va_D A [(k5, .inl (cI, 4, .inl c5)), (k6, .inl (cI, 4, .inl c6)), (k7, .inl (cI, 144, .inl c7)), (k, .inr (11, [.ref k0, .ref k1, .ref k2, .int c3, .ref k4, .ref k5, .ref k6, .ref k7, .ref k8, .int c9, .ref ka, .ref kb, .int cc, .int cd, .int ce, .int cf, .int cg, .int ch, .int ci, .int cj, .int ck, .ref kl, .int cm, .int cn, .ref ko])), (k4, .inl (cI, 6, .inl sc4_34))] := hD
            have hr_32 := w_33
            obtain rfl : r_32 = (-1000001) := hr_32.trans (by decide)
            exact hRet (sc4_34, c5, c6, c7) [3, 4, 0, 1, 2] ⟨(by unfold sp_sheet; repeat (first | rw [if_pos (by omega)] | rw [if_neg (by omega)])), pre0⟩ hP hD (by decide) rfl hS rfl dX11_sheet_67
        · refine lv_aload_n hx hb dX11_sheet_44 rfl (lv_at hl 0 rfl) ?_
          refine lv_ldc (v := (-1000003)) hx hb hown (hT _ mw_1356) dX11_sheet_45 ?_
          refine kJi (wr := [(k5, .inl (cI, 4, .inl c5)), (k6, .inl (cI, 4, .inl c6)), (k7, .inl (cI, 144, .inl c7))]) (va_runV (As := [.int (-1000003)]) (rest := []) ⟨hx, hb, hml, hown, hT⟩ (c_X11_findingG l D cI aK aV k k0 k1 k2 k4 k5 k6 k7 k8 ka kb kl ko H.size c3 c9 cc cd ce cf cg ch ci cj ck cm cn c4 (-1000003) (by first | omega | (simp only [zl_m1000003] <;> omega) | decide | assumption | rfl) (by first | omega | (simp only [zl_m1000003] <;> omega) | decide | assumption | rfl)) (cwV 1 hT (gV_in mw_1243 mw_1240 mw_1242 mw_p3_8 mw_12) rfl rfl rfl (by decide +kernel) ⟨Nat.le_of_ble_eq_true rfl, Nat.le_of_ble_eq_true rfl⟩) (kRecvX (q0 := 0) (ci := 11) hK hP hD hN hXS hS hA rfl rfl [0, 1] rfl (by decide)) rfl rfl hl.1 rfl (lv_room (Nat.le_of_ble_eq_true rfl)) dX11_sheet_47 ⟨Nat.le_of_ble_eq_true rfl, Nat.le_of_ble_eq_true rfl⟩) hP hD hS hA [0, 1] [2, 3, 4] rfl rfl (by decide) (by decide) (fun r_35 sc4_37 H locs w_36 hP hD hS => ?_)
          have hP : va_P D vwCl [(k5, .inl (cI, 4, .inl c5)), (k6, .inl (cI, 4, .inl c6)), (k7, .inl (cI, 144, .inl c7)), (k, .inr (11, [.ref k0, .ref k1, .ref k2, .int c3, .ref k4, .ref k5, .ref k6, .ref k7, .ref k8, .int c9, .ref ka, .ref kb, .int cc, .int cd, .int ce, .int cf, .int cg, .int ch, .int ci, .int cj, .int ck, .ref kl, .int cm, .int cn, .ref ko])), (k4, .inl (cI, 6, .inl sc4_37))] H := hP
          have hD : va_D A [(k5, .inl (cI, 4, .inl c5)), (k6, .inl (cI, 4, .inl c6)), (k7, .inl (cI, 144, .inl c7)), (k, .inr (11, [.ref k0, .ref k1, .ref k2, .int c3, .ref k4, .ref k5, .ref k6, .ref k7, .ref k8, .int c9, .ref ka, .ref kb, .int cc, .int cd, .int ce, .int cf, .int cg, .int ch, .int ci, .int cj, .int ck, .ref kl, .int cm, .int cn, .ref ko])), (k4, .inl (cI, 6, .inl sc4_37))] := hD
          have hr_35 := w_36
          obtain rfl : r_35 = (-1000003) := hr_35.trans (by decide)
          exact hRet (sc4_37, c5, c6, c7) [3, 4, 0, 1, 2] ⟨(by unfold sp_sheet; repeat (first | rw [if_pos (by omega)] | rw [if_neg (by omega)])), pre0⟩ hP hD (by decide) rfl hS rfl dX11_sheet_50
      · refine lv_iload_n hx hb dX11_sheet_17 rfl (lv_at hl 2 rfl) ?_
        refine lv_bipush (v := 16) hx hb dX11_sheet_18 (by decide) ?_
        refine b_icmp_eq hx hb rfl zl_16 (tgt := 36) dX11_sheet_20 (by decide) (fun c_38 => ?_) (fun c_38 => ?_)
        · refine lv_iload_n hx hb dX11_sheet_36 rfl (lv_at hl 2 rfl) ?_
          refine b_if_eq hx hb rfl (tgt := 51) dX11_sheet_37 (by decide) (fun c_39 => by exfalso; omega) (fun c_39 => ?_)
          refine lv_iload_n hx hb dX11_sheet_40 rfl (lv_at hl 3 rfl) ?_
          refine b_if_ge hx hb rfl (tgt := 51) dX11_sheet_41 (by decide) (fun c_40 => ?_) (fun c_40 => ?_)
          · refine lv_iload_n hx hb dX11_sheet_51 rfl (lv_at hl 2 rfl) ?_
            refine b_if_eq hx hb rfl (tgt := 68) dX11_sheet_52 (by decide) (fun c_41 => by exfalso; omega) (fun c_41 => ?_)
            refine lv_iload_n hx hb dX11_sheet_55 rfl (lv_at hl 3 rfl) ?_
            refine lv_bipush (v := 36) hx hb dX11_sheet_56 (by decide) ?_
            refine b_icmp_le hx hb rfl zl_36 (tgt := 68) dX11_sheet_58 (by decide) (fun c_42 => ?_) (fun c_42 => ?_)
            · refine lv_aload_n hx hb dX11_sheet_68 rfl (lv_at hl 0 rfl) ?_
              refine va_get (D := D) (ci := 11) (v := .ref k5) (C := RX11) (T := TX11) (N := 25) hx hb hT giX11 hown hK hP 0 rfl rfl 5 (by decide) (hT (Cond.fieldLink RX11 22 "DesertWireModel" "bits" "[I") mw_1161) (fun _ h9 => h9) rfl dX11_sheet_69 ?_
              refine lv_iload_n hx hb dX11_sheet_72 rfl (lv_at hl 1 rfl) ?_
              refine lv_iload_n hx hb dX11_sheet_73 rfl (lv_at hl 2 rfl) ?_
              refine va_iast hx hb hK hP hD hS 2 0 rfl rfl (k_in (by omega) (by omega)) dX11_sheet_74 (fun H locs hP hD hS => ?_)
              have hP : va_P D vwCl [(k, .inr (11, [.ref k0, .ref k1, .ref k2, .int c3, .ref k4, .ref k5, .ref k6, .ref k7, .ref k8, .int c9, .ref ka, .ref kb, .int cc, .int cd, .int ce, .int cf, .int cg, .int ch, .int ci, .int cj, .int ck, .ref kl, .int cm, .int cn, .ref ko])), (k4, .inl (cI, 6, .inl c4)), (k5, .inl (cI, 4, .inl (upd c5 a0.toNatClampNeg a1))), (k6, .inl (cI, 4, .inl c6)), (k7, .inl (cI, 144, .inl c7))] H := hP
              have hD : va_D A [(k, .inr (11, [.ref k0, .ref k1, .ref k2, .int c3, .ref k4, .ref k5, .ref k6, .ref k7, .ref k8, .int c9, .ref ka, .ref kb, .int cc, .int cd, .int ce, .int cf, .int cg, .int ch, .int ci, .int cj, .int ck, .ref kl, .int cm, .int cn, .ref ko])), (k4, .inl (cI, 6, .inl c4)), (k5, .inl (cI, 4, .inl (upd c5 a0.toNatClampNeg a1))), (k6, .inl (cI, 4, .inl c6)), (k7, .inl (cI, 144, .inl c7))] := hD
              obtain ⟨f_43, ef_43⟩ : ∃ g : Nat → Int32, g = upd c5 a0.toNatClampNeg a1 := ⟨_, rfl⟩
              rw [← ef_43] at hP hD
              refine lv_aload_n hx hb dX11_sheet_75 rfl (lv_at hl 0 rfl) ?_
              refine va_get (D := D) (ci := 11) (v := .ref k6) (C := RX11) (T := TX11) (N := 25) hx hb hT giX11 hown hK hP 0 rfl rfl 6 (by decide) (hT (Cond.fieldLink RX11 25 "DesertWireModel" "size" "[I") mw_1162) (fun _ h9 => h9) rfl dX11_sheet_76 ?_
              refine lv_iload_n hx hb dX11_sheet_79 rfl (lv_at hl 1 rfl) ?_
              refine lv_iload_n hx hb dX11_sheet_80 rfl (lv_at hl 2 rfl) ?_
              refine b_if_ne hx hb rfl (tgt := 88) dX11_sheet_81 (by decide) (fun c_44 => ?_) (fun c_44 => by exfalso; omega)
              refine lv_iload_n hx hb dX11_sheet_88 rfl (lv_at hl 3 rfl) ?_
              refine va_iast hx hb hK hP hD hS 3 0 rfl rfl (k_in (by omega) (by omega)) dX11_sheet_89 (fun H locs hP hD hS => ?_)
              have hP : va_P D vwCl [(k, .inr (11, [.ref k0, .ref k1, .ref k2, .int c3, .ref k4, .ref k5, .ref k6, .ref k7, .ref k8, .int c9, .ref ka, .ref kb, .int cc, .int cd, .int ce, .int cf, .int cg, .int ch, .int ci, .int cj, .int ck, .ref kl, .int cm, .int cn, .ref ko])), (k4, .inl (cI, 6, .inl c4)), (k5, .inl (cI, 4, .inl f_43)), (k6, .inl (cI, 4, .inl (upd c6 a0.toNatClampNeg a2))), (k7, .inl (cI, 144, .inl c7))] H := hP
              have hD : va_D A [(k, .inr (11, [.ref k0, .ref k1, .ref k2, .int c3, .ref k4, .ref k5, .ref k6, .ref k7, .ref k8, .int c9, .ref ka, .ref kb, .int cc, .int cd, .int ce, .int cf, .int cg, .int ch, .int ci, .int cj, .int ck, .ref kl, .int cm, .int cn, .ref ko])), (k4, .inl (cI, 6, .inl c4)), (k5, .inl (cI, 4, .inl f_43)), (k6, .inl (cI, 4, .inl (upd c6 a0.toNatClampNeg a2))), (k7, .inl (cI, 144, .inl c7))] := hD
              obtain ⟨f_45, ef_45⟩ : ∃ g : Nat → Int32, g = upd c6 a0.toNatClampNeg a2 := ⟨_, rfl⟩
              rw [← ef_45] at hP hD
              refine lv_iconst (v := 0) hx hb dX11_sheet_90 (by decide) ?_
              refine lv_istore (lv' := [(4, .int 0), (0, .ref k), (1, .int a0), (2, .int a1), (3, .int a2)]) hx hb dX11_sheet_91 hl (by decide) rfl (fun ls hl => ?_)
              have hloop_93 : ∀ (fu_ : Nat) (l93_4 : Int32) (g93_k7 : Nat → Int32), 0 ≤ l93_4.toInt → (36 - l93_4.toInt).toNat < fu_ → ∀ (ls : Array Slot) (H : Heap) (locs : List Loc), lv_has ls 5 [(4, .int l93_4), (0, .ref k), (1, .int a0), (2, .int a1), (3, .int a2)] → va_P D vwCl [(k, .inr (11, [.ref k0, .ref k1, .ref k2, .int c3, .ref k4, .ref k5, .ref k6, .ref k7, .ref k8, .int c9, .ref ka, .ref kb, .int cc, .int cd, .int ce, .int cf, .int cg, .int ch, .int ci, .int cj, .int ck, .ref kl, .int cm, .int cn, .ref ko])), (k4, .inl (cI, 6, .inl c4)), (k5, .inl (cI, 4, .inl f_43)), (k6, .inl (cI, 4, .inl f_45)), (k7, .inl (cI, 144, .inl g93_k7))] H → va_D A [(k, .inr (11, [.ref k0, .ref k1, .ref k2, .int c3, .ref k4, .ref k5, .ref k6, .ref k7, .ref k8, .int c9, .ref ka, .ref kb, .int cc, .int cd, .int ce, .int cf, .int cg, .int ch, .int ci, .int cj, .int ck, .ref kl, .int cm, .int cn, .ref ko])), (k4, .inl (cI, 6, .inl c4)), (k5, .inl (cI, 4, .inl f_43)), (k6, .inl (cI, 4, .inl f_45)), (k7, .inl (cI, 144, .inl g93_k7))] → va_S A s.heap H locs → W p l e ({ frames := 2, cells := 0, slots := 0, locals := 42 } : Room) s m args below meth c H locs 0 0 Q (F0 m 93 ls []) := by
                intro fu_; induction fu_ with
                | zero => intro l93_4 g93_k7 i93_0 hm; exact absurd hm (by omega)
                | succ fu_ ih93 =>
                    intro l93_4 g93_k7 i93_0 hm ls H locs hl hP hD hS
                    have lo_l93_4 := k_lo l93_4
                    have hi_l93_4 := k_hi l93_4
                    refine lv_iload hx hb dX11_sheet_93 (lv_at hl 0 rfl) ?_
                    refine lv_bipush (v := 36) hx hb dX11_sheet_95 (by decide) ?_
                    refine b_icmp_ge hx hb rfl zl_36 (tgt := 119) dX11_sheet_97 (by decide) (fun c_46 => ?_) (fun c_46 => ?_)
                    · refine lv_iconst (v := 1) hx hb dX11_sheet_119 (by decide) ?_
                      exact hRet (c4, f_43, f_45, g93_k7) [0, 1, 2, 3, 4] ⟨(by unfold sp_sheet; repeat (first | rw [if_pos (by omega)] | rw [if_neg (by omega)])), (k_PL pre0 ef_45 (by first | omega | (rw [zl_0]; omega)) (by first | omega | (rw [zl_0]; omega)))⟩ hP hD (by decide) rfl hS rfl dX11_sheet_120
                    · refine lv_aload_n hx hb dX11_sheet_100 rfl (lv_at hl 1 rfl) ?_
                      refine va_get (D := D) (ci := 11) (v := .ref k7) (C := RX11) (T := TX11) (N := 25) hx hb hT giX11 hown hK hP 0 rfl rfl 7 (by decide) (hT (Cond.fieldLink RX11 28 "DesertWireModel" "number" "[I") mw_1163) (fun _ h9 => h9) rfl dX11_sheet_101 ?_
                      refine lv_bipush (v := 36) hx hb dX11_sheet_104 (by decide) ?_
                      refine lv_iload_n hx hb dX11_sheet_106 rfl (lv_at hl 2 rfl) ?_
                      refine lv_imul hx hb dX11_sheet_107 ?_
                      refine lv_topi (fun v_47 ev_47 => ?_)
                      have tv_47 : v_47.toInt = 36 * a0.toInt := by rw [ev_47]; exact k_mulv zl_36 rfl (by omega) (by omega)
                      refine lv_iload hx hb dX11_sheet_108 (lv_at hl 0 rfl) ?_
                      refine lv_iadd hx hb dX11_sheet_110 ?_
                      refine lv_topi (fun v_48 ev_48 => ?_)
                      have tv_48 : v_48.toInt = v_47.toInt + l93_4.toInt := by rw [ev_48]; exact k_addv rfl rfl (by omega) (by omega)
                      refine lv_iconst (v := 0) hx hb dX11_sheet_111 (by decide) ?_
                      refine va_iast hx hb hK hP hD hS 4 0 rfl rfl (k_in (by omega) (by omega)) dX11_sheet_112 (fun H locs hP hD hS => ?_)
                      have hP : va_P D vwCl [(k, .inr (11, [.ref k0, .ref k1, .ref k2, .int c3, .ref k4, .ref k5, .ref k6, .ref k7, .ref k8, .int c9, .ref ka, .ref kb, .int cc, .int cd, .int ce, .int cf, .int cg, .int ch, .int ci, .int cj, .int ck, .ref kl, .int cm, .int cn, .ref ko])), (k4, .inl (cI, 6, .inl c4)), (k5, .inl (cI, 4, .inl f_43)), (k6, .inl (cI, 4, .inl f_45)), (k7, .inl (cI, 144, .inl (upd g93_k7 v_48.toNatClampNeg 0)))] H := hP
                      have hD : va_D A [(k, .inr (11, [.ref k0, .ref k1, .ref k2, .int c3, .ref k4, .ref k5, .ref k6, .ref k7, .ref k8, .int c9, .ref ka, .ref kb, .int cc, .int cd, .int ce, .int cf, .int cg, .int ch, .int ci, .int cj, .int ck, .ref kl, .int cm, .int cn, .ref ko])), (k4, .inl (cI, 6, .inl c4)), (k5, .inl (cI, 4, .inl f_43)), (k6, .inl (cI, 4, .inl f_45)), (k7, .inl (cI, 144, .inl (upd g93_k7 v_48.toNatClampNeg 0)))] := hD
                      obtain ⟨f_49, ef_49⟩ : ∃ g : Nat → Int32, g = upd g93_k7 v_48.toNatClampNeg 0 := ⟨_, rfl⟩
                      rw [← ef_49] at hP hD
                      obtain ⟨v_50, ev_50⟩ : ∃ y : Int32, y = l93_4 + 1 := ⟨_, rfl⟩
                      have tv_50 : v_50.toInt = l93_4.toInt + 1 := by rw [ev_50]; exact k_addv rfl zl_1 (by omega) (by omega)
                      refine lv_iinc (v := v_50) (lv' := [(4, .int v_50), (0, .ref k), (1, .int a0), (2, .int a1), (3, .int a2)]) hx hb dX11_sheet_113 hl (k := 0) rfl (by rw [ev_50]; rfl) (by decide) rfl (fun ls hl => ?_)
                      refine lv_goto (tgt := 93) hx hb dX11_sheet_116 (by decide) ?_
                      exact ih93 v_50 f_49 (by first | omega | decide | assumption | rfl) (by omega) ls _ _ (lv_sub hl [0, 1, 2, 3, 4] rfl) (hP.sub [0, 1, 2, 3, 4] rfl) (hD.sub [0, 1, 2, 3, 4] (by decide) rfl) hS
              exact hloop_93 _ 0 c7 (by first | omega | (simp only [zl_0] <;> omega) | decide | assumption | rfl) (Nat.lt_succ_self _) ls _ _ (lv_sub hl [0, 1, 2, 3, 4] rfl) hP hD hS
            · refine lv_aload_n hx hb dX11_sheet_61 rfl (lv_at hl 0 rfl) ?_
              refine lv_ldc (v := (-1000001)) hx hb hown (hT _ mw_1239) dX11_sheet_62 ?_
              refine kJi (wr := [(k5, .inl (cI, 4, .inl c5)), (k6, .inl (cI, 4, .inl c6)), (k7, .inl (cI, 144, .inl c7))]) (va_runV (As := [.int (-1000001)]) (rest := []) ⟨hx, hb, hml, hown, hT⟩ (c_X11_findingG l D cI aK aV k k0 k1 k2 k4 k5 k6 k7 k8 ka kb kl ko H.size c3 c9 cc cd ce cf cg ch ci cj ck cm cn c4 (-1000001) (by first | omega | (simp only [zl_m1000001] <;> omega) | decide | assumption | rfl) (by first | omega | (simp only [zl_m1000001] <;> omega) | decide | assumption | rfl)) (cwV 1 hT (gV_in mw_1243 mw_1240 mw_1242 mw_p3_8 mw_12) rfl rfl rfl (by decide +kernel) ⟨Nat.le_of_ble_eq_true rfl, Nat.le_of_ble_eq_true rfl⟩) (kRecvX (q0 := 0) (ci := 11) hK hP hD hN hXS hS hA rfl rfl [0, 1] rfl (by decide)) rfl rfl hl.1 rfl (lv_room (Nat.le_of_ble_eq_true rfl)) dX11_sheet_64 ⟨Nat.le_of_ble_eq_true rfl, Nat.le_of_ble_eq_true rfl⟩) hP hD hS hA [0, 1] [2, 3, 4] rfl rfl (by decide) (by decide) (fun r_51 sc4_53 H locs w_52 hP hD hS => ?_)
              have hP : va_P D vwCl [(k5, .inl (cI, 4, .inl c5)), (k6, .inl (cI, 4, .inl c6)), (k7, .inl (cI, 144, .inl c7)), (k, .inr (11, [.ref k0, .ref k1, .ref k2, .int c3, .ref k4, .ref k5, .ref k6, .ref k7, .ref k8, .int c9, .ref ka, .ref kb, .int cc, .int cd, .int ce, .int cf, .int cg, .int ch, .int ci, .int cj, .int ck, .ref kl, .int cm, .int cn, .ref ko])), (k4, .inl (cI, 6, .inl sc4_53))] H := hP
              have hD : va_D A [(k5, .inl (cI, 4, .inl c5)), (k6, .inl (cI, 4, .inl c6)), (k7, .inl (cI, 144, .inl c7)), (k, .inr (11, [.ref k0, .ref k1, .ref k2, .int c3, .ref k4, .ref k5, .ref k6, .ref k7, .ref k8, .int c9, .ref ka, .ref kb, .int cc, .int cd, .int ce, .int cf, .int cg, .int ch, .int ci, .int cj, .int ck, .ref kl, .int cm, .int cn, .ref ko])), (k4, .inl (cI, 6, .inl sc4_53))] := hD
              have hr_51 := w_52
              obtain rfl : r_51 = (-1000001) := hr_51.trans (by decide)
              exact hRet (sc4_53, c5, c6, c7) [3, 4, 0, 1, 2] ⟨(by unfold sp_sheet; repeat (first | rw [if_pos (by omega)] | rw [if_neg (by omega)])), pre0⟩ hP hD (by decide) rfl hS rfl dX11_sheet_67
          · refine lv_aload_n hx hb dX11_sheet_44 rfl (lv_at hl 0 rfl) ?_
            refine lv_ldc (v := (-1000003)) hx hb hown (hT _ mw_1356) dX11_sheet_45 ?_
            refine kJi (wr := [(k5, .inl (cI, 4, .inl c5)), (k6, .inl (cI, 4, .inl c6)), (k7, .inl (cI, 144, .inl c7))]) (va_runV (As := [.int (-1000003)]) (rest := []) ⟨hx, hb, hml, hown, hT⟩ (c_X11_findingG l D cI aK aV k k0 k1 k2 k4 k5 k6 k7 k8 ka kb kl ko H.size c3 c9 cc cd ce cf cg ch ci cj ck cm cn c4 (-1000003) (by first | omega | (simp only [zl_m1000003] <;> omega) | decide | assumption | rfl) (by first | omega | (simp only [zl_m1000003] <;> omega) | decide | assumption | rfl)) (cwV 1 hT (gV_in mw_1243 mw_1240 mw_1242 mw_p3_8 mw_12) rfl rfl rfl (by decide +kernel) ⟨Nat.le_of_ble_eq_true rfl, Nat.le_of_ble_eq_true rfl⟩) (kRecvX (q0 := 0) (ci := 11) hK hP hD hN hXS hS hA rfl rfl [0, 1] rfl (by decide)) rfl rfl hl.1 rfl (lv_room (Nat.le_of_ble_eq_true rfl)) dX11_sheet_47 ⟨Nat.le_of_ble_eq_true rfl, Nat.le_of_ble_eq_true rfl⟩) hP hD hS hA [0, 1] [2, 3, 4] rfl rfl (by decide) (by decide) (fun r_54 sc4_56 H locs w_55 hP hD hS => ?_)
            have hP : va_P D vwCl [(k5, .inl (cI, 4, .inl c5)), (k6, .inl (cI, 4, .inl c6)), (k7, .inl (cI, 144, .inl c7)), (k, .inr (11, [.ref k0, .ref k1, .ref k2, .int c3, .ref k4, .ref k5, .ref k6, .ref k7, .ref k8, .int c9, .ref ka, .ref kb, .int cc, .int cd, .int ce, .int cf, .int cg, .int ch, .int ci, .int cj, .int ck, .ref kl, .int cm, .int cn, .ref ko])), (k4, .inl (cI, 6, .inl sc4_56))] H := hP
            have hD : va_D A [(k5, .inl (cI, 4, .inl c5)), (k6, .inl (cI, 4, .inl c6)), (k7, .inl (cI, 144, .inl c7)), (k, .inr (11, [.ref k0, .ref k1, .ref k2, .int c3, .ref k4, .ref k5, .ref k6, .ref k7, .ref k8, .int c9, .ref ka, .ref kb, .int cc, .int cd, .int ce, .int cf, .int cg, .int ch, .int ci, .int cj, .int ck, .ref kl, .int cm, .int cn, .ref ko])), (k4, .inl (cI, 6, .inl sc4_56))] := hD
            have hr_54 := w_55
            obtain rfl : r_54 = (-1000003) := hr_54.trans (by decide)
            exact hRet (sc4_56, c5, c6, c7) [3, 4, 0, 1, 2] ⟨(by unfold sp_sheet; repeat (first | rw [if_pos (by omega)] | rw [if_neg (by omega)])), pre0⟩ hP hD (by decide) rfl hS rfl dX11_sheet_50
        · refine lv_iload_n hx hb dX11_sheet_23 rfl (lv_at hl 2 rfl) ?_
          refine lv_bipush (v := 32) hx hb dX11_sheet_24 (by decide) ?_
          refine b_icmp_eq hx hb rfl zl_32 (tgt := 36) dX11_sheet_26 (by decide) (fun c_57 => ?_) (fun c_57 => ?_)
          · refine lv_iload_n hx hb dX11_sheet_36 rfl (lv_at hl 2 rfl) ?_
            refine b_if_eq hx hb rfl (tgt := 51) dX11_sheet_37 (by decide) (fun c_58 => by exfalso; omega) (fun c_58 => ?_)
            refine lv_iload_n hx hb dX11_sheet_40 rfl (lv_at hl 3 rfl) ?_
            refine b_if_ge hx hb rfl (tgt := 51) dX11_sheet_41 (by decide) (fun c_59 => ?_) (fun c_59 => ?_)
            · refine lv_iload_n hx hb dX11_sheet_51 rfl (lv_at hl 2 rfl) ?_
              refine b_if_eq hx hb rfl (tgt := 68) dX11_sheet_52 (by decide) (fun c_60 => by exfalso; omega) (fun c_60 => ?_)
              refine lv_iload_n hx hb dX11_sheet_55 rfl (lv_at hl 3 rfl) ?_
              refine lv_bipush (v := 36) hx hb dX11_sheet_56 (by decide) ?_
              refine b_icmp_le hx hb rfl zl_36 (tgt := 68) dX11_sheet_58 (by decide) (fun c_61 => ?_) (fun c_61 => ?_)
              · refine lv_aload_n hx hb dX11_sheet_68 rfl (lv_at hl 0 rfl) ?_
                refine va_get (D := D) (ci := 11) (v := .ref k5) (C := RX11) (T := TX11) (N := 25) hx hb hT giX11 hown hK hP 0 rfl rfl 5 (by decide) (hT (Cond.fieldLink RX11 22 "DesertWireModel" "bits" "[I") mw_1161) (fun _ h9 => h9) rfl dX11_sheet_69 ?_
                refine lv_iload_n hx hb dX11_sheet_72 rfl (lv_at hl 1 rfl) ?_
                refine lv_iload_n hx hb dX11_sheet_73 rfl (lv_at hl 2 rfl) ?_
                refine va_iast hx hb hK hP hD hS 2 0 rfl rfl (k_in (by omega) (by omega)) dX11_sheet_74 (fun H locs hP hD hS => ?_)
                have hP : va_P D vwCl [(k, .inr (11, [.ref k0, .ref k1, .ref k2, .int c3, .ref k4, .ref k5, .ref k6, .ref k7, .ref k8, .int c9, .ref ka, .ref kb, .int cc, .int cd, .int ce, .int cf, .int cg, .int ch, .int ci, .int cj, .int ck, .ref kl, .int cm, .int cn, .ref ko])), (k4, .inl (cI, 6, .inl c4)), (k5, .inl (cI, 4, .inl (upd c5 a0.toNatClampNeg a1))), (k6, .inl (cI, 4, .inl c6)), (k7, .inl (cI, 144, .inl c7))] H := hP
                have hD : va_D A [(k, .inr (11, [.ref k0, .ref k1, .ref k2, .int c3, .ref k4, .ref k5, .ref k6, .ref k7, .ref k8, .int c9, .ref ka, .ref kb, .int cc, .int cd, .int ce, .int cf, .int cg, .int ch, .int ci, .int cj, .int ck, .ref kl, .int cm, .int cn, .ref ko])), (k4, .inl (cI, 6, .inl c4)), (k5, .inl (cI, 4, .inl (upd c5 a0.toNatClampNeg a1))), (k6, .inl (cI, 4, .inl c6)), (k7, .inl (cI, 144, .inl c7))] := hD
                obtain ⟨f_62, ef_62⟩ : ∃ g : Nat → Int32, g = upd c5 a0.toNatClampNeg a1 := ⟨_, rfl⟩
                rw [← ef_62] at hP hD
                refine lv_aload_n hx hb dX11_sheet_75 rfl (lv_at hl 0 rfl) ?_
                refine va_get (D := D) (ci := 11) (v := .ref k6) (C := RX11) (T := TX11) (N := 25) hx hb hT giX11 hown hK hP 0 rfl rfl 6 (by decide) (hT (Cond.fieldLink RX11 25 "DesertWireModel" "size" "[I") mw_1162) (fun _ h9 => h9) rfl dX11_sheet_76 ?_
                refine lv_iload_n hx hb dX11_sheet_79 rfl (lv_at hl 1 rfl) ?_
                refine lv_iload_n hx hb dX11_sheet_80 rfl (lv_at hl 2 rfl) ?_
                refine b_if_ne hx hb rfl (tgt := 88) dX11_sheet_81 (by decide) (fun c_63 => ?_) (fun c_63 => by exfalso; omega)
                refine lv_iload_n hx hb dX11_sheet_88 rfl (lv_at hl 3 rfl) ?_
                refine va_iast hx hb hK hP hD hS 3 0 rfl rfl (k_in (by omega) (by omega)) dX11_sheet_89 (fun H locs hP hD hS => ?_)
                have hP : va_P D vwCl [(k, .inr (11, [.ref k0, .ref k1, .ref k2, .int c3, .ref k4, .ref k5, .ref k6, .ref k7, .ref k8, .int c9, .ref ka, .ref kb, .int cc, .int cd, .int ce, .int cf, .int cg, .int ch, .int ci, .int cj, .int ck, .ref kl, .int cm, .int cn, .ref ko])), (k4, .inl (cI, 6, .inl c4)), (k5, .inl (cI, 4, .inl f_62)), (k6, .inl (cI, 4, .inl (upd c6 a0.toNatClampNeg a2))), (k7, .inl (cI, 144, .inl c7))] H := hP
                have hD : va_D A [(k, .inr (11, [.ref k0, .ref k1, .ref k2, .int c3, .ref k4, .ref k5, .ref k6, .ref k7, .ref k8, .int c9, .ref ka, .ref kb, .int cc, .int cd, .int ce, .int cf, .int cg, .int ch, .int ci, .int cj, .int ck, .ref kl, .int cm, .int cn, .ref ko])), (k4, .inl (cI, 6, .inl c4)), (k5, .inl (cI, 4, .inl f_62)), (k6, .inl (cI, 4, .inl (upd c6 a0.toNatClampNeg a2))), (k7, .inl (cI, 144, .inl c7))] := hD
                obtain ⟨f_64, ef_64⟩ : ∃ g : Nat → Int32, g = upd c6 a0.toNatClampNeg a2 := ⟨_, rfl⟩
                rw [← ef_64] at hP hD
                refine lv_iconst (v := 0) hx hb dX11_sheet_90 (by decide) ?_
                refine lv_istore (lv' := [(4, .int 0), (0, .ref k), (1, .int a0), (2, .int a1), (3, .int a2)]) hx hb dX11_sheet_91 hl (by decide) rfl (fun ls hl => ?_)
                have hloop_93 : ∀ (fu_ : Nat) (l93_4 : Int32) (g93_k7 : Nat → Int32), 0 ≤ l93_4.toInt → (36 - l93_4.toInt).toNat < fu_ → ∀ (ls : Array Slot) (H : Heap) (locs : List Loc), lv_has ls 5 [(4, .int l93_4), (0, .ref k), (1, .int a0), (2, .int a1), (3, .int a2)] → va_P D vwCl [(k, .inr (11, [.ref k0, .ref k1, .ref k2, .int c3, .ref k4, .ref k5, .ref k6, .ref k7, .ref k8, .int c9, .ref ka, .ref kb, .int cc, .int cd, .int ce, .int cf, .int cg, .int ch, .int ci, .int cj, .int ck, .ref kl, .int cm, .int cn, .ref ko])), (k4, .inl (cI, 6, .inl c4)), (k5, .inl (cI, 4, .inl f_62)), (k6, .inl (cI, 4, .inl f_64)), (k7, .inl (cI, 144, .inl g93_k7))] H → va_D A [(k, .inr (11, [.ref k0, .ref k1, .ref k2, .int c3, .ref k4, .ref k5, .ref k6, .ref k7, .ref k8, .int c9, .ref ka, .ref kb, .int cc, .int cd, .int ce, .int cf, .int cg, .int ch, .int ci, .int cj, .int ck, .ref kl, .int cm, .int cn, .ref ko])), (k4, .inl (cI, 6, .inl c4)), (k5, .inl (cI, 4, .inl f_62)), (k6, .inl (cI, 4, .inl f_64)), (k7, .inl (cI, 144, .inl g93_k7))] → va_S A s.heap H locs → W p l e ({ frames := 2, cells := 0, slots := 0, locals := 42 } : Room) s m args below meth c H locs 0 0 Q (F0 m 93 ls []) := by
                  intro fu_; induction fu_ with
                  | zero => intro l93_4 g93_k7 i93_0 hm; exact absurd hm (by omega)
                  | succ fu_ ih93 =>
                      intro l93_4 g93_k7 i93_0 hm ls H locs hl hP hD hS
                      have lo_l93_4 := k_lo l93_4
                      have hi_l93_4 := k_hi l93_4
                      refine lv_iload hx hb dX11_sheet_93 (lv_at hl 0 rfl) ?_
                      refine lv_bipush (v := 36) hx hb dX11_sheet_95 (by decide) ?_
                      refine b_icmp_ge hx hb rfl zl_36 (tgt := 119) dX11_sheet_97 (by decide) (fun c_65 => ?_) (fun c_65 => ?_)
                      · refine lv_iconst (v := 1) hx hb dX11_sheet_119 (by decide) ?_
                        exact hRet (c4, f_62, f_64, g93_k7) [0, 1, 2, 3, 4] ⟨(by unfold sp_sheet; repeat (first | rw [if_pos (by omega)] | rw [if_neg (by omega)])), (k_PL pre0 ef_64 (by first | omega | (rw [zl_0]; omega)) (by first | omega | (rw [zl_0]; omega)))⟩ hP hD (by decide) rfl hS rfl dX11_sheet_120
                      · refine lv_aload_n hx hb dX11_sheet_100 rfl (lv_at hl 1 rfl) ?_
                        refine va_get (D := D) (ci := 11) (v := .ref k7) (C := RX11) (T := TX11) (N := 25) hx hb hT giX11 hown hK hP 0 rfl rfl 7 (by decide) (hT (Cond.fieldLink RX11 28 "DesertWireModel" "number" "[I") mw_1163) (fun _ h9 => h9) rfl dX11_sheet_101 ?_
                        refine lv_bipush (v := 36) hx hb dX11_sheet_104 (by decide) ?_
                        refine lv_iload_n hx hb dX11_sheet_106 rfl (lv_at hl 2 rfl) ?_
                        refine lv_imul hx hb dX11_sheet_107 ?_
                        refine lv_topi (fun v_66 ev_66 => ?_)
                        have tv_66 : v_66.toInt = 36 * a0.toInt := by rw [ev_66]; exact k_mulv zl_36 rfl (by omega) (by omega)
                        refine lv_iload hx hb dX11_sheet_108 (lv_at hl 0 rfl) ?_
                        refine lv_iadd hx hb dX11_sheet_110 ?_
                        refine lv_topi (fun v_67 ev_67 => ?_)
                        have tv_67 : v_67.toInt = v_66.toInt + l93_4.toInt := by rw [ev_67]; exact k_addv rfl rfl (by omega) (by omega)
                        refine lv_iconst (v := 0) hx hb dX11_sheet_111 (by decide) ?_
                        refine va_iast hx hb hK hP hD hS 4 0 rfl rfl (k_in (by omega) (by omega)) dX11_sheet_112 (fun H locs hP hD hS => ?_)
                        have hP : va_P D vwCl [(k, .inr (11, [.ref k0, .ref k1, .ref k2, .int c3, .ref k4, .ref k5, .ref k6, .ref k7, .ref k8, .int c9, .ref ka, .ref kb, .int cc, .int cd, .int ce, .int cf, .int cg, .int ch, .int ci, .int cj, .int ck, .ref kl, .int cm, .int cn, .ref ko])), (k4, .inl (cI, 6, .inl c4)), (k5, .inl (cI, 4, .inl f_62)), (k6, .inl (cI, 4, .inl f_64)), (k7, .inl (cI, 144, .inl (upd g93_k7 v_67.toNatClampNeg 0)))] H := hP
                        have hD : va_D A [(k, .inr (11, [.ref k0, .ref k1, .ref k2, .int c3, .ref k4, .ref k5, .ref k6, .ref k7, .ref k8, .int c9, .ref ka, .ref kb, .int cc, .int cd, .int ce, .int cf, .int cg, .int ch, .int ci, .int cj, .int ck, .ref kl, .int cm, .int cn, .ref ko])), (k4, .inl (cI, 6, .inl c4)), (k5, .inl (cI, 4, .inl f_62)), (k6, .inl (cI, 4, .inl f_64)), (k7, .inl (cI, 144, .inl (upd g93_k7 v_67.toNatClampNeg 0)))] := hD
                        obtain ⟨f_68, ef_68⟩ : ∃ g : Nat → Int32, g = upd g93_k7 v_67.toNatClampNeg 0 := ⟨_, rfl⟩
                        rw [← ef_68] at hP hD
                        obtain ⟨v_69, ev_69⟩ : ∃ y : Int32, y = l93_4 + 1 := ⟨_, rfl⟩
                        have tv_69 : v_69.toInt = l93_4.toInt + 1 := by rw [ev_69]; exact k_addv rfl zl_1 (by omega) (by omega)
                        refine lv_iinc (v := v_69) (lv' := [(4, .int v_69), (0, .ref k), (1, .int a0), (2, .int a1), (3, .int a2)]) hx hb dX11_sheet_113 hl (k := 0) rfl (by rw [ev_69]; rfl) (by decide) rfl (fun ls hl => ?_)
                        refine lv_goto (tgt := 93) hx hb dX11_sheet_116 (by decide) ?_
                        exact ih93 v_69 f_68 (by first | omega | decide | assumption | rfl) (by omega) ls _ _ (lv_sub hl [0, 1, 2, 3, 4] rfl) (hP.sub [0, 1, 2, 3, 4] rfl) (hD.sub [0, 1, 2, 3, 4] (by decide) rfl) hS
                exact hloop_93 _ 0 c7 (by first | omega | (simp only [zl_0] <;> omega) | decide | assumption | rfl) (Nat.lt_succ_self _) ls _ _ (lv_sub hl [0, 1, 2, 3, 4] rfl) hP hD hS
              · refine lv_aload_n hx hb dX11_sheet_61 rfl (lv_at hl 0 rfl) ?_
                refine lv_ldc (v := (-1000001)) hx hb hown (hT _ mw_1239) dX11_sheet_62 ?_
                refine kJi (wr := [(k5, .inl (cI, 4, .inl c5)), (k6, .inl (cI, 4, .inl c6)), (k7, .inl (cI, 144, .inl c7))]) (va_runV (As := [.int (-1000001)]) (rest := []) ⟨hx, hb, hml, hown, hT⟩ (c_X11_findingG l D cI aK aV k k0 k1 k2 k4 k5 k6 k7 k8 ka kb kl ko H.size c3 c9 cc cd ce cf cg ch ci cj ck cm cn c4 (-1000001) (by first | omega | (simp only [zl_m1000001] <;> omega) | decide | assumption | rfl) (by first | omega | (simp only [zl_m1000001] <;> omega) | decide | assumption | rfl)) (cwV 1 hT (gV_in mw_1243 mw_1240 mw_1242 mw_p3_8 mw_12) rfl rfl rfl (by decide +kernel) ⟨Nat.le_of_ble_eq_true rfl, Nat.le_of_ble_eq_true rfl⟩) (kRecvX (q0 := 0) (ci := 11) hK hP hD hN hXS hS hA rfl rfl [0, 1] rfl (by decide)) rfl rfl hl.1 rfl (lv_room (Nat.le_of_ble_eq_true rfl)) dX11_sheet_64 ⟨Nat.le_of_ble_eq_true rfl, Nat.le_of_ble_eq_true rfl⟩) hP hD hS hA [0, 1] [2, 3, 4] rfl rfl (by decide) (by decide) (fun r_70 sc4_72 H locs w_71 hP hD hS => ?_)
                have hP : va_P D vwCl [(k5, .inl (cI, 4, .inl c5)), (k6, .inl (cI, 4, .inl c6)), (k7, .inl (cI, 144, .inl c7)), (k, .inr (11, [.ref k0, .ref k1, .ref k2, .int c3, .ref k4, .ref k5, .ref k6, .ref k7, .ref k8, .int c9, .ref ka, .ref kb, .int cc, .int cd, .int ce, .int cf, .int cg, .int ch, .int ci, .int cj, .int ck, .ref kl, .int cm, .int cn, .ref ko])), (k4, .inl (cI, 6, .inl sc4_72))] H := hP
                have hD : va_D A [(k5, .inl (cI, 4, .inl c5)), (k6, .inl (cI, 4, .inl c6)), (k7, .inl (cI, 144, .inl c7)), (k, .inr (11, [.ref k0, .ref k1, .ref k2, .int c3, .ref k4, .ref k5, .ref k6, .ref k7, .ref k8, .int c9, .ref ka, .ref kb, .int cc, .int cd, .int ce, .int cf, .int cg, .int ch, .int ci, .int cj, .int ck, .ref kl, .int cm, .int cn, .ref ko])), (k4, .inl (cI, 6, .inl sc4_72))] := hD
                have hr_70 := w_71
                obtain rfl : r_70 = (-1000001) := hr_70.trans (by decide)
                exact hRet (sc4_72, c5, c6, c7) [3, 4, 0, 1, 2] ⟨(by unfold sp_sheet; repeat (first | rw [if_pos (by omega)] | rw [if_neg (by omega)])), pre0⟩ hP hD (by decide) rfl hS rfl dX11_sheet_67
            · refine lv_aload_n hx hb dX11_sheet_44 rfl (lv_at hl 0 rfl) ?_
              refine lv_ldc (v := (-1000003)) hx hb hown (hT _ mw_1356) dX11_sheet_45 ?_
              refine kJi (wr := [(k5, .inl (cI, 4, .inl c5)), (k6, .inl (cI, 4, .inl c6)), (k7, .inl (cI, 144, .inl c7))]) (va_runV (As := [.int (-1000003)]) (rest := []) ⟨hx, hb, hml, hown, hT⟩ (c_X11_findingG l D cI aK aV k k0 k1 k2 k4 k5 k6 k7 k8 ka kb kl ko H.size c3 c9 cc cd ce cf cg ch ci cj ck cm cn c4 (-1000003) (by first | omega | (simp only [zl_m1000003] <;> omega) | decide | assumption | rfl) (by first | omega | (simp only [zl_m1000003] <;> omega) | decide | assumption | rfl)) (cwV 1 hT (gV_in mw_1243 mw_1240 mw_1242 mw_p3_8 mw_12) rfl rfl rfl (by decide +kernel) ⟨Nat.le_of_ble_eq_true rfl, Nat.le_of_ble_eq_true rfl⟩) (kRecvX (q0 := 0) (ci := 11) hK hP hD hN hXS hS hA rfl rfl [0, 1] rfl (by decide)) rfl rfl hl.1 rfl (lv_room (Nat.le_of_ble_eq_true rfl)) dX11_sheet_47 ⟨Nat.le_of_ble_eq_true rfl, Nat.le_of_ble_eq_true rfl⟩) hP hD hS hA [0, 1] [2, 3, 4] rfl rfl (by decide) (by decide) (fun r_73 sc4_75 H locs w_74 hP hD hS => ?_)
              have hP : va_P D vwCl [(k5, .inl (cI, 4, .inl c5)), (k6, .inl (cI, 4, .inl c6)), (k7, .inl (cI, 144, .inl c7)), (k, .inr (11, [.ref k0, .ref k1, .ref k2, .int c3, .ref k4, .ref k5, .ref k6, .ref k7, .ref k8, .int c9, .ref ka, .ref kb, .int cc, .int cd, .int ce, .int cf, .int cg, .int ch, .int ci, .int cj, .int ck, .ref kl, .int cm, .int cn, .ref ko])), (k4, .inl (cI, 6, .inl sc4_75))] H := hP
              have hD : va_D A [(k5, .inl (cI, 4, .inl c5)), (k6, .inl (cI, 4, .inl c6)), (k7, .inl (cI, 144, .inl c7)), (k, .inr (11, [.ref k0, .ref k1, .ref k2, .int c3, .ref k4, .ref k5, .ref k6, .ref k7, .ref k8, .int c9, .ref ka, .ref kb, .int cc, .int cd, .int ce, .int cf, .int cg, .int ch, .int ci, .int cj, .int ck, .ref kl, .int cm, .int cn, .ref ko])), (k4, .inl (cI, 6, .inl sc4_75))] := hD
              have hr_73 := w_74
              obtain rfl : r_73 = (-1000003) := hr_73.trans (by decide)
              exact hRet (sc4_75, c5, c6, c7) [3, 4, 0, 1, 2] ⟨(by unfold sp_sheet; repeat (first | rw [if_pos (by omega)] | rw [if_neg (by omega)])), pre0⟩ hP hD (by decide) rfl hS rfl dX11_sheet_50
          · refine lv_aload_n hx hb dX11_sheet_29 rfl (lv_at hl 0 rfl) ?_
            refine lv_ldc (v := (-1000001)) hx hb hown (hT _ mw_1239) dX11_sheet_30 ?_
            refine kJi (wr := [(k5, .inl (cI, 4, .inl c5)), (k6, .inl (cI, 4, .inl c6)), (k7, .inl (cI, 144, .inl c7))]) (va_runV (As := [.int (-1000001)]) (rest := []) ⟨hx, hb, hml, hown, hT⟩ (c_X11_findingG l D cI aK aV k k0 k1 k2 k4 k5 k6 k7 k8 ka kb kl ko H.size c3 c9 cc cd ce cf cg ch ci cj ck cm cn c4 (-1000001) (by first | omega | (simp only [zl_m1000001] <;> omega) | decide | assumption | rfl) (by first | omega | (simp only [zl_m1000001] <;> omega) | decide | assumption | rfl)) (cwV 1 hT (gV_in mw_1243 mw_1240 mw_1242 mw_p3_8 mw_12) rfl rfl rfl (by decide +kernel) ⟨Nat.le_of_ble_eq_true rfl, Nat.le_of_ble_eq_true rfl⟩) (kRecvX (q0 := 0) (ci := 11) hK hP hD hN hXS hS hA rfl rfl [0, 1] rfl (by decide)) rfl rfl hl.1 rfl (lv_room (Nat.le_of_ble_eq_true rfl)) dX11_sheet_32 ⟨Nat.le_of_ble_eq_true rfl, Nat.le_of_ble_eq_true rfl⟩) hP hD hS hA [0, 1] [2, 3, 4] rfl rfl (by decide) (by decide) (fun r_76 sc4_78 H locs w_77 hP hD hS => ?_)
            have hP : va_P D vwCl [(k5, .inl (cI, 4, .inl c5)), (k6, .inl (cI, 4, .inl c6)), (k7, .inl (cI, 144, .inl c7)), (k, .inr (11, [.ref k0, .ref k1, .ref k2, .int c3, .ref k4, .ref k5, .ref k6, .ref k7, .ref k8, .int c9, .ref ka, .ref kb, .int cc, .int cd, .int ce, .int cf, .int cg, .int ch, .int ci, .int cj, .int ck, .ref kl, .int cm, .int cn, .ref ko])), (k4, .inl (cI, 6, .inl sc4_78))] H := hP
            have hD : va_D A [(k5, .inl (cI, 4, .inl c5)), (k6, .inl (cI, 4, .inl c6)), (k7, .inl (cI, 144, .inl c7)), (k, .inr (11, [.ref k0, .ref k1, .ref k2, .int c3, .ref k4, .ref k5, .ref k6, .ref k7, .ref k8, .int c9, .ref ka, .ref kb, .int cc, .int cd, .int ce, .int cf, .int cg, .int ch, .int ci, .int cj, .int ck, .ref kl, .int cm, .int cn, .ref ko])), (k4, .inl (cI, 6, .inl sc4_78))] := hD
            have hr_76 := w_77
            obtain rfl : r_76 = (-1000001) := hr_76.trans (by decide)
            exact hRet (sc4_78, c5, c6, c7) [3, 4, 0, 1, 2] ⟨(by unfold sp_sheet; repeat (first | rw [if_pos (by omega)] | rw [if_neg (by omega)])), pre0⟩ hP hD (by decide) rfl hS rfl dX11_sheet_35
  · have h_6 : a0.toInt < 0 ∨ 3 < a0.toInt := h_6
    obtain rfl : r_1 = 0 := hr_1.trans (by decide)
    refine b_if_eq hx hb zl_0 (tgt := 29) dX11_sheet_4 (by decide) (fun c_79 => ?_) (fun c_79 => by exfalso; omega)
    refine lv_aload_n hx hb dX11_sheet_29 rfl (lv_at hl 0 rfl) ?_
    refine lv_ldc (v := (-1000001)) hx hb hown (hT _ mw_1239) dX11_sheet_30 ?_
    refine kJi (wr := [(k5, .inl (cI, 4, .inl c5)), (k6, .inl (cI, 4, .inl c6)), (k7, .inl (cI, 144, .inl c7))]) (va_runV (As := [.int (-1000001)]) (rest := []) ⟨hx, hb, hml, hown, hT⟩ (c_X11_findingG l D cI aK aV k k0 k1 k2 k4 k5 k6 k7 k8 ka kb kl ko H.size c3 c9 cc cd ce cf cg ch ci cj ck cm cn c4 (-1000001) (by first | omega | (simp only [zl_m1000001] <;> omega) | decide | assumption | rfl) (by first | omega | (simp only [zl_m1000001] <;> omega) | decide | assumption | rfl)) (cwV 1 hT (gV_in mw_1243 mw_1240 mw_1242 mw_p3_8 mw_12) rfl rfl rfl (by decide +kernel) ⟨Nat.le_of_ble_eq_true rfl, Nat.le_of_ble_eq_true rfl⟩) (kRecvX (q0 := 0) (ci := 11) hK hP hD hN hXS hS hA rfl rfl [0, 1] rfl (by decide)) rfl rfl hl.1 rfl (lv_room (Nat.le_of_ble_eq_true rfl)) dX11_sheet_32 ⟨Nat.le_of_ble_eq_true rfl, Nat.le_of_ble_eq_true rfl⟩) hP hD hS hA [0, 1] [2, 3, 4] rfl rfl (by decide) (by decide) (fun r_80 sc4_82 H locs w_81 hP hD hS => ?_)
    have hP : va_P D vwCl [(k5, .inl (cI, 4, .inl c5)), (k6, .inl (cI, 4, .inl c6)), (k7, .inl (cI, 144, .inl c7)), (k, .inr (11, [.ref k0, .ref k1, .ref k2, .int c3, .ref k4, .ref k5, .ref k6, .ref k7, .ref k8, .int c9, .ref ka, .ref kb, .int cc, .int cd, .int ce, .int cf, .int cg, .int ch, .int ci, .int cj, .int ck, .ref kl, .int cm, .int cn, .ref ko])), (k4, .inl (cI, 6, .inl sc4_82))] H := hP
    have hD : va_D A [(k5, .inl (cI, 4, .inl c5)), (k6, .inl (cI, 4, .inl c6)), (k7, .inl (cI, 144, .inl c7)), (k, .inr (11, [.ref k0, .ref k1, .ref k2, .int c3, .ref k4, .ref k5, .ref k6, .ref k7, .ref k8, .int c9, .ref ka, .ref kb, .int cc, .int cd, .int ce, .int cf, .int cg, .int ch, .int ci, .int cj, .int ck, .ref kl, .int cm, .int cn, .ref ko])), (k4, .inl (cI, 6, .inl sc4_82))] := hD
    have hr_80 := w_81
    obtain rfl : r_80 = (-1000001) := hr_80.trans (by decide)
    exact hRet (sc4_82, c5, c6, c7) [3, 4, 0, 1, 2] ⟨(by unfold sp_sheet; repeat (first | rw [if_pos (by omega)] | rw [if_neg (by omega)])), pre0⟩ hP hD (by decide) rfl hS rfl dX11_sheet_35