
set_option maxHeartbeats 4000000 in
set_option maxRecDepth 100000 in
theorem c_X10_imageD (l : Launch) (D : va_G) (cI : ClassId) (aK aV : Nat → Nat) (k k0 k1 k2 k3 k4 k5 k6 k7 k8 k9 ka kb k00 k01 k02 k03 k04 k05 k10 k11 k12 k13 k14 k15 k30 k31 k32 k33 k34 k40 k41 k42 k43 k44 k040 k041 k042 k043 k044 k045 k046 k047 k048 k050 k140 k141 k142 k143 k144 k145 k146 k147 k148 k150 : Nat) (sz : Nat) (cc : Int32) (c06 : Int32) (c07 : Int32) (c08 : Int32) (c16 : Int32) (c17 : Int32) (c18 : Int32) (c35 : Int32) (c36 : Int32) (c45 : Int32) (c46 : Int32) (c00 : Nat → Int32) (c01 : Nat → Int32) (c02 : Nat → Int32) (c03 : Nat → Int32) (c049 : Int32) (c051 : Int32) (c10 : Nat → Int32) (c11 : Nat → Int32) (c12 : Nat → Int32) (c13 : Nat → Int32) (c149 : Int32) (c151 : Int32) (c30 : Nat → Int32) (c31 : Nat → Int32) (c32 : Nat → Int32) (c33 : Nat → Int32) (c34 : Nat → Int32) (c40 : Nat → Int32) (c41 : Nat → Int32) (c42 : Nat → Int32) (c43 : Nat → Int32) (c44 : Nat → Int32) (c040 : Nat → Int32) (c041 : Nat → Int32) (c042 : Nat → Int32) (c043 : Nat → Int32) (c044 : Nat → Int32) (c045 : Nat → Int32) (c046 : Nat → Int32) (c047 : Nat → Int32) (c048 : Nat → Int32) (c050 : Nat → Int32) (c140 : Nat → Int32) (c141 : Nat → Int32) (c142 : Nat → Int32) (c143 : Nat → Int32) (c144 : Nat → Int32) (c145 : Nat → Int32) (c146 : Nat → Int32) (c147 : Nat → Int32) (c148 : Nat → Int32) (c150 : Nat → Int32) : Met l yX10_image (gW yX10_image cX10_image 1 (some .int)) ({ frames := 3, cells := 0, slots := 0, locals := 106 } : Room) (kPreX D cI aK aV [.ref k] [(k, .inr (10, [.ref k0, .ref k1, .ref k2, .ref k3, .ref k4, .ref k5, .ref k6, .ref k7, .ref k8, .ref k9, .ref ka, .ref kb, .int cc])), (k0, .inr (9, [.ref k00, .ref k01, .ref k02, .ref k03, .ref k04, .ref k05, .int c06, .int c07, .int c08])), (k1, .inr (9, [.ref k10, .ref k11, .ref k12, .ref k13, .ref k14, .ref k15, .int c16, .int c17, .int c18])), (k3, .inr (4, [.ref k30, .ref k31, .ref k32, .ref k33, .ref k34, .int c35, .int c36])), (k4, .inr (4, [.ref k40, .ref k41, .ref k42, .ref k43, .ref k44, .int c45, .int c46])), (k00, .inl (cI, 12, .inl c00)), (k01, .inl (cI, 40, .inl c01)), (k02, .inl (cI, 40, .inl c02)), (k03, .inl (cI, 20, .inl c03)), (k04, .inr (8, [.ref k040, .ref k041, .ref k042, .ref k043, .ref k044, .ref k045, .ref k046, .ref k047, .ref k048, .int c049])), (k05, .inr (3, [.ref k050, .int c051])), (k10, .inl (cI, 12, .inl c10)), (k11, .inl (cI, 40, .inl c11)), (k12, .inl (cI, 40, .inl c12)), (k13, .inl (cI, 20, .inl c13)), (k14, .inr (8, [.ref k140, .ref k141, .ref k142, .ref k143, .ref k144, .ref k145, .ref k146, .ref k147, .ref k148, .int c149])), (k15, .inr (3, [.ref k150, .int c151])), (k30, .inl (cI, 50, .inl c30)), (k31, .inl (cI, 600, .inl c31)), (k32, .inl (cI, 12, .inl c32)), (k33, .inl (cI, 12, .inl c33)), (k34, .inl (cI, 12, .inl c34)), (k40, .inl (cI, 50, .inl c40)), (k41, .inl (cI, 600, .inl c41)), (k42, .inl (cI, 12, .inl c42)), (k43, .inl (cI, 12, .inl c43)), (k44, .inl (cI, 12, .inl c44)), (k040, .inl (cI, 60, .inl c040)), (k041, .inl (cI, 60, .inl c041)), (k042, .inl (cI, 60, .inl c042)), (k043, .inl (cI, 60, .inl c043)), (k044, .inl (cI, 60, .inl c044)), (k045, .inl (cI, 60, .inl c045)), (k046, .inl (cI, 40, .inl c046)), (k047, .inl (cI, 40, .inl c047)), (k048, .inl (cI, 40, .inl c048)), (k050, .inl (cI, 36, .inl c050)), (k140, .inl (cI, 60, .inl c140)), (k141, .inl (cI, 60, .inl c141)), (k142, .inl (cI, 60, .inl c142)), (k143, .inl (cI, 60, .inl c143)), (k144, .inl (cI, 60, .inl c144)), (k145, .inl (cI, 60, .inl c145)), (k146, .inl (cI, 40, .inl c146)), (k147, .inl (cI, 40, .inl c147)), (k148, .inl (cI, 40, .inl c148)), (k150, .inl (cI, 36, .inl c150))] sz) (va_Qi (fun (r : Int32) (u : Int32 × Int32 × Int32 × Int32 × Int32 × Int32 × (Nat → Int32) × (Nat → Int32) × (Nat → Int32) × (Nat → Int32) × Int32 × Int32 × (Nat → Int32) × (Nat → Int32) × (Nat → Int32) × (Nat → Int32) × (Nat → Int32) × (Nat → Int32) × (Nat → Int32) × (Nat → Int32) × (Nat → Int32) × (Nat → Int32) × (Nat → Int32) × (Nat → Int32) × (Nat → Int32) × (Nat → Int32) × (Nat → Int32)) => r = cc + 1 ∧ u.1 = cc + 1 ∧ u.2.2.2.2.2.2.1 = c00 ∧ u.2.2.2.2.2.2.2.1 = c01 ∧ u.2.2.2.2.2.2.2.2.1 = c02 ∧ u.2.2.2.2.2.2.2.2.2.1 = c03 ∧ u.2.2.2.2.2.2.2.2.2.2.2.2.2.2.2.2.2.1 = c040 ∧ u.2.2.2.2.2.2.2.2.2.2.2.2.2.2.2.2.2.2.1 = c041 ∧ u.2.2.2.2.2.2.2.2.2.2.2.2.2.2.2.2.2.2.2.1 = c042 ∧ u.2.2.2.2.2.2.2.2.2.2.2.2.2.2.2.2.2.2.2.2.1 = c043 ∧ u.2.2.2.2.2.2.2.2.2.2.2.2.2.2.2.2.2.2.2.2.2.1 = c044 ∧ u.2.2.2.2.2.2.2.2.2.2.2.2.2.2.2.2.2.2.2.2.2.2.1 = c045 ∧ u.2.2.2.2.2.2.2.2.2.2.2.2.2.2.2.2.2.2.2.2.2.2.2.1 = c046 ∧ u.2.2.2.2.2.2.2.2.2.2.2.2.2.2.2.2.2.2.2.2.2.2.2.2.1 = c047 ∧ u.2.2.2.2.2.2.2.2.2.2.2.2.2.2.2.2.2.2.2.2.2.2.2.2.2.1 = c048 ∧ u.2.2.2.2.2.2.2.2.2.2.1 = c049 ∧ u.2.2.2.2.2.2.2.2.2.2.2.2.2.2.2.2.2.2.2.2.2.2.2.2.2.2 = c050 ∧ u.2.2.2.2.2.2.2.2.2.2.2.1 = c051 ∧ u.2.1 = c06 ∧ u.2.2.1 = c07 ∧ u.2.2.2.1 = c08 ∧ u.2.2.2.2.2.2.2.2.2.2.2.2.1 = c30 ∧ u.2.2.2.2.2.2.2.2.2.2.2.2.2.1 = c31 ∧ u.2.2.2.2.2.2.2.2.2.2.2.2.2.2.1 = c32 ∧ u.2.2.2.2.2.2.2.2.2.2.2.2.2.2.2.1 = c33 ∧ u.2.2.2.2.2.2.2.2.2.2.2.2.2.2.2.2.1 = c34 ∧ u.2.2.2.2.1 = c35 ∧ u.2.2.2.2.2.1 = c36) (fun u t => kWd D cI (va_A [(k, .inr (10, [.ref k0, .ref k1, .ref k2, .ref k3, .ref k4, .ref k5, .ref k6, .ref k7, .ref k8, .ref k9, .ref ka, .ref kb, .int cc])), (k0, .inr (9, [.ref k00, .ref k01, .ref k02, .ref k03, .ref k04, .ref k05, .int c06, .int c07, .int c08])), (k1, .inr (9, [.ref k10, .ref k11, .ref k12, .ref k13, .ref k14, .ref k15, .int c16, .int c17, .int c18])), (k3, .inr (4, [.ref k30, .ref k31, .ref k32, .ref k33, .ref k34, .int c35, .int c36])), (k4, .inr (4, [.ref k40, .ref k41, .ref k42, .ref k43, .ref k44, .int c45, .int c46])), (k00, .inl (cI, 12, .inl c00)), (k01, .inl (cI, 40, .inl c01)), (k02, .inl (cI, 40, .inl c02)), (k03, .inl (cI, 20, .inl c03)), (k04, .inr (8, [.ref k040, .ref k041, .ref k042, .ref k043, .ref k044, .ref k045, .ref k046, .ref k047, .ref k048, .int c049])), (k05, .inr (3, [.ref k050, .int c051])), (k10, .inl (cI, 12, .inl c10)), (k11, .inl (cI, 40, .inl c11)), (k12, .inl (cI, 40, .inl c12)), (k13, .inl (cI, 20, .inl c13)), (k14, .inr (8, [.ref k140, .ref k141, .ref k142, .ref k143, .ref k144, .ref k145, .ref k146, .ref k147, .ref k148, .int c149])), (k15, .inr (3, [.ref k150, .int c151])), (k30, .inl (cI, 50, .inl c30)), (k31, .inl (cI, 600, .inl c31)), (k32, .inl (cI, 12, .inl c32)), (k33, .inl (cI, 12, .inl c33)), (k34, .inl (cI, 12, .inl c34)), (k40, .inl (cI, 50, .inl c40)), (k41, .inl (cI, 600, .inl c41)), (k42, .inl (cI, 12, .inl c42)), (k43, .inl (cI, 12, .inl c43)), (k44, .inl (cI, 12, .inl c44)), (k040, .inl (cI, 60, .inl c040)), (k041, .inl (cI, 60, .inl c041)), (k042, .inl (cI, 60, .inl c042)), (k043, .inl (cI, 60, .inl c043)), (k044, .inl (cI, 60, .inl c044)), (k045, .inl (cI, 60, .inl c045)), (k046, .inl (cI, 40, .inl c046)), (k047, .inl (cI, 40, .inl c047)), (k048, .inl (cI, 40, .inl c048)), (k050, .inl (cI, 36, .inl c050)), (k140, .inl (cI, 60, .inl c140)), (k141, .inl (cI, 60, .inl c141)), (k142, .inl (cI, 60, .inl c142)), (k143, .inl (cI, 60, .inl c143)), (k144, .inl (cI, 60, .inl c144)), (k145, .inl (cI, 60, .inl c145)), (k146, .inl (cI, 40, .inl c146)), (k147, .inl (cI, 40, .inl c147)), (k148, .inl (cI, 40, .inl c148)), (k150, .inl (cI, 36, .inl c150))] sz) [(k, .inr (10, [.ref k0, .ref k1, .ref k2, .ref k3, .ref k4, .ref k5, .ref k6, .ref k7, .ref k8, .ref k9, .ref ka, .ref kb, .int u.1])), (k0, .inr (9, [.ref k00, .ref k01, .ref k02, .ref k03, .ref k04, .ref k05, .int c06, .int c07, .int c08])), (k1, .inr (9, [.ref k10, .ref k11, .ref k12, .ref k13, .ref k14, .ref k15, .int u.2.1, .int u.2.2.1, .int u.2.2.2.1])), (k3, .inr (4, [.ref k30, .ref k31, .ref k32, .ref k33, .ref k34, .int c35, .int c36])), (k4, .inr (4, [.ref k40, .ref k41, .ref k42, .ref k43, .ref k44, .int u.2.2.2.2.1, .int u.2.2.2.2.2.1])), (k00, .inl (cI, 12, .inl c00)), (k01, .inl (cI, 40, .inl c01)), (k02, .inl (cI, 40, .inl c02)), (k03, .inl (cI, 20, .inl c03)), (k04, .inr (8, [.ref k040, .ref k041, .ref k042, .ref k043, .ref k044, .ref k045, .ref k046, .ref k047, .ref k048, .int c049])), (k05, .inr (3, [.ref k050, .int c051])), (k10, .inl (cI, 12, .inl u.2.2.2.2.2.2.1)), (k11, .inl (cI, 40, .inl u.2.2.2.2.2.2.2.1)), (k12, .inl (cI, 40, .inl u.2.2.2.2.2.2.2.2.1)), (k13, .inl (cI, 20, .inl u.2.2.2.2.2.2.2.2.2.1)), (k14, .inr (8, [.ref k140, .ref k141, .ref k142, .ref k143, .ref k144, .ref k145, .ref k146, .ref k147, .ref k148, .int u.2.2.2.2.2.2.2.2.2.2.1])), (k15, .inr (3, [.ref k150, .int u.2.2.2.2.2.2.2.2.2.2.2.1])), (k30, .inl (cI, 50, .inl c30)), (k31, .inl (cI, 600, .inl c31)), (k32, .inl (cI, 12, .inl c32)), (k33, .inl (cI, 12, .inl c33)), (k34, .inl (cI, 12, .inl c34)), (k40, .inl (cI, 50, .inl u.2.2.2.2.2.2.2.2.2.2.2.2.1)), (k41, .inl (cI, 600, .inl u.2.2.2.2.2.2.2.2.2.2.2.2.2.1)), (k42, .inl (cI, 12, .inl u.2.2.2.2.2.2.2.2.2.2.2.2.2.2.1)), (k43, .inl (cI, 12, .inl u.2.2.2.2.2.2.2.2.2.2.2.2.2.2.2.1)), (k44, .inl (cI, 12, .inl u.2.2.2.2.2.2.2.2.2.2.2.2.2.2.2.2.1)), (k040, .inl (cI, 60, .inl c040)), (k041, .inl (cI, 60, .inl c041)), (k042, .inl (cI, 60, .inl c042)), (k043, .inl (cI, 60, .inl c043)), (k044, .inl (cI, 60, .inl c044)), (k045, .inl (cI, 60, .inl c045)), (k046, .inl (cI, 40, .inl c046)), (k047, .inl (cI, 40, .inl c047)), (k048, .inl (cI, 40, .inl c048)), (k050, .inl (cI, 36, .inl c050)), (k140, .inl (cI, 60, .inl u.2.2.2.2.2.2.2.2.2.2.2.2.2.2.2.2.2.1)), (k141, .inl (cI, 60, .inl u.2.2.2.2.2.2.2.2.2.2.2.2.2.2.2.2.2.2.1)), (k142, .inl (cI, 60, .inl u.2.2.2.2.2.2.2.2.2.2.2.2.2.2.2.2.2.2.2.1)), (k143, .inl (cI, 60, .inl u.2.2.2.2.2.2.2.2.2.2.2.2.2.2.2.2.2.2.2.2.1)), (k144, .inl (cI, 60, .inl u.2.2.2.2.2.2.2.2.2.2.2.2.2.2.2.2.2.2.2.2.2.1)), (k145, .inl (cI, 60, .inl u.2.2.2.2.2.2.2.2.2.2.2.2.2.2.2.2.2.2.2.2.2.2.1)), (k146, .inl (cI, 40, .inl u.2.2.2.2.2.2.2.2.2.2.2.2.2.2.2.2.2.2.2.2.2.2.2.1)), (k147, .inl (cI, 40, .inl u.2.2.2.2.2.2.2.2.2.2.2.2.2.2.2.2.2.2.2.2.2.2.2.2.1)), (k148, .inl (cI, 40, .inl u.2.2.2.2.2.2.2.2.2.2.2.2.2.2.2.2.2.2.2.2.2.2.2.2.2.1)), (k150, .inl (cI, 36, .inl u.2.2.2.2.2.2.2.2.2.2.2.2.2.2.2.2.2.2.2.2.2.2.2.2.2.2))] t) (va_A [(k, .inr (10, [.ref k0, .ref k1, .ref k2, .ref k3, .ref k4, .ref k5, .ref k6, .ref k7, .ref k8, .ref k9, .ref ka, .ref kb, .int cc])), (k0, .inr (9, [.ref k00, .ref k01, .ref k02, .ref k03, .ref k04, .ref k05, .int c06, .int c07, .int c08])), (k1, .inr (9, [.ref k10, .ref k11, .ref k12, .ref k13, .ref k14, .ref k15, .int c16, .int c17, .int c18])), (k3, .inr (4, [.ref k30, .ref k31, .ref k32, .ref k33, .ref k34, .int c35, .int c36])), (k4, .inr (4, [.ref k40, .ref k41, .ref k42, .ref k43, .ref k44, .int c45, .int c46])), (k00, .inl (cI, 12, .inl c00)), (k01, .inl (cI, 40, .inl c01)), (k02, .inl (cI, 40, .inl c02)), (k03, .inl (cI, 20, .inl c03)), (k04, .inr (8, [.ref k040, .ref k041, .ref k042, .ref k043, .ref k044, .ref k045, .ref k046, .ref k047, .ref k048, .int c049])), (k05, .inr (3, [.ref k050, .int c051])), (k10, .inl (cI, 12, .inl c10)), (k11, .inl (cI, 40, .inl c11)), (k12, .inl (cI, 40, .inl c12)), (k13, .inl (cI, 20, .inl c13)), (k14, .inr (8, [.ref k140, .ref k141, .ref k142, .ref k143, .ref k144, .ref k145, .ref k146, .ref k147, .ref k148, .int c149])), (k15, .inr (3, [.ref k150, .int c151])), (k30, .inl (cI, 50, .inl c30)), (k31, .inl (cI, 600, .inl c31)), (k32, .inl (cI, 12, .inl c32)), (k33, .inl (cI, 12, .inl c33)), (k34, .inl (cI, 12, .inl c34)), (k40, .inl (cI, 50, .inl c40)), (k41, .inl (cI, 600, .inl c41)), (k42, .inl (cI, 12, .inl c42)), (k43, .inl (cI, 12, .inl c43)), (k44, .inl (cI, 12, .inl c44)), (k040, .inl (cI, 60, .inl c040)), (k041, .inl (cI, 60, .inl c041)), (k042, .inl (cI, 60, .inl c042)), (k043, .inl (cI, 60, .inl c043)), (k044, .inl (cI, 60, .inl c044)), (k045, .inl (cI, 60, .inl c045)), (k046, .inl (cI, 40, .inl c046)), (k047, .inl (cI, 40, .inl c047)), (k048, .inl (cI, 40, .inl c048)), (k050, .inl (cI, 36, .inl c050)), (k140, .inl (cI, 60, .inl c140)), (k141, .inl (cI, 60, .inl c141)), (k142, .inl (cI, 60, .inl c142)), (k143, .inl (cI, 60, .inl c143)), (k144, .inl (cI, 60, .inl c144)), (k145, .inl (cI, 60, .inl c145)), (k146, .inl (cI, 40, .inl c146)), (k147, .inl (cI, 40, .inl c147)), (k148, .inl (cI, 40, .inl c148)), (k150, .inl (cI, 36, .inl c150))] sz)) 0 0 (va_A [(k, .inr (10, [.ref k0, .ref k1, .ref k2, .ref k3, .ref k4, .ref k5, .ref k6, .ref k7, .ref k8, .ref k9, .ref ka, .ref kb, .int cc])), (k0, .inr (9, [.ref k00, .ref k01, .ref k02, .ref k03, .ref k04, .ref k05, .int c06, .int c07, .int c08])), (k1, .inr (9, [.ref k10, .ref k11, .ref k12, .ref k13, .ref k14, .ref k15, .int c16, .int c17, .int c18])), (k3, .inr (4, [.ref k30, .ref k31, .ref k32, .ref k33, .ref k34, .int c35, .int c36])), (k4, .inr (4, [.ref k40, .ref k41, .ref k42, .ref k43, .ref k44, .int c45, .int c46])), (k00, .inl (cI, 12, .inl c00)), (k01, .inl (cI, 40, .inl c01)), (k02, .inl (cI, 40, .inl c02)), (k03, .inl (cI, 20, .inl c03)), (k04, .inr (8, [.ref k040, .ref k041, .ref k042, .ref k043, .ref k044, .ref k045, .ref k046, .ref k047, .ref k048, .int c049])), (k05, .inr (3, [.ref k050, .int c051])), (k10, .inl (cI, 12, .inl c10)), (k11, .inl (cI, 40, .inl c11)), (k12, .inl (cI, 40, .inl c12)), (k13, .inl (cI, 20, .inl c13)), (k14, .inr (8, [.ref k140, .ref k141, .ref k142, .ref k143, .ref k144, .ref k145, .ref k146, .ref k147, .ref k148, .int c149])), (k15, .inr (3, [.ref k150, .int c151])), (k30, .inl (cI, 50, .inl c30)), (k31, .inl (cI, 600, .inl c31)), (k32, .inl (cI, 12, .inl c32)), (k33, .inl (cI, 12, .inl c33)), (k34, .inl (cI, 12, .inl c34)), (k40, .inl (cI, 50, .inl c40)), (k41, .inl (cI, 600, .inl c41)), (k42, .inl (cI, 12, .inl c42)), (k43, .inl (cI, 12, .inl c43)), (k44, .inl (cI, 12, .inl c44)), (k040, .inl (cI, 60, .inl c040)), (k041, .inl (cI, 60, .inl c041)), (k042, .inl (cI, 60, .inl c042)), (k043, .inl (cI, 60, .inl c043)), (k044, .inl (cI, 60, .inl c044)), (k045, .inl (cI, 60, .inl c045)), (k046, .inl (cI, 40, .inl c046)), (k047, .inl (cI, 40, .inl c047)), (k048, .inl (cI, 40, .inl c048)), (k050, .inl (cI, 36, .inl c050)), (k140, .inl (cI, 60, .inl c140)), (k141, .inl (cI, 60, .inl c141)), (k142, .inl (cI, 60, .inl c142)), (k143, .inl (cI, 60, .inl c143)), (k144, .inl (cI, 60, .inl c144)), (k145, .inl (cI, 60, .inl c145)), (k146, .inl (cI, 40, .inl c146)), (k147, .inl (cI, 40, .inl c147)), (k148, .inl (cI, 40, .inl c148)), (k150, .inl (cI, 36, .inl c150))] sz) := by
  refine kMetIX (own := RX10) (by decide) rfl (Nat.le_of_ble_eq_true rfl) ?_
  intro p e s m args below meth c hx hb hT hown hname hml A Q hK hP hD hS hA hN hXS hRet ls hl
  have hl : lv_has ls 1 [(0, .ref k)] := hl
  have lo_cc := k_lo cc
  have hi_cc := k_hi cc
  have lo_c06 := k_lo c06
  have hi_c06 := k_hi c06
  have lo_c07 := k_lo c07
  have hi_c07 := k_hi c07
  have lo_c08 := k_lo c08
  have hi_c08 := k_hi c08
  have lo_c35 := k_lo c35
  have hi_c35 := k_hi c35
  have lo_c36 := k_lo c36
  have hi_c36 := k_hi c36
  have lo_c049 := k_lo c049
  have hi_c049 := k_hi c049
  have lo_c051 := k_lo c051
  have hi_c051 := k_hi c051
  refine lv_aload_n hx hb dX10_image_0 rfl (lv_at hl 0 rfl) ?_
  refine va_get (D := D) (ci := 10) (v := .ref k1) (C := RX10) (T := TX10) (N := 13) hx hb hT giX10 hown hK hP 0 rfl rfl 1 (by decide) (hT (Cond.fieldLink RX10 16 "DesertWire" "kept" "LDesertWire$World;") mw_292) (fun _ h9 => h9) rfl dX10_image_1 ?_
  refine lv_aload_n hx hb dX10_image_4 rfl (lv_at hl 0 rfl) ?_
  refine va_get (D := D) (ci := 10) (v := .ref k0) (C := RX10) (T := TX10) (N := 13) hx hb hT giX10 hown hK hP 0 rfl rfl 0 (by decide) (hT (Cond.fieldLink RX10 12 "DesertWire" "now" "LDesertWire$World;") mw_291) (fun _ h9 => h9) rfl dX10_image_5 ?_
  refine kJv (wr := [(k, .inr (10, [.ref k0, .ref k1, .ref k2, .ref k3, .ref k4, .ref k5, .ref k6, .ref k7, .ref k8, .ref k9, .ref ka, .ref kb, .int cc])), (k3, .inr (4, [.ref k30, .ref k31, .ref k32, .ref k33, .ref k34, .int c35, .int c36])), (k4, .inr (4, [.ref k40, .ref k41, .ref k42, .ref k43, .ref k44, .int c45, .int c46])), (k30, .inl (cI, 50, .inl c30)), (k31, .inl (cI, 600, .inl c31)), (k32, .inl (cI, 12, .inl c32)), (k33, .inl (cI, 12, .inl c33)), (k34, .inl (cI, 12, .inl c34)), (k40, .inl (cI, 50, .inl c40)), (k41, .inl (cI, 600, .inl c41)), (k42, .inl (cI, 12, .inl c42)), (k43, .inl (cI, 12, .inl c43)), (k44, .inl (cI, 12, .inl c44))]) (va_runV (As := [.ref k0]) (rest := []) ⟨hx, hb, hml, hown, hT⟩ (c_X9_copyFromE l D cI aK aV k1 k0 k10 k11 k12 k13 k14 k15 k140 k141 k142 k143 k144 k145 k146 k147 k148 k150 k00 k01 k02 k03 k04 k05 k040 k041 k042 k043 k044 k045 k046 k047 k048 k050 s.heap.size c16 c17 c18 c10 c11 c12 c13 c149 c151 c140 c141 c142 c143 c144 c145 c146 c147 c148 c150 c06 c07 c08 c00 c01 c02 c03 c049 c051 c040 c041 c042 c043 c044 c045 c046 c047 c048 c050) (cwV 1 hT (gV_in mw_1014 mw_1011 mw_1012 mw_1013 mw_2) rfl rfl rfl (by decide +kernel) ⟨Nat.le_of_ble_eq_true rfl, Nat.le_of_ble_eq_true rfl⟩) (kRecvX (q0 := 2) (ci := 9) hK hP hD hN hXS hS hA rfl rfl [2, 11, 12, 13, 14, 15, 16, 37, 38, 39, 40, 41, 42, 43, 44, 45, 46, 1, 5, 6, 7, 8, 9, 10, 27, 28, 29, 30, 31, 32, 33, 34, 35, 36] rfl (by decide)) rfl rfl hl.1 rfl (lv_room (Nat.le_of_ble_eq_true rfl)) dX10_image_8 ⟨Nat.le_of_ble_eq_true rfl, Nat.le_of_ble_eq_true rfl⟩) hP hD hS hA [2, 11, 12, 13, 14, 15, 16, 37, 38, 39, 40, 41, 42, 43, 44, 45, 46, 1, 5, 6, 7, 8, 9, 10, 27, 28, 29, 30, 31, 32, 33, 34, 35, 36] [0, 3, 4, 17, 18, 19, 20, 21, 22, 23, 24, 25, 26] rfl rfl (by decide) (by decide) ?_
  clear hP hD hS
  intro u_22 H locs w_2 hP hD hS
  obtain ⟨sc6_3, sc7_4, sc8_5, sc0_6, sc1_7, sc2_8, sc3_9, sc49_10, sc51_11, sc40_12, sc41_13, sc42_14, sc43_15, sc44_16, sc45_17, sc46_18, sc47_19, sc48_20, sc50_21⟩ := u_22
  replace hP : va_P D vwCl [(k, .inr (10, [.ref k0, .ref k1, .ref k2, .ref k3, .ref k4, .ref k5, .ref k6, .ref k7, .ref k8, .ref k9, .ref ka, .ref kb, .int cc])), (k3, .inr (4, [.ref k30, .ref k31, .ref k32, .ref k33, .ref k34, .int c35, .int c36])), (k4, .inr (4, [.ref k40, .ref k41, .ref k42, .ref k43, .ref k44, .int c45, .int c46])), (k30, .inl (cI, 50, .inl c30)), (k31, .inl (cI, 600, .inl c31)), (k32, .inl (cI, 12, .inl c32)), (k33, .inl (cI, 12, .inl c33)), (k34, .inl (cI, 12, .inl c34)), (k40, .inl (cI, 50, .inl c40)), (k41, .inl (cI, 600, .inl c41)), (k42, .inl (cI, 12, .inl c42)), (k43, .inl (cI, 12, .inl c43)), (k44, .inl (cI, 12, .inl c44)), (k1, .inr (9, [.ref k10, .ref k11, .ref k12, .ref k13, .ref k14, .ref k15, .int sc6_3, .int sc7_4, .int sc8_5])), (k10, .inl (cI, 12, .inl sc0_6)), (k11, .inl (cI, 40, .inl sc1_7)), (k12, .inl (cI, 40, .inl sc2_8)), (k13, .inl (cI, 20, .inl sc3_9)), (k14, .inr (8, [.ref k140, .ref k141, .ref k142, .ref k143, .ref k144, .ref k145, .ref k146, .ref k147, .ref k148, .int sc49_10])), (k15, .inr (3, [.ref k150, .int sc51_11])), (k140, .inl (cI, 60, .inl sc40_12)), (k141, .inl (cI, 60, .inl sc41_13)), (k142, .inl (cI, 60, .inl sc42_14)), (k143, .inl (cI, 60, .inl sc43_15)), (k144, .inl (cI, 60, .inl sc44_16)), (k145, .inl (cI, 60, .inl sc45_17)), (k146, .inl (cI, 40, .inl sc46_18)), (k147, .inl (cI, 40, .inl sc47_19)), (k148, .inl (cI, 40, .inl sc48_20)), (k150, .inl (cI, 36, .inl sc50_21)), (k0, .inr (9, [.ref k00, .ref k01, .ref k02, .ref k03, .ref k04, .ref k05, .int c06, .int c07, .int c08])), (k00, .inl (cI, 12, .inl c00)), (k01, .inl (cI, 40, .inl c01)), (k02, .inl (cI, 40, .inl c02)), (k03, .inl (cI, 20, .inl c03)), (k04, .inr (8, [.ref k040, .ref k041, .ref k042, .ref k043, .ref k044, .ref k045, .ref k046, .ref k047, .ref k048, .int c049])), (k05, .inr (3, [.ref k050, .int c051])), (k040, .inl (cI, 60, .inl c040)), (k041, .inl (cI, 60, .inl c041)), (k042, .inl (cI, 60, .inl c042)), (k043, .inl (cI, 60, .inl c043)), (k044, .inl (cI, 60, .inl c044)), (k045, .inl (cI, 60, .inl c045)), (k046, .inl (cI, 40, .inl c046)), (k047, .inl (cI, 40, .inl c047)), (k048, .inl (cI, 40, .inl c048)), (k050, .inl (cI, 36, .inl c050))] H := hP
  replace hD : va_D A [(k, .inr (10, [.ref k0, .ref k1, .ref k2, .ref k3, .ref k4, .ref k5, .ref k6, .ref k7, .ref k8, .ref k9, .ref ka, .ref kb, .int cc])), (k3, .inr (4, [.ref k30, .ref k31, .ref k32, .ref k33, .ref k34, .int c35, .int c36])), (k4, .inr (4, [.ref k40, .ref k41, .ref k42, .ref k43, .ref k44, .int c45, .int c46])), (k30, .inl (cI, 50, .inl c30)), (k31, .inl (cI, 600, .inl c31)), (k32, .inl (cI, 12, .inl c32)), (k33, .inl (cI, 12, .inl c33)), (k34, .inl (cI, 12, .inl c34)), (k40, .inl (cI, 50, .inl c40)), (k41, .inl (cI, 600, .inl c41)), (k42, .inl (cI, 12, .inl c42)), (k43, .inl (cI, 12, .inl c43)), (k44, .inl (cI, 12, .inl c44)), (k1, .inr (9, [.ref k10, .ref k11, .ref k12, .ref k13, .ref k14, .ref k15, .int sc6_3, .int sc7_4, .int sc8_5])), (k10, .inl (cI, 12, .inl sc0_6)), (k11, .inl (cI, 40, .inl sc1_7)), (k12, .inl (cI, 40, .inl sc2_8)), (k13, .inl (cI, 20, .inl sc3_9)), (k14, .inr (8, [.ref k140, .ref k141, .ref k142, .ref k143, .ref k144, .ref k145, .ref k146, .ref k147, .ref k148, .int sc49_10])), (k15, .inr (3, [.ref k150, .int sc51_11])), (k140, .inl (cI, 60, .inl sc40_12)), (k141, .inl (cI, 60, .inl sc41_13)), (k142, .inl (cI, 60, .inl sc42_14)), (k143, .inl (cI, 60, .inl sc43_15)), (k144, .inl (cI, 60, .inl sc44_16)), (k145, .inl (cI, 60, .inl sc45_17)), (k146, .inl (cI, 40, .inl sc46_18)), (k147, .inl (cI, 40, .inl sc47_19)), (k148, .inl (cI, 40, .inl sc48_20)), (k150, .inl (cI, 36, .inl sc50_21)), (k0, .inr (9, [.ref k00, .ref k01, .ref k02, .ref k03, .ref k04, .ref k05, .int c06, .int c07, .int c08])), (k00, .inl (cI, 12, .inl c00)), (k01, .inl (cI, 40, .inl c01)), (k02, .inl (cI, 40, .inl c02)), (k03, .inl (cI, 20, .inl c03)), (k04, .inr (8, [.ref k040, .ref k041, .ref k042, .ref k043, .ref k044, .ref k045, .ref k046, .ref k047, .ref k048, .int c049])), (k05, .inr (3, [.ref k050, .int c051])), (k040, .inl (cI, 60, .inl c040)), (k041, .inl (cI, 60, .inl c041)), (k042, .inl (cI, 60, .inl c042)), (k043, .inl (cI, 60, .inl c043)), (k044, .inl (cI, 60, .inl c044)), (k045, .inl (cI, 60, .inl c045)), (k046, .inl (cI, 40, .inl c046)), (k047, .inl (cI, 40, .inl c047)), (k048, .inl (cI, 40, .inl c048)), (k050, .inl (cI, 36, .inl c050))] := hD
  have lo_sc6_3 := k_lo sc6_3
  have hi_sc6_3 := k_hi sc6_3
  have lo_sc7_4 := k_lo sc7_4
  have hi_sc7_4 := k_hi sc7_4
  have lo_sc8_5 := k_lo sc8_5
  have hi_sc8_5 := k_hi sc8_5
  have lo_sc49_10 := k_lo sc49_10
  have hi_sc49_10 := k_hi sc49_10
  have lo_sc51_11 := k_lo sc51_11
  have hi_sc51_11 := k_hi sc51_11
  obtain ⟨h_23, h_24, h_25, h_26, h_27, h_28, h_29, h_30, h_31, h_32, h_33, h_34, h_35, h_36, h_37, h_38, h_39, h_40, h_41⟩ := w_2
  have h_23 : sc0_6 = c00 := h_23
  have h_24 : sc1_7 = c01 := h_24
  have h_25 : sc2_8 = c02 := h_25
  have h_26 : sc3_9 = c03 := h_26
  have h_27 : sc40_12 = c040 := h_27
  have h_28 : sc41_13 = c041 := h_28
  have h_29 : sc42_14 = c042 := h_29
  have h_30 : sc43_15 = c043 := h_30
  have h_31 : sc44_16 = c044 := h_31
  have h_32 : sc45_17 = c045 := h_32
  have h_33 : sc46_18 = c046 := h_33
  have h_34 : sc47_19 = c047 := h_34
  have h_35 : sc48_20 = c048 := h_35
  have h_36 : sc49_10 = c049 := h_36
  have h_37 : sc50_21 = c050 := h_37
  have h_38 : sc51_11 = c051 := h_38
  have h_39 : sc6_3 = c06 := h_39
  have h_40 : sc7_4 = c07 := h_40
  have h_41 : sc8_5 = c08 := h_41
  refine lv_aload_n hx hb dX10_image_11 rfl (lv_at hl 0 rfl) ?_
  refine va_get (D := D) (ci := 10) (v := .ref k4) (C := RX10) (T := TX10) (N := 13) hx hb hT giX10 hown hK hP 0 rfl rfl 4 (by decide) (hT (Cond.fieldLink RX10 29 "DesertWire" "keptRates" "LDesertWire$Rates;") mw_295) (fun _ h9 => h9) rfl dX10_image_12 ?_
  refine lv_aload_n hx hb dX10_image_15 rfl (lv_at hl 0 rfl) ?_
  refine va_get (D := D) (ci := 10) (v := .ref k3) (C := RX10) (T := TX10) (N := 13) hx hb hT giX10 hown hK hP 0 rfl rfl 3 (by decide) (hT (Cond.fieldLink RX10 25 "DesertWire" "rates" "LDesertWire$Rates;") mw_294) (fun _ h9 => h9) rfl dX10_image_16 ?_
  refine kJv (wr := [(k, .inr (10, [.ref k0, .ref k1, .ref k2, .ref k3, .ref k4, .ref k5, .ref k6, .ref k7, .ref k8, .ref k9, .ref ka, .ref kb, .int cc])), (k1, .inr (9, [.ref k10, .ref k11, .ref k12, .ref k13, .ref k14, .ref k15, .int sc6_3, .int sc7_4, .int sc8_5])), (k10, .inl (cI, 12, .inl sc0_6)), (k11, .inl (cI, 40, .inl sc1_7)), (k12, .inl (cI, 40, .inl sc2_8)), (k13, .inl (cI, 20, .inl sc3_9)), (k14, .inr (8, [.ref k140, .ref k141, .ref k142, .ref k143, .ref k144, .ref k145, .ref k146, .ref k147, .ref k148, .int sc49_10])), (k15, .inr (3, [.ref k150, .int sc51_11])), (k140, .inl (cI, 60, .inl sc40_12)), (k141, .inl (cI, 60, .inl sc41_13)), (k142, .inl (cI, 60, .inl sc42_14)), (k143, .inl (cI, 60, .inl sc43_15)), (k144, .inl (cI, 60, .inl sc44_16)), (k145, .inl (cI, 60, .inl sc45_17)), (k146, .inl (cI, 40, .inl sc46_18)), (k147, .inl (cI, 40, .inl sc47_19)), (k148, .inl (cI, 40, .inl sc48_20)), (k150, .inl (cI, 36, .inl sc50_21)), (k0, .inr (9, [.ref k00, .ref k01, .ref k02, .ref k03, .ref k04, .ref k05, .int c06, .int c07, .int c08])), (k00, .inl (cI, 12, .inl c00)), (k01, .inl (cI, 40, .inl c01)), (k02, .inl (cI, 40, .inl c02)), (k03, .inl (cI, 20, .inl c03)), (k04, .inr (8, [.ref k040, .ref k041, .ref k042, .ref k043, .ref k044, .ref k045, .ref k046, .ref k047, .ref k048, .int c049])), (k05, .inr (3, [.ref k050, .int c051])), (k040, .inl (cI, 60, .inl c040)), (k041, .inl (cI, 60, .inl c041)), (k042, .inl (cI, 60, .inl c042)), (k043, .inl (cI, 60, .inl c043)), (k044, .inl (cI, 60, .inl c044)), (k045, .inl (cI, 60, .inl c045)), (k046, .inl (cI, 40, .inl c046)), (k047, .inl (cI, 40, .inl c047)), (k048, .inl (cI, 40, .inl c048)), (k050, .inl (cI, 36, .inl c050))]) (va_runV (As := [.ref k3]) (rest := []) ⟨hx, hb, hml, hown, hT⟩ (c_X4_copyFromG l D cI aK aV k4 k3 k40 k41 k42 k43 k44 k30 k31 k32 k33 k34 H.size c45 c46 c40 c41 c42 c43 c44 c35 c36 c30 c31 c32 c33 c34) (cwV 1 hT (gV_in mw_1108 mw_1105 mw_1106 mw_1107 mw_5) rfl rfl rfl (by decide +kernel) ⟨Nat.le_of_ble_eq_true rfl, Nat.le_of_ble_eq_true rfl⟩) (kRecvX (q0 := 2) (ci := 4) hK hP hD hN hXS hS hA rfl rfl [2, 8, 9, 10, 11, 12, 1, 3, 4, 5, 6, 7] rfl (by decide)) rfl rfl hl.1 rfl (lv_room (Nat.le_of_ble_eq_true rfl)) dX10_image_19 ⟨Nat.le_of_ble_eq_true rfl, Nat.le_of_ble_eq_true rfl⟩) hP hD hS hA [2, 8, 9, 10, 11, 12, 1, 3, 4, 5, 6, 7] [0, 13, 14, 15, 16, 17, 18, 19, 20, 21, 22, 23, 24, 25, 26, 27, 28, 29, 30, 31, 32, 33, 34, 35, 36, 37, 38, 39, 40, 41, 42, 43, 44, 45, 46] rfl rfl (by decide) (by decide) ?_
  clear hP hD hS
  intro u_51 H locs w_43 hP hD hS
  obtain ⟨sc5_44, sc6_45, sc0_46, sc1_47, sc2_48, sc3_49, sc4_50⟩ := u_51
  replace hP : va_P D vwCl [(k, .inr (10, [.ref k0, .ref k1, .ref k2, .ref k3, .ref k4, .ref k5, .ref k6, .ref k7, .ref k8, .ref k9, .ref ka, .ref kb, .int cc])), (k1, .inr (9, [.ref k10, .ref k11, .ref k12, .ref k13, .ref k14, .ref k15, .int sc6_3, .int sc7_4, .int sc8_5])), (k10, .inl (cI, 12, .inl sc0_6)), (k11, .inl (cI, 40, .inl sc1_7)), (k12, .inl (cI, 40, .inl sc2_8)), (k13, .inl (cI, 20, .inl sc3_9)), (k14, .inr (8, [.ref k140, .ref k141, .ref k142, .ref k143, .ref k144, .ref k145, .ref k146, .ref k147, .ref k148, .int sc49_10])), (k15, .inr (3, [.ref k150, .int sc51_11])), (k140, .inl (cI, 60, .inl sc40_12)), (k141, .inl (cI, 60, .inl sc41_13)), (k142, .inl (cI, 60, .inl sc42_14)), (k143, .inl (cI, 60, .inl sc43_15)), (k144, .inl (cI, 60, .inl sc44_16)), (k145, .inl (cI, 60, .inl sc45_17)), (k146, .inl (cI, 40, .inl sc46_18)), (k147, .inl (cI, 40, .inl sc47_19)), (k148, .inl (cI, 40, .inl sc48_20)), (k150, .inl (cI, 36, .inl sc50_21)), (k0, .inr (9, [.ref k00, .ref k01, .ref k02, .ref k03, .ref k04, .ref k05, .int c06, .int c07, .int c08])), (k00, .inl (cI, 12, .inl c00)), (k01, .inl (cI, 40, .inl c01)), (k02, .inl (cI, 40, .inl c02)), (k03, .inl (cI, 20, .inl c03)), (k04, .inr (8, [.ref k040, .ref k041, .ref k042, .ref k043, .ref k044, .ref k045, .ref k046, .ref k047, .ref k048, .int c049])), (k05, .inr (3, [.ref k050, .int c051])), (k040, .inl (cI, 60, .inl c040)), (k041, .inl (cI, 60, .inl c041)), (k042, .inl (cI, 60, .inl c042)), (k043, .inl (cI, 60, .inl c043)), (k044, .inl (cI, 60, .inl c044)), (k045, .inl (cI, 60, .inl c045)), (k046, .inl (cI, 40, .inl c046)), (k047, .inl (cI, 40, .inl c047)), (k048, .inl (cI, 40, .inl c048)), (k050, .inl (cI, 36, .inl c050)), (k4, .inr (4, [.ref k40, .ref k41, .ref k42, .ref k43, .ref k44, .int sc5_44, .int sc6_45])), (k40, .inl (cI, 50, .inl sc0_46)), (k41, .inl (cI, 600, .inl sc1_47)), (k42, .inl (cI, 12, .inl sc2_48)), (k43, .inl (cI, 12, .inl sc3_49)), (k44, .inl (cI, 12, .inl sc4_50)), (k3, .inr (4, [.ref k30, .ref k31, .ref k32, .ref k33, .ref k34, .int c35, .int c36])), (k30, .inl (cI, 50, .inl c30)), (k31, .inl (cI, 600, .inl c31)), (k32, .inl (cI, 12, .inl c32)), (k33, .inl (cI, 12, .inl c33)), (k34, .inl (cI, 12, .inl c34))] H := hP
  replace hD : va_D A [(k, .inr (10, [.ref k0, .ref k1, .ref k2, .ref k3, .ref k4, .ref k5, .ref k6, .ref k7, .ref k8, .ref k9, .ref ka, .ref kb, .int cc])), (k1, .inr (9, [.ref k10, .ref k11, .ref k12, .ref k13, .ref k14, .ref k15, .int sc6_3, .int sc7_4, .int sc8_5])), (k10, .inl (cI, 12, .inl sc0_6)), (k11, .inl (cI, 40, .inl sc1_7)), (k12, .inl (cI, 40, .inl sc2_8)), (k13, .inl (cI, 20, .inl sc3_9)), (k14, .inr (8, [.ref k140, .ref k141, .ref k142, .ref k143, .ref k144, .ref k145, .ref k146, .ref k147, .ref k148, .int sc49_10])), (k15, .inr (3, [.ref k150, .int sc51_11])), (k140, .inl (cI, 60, .inl sc40_12)), (k141, .inl (cI, 60, .inl sc41_13)), (k142, .inl (cI, 60, .inl sc42_14)), (k143, .inl (cI, 60, .inl sc43_15)), (k144, .inl (cI, 60, .inl sc44_16)), (k145, .inl (cI, 60, .inl sc45_17)), (k146, .inl (cI, 40, .inl sc46_18)), (k147, .inl (cI, 40, .inl sc47_19)), (k148, .inl (cI, 40, .inl sc48_20)), (k150, .inl (cI, 36, .inl sc50_21)), (k0, .inr (9, [.ref k00, .ref k01, .ref k02, .ref k03, .ref k04, .ref k05, .int c06, .int c07, .int c08])), (k00, .inl (cI, 12, .inl c00)), (k01, .inl (cI, 40, .inl c01)), (k02, .inl (cI, 40, .inl c02)), (k03, .inl (cI, 20, .inl c03)), (k04, .inr (8, [.ref k040, .ref k041, .ref k042, .ref k043, .ref k044, .ref k045, .ref k046, .ref k047, .ref k048, .int c049])), (k05, .inr (3, [.ref k050, .int c051])), (k040, .inl (cI, 60, .inl c040)), (k041, .inl (cI, 60, .inl c041)), (k042, .inl (cI, 60, .inl c042)), (k043, .inl (cI, 60, .inl c043)), (k044, .inl (cI, 60, .inl c044)), (k045, .inl (cI, 60, .inl c045)), (k046, .inl (cI, 40, .inl c046)), (k047, .inl (cI, 40, .inl c047)), (k048, .inl (cI, 40, .inl c048)), (k050, .inl (cI, 36, .inl c050)), (k4, .inr (4, [.ref k40, .ref k41, .ref k42, .ref k43, .ref k44, .int sc5_44, .int sc6_45])), (k40, .inl (cI, 50, .inl sc0_46)), (k41, .inl (cI, 600, .inl sc1_47)), (k42, .inl (cI, 12, .inl sc2_48)), (k43, .inl (cI, 12, .inl sc3_49)), (k44, .inl (cI, 12, .inl sc4_50)), (k3, .inr (4, [.ref k30, .ref k31, .ref k32, .ref k33, .ref k34, .int c35, .int c36])), (k30, .inl (cI, 50, .inl c30)), (k31, .inl (cI, 600, .inl c31)), (k32, .inl (cI, 12, .inl c32)), (k33, .inl (cI, 12, .inl c33)), (k34, .inl (cI, 12, .inl c34))] := hD
  have lo_sc5_44 := k_lo sc5_44
  have hi_sc5_44 := k_hi sc5_44
  have lo_sc6_45 := k_lo sc6_45
  have hi_sc6_45 := k_hi sc6_45
  obtain ⟨h_52, h_53, h_54, h_55, h_56, h_57, h_58⟩ := w_43
  have h_52 : sc0_46 = c30 := h_52
  have h_53 : sc1_47 = c31 := h_53
  have h_54 : sc2_48 = c32 := h_54
  have h_55 : sc3_49 = c33 := h_55
  have h_56 : sc4_50 = c34 := h_56
  have h_57 : sc5_44 = c35 := h_57
  have h_58 : sc6_45 = c36 := h_58
  refine lv_aload_n hx hb dX10_image_22 rfl (lv_at hl 0 rfl) ?_
  refine lv_dup hx hb dX10_image_23 rfl ?_
  refine va_get (D := D) (ci := 10) (v := .int cc) (C := RX10) (T := TX10) (N := 13) hx hb hT giX10 hown hK hP 0 rfl rfl 12 (by decide) (hT (Cond.fieldLink RX10 78 "DesertWire" "images" "I") mw_303) (fun _ h9 => h9) rfl dX10_image_24 ?_
  refine lv_iconst (v := 1) hx hb dX10_image_27 (by decide) ?_
  refine lv_iadd hx hb dX10_image_28 ?_
  refine lv_topi (fun v_59 ev_59 => ?_)
  have lo_v_59 := k_lo v_59
  have hi_v_59 := k_hi v_59
  refine va_put (D := D) (ci := 10) (v := .int v_59) (ty := .int) (C := RX10) (T := TX10) (N := 13) hx hb hT giX10 tyX10 tyX10_ok nmX10 hown hK hP hD hS 0 rfl rfl 12 (by decide) (hT (Cond.fieldLink RX10 78 "DesertWire" "images" "I") mw_303) (fun _ h9 => h9) rfl (by decide +kernel) rfl rfl (Nat.le_of_ble_eq_true rfl) dX10_image_29 ?_
  clear hP hD hS
  intro H locs hP hD hS
  replace hP : va_P D vwCl [(k, .inr (10, [.ref k0, .ref k1, .ref k2, .ref k3, .ref k4, .ref k5, .ref k6, .ref k7, .ref k8, .ref k9, .ref ka, .ref kb, .int v_59])), (k1, .inr (9, [.ref k10, .ref k11, .ref k12, .ref k13, .ref k14, .ref k15, .int sc6_3, .int sc7_4, .int sc8_5])), (k10, .inl (cI, 12, .inl sc0_6)), (k11, .inl (cI, 40, .inl sc1_7)), (k12, .inl (cI, 40, .inl sc2_8)), (k13, .inl (cI, 20, .inl sc3_9)), (k14, .inr (8, [.ref k140, .ref k141, .ref k142, .ref k143, .ref k144, .ref k145, .ref k146, .ref k147, .ref k148, .int sc49_10])), (k15, .inr (3, [.ref k150, .int sc51_11])), (k140, .inl (cI, 60, .inl sc40_12)), (k141, .inl (cI, 60, .inl sc41_13)), (k142, .inl (cI, 60, .inl sc42_14)), (k143, .inl (cI, 60, .inl sc43_15)), (k144, .inl (cI, 60, .inl sc44_16)), (k145, .inl (cI, 60, .inl sc45_17)), (k146, .inl (cI, 40, .inl sc46_18)), (k147, .inl (cI, 40, .inl sc47_19)), (k148, .inl (cI, 40, .inl sc48_20)), (k150, .inl (cI, 36, .inl sc50_21)), (k0, .inr (9, [.ref k00, .ref k01, .ref k02, .ref k03, .ref k04, .ref k05, .int c06, .int c07, .int c08])), (k00, .inl (cI, 12, .inl c00)), (k01, .inl (cI, 40, .inl c01)), (k02, .inl (cI, 40, .inl c02)), (k03, .inl (cI, 20, .inl c03)), (k04, .inr (8, [.ref k040, .ref k041, .ref k042, .ref k043, .ref k044, .ref k045, .ref k046, .ref k047, .ref k048, .int c049])), (k05, .inr (3, [.ref k050, .int c051])), (k040, .inl (cI, 60, .inl c040)), (k041, .inl (cI, 60, .inl c041)), (k042, .inl (cI, 60, .inl c042)), (k043, .inl (cI, 60, .inl c043)), (k044, .inl (cI, 60, .inl c044)), (k045, .inl (cI, 60, .inl c045)), (k046, .inl (cI, 40, .inl c046)), (k047, .inl (cI, 40, .inl c047)), (k048, .inl (cI, 40, .inl c048)), (k050, .inl (cI, 36, .inl c050)), (k4, .inr (4, [.ref k40, .ref k41, .ref k42, .ref k43, .ref k44, .int sc5_44, .int sc6_45])), (k40, .inl (cI, 50, .inl sc0_46)), (k41, .inl (cI, 600, .inl sc1_47)), (k42, .inl (cI, 12, .inl sc2_48)), (k43, .inl (cI, 12, .inl sc3_49)), (k44, .inl (cI, 12, .inl sc4_50)), (k3, .inr (4, [.ref k30, .ref k31, .ref k32, .ref k33, .ref k34, .int c35, .int c36])), (k30, .inl (cI, 50, .inl c30)), (k31, .inl (cI, 600, .inl c31)), (k32, .inl (cI, 12, .inl c32)), (k33, .inl (cI, 12, .inl c33)), (k34, .inl (cI, 12, .inl c34))] H := hP
  replace hD : va_D A [(k, .inr (10, [.ref k0, .ref k1, .ref k2, .ref k3, .ref k4, .ref k5, .ref k6, .ref k7, .ref k8, .ref k9, .ref ka, .ref kb, .int v_59])), (k1, .inr (9, [.ref k10, .ref k11, .ref k12, .ref k13, .ref k14, .ref k15, .int sc6_3, .int sc7_4, .int sc8_5])), (k10, .inl (cI, 12, .inl sc0_6)), (k11, .inl (cI, 40, .inl sc1_7)), (k12, .inl (cI, 40, .inl sc2_8)), (k13, .inl (cI, 20, .inl sc3_9)), (k14, .inr (8, [.ref k140, .ref k141, .ref k142, .ref k143, .ref k144, .ref k145, .ref k146, .ref k147, .ref k148, .int sc49_10])), (k15, .inr (3, [.ref k150, .int sc51_11])), (k140, .inl (cI, 60, .inl sc40_12)), (k141, .inl (cI, 60, .inl sc41_13)), (k142, .inl (cI, 60, .inl sc42_14)), (k143, .inl (cI, 60, .inl sc43_15)), (k144, .inl (cI, 60, .inl sc44_16)), (k145, .inl (cI, 60, .inl sc45_17)), (k146, .inl (cI, 40, .inl sc46_18)), (k147, .inl (cI, 40, .inl sc47_19)), (k148, .inl (cI, 40, .inl sc48_20)), (k150, .inl (cI, 36, .inl sc50_21)), (k0, .inr (9, [.ref k00, .ref k01, .ref k02, .ref k03, .ref k04, .ref k05, .int c06, .int c07, .int c08])), (k00, .inl (cI, 12, .inl c00)), (k01, .inl (cI, 40, .inl c01)), (k02, .inl (cI, 40, .inl c02)), (k03, .inl (cI, 20, .inl c03)), (k04, .inr (8, [.ref k040, .ref k041, .ref k042, .ref k043, .ref k044, .ref k045, .ref k046, .ref k047, .ref k048, .int c049])), (k05, .inr (3, [.ref k050, .int c051])), (k040, .inl (cI, 60, .inl c040)), (k041, .inl (cI, 60, .inl c041)), (k042, .inl (cI, 60, .inl c042)), (k043, .inl (cI, 60, .inl c043)), (k044, .inl (cI, 60, .inl c044)), (k045, .inl (cI, 60, .inl c045)), (k046, .inl (cI, 40, .inl c046)), (k047, .inl (cI, 40, .inl c047)), (k048, .inl (cI, 40, .inl c048)), (k050, .inl (cI, 36, .inl c050)), (k4, .inr (4, [.ref k40, .ref k41, .ref k42, .ref k43, .ref k44, .int sc5_44, .int sc6_45])), (k40, .inl (cI, 50, .inl sc0_46)), (k41, .inl (cI, 600, .inl sc1_47)), (k42, .inl (cI, 12, .inl sc2_48)), (k43, .inl (cI, 12, .inl sc3_49)), (k44, .inl (cI, 12, .inl sc4_50)), (k3, .inr (4, [.ref k30, .ref k31, .ref k32, .ref k33, .ref k34, .int c35, .int c36])), (k30, .inl (cI, 50, .inl c30)), (k31, .inl (cI, 600, .inl c31)), (k32, .inl (cI, 12, .inl c32)), (k33, .inl (cI, 12, .inl c33)), (k34, .inl (cI, 12, .inl c34))] := hD
  refine lv_aload_n hx hb dX10_image_32 rfl (lv_at hl 0 rfl) ?_
  refine va_get (D := D) (ci := 10) (v := .int v_59) (C := RX10) (T := TX10) (N := 13) hx hb hT giX10 hown hK hP 0 rfl rfl 12 (by decide) (hT (Cond.fieldLink RX10 78 "DesertWire" "images" "I") mw_303) (fun _ h9 => h9) rfl dX10_image_33 ?_
  exact hRet (v_59, sc6_3, sc7_4, sc8_5, sc5_44, sc6_45, sc0_6, sc1_7, sc2_8, sc3_9, sc49_10, sc51_11, sc0_46, sc1_47, sc2_48, sc3_49, sc4_50, sc40_12, sc41_13, sc42_14, sc43_15, sc44_16, sc45_17, sc46_18, sc47_19, sc48_20, sc50_21) [0, 18, 1, 41, 35, 19, 20, 21, 22, 23, 24, 2, 3, 4, 5, 6, 7, 42, 43, 44, 45, 46, 36, 37, 38, 39, 40, 25, 26, 27, 28, 29, 30, 31, 32, 33, 34, 8, 9, 10, 11, 12, 13, 14, 15, 16, 17] ⟨ev_59, ev_59, h_23, h_24, h_25, h_26, h_27, h_28, h_29, h_30, h_31, h_32, h_33, h_34, h_35, h_36, h_37, h_38, h_39, h_40, h_41, h_52, h_53, h_54, h_55, h_56, h_57, h_58⟩ hP hD (by decide) rfl hS rfl dX10_image_36

set_option maxHeartbeats 4000000 in
set_option maxRecDepth 100000 in
theorem c_X10_restoreD (l : Launch) (D : va_G) (cI : ClassId) (aK aV : Nat → Nat) (k k0 k1 k2 k3 k4 k5 k6 k7 k8 k9 ka kb k00 k01 k02 k03 k04 k05 k10 k11 k12 k13 k14 k15 k30 k31 k32 k33 k34 k40 k41 k42 k43 k44 k040 k041 k042 k043 k044 k045 k046 k047 k048 k050 k140 k141 k142 k143 k144 k145 k146 k147 k148 k150 : Nat) (sz : Nat) (cc : Int32) (c06 : Int32) (c07 : Int32) (c08 : Int32) (c16 : Int32) (c17 : Int32) (c18 : Int32) (c35 : Int32) (c36 : Int32) (c45 : Int32) (c46 : Int32) (cb : Nat → Int32) (c00 : Nat → Int32) (c01 : Nat → Int32) (c02 : Nat → Int32) (c03 : Nat → Int32) (c049 : Int32) (c051 : Int32) (c10 : Nat → Int32) (c11 : Nat → Int32) (c12 : Nat → Int32) (c13 : Nat → Int32) (c149 : Int32) (c151 : Int32) (c30 : Nat → Int32) (c31 : Nat → Int32) (c32 : Nat → Int32) (c33 : Nat → Int32) (c34 : Nat → Int32) (c40 : Nat → Int32) (c41 : Nat → Int32) (c42 : Nat → Int32) (c43 : Nat → Int32) (c44 : Nat → Int32) (c040 : Nat → Int32) (c041 : Nat → Int32) (c042 : Nat → Int32) (c043 : Nat → Int32) (c044 : Nat → Int32) (c045 : Nat → Int32) (c046 : Nat → Int32) (c047 : Nat → Int32) (c048 : Nat → Int32) (c050 : Nat → Int32) (c140 : Nat → Int32) (c141 : Nat → Int32) (c142 : Nat → Int32) (c143 : Nat → Int32) (c144 : Nat → Int32) (c145 : Nat → Int32) (c146 : Nat → Int32) (c147 : Nat → Int32) (c148 : Nat → Int32) (c150 : Nat → Int32) : Met l yX10_restore (gW yX10_restore cX10_restore 1 (some .int)) ({ frames := 3, cells := 0, slots := 0, locals := 106 } : Room) (kPreX D cI aK aV [.ref k] [(k, .inr (10, [.ref k0, .ref k1, .ref k2, .ref k3, .ref k4, .ref k5, .ref k6, .ref k7, .ref k8, .ref k9, .ref ka, .ref kb, .int cc])), (k0, .inr (9, [.ref k00, .ref k01, .ref k02, .ref k03, .ref k04, .ref k05, .int c06, .int c07, .int c08])), (k1, .inr (9, [.ref k10, .ref k11, .ref k12, .ref k13, .ref k14, .ref k15, .int c16, .int c17, .int c18])), (k3, .inr (4, [.ref k30, .ref k31, .ref k32, .ref k33, .ref k34, .int c35, .int c36])), (k4, .inr (4, [.ref k40, .ref k41, .ref k42, .ref k43, .ref k44, .int c45, .int c46])), (kb, .inl (cI, 6, .inl cb)), (k00, .inl (cI, 12, .inl c00)), (k01, .inl (cI, 40, .inl c01)), (k02, .inl (cI, 40, .inl c02)), (k03, .inl (cI, 20, .inl c03)), (k04, .inr (8, [.ref k040, .ref k041, .ref k042, .ref k043, .ref k044, .ref k045, .ref k046, .ref k047, .ref k048, .int c049])), (k05, .inr (3, [.ref k050, .int c051])), (k10, .inl (cI, 12, .inl c10)), (k11, .inl (cI, 40, .inl c11)), (k12, .inl (cI, 40, .inl c12)), (k13, .inl (cI, 20, .inl c13)), (k14, .inr (8, [.ref k140, .ref k141, .ref k142, .ref k143, .ref k144, .ref k145, .ref k146, .ref k147, .ref k148, .int c149])), (k15, .inr (3, [.ref k150, .int c151])), (k30, .inl (cI, 50, .inl c30)), (k31, .inl (cI, 600, .inl c31)), (k32, .inl (cI, 12, .inl c32)), (k33, .inl (cI, 12, .inl c33)), (k34, .inl (cI, 12, .inl c34)), (k40, .inl (cI, 50, .inl c40)), (k41, .inl (cI, 600, .inl c41)), (k42, .inl (cI, 12, .inl c42)), (k43, .inl (cI, 12, .inl c43)), (k44, .inl (cI, 12, .inl c44)), (k040, .inl (cI, 60, .inl c040)), (k041, .inl (cI, 60, .inl c041)), (k042, .inl (cI, 60, .inl c042)), (k043, .inl (cI, 60, .inl c043)), (k044, .inl (cI, 60, .inl c044)), (k045, .inl (cI, 60, .inl c045)), (k046, .inl (cI, 40, .inl c046)), (k047, .inl (cI, 40, .inl c047)), (k048, .inl (cI, 40, .inl c048)), (k050, .inl (cI, 36, .inl c050)), (k140, .inl (cI, 60, .inl c140)), (k141, .inl (cI, 60, .inl c141)), (k142, .inl (cI, 60, .inl c142)), (k143, .inl (cI, 60, .inl c143)), (k144, .inl (cI, 60, .inl c144)), (k145, .inl (cI, 60, .inl c145)), (k146, .inl (cI, 40, .inl c146)), (k147, .inl (cI, 40, .inl c147)), (k148, .inl (cI, 40, .inl c148)), (k150, .inl (cI, 36, .inl c150))] sz) (va_Qi (fun (r : Int32) (u : Int32 × Int32 × Int32 × Int32 × Int32 × (Nat → Int32) × (Nat → Int32) × (Nat → Int32) × (Nat → Int32) × (Nat → Int32) × Int32 × Int32 × (Nat → Int32) × (Nat → Int32) × (Nat → Int32) × (Nat → Int32) × (Nat → Int32) × (Nat → Int32) × (Nat → Int32) × (Nat → Int32) × (Nat → Int32) × (Nat → Int32) × (Nat → Int32) × (Nat → Int32) × (Nat → Int32) × (Nat → Int32) × (Nat → Int32)) => r = restR cc c18 ∧ u.2.2.2.2.2.2.1 = ifF cc c00 c10 ∧ u.2.2.2.2.2.2.2.1 = ifF cc c01 c11 ∧ u.2.2.2.2.2.2.2.2.1 = ifF cc c02 c12 ∧ u.2.2.2.2.2.2.2.2.2.1 = ifF cc c03 c13 ∧ u.2.2.2.2.2.2.2.2.2.2.2.2.2.2.2.2.2.1 = ifF cc c040 c140 ∧ u.2.2.2.2.2.2.2.2.2.2.2.2.2.2.2.2.2.2.1 = ifF cc c041 c141 ∧ u.2.2.2.2.2.2.2.2.2.2.2.2.2.2.2.2.2.2.2.1 = ifF cc c042 c142 ∧ u.2.2.2.2.2.2.2.2.2.2.2.2.2.2.2.2.2.2.2.2.1 = ifF cc c043 c143 ∧ u.2.2.2.2.2.2.2.2.2.2.2.2.2.2.2.2.2.2.2.2.2.1 = ifF cc c044 c144 ∧ u.2.2.2.2.2.2.2.2.2.2.2.2.2.2.2.2.2.2.2.2.2.2.1 = ifF cc c045 c145 ∧ u.2.2.2.2.2.2.2.2.2.2.2.2.2.2.2.2.2.2.2.2.2.2.2.1 = ifF cc c046 c146 ∧ u.2.2.2.2.2.2.2.2.2.2.2.2.2.2.2.2.2.2.2.2.2.2.2.2.1 = ifF cc c047 c147 ∧ u.2.2.2.2.2.2.2.2.2.2.2.2.2.2.2.2.2.2.2.2.2.2.2.2.2.1 = ifF cc c048 c148 ∧ u.2.2.2.2.2.2.2.2.2.2.1 = ifI cc c049 c149 ∧ u.2.2.2.2.2.2.2.2.2.2.2.2.2.2.2.2.2.2.2.2.2.2.2.2.2.2 = ifF cc c050 c150 ∧ u.2.2.2.2.2.2.2.2.2.2.2.1 = ifI cc c051 c151 ∧ u.1 = ifI cc c06 c16 ∧ u.2.1 = ifI cc c07 c17 ∧ u.2.2.1 = ifI cc c08 c18 ∧ u.2.2.2.2.2.2.2.2.2.2.2.2.1 = ifF cc c30 c40 ∧ u.2.2.2.2.2.2.2.2.2.2.2.2.2.1 = ifF cc c31 c41 ∧ u.2.2.2.2.2.2.2.2.2.2.2.2.2.2.1 = ifF cc c32 c42 ∧ u.2.2.2.2.2.2.2.2.2.2.2.2.2.2.2.1 = ifF cc c33 c43 ∧ u.2.2.2.2.2.2.2.2.2.2.2.2.2.2.2.2.1 = ifF cc c34 c44 ∧ u.2.2.2.1 = ifI cc c35 c45 ∧ u.2.2.2.2.1 = ifI cc c36 c46) (fun u t => kWd D cI (va_A [(k, .inr (10, [.ref k0, .ref k1, .ref k2, .ref k3, .ref k4, .ref k5, .ref k6, .ref k7, .ref k8, .ref k9, .ref ka, .ref kb, .int cc])), (k0, .inr (9, [.ref k00, .ref k01, .ref k02, .ref k03, .ref k04, .ref k05, .int c06, .int c07, .int c08])), (k1, .inr (9, [.ref k10, .ref k11, .ref k12, .ref k13, .ref k14, .ref k15, .int c16, .int c17, .int c18])), (k3, .inr (4, [.ref k30, .ref k31, .ref k32, .ref k33, .ref k34, .int c35, .int c36])), (k4, .inr (4, [.ref k40, .ref k41, .ref k42, .ref k43, .ref k44, .int c45, .int c46])), (kb, .inl (cI, 6, .inl cb)), (k00, .inl (cI, 12, .inl c00)), (k01, .inl (cI, 40, .inl c01)), (k02, .inl (cI, 40, .inl c02)), (k03, .inl (cI, 20, .inl c03)), (k04, .inr (8, [.ref k040, .ref k041, .ref k042, .ref k043, .ref k044, .ref k045, .ref k046, .ref k047, .ref k048, .int c049])), (k05, .inr (3, [.ref k050, .int c051])), (k10, .inl (cI, 12, .inl c10)), (k11, .inl (cI, 40, .inl c11)), (k12, .inl (cI, 40, .inl c12)), (k13, .inl (cI, 20, .inl c13)), (k14, .inr (8, [.ref k140, .ref k141, .ref k142, .ref k143, .ref k144, .ref k145, .ref k146, .ref k147, .ref k148, .int c149])), (k15, .inr (3, [.ref k150, .int c151])), (k30, .inl (cI, 50, .inl c30)), (k31, .inl (cI, 600, .inl c31)), (k32, .inl (cI, 12, .inl c32)), (k33, .inl (cI, 12, .inl c33)), (k34, .inl (cI, 12, .inl c34)), (k40, .inl (cI, 50, .inl c40)), (k41, .inl (cI, 600, .inl c41)), (k42, .inl (cI, 12, .inl c42)), (k43, .inl (cI, 12, .inl c43)), (k44, .inl (cI, 12, .inl c44)), (k040, .inl (cI, 60, .inl c040)), (k041, .inl (cI, 60, .inl c041)), (k042, .inl (cI, 60, .inl c042)), (k043, .inl (cI, 60, .inl c043)), (k044, .inl (cI, 60, .inl c044)), (k045, .inl (cI, 60, .inl c045)), (k046, .inl (cI, 40, .inl c046)), (k047, .inl (cI, 40, .inl c047)), (k048, .inl (cI, 40, .inl c048)), (k050, .inl (cI, 36, .inl c050)), (k140, .inl (cI, 60, .inl c140)), (k141, .inl (cI, 60, .inl c141)), (k142, .inl (cI, 60, .inl c142)), (k143, .inl (cI, 60, .inl c143)), (k144, .inl (cI, 60, .inl c144)), (k145, .inl (cI, 60, .inl c145)), (k146, .inl (cI, 40, .inl c146)), (k147, .inl (cI, 40, .inl c147)), (k148, .inl (cI, 40, .inl c148)), (k150, .inl (cI, 36, .inl c150))] sz) [(k, .inr (10, [.ref k0, .ref k1, .ref k2, .ref k3, .ref k4, .ref k5, .ref k6, .ref k7, .ref k8, .ref k9, .ref ka, .ref kb, .int cc])), (k0, .inr (9, [.ref k00, .ref k01, .ref k02, .ref k03, .ref k04, .ref k05, .int u.1, .int u.2.1, .int u.2.2.1])), (k1, .inr (9, [.ref k10, .ref k11, .ref k12, .ref k13, .ref k14, .ref k15, .int c16, .int c17, .int c18])), (k3, .inr (4, [.ref k30, .ref k31, .ref k32, .ref k33, .ref k34, .int u.2.2.2.1, .int u.2.2.2.2.1])), (k4, .inr (4, [.ref k40, .ref k41, .ref k42, .ref k43, .ref k44, .int c45, .int c46])), (kb, .inl (cI, 6, .inl u.2.2.2.2.2.1)), (k00, .inl (cI, 12, .inl u.2.2.2.2.2.2.1)), (k01, .inl (cI, 40, .inl u.2.2.2.2.2.2.2.1)), (k02, .inl (cI, 40, .inl u.2.2.2.2.2.2.2.2.1)), (k03, .inl (cI, 20, .inl u.2.2.2.2.2.2.2.2.2.1)), (k04, .inr (8, [.ref k040, .ref k041, .ref k042, .ref k043, .ref k044, .ref k045, .ref k046, .ref k047, .ref k048, .int u.2.2.2.2.2.2.2.2.2.2.1])), (k05, .inr (3, [.ref k050, .int u.2.2.2.2.2.2.2.2.2.2.2.1])), (k10, .inl (cI, 12, .inl c10)), (k11, .inl (cI, 40, .inl c11)), (k12, .inl (cI, 40, .inl c12)), (k13, .inl (cI, 20, .inl c13)), (k14, .inr (8, [.ref k140, .ref k141, .ref k142, .ref k143, .ref k144, .ref k145, .ref k146, .ref k147, .ref k148, .int c149])), (k15, .inr (3, [.ref k150, .int c151])), (k30, .inl (cI, 50, .inl u.2.2.2.2.2.2.2.2.2.2.2.2.1)), (k31, .inl (cI, 600, .inl u.2.2.2.2.2.2.2.2.2.2.2.2.2.1)), (k32, .inl (cI, 12, .inl u.2.2.2.2.2.2.2.2.2.2.2.2.2.2.1)), (k33, .inl (cI, 12, .inl u.2.2.2.2.2.2.2.2.2.2.2.2.2.2.2.1)), (k34, .inl (cI, 12, .inl u.2.2.2.2.2.2.2.2.2.2.2.2.2.2.2.2.1)), (k40, .inl (cI, 50, .inl c40)), (k41, .inl (cI, 600, .inl c41)), (k42, .inl (cI, 12, .inl c42)), (k43, .inl (cI, 12, .inl c43)), (k44, .inl (cI, 12, .inl c44)), (k040, .inl (cI, 60, .inl u.2.2.2.2.2.2.2.2.2.2.2.2.2.2.2.2.2.1)), (k041, .inl (cI, 60, .inl u.2.2.2.2.2.2.2.2.2.2.2.2.2.2.2.2.2.2.1)), (k042, .inl (cI, 60, .inl u.2.2.2.2.2.2.2.2.2.2.2.2.2.2.2.2.2.2.2.1)), (k043, .inl (cI, 60, .inl u.2.2.2.2.2.2.2.2.2.2.2.2.2.2.2.2.2.2.2.2.1)), (k044, .inl (cI, 60, .inl u.2.2.2.2.2.2.2.2.2.2.2.2.2.2.2.2.2.2.2.2.2.1)), (k045, .inl (cI, 60, .inl u.2.2.2.2.2.2.2.2.2.2.2.2.2.2.2.2.2.2.2.2.2.2.1)), (k046, .inl (cI, 40, .inl u.2.2.2.2.2.2.2.2.2.2.2.2.2.2.2.2.2.2.2.2.2.2.2.1)), (k047, .inl (cI, 40, .inl u.2.2.2.2.2.2.2.2.2.2.2.2.2.2.2.2.2.2.2.2.2.2.2.2.1)), (k048, .inl (cI, 40, .inl u.2.2.2.2.2.2.2.2.2.2.2.2.2.2.2.2.2.2.2.2.2.2.2.2.2.1)), (k050, .inl (cI, 36, .inl u.2.2.2.2.2.2.2.2.2.2.2.2.2.2.2.2.2.2.2.2.2.2.2.2.2.2)), (k140, .inl (cI, 60, .inl c140)), (k141, .inl (cI, 60, .inl c141)), (k142, .inl (cI, 60, .inl c142)), (k143, .inl (cI, 60, .inl c143)), (k144, .inl (cI, 60, .inl c144)), (k145, .inl (cI, 60, .inl c145)), (k146, .inl (cI, 40, .inl c146)), (k147, .inl (cI, 40, .inl c147)), (k148, .inl (cI, 40, .inl c148)), (k150, .inl (cI, 36, .inl c150))] t) (va_A [(k, .inr (10, [.ref k0, .ref k1, .ref k2, .ref k3, .ref k4, .ref k5, .ref k6, .ref k7, .ref k8, .ref k9, .ref ka, .ref kb, .int cc])), (k0, .inr (9, [.ref k00, .ref k01, .ref k02, .ref k03, .ref k04, .ref k05, .int c06, .int c07, .int c08])), (k1, .inr (9, [.ref k10, .ref k11, .ref k12, .ref k13, .ref k14, .ref k15, .int c16, .int c17, .int c18])), (k3, .inr (4, [.ref k30, .ref k31, .ref k32, .ref k33, .ref k34, .int c35, .int c36])), (k4, .inr (4, [.ref k40, .ref k41, .ref k42, .ref k43, .ref k44, .int c45, .int c46])), (kb, .inl (cI, 6, .inl cb)), (k00, .inl (cI, 12, .inl c00)), (k01, .inl (cI, 40, .inl c01)), (k02, .inl (cI, 40, .inl c02)), (k03, .inl (cI, 20, .inl c03)), (k04, .inr (8, [.ref k040, .ref k041, .ref k042, .ref k043, .ref k044, .ref k045, .ref k046, .ref k047, .ref k048, .int c049])), (k05, .inr (3, [.ref k050, .int c051])), (k10, .inl (cI, 12, .inl c10)), (k11, .inl (cI, 40, .inl c11)), (k12, .inl (cI, 40, .inl c12)), (k13, .inl (cI, 20, .inl c13)), (k14, .inr (8, [.ref k140, .ref k141, .ref k142, .ref k143, .ref k144, .ref k145, .ref k146, .ref k147, .ref k148, .int c149])), (k15, .inr (3, [.ref k150, .int c151])), (k30, .inl (cI, 50, .inl c30)), (k31, .inl (cI, 600, .inl c31)), (k32, .inl (cI, 12, .inl c32)), (k33, .inl (cI, 12, .inl c33)), (k34, .inl (cI, 12, .inl c34)), (k40, .inl (cI, 50, .inl c40)), (k41, .inl (cI, 600, .inl c41)), (k42, .inl (cI, 12, .inl c42)), (k43, .inl (cI, 12, .inl c43)), (k44, .inl (cI, 12, .inl c44)), (k040, .inl (cI, 60, .inl c040)), (k041, .inl (cI, 60, .inl c041)), (k042, .inl (cI, 60, .inl c042)), (k043, .inl (cI, 60, .inl c043)), (k044, .inl (cI, 60, .inl c044)), (k045, .inl (cI, 60, .inl c045)), (k046, .inl (cI, 40, .inl c046)), (k047, .inl (cI, 40, .inl c047)), (k048, .inl (cI, 40, .inl c048)), (k050, .inl (cI, 36, .inl c050)), (k140, .inl (cI, 60, .inl c140)), (k141, .inl (cI, 60, .inl c141)), (k142, .inl (cI, 60, .inl c142)), (k143, .inl (cI, 60, .inl c143)), (k144, .inl (cI, 60, .inl c144)), (k145, .inl (cI, 60, .inl c145)), (k146, .inl (cI, 40, .inl c146)), (k147, .inl (cI, 40, .inl c147)), (k148, .inl (cI, 40, .inl c148)), (k150, .inl (cI, 36, .inl c150))] sz)) 0 0 (va_A [(k, .inr (10, [.ref k0, .ref k1, .ref k2, .ref k3, .ref k4, .ref k5, .ref k6, .ref k7, .ref k8, .ref k9, .ref ka, .ref kb, .int cc])), (k0, .inr (9, [.ref k00, .ref k01, .ref k02, .ref k03, .ref k04, .ref k05, .int c06, .int c07, .int c08])), (k1, .inr (9, [.ref k10, .ref k11, .ref k12, .ref k13, .ref k14, .ref k15, .int c16, .int c17, .int c18])), (k3, .inr (4, [.ref k30, .ref k31, .ref k32, .ref k33, .ref k34, .int c35, .int c36])), (k4, .inr (4, [.ref k40, .ref k41, .ref k42, .ref k43, .ref k44, .int c45, .int c46])), (kb, .inl (cI, 6, .inl cb)), (k00, .inl (cI, 12, .inl c00)), (k01, .inl (cI, 40, .inl c01)), (k02, .inl (cI, 40, .inl c02)), (k03, .inl (cI, 20, .inl c03)), (k04, .inr (8, [.ref k040, .ref k041, .ref k042, .ref k043, .ref k044, .ref k045, .ref k046, .ref k047, .ref k048, .int c049])), (k05, .inr (3, [.ref k050, .int c051])), (k10, .inl (cI, 12, .inl c10)), (k11, .inl (cI, 40, .inl c11)), (k12, .inl (cI, 40, .inl c12)), (k13, .inl (cI, 20, .inl c13)), (k14, .inr (8, [.ref k140, .ref k141, .ref k142, .ref k143, .ref k144, .ref k145, .ref k146, .ref k147, .ref k148, .int c149])), (k15, .inr (3, [.ref k150, .int c151])), (k30, .inl (cI, 50, .inl c30)), (k31, .inl (cI, 600, .inl c31)), (k32, .inl (cI, 12, .inl c32)), (k33, .inl (cI, 12, .inl c33)), (k34, .inl (cI, 12, .inl c34)), (k40, .inl (cI, 50, .inl c40)), (k41, .inl (cI, 600, .inl c41)), (k42, .inl (cI, 12, .inl c42)), (k43, .inl (cI, 12, .inl c43)), (k44, .inl (cI, 12, .inl c44)), (k040, .inl (cI, 60, .inl c040)), (k041, .inl (cI, 60, .inl c041)), (k042, .inl (cI, 60, .inl c042)), (k043, .inl (cI, 60, .inl c043)), (k044, .inl (cI, 60, .inl c044)), (k045, .inl (cI, 60, .inl c045)), (k046, .inl (cI, 40, .inl c046)), (k047, .inl (cI, 40, .inl c047)), (k048, .inl (cI, 40, .inl c048)), (k050, .inl (cI, 36, .inl c050)), (k140, .inl (cI, 60, .inl c140)), (k141, .inl (cI, 60, .inl c141)), (k142, .inl (cI, 60, .inl c142)), (k143, .inl (cI, 60, .inl c143)), (k144, .inl (cI, 60, .inl c144)), (k145, .inl (cI, 60, .inl c145)), (k146, .inl (cI, 40, .inl c146)), (k147, .inl (cI, 40, .inl c147)), (k148, .inl (cI, 40, .inl c148)), (k150, .inl (cI, 36, .inl c150))] sz) := by
  refine kMetIX (own := RX10) (by decide) rfl (Nat.le_of_ble_eq_true rfl) ?_
  intro p e s m args below meth c hx hb hT hown hname hml A Q hK hP hD hS hA hN hXS hRet ls hl
  have hl : lv_has ls 1 [(0, .ref k)] := hl
  have lo_cc := k_lo cc
  have hi_cc := k_hi cc
  have lo_c16 := k_lo c16
  have hi_c16 := k_hi c16
  have lo_c17 := k_lo c17
  have hi_c17 := k_hi c17
  have lo_c18 := k_lo c18
  have hi_c18 := k_hi c18
  have lo_c45 := k_lo c45
  have hi_c45 := k_hi c45
  have lo_c46 := k_lo c46
  have hi_c46 := k_hi c46
  have lo_c149 := k_lo c149
  have hi_c149 := k_hi c149
  have lo_c151 := k_lo c151
  have hi_c151 := k_hi c151
  refine lv_aload_n hx hb dX10_restore_0 rfl (lv_at hl 0 rfl) ?_
  refine va_get (D := D) (ci := 10) (v := .int cc) (C := RX10) (T := TX10) (N := 13) hx hb hT giX10 hown hK hP 0 rfl rfl 12 (by decide) (hT (Cond.fieldLink RX10 78 "DesertWire" "images" "I") mw_303) (fun _ h9 => h9) rfl dX10_restore_1 ?_
  refine b_if_ne hx hb rfl (tgt := 13) dX10_restore_4 (by decide) (fun c_1 => ?_) (fun c_1 => ?_)
  · refine lv_aload_n hx hb dX10_restore_13 rfl (lv_at hl 0 rfl) ?_
    refine va_get (D := D) (ci := 10) (v := .ref k0) (C := RX10) (T := TX10) (N := 13) hx hb hT giX10 hown hK hP 0 rfl rfl 0 (by decide) (hT (Cond.fieldLink RX10 12 "DesertWire" "now" "LDesertWire$World;") mw_291) (fun _ h9 => h9) rfl dX10_restore_14 ?_
    refine lv_aload_n hx hb dX10_restore_17 rfl (lv_at hl 0 rfl) ?_
    refine va_get (D := D) (ci := 10) (v := .ref k1) (C := RX10) (T := TX10) (N := 13) hx hb hT giX10 hown hK hP 0 rfl rfl 1 (by decide) (hT (Cond.fieldLink RX10 16 "DesertWire" "kept" "LDesertWire$World;") mw_292) (fun _ h9 => h9) rfl dX10_restore_18 ?_
    refine kJv (wr := [(k, .inr (10, [.ref k0, .ref k1, .ref k2, .ref k3, .ref k4, .ref k5, .ref k6, .ref k7, .ref k8, .ref k9, .ref ka, .ref kb, .int cc])), (k3, .inr (4, [.ref k30, .ref k31, .ref k32, .ref k33, .ref k34, .int c35, .int c36])), (k4, .inr (4, [.ref k40, .ref k41, .ref k42, .ref k43, .ref k44, .int c45, .int c46])), (kb, .inl (cI, 6, .inl cb)), (k30, .inl (cI, 50, .inl c30)), (k31, .inl (cI, 600, .inl c31)), (k32, .inl (cI, 12, .inl c32)), (k33, .inl (cI, 12, .inl c33)), (k34, .inl (cI, 12, .inl c34)), (k40, .inl (cI, 50, .inl c40)), (k41, .inl (cI, 600, .inl c41)), (k42, .inl (cI, 12, .inl c42)), (k43, .inl (cI, 12, .inl c43)), (k44, .inl (cI, 12, .inl c44))]) (va_runV (As := [.ref k1]) (rest := []) ⟨hx, hb, hml, hown, hT⟩ (c_X9_copyFromE l D cI aK aV k0 k1 k00 k01 k02 k03 k04 k05 k040 k041 k042 k043 k044 k045 k046 k047 k048 k050 k10 k11 k12 k13 k14 k15 k140 k141 k142 k143 k144 k145 k146 k147 k148 k150 s.heap.size c06 c07 c08 c00 c01 c02 c03 c049 c051 c040 c041 c042 c043 c044 c045 c046 c047 c048 c050 c16 c17 c18 c10 c11 c12 c13 c149 c151 c140 c141 c142 c143 c144 c145 c146 c147 c148 c150) (cwV 1 hT (gV_in mw_1014 mw_1011 mw_1012 mw_1013 mw_2) rfl rfl rfl (by decide +kernel) ⟨Nat.le_of_ble_eq_true rfl, Nat.le_of_ble_eq_true rfl⟩) (kRecvX (q0 := 1) (ci := 9) hK hP hD hN hXS hS hA rfl rfl [1, 6, 7, 8, 9, 10, 11, 28, 29, 30, 31, 32, 33, 34, 35, 36, 37, 2, 12, 13, 14, 15, 16, 17, 38, 39, 40, 41, 42, 43, 44, 45, 46, 47] rfl (by decide)) rfl rfl hl.1 rfl (lv_room (Nat.le_of_ble_eq_true rfl)) dX10_restore_21 ⟨Nat.le_of_ble_eq_true rfl, Nat.le_of_ble_eq_true rfl⟩) hP hD hS hA [1, 6, 7, 8, 9, 10, 11, 28, 29, 30, 31, 32, 33, 34, 35, 36, 37, 2, 12, 13, 14, 15, 16, 17, 38, 39, 40, 41, 42, 43, 44, 45, 46, 47] [0, 3, 4, 5, 18, 19, 20, 21, 22, 23, 24, 25, 26, 27] rfl rfl (by decide) (by decide) ?_
    clear hP hD hS
    intro u_23 H locs w_3 hP hD hS
    obtain ⟨sc6_4, sc7_5, sc8_6, sc0_7, sc1_8, sc2_9, sc3_10, sc49_11, sc51_12, sc40_13, sc41_14, sc42_15, sc43_16, sc44_17, sc45_18, sc46_19, sc47_20, sc48_21, sc50_22⟩ := u_23
    replace hP : va_P D vwCl [(k, .inr (10, [.ref k0, .ref k1, .ref k2, .ref k3, .ref k4, .ref k5, .ref k6, .ref k7, .ref k8, .ref k9, .ref ka, .ref kb, .int cc])), (k3, .inr (4, [.ref k30, .ref k31, .ref k32, .ref k33, .ref k34, .int c35, .int c36])), (k4, .inr (4, [.ref k40, .ref k41, .ref k42, .ref k43, .ref k44, .int c45, .int c46])), (kb, .inl (cI, 6, .inl cb)), (k30, .inl (cI, 50, .inl c30)), (k31, .inl (cI, 600, .inl c31)), (k32, .inl (cI, 12, .inl c32)), (k33, .inl (cI, 12, .inl c33)), (k34, .inl (cI, 12, .inl c34)), (k40, .inl (cI, 50, .inl c40)), (k41, .inl (cI, 600, .inl c41)), (k42, .inl (cI, 12, .inl c42)), (k43, .inl (cI, 12, .inl c43)), (k44, .inl (cI, 12, .inl c44)), (k0, .inr (9, [.ref k00, .ref k01, .ref k02, .ref k03, .ref k04, .ref k05, .int sc6_4, .int sc7_5, .int sc8_6])), (k00, .inl (cI, 12, .inl sc0_7)), (k01, .inl (cI, 40, .inl sc1_8)), (k02, .inl (cI, 40, .inl sc2_9)), (k03, .inl (cI, 20, .inl sc3_10)), (k04, .inr (8, [.ref k040, .ref k041, .ref k042, .ref k043, .ref k044, .ref k045, .ref k046, .ref k047, .ref k048, .int sc49_11])), (k05, .inr (3, [.ref k050, .int sc51_12])), (k040, .inl (cI, 60, .inl sc40_13)), (k041, .inl (cI, 60, .inl sc41_14)), (k042, .inl (cI, 60, .inl sc42_15)), (k043, .inl (cI, 60, .inl sc43_16)), (k044, .inl (cI, 60, .inl sc44_17)), (k045, .inl (cI, 60, .inl sc45_18)), (k046, .inl (cI, 40, .inl sc46_19)), (k047, .inl (cI, 40, .inl sc47_20)), (k048, .inl (cI, 40, .inl sc48_21)), (k050, .inl (cI, 36, .inl sc50_22)), (k1, .inr (9, [.ref k10, .ref k11, .ref k12, .ref k13, .ref k14, .ref k15, .int c16, .int c17, .int c18])), (k10, .inl (cI, 12, .inl c10)), (k11, .inl (cI, 40, .inl c11)), (k12, .inl (cI, 40, .inl c12)), (k13, .inl (cI, 20, .inl c13)), (k14, .inr (8, [.ref k140, .ref k141, .ref k142, .ref k143, .ref k144, .ref k145, .ref k146, .ref k147, .ref k148, .int c149])), (k15, .inr (3, [.ref k150, .int c151])), (k140, .inl (cI, 60, .inl c140)), (k141, .inl (cI, 60, .inl c141)), (k142, .inl (cI, 60, .inl c142)), (k143, .inl (cI, 60, .inl c143)), (k144, .inl (cI, 60, .inl c144)), (k145, .inl (cI, 60, .inl c145)), (k146, .inl (cI, 40, .inl c146)), (k147, .inl (cI, 40, .inl c147)), (k148, .inl (cI, 40, .inl c148)), (k150, .inl (cI, 36, .inl c150))] H := hP
    replace hD : va_D A [(k, .inr (10, [.ref k0, .ref k1, .ref k2, .ref k3, .ref k4, .ref k5, .ref k6, .ref k7, .ref k8, .ref k9, .ref ka, .ref kb, .int cc])), (k3, .inr (4, [.ref k30, .ref k31, .ref k32, .ref k33, .ref k34, .int c35, .int c36])), (k4, .inr (4, [.ref k40, .ref k41, .ref k42, .ref k43, .ref k44, .int c45, .int c46])), (kb, .inl (cI, 6, .inl cb)), (k30, .inl (cI, 50, .inl c30)), (k31, .inl (cI, 600, .inl c31)), (k32, .inl (cI, 12, .inl c32)), (k33, .inl (cI, 12, .inl c33)), (k34, .inl (cI, 12, .inl c34)), (k40, .inl (cI, 50, .inl c40)), (k41, .inl (cI, 600, .inl c41)), (k42, .inl (cI, 12, .inl c42)), (k43, .inl (cI, 12, .inl c43)), (k44, .inl (cI, 12, .inl c44)), (k0, .inr (9, [.ref k00, .ref k01, .ref k02, .ref k03, .ref k04, .ref k05, .int sc6_4, .int sc7_5, .int sc8_6])), (k00, .inl (cI, 12, .inl sc0_7)), (k01, .inl (cI, 40, .inl sc1_8)), (k02, .inl (cI, 40, .inl sc2_9)), (k03, .inl (cI, 20, .inl sc3_10)), (k04, .inr (8, [.ref k040, .ref k041, .ref k042, .ref k043, .ref k044, .ref k045, .ref k046, .ref k047, .ref k048, .int sc49_11])), (k05, .inr (3, [.ref k050, .int sc51_12])), (k040, .inl (cI, 60, .inl sc40_13)), (k041, .inl (cI, 60, .inl sc41_14)), (k042, .inl (cI, 60, .inl sc42_15)), (k043, .inl (cI, 60, .inl sc43_16)), (k044, .inl (cI, 60, .inl sc44_17)), (k045, .inl (cI, 60, .inl sc45_18)), (k046, .inl (cI, 40, .inl sc46_19)), (k047, .inl (cI, 40, .inl sc47_20)), (k048, .inl (cI, 40, .inl sc48_21)), (k050, .inl (cI, 36, .inl sc50_22)), (k1, .inr (9, [.ref k10, .ref k11, .ref k12, .ref k13, .ref k14, .ref k15, .int c16, .int c17, .int c18])), (k10, .inl (cI, 12, .inl c10)), (k11, .inl (cI, 40, .inl c11)), (k12, .inl (cI, 40, .inl c12)), (k13, .inl (cI, 20, .inl c13)), (k14, .inr (8, [.ref k140, .ref k141, .ref k142, .ref k143, .ref k144, .ref k145, .ref k146, .ref k147, .ref k148, .int c149])), (k15, .inr (3, [.ref k150, .int c151])), (k140, .inl (cI, 60, .inl c140)), (k141, .inl (cI, 60, .inl c141)), (k142, .inl (cI, 60, .inl c142)), (k143, .inl (cI, 60, .inl c143)), (k144, .inl (cI, 60, .inl c144)), (k145, .inl (cI, 60, .inl c145)), (k146, .inl (cI, 40, .inl c146)), (k147, .inl (cI, 40, .inl c147)), (k148, .inl (cI, 40, .inl c148)), (k150, .inl (cI, 36, .inl c150))] := hD
    have lo_sc6_4 := k_lo sc6_4
    have hi_sc6_4 := k_hi sc6_4
    have lo_sc7_5 := k_lo sc7_5
    have hi_sc7_5 := k_hi sc7_5
    have lo_sc8_6 := k_lo sc8_6
    have hi_sc8_6 := k_hi sc8_6
    have lo_sc49_11 := k_lo sc49_11
    have hi_sc49_11 := k_hi sc49_11
    have lo_sc51_12 := k_lo sc51_12
    have hi_sc51_12 := k_hi sc51_12
    obtain ⟨h_24, h_25, h_26, h_27, h_28, h_29, h_30, h_31, h_32, h_33, h_34, h_35, h_36, h_37, h_38, h_39, h_40, h_41, h_42⟩ := w_3
    have h_24 : sc0_7 = c10 := h_24
    have h_25 : sc1_8 = c11 := h_25
    have h_26 : sc2_9 = c12 := h_26
    have h_27 : sc3_10 = c13 := h_27
    have h_28 : sc40_13 = c140 := h_28
    have h_29 : sc41_14 = c141 := h_29
    have h_30 : sc42_15 = c142 := h_30
    have h_31 : sc43_16 = c143 := h_31
    have h_32 : sc44_17 = c144 := h_32
    have h_33 : sc45_18 = c145 := h_33
    have h_34 : sc46_19 = c146 := h_34
    have h_35 : sc47_20 = c147 := h_35
    have h_36 : sc48_21 = c148 := h_36
    have h_37 : sc49_11 = c149 := h_37
    have h_38 : sc50_22 = c150 := h_38
    have h_39 : sc51_12 = c151 := h_39
    have h_40 : sc6_4 = c16 := h_40
    have h_41 : sc7_5 = c17 := h_41
    have h_42 : sc8_6 = c18 := h_42
    refine lv_aload_n hx hb dX10_restore_24 rfl (lv_at hl 0 rfl) ?_
    refine va_get (D := D) (ci := 10) (v := .ref k3) (C := RX10) (T := TX10) (N := 13) hx hb hT giX10 hown hK hP 0 rfl rfl 3 (by decide) (hT (Cond.fieldLink RX10 25 "DesertWire" "rates" "LDesertWire$Rates;") mw_294) (fun _ h9 => h9) rfl dX10_restore_25 ?_
    refine lv_aload_n hx hb dX10_restore_28 rfl (lv_at hl 0 rfl) ?_
    refine va_get (D := D) (ci := 10) (v := .ref k4) (C := RX10) (T := TX10) (N := 13) hx hb hT giX10 hown hK hP 0 rfl rfl 4 (by decide) (hT (Cond.fieldLink RX10 29 "DesertWire" "keptRates" "LDesertWire$Rates;") mw_295) (fun _ h9 => h9) rfl dX10_restore_29 ?_
    refine kJv (wr := [(k, .inr (10, [.ref k0, .ref k1, .ref k2, .ref k3, .ref k4, .ref k5, .ref k6, .ref k7, .ref k8, .ref k9, .ref ka, .ref kb, .int cc])), (kb, .inl (cI, 6, .inl cb)), (k0, .inr (9, [.ref k00, .ref k01, .ref k02, .ref k03, .ref k04, .ref k05, .int sc6_4, .int sc7_5, .int sc8_6])), (k00, .inl (cI, 12, .inl sc0_7)), (k01, .inl (cI, 40, .inl sc1_8)), (k02, .inl (cI, 40, .inl sc2_9)), (k03, .inl (cI, 20, .inl sc3_10)), (k04, .inr (8, [.ref k040, .ref k041, .ref k042, .ref k043, .ref k044, .ref k045, .ref k046, .ref k047, .ref k048, .int sc49_11])), (k05, .inr (3, [.ref k050, .int sc51_12])), (k040, .inl (cI, 60, .inl sc40_13)), (k041, .inl (cI, 60, .inl sc41_14)), (k042, .inl (cI, 60, .inl sc42_15)), (k043, .inl (cI, 60, .inl sc43_16)), (k044, .inl (cI, 60, .inl sc44_17)), (k045, .inl (cI, 60, .inl sc45_18)), (k046, .inl (cI, 40, .inl sc46_19)), (k047, .inl (cI, 40, .inl sc47_20)), (k048, .inl (cI, 40, .inl sc48_21)), (k050, .inl (cI, 36, .inl sc50_22)), (k1, .inr (9, [.ref k10, .ref k11, .ref k12, .ref k13, .ref k14, .ref k15, .int c16, .int c17, .int c18])), (k10, .inl (cI, 12, .inl c10)), (k11, .inl (cI, 40, .inl c11)), (k12, .inl (cI, 40, .inl c12)), (k13, .inl (cI, 20, .inl c13)), (k14, .inr (8, [.ref k140, .ref k141, .ref k142, .ref k143, .ref k144, .ref k145, .ref k146, .ref k147, .ref k148, .int c149])), (k15, .inr (3, [.ref k150, .int c151])), (k140, .inl (cI, 60, .inl c140)), (k141, .inl (cI, 60, .inl c141)), (k142, .inl (cI, 60, .inl c142)), (k143, .inl (cI, 60, .inl c143)), (k144, .inl (cI, 60, .inl c144)), (k145, .inl (cI, 60, .inl c145)), (k146, .inl (cI, 40, .inl c146)), (k147, .inl (cI, 40, .inl c147)), (k148, .inl (cI, 40, .inl c148)), (k150, .inl (cI, 36, .inl c150))]) (va_runV (As := [.ref k4]) (rest := []) ⟨hx, hb, hml, hown, hT⟩ (c_X4_copyFromG l D cI aK aV k3 k4 k30 k31 k32 k33 k34 k40 k41 k42 k43 k44 H.size c35 c36 c30 c31 c32 c33 c34 c45 c46 c40 c41 c42 c43 c44) (cwV 1 hT (gV_in mw_1108 mw_1105 mw_1106 mw_1107 mw_5) rfl rfl rfl (by decide +kernel) ⟨Nat.le_of_ble_eq_true rfl, Nat.le_of_ble_eq_true rfl⟩) (kRecvX (q0 := 1) (ci := 4) hK hP hD hN hXS hS hA rfl rfl [1, 4, 5, 6, 7, 8, 2, 9, 10, 11, 12, 13] rfl (by decide)) rfl rfl hl.1 rfl (lv_room (Nat.le_of_ble_eq_true rfl)) dX10_restore_32 ⟨Nat.le_of_ble_eq_true rfl, Nat.le_of_ble_eq_true rfl⟩) hP hD hS hA [1, 4, 5, 6, 7, 8, 2, 9, 10, 11, 12, 13] [0, 3, 14, 15, 16, 17, 18, 19, 20, 21, 22, 23, 24, 25, 26, 27, 28, 29, 30, 31, 32, 33, 34, 35, 36, 37, 38, 39, 40, 41, 42, 43, 44, 45, 46, 47] rfl rfl (by decide) (by decide) ?_
    clear hP hD hS
    intro u_52 H locs w_44 hP hD hS
    obtain ⟨sc5_45, sc6_46, sc0_47, sc1_48, sc2_49, sc3_50, sc4_51⟩ := u_52
    replace hP : va_P D vwCl [(k, .inr (10, [.ref k0, .ref k1, .ref k2, .ref k3, .ref k4, .ref k5, .ref k6, .ref k7, .ref k8, .ref k9, .ref ka, .ref kb, .int cc])), (kb, .inl (cI, 6, .inl cb)), (k0, .inr (9, [.ref k00, .ref k01, .ref k02, .ref k03, .ref k04, .ref k05, .int sc6_4, .int sc7_5, .int sc8_6])), (k00, .inl (cI, 12, .inl sc0_7)), (k01, .inl (cI, 40, .inl sc1_8)), (k02, .inl (cI, 40, .inl sc2_9)), (k03, .inl (cI, 20, .inl sc3_10)), (k04, .inr (8, [.ref k040, .ref k041, .ref k042, .ref k043, .ref k044, .ref k045, .ref k046, .ref k047, .ref k048, .int sc49_11])), (k05, .inr (3, [.ref k050, .int sc51_12])), (k040, .inl (cI, 60, .inl sc40_13)), (k041, .inl (cI, 60, .inl sc41_14)), (k042, .inl (cI, 60, .inl sc42_15)), (k043, .inl (cI, 60, .inl sc43_16)), (k044, .inl (cI, 60, .inl sc44_17)), (k045, .inl (cI, 60, .inl sc45_18)), (k046, .inl (cI, 40, .inl sc46_19)), (k047, .inl (cI, 40, .inl sc47_20)), (k048, .inl (cI, 40, .inl sc48_21)), (k050, .inl (cI, 36, .inl sc50_22)), (k1, .inr (9, [.ref k10, .ref k11, .ref k12, .ref k13, .ref k14, .ref k15, .int c16, .int c17, .int c18])), (k10, .inl (cI, 12, .inl c10)), (k11, .inl (cI, 40, .inl c11)), (k12, .inl (cI, 40, .inl c12)), (k13, .inl (cI, 20, .inl c13)), (k14, .inr (8, [.ref k140, .ref k141, .ref k142, .ref k143, .ref k144, .ref k145, .ref k146, .ref k147, .ref k148, .int c149])), (k15, .inr (3, [.ref k150, .int c151])), (k140, .inl (cI, 60, .inl c140)), (k141, .inl (cI, 60, .inl c141)), (k142, .inl (cI, 60, .inl c142)), (k143, .inl (cI, 60, .inl c143)), (k144, .inl (cI, 60, .inl c144)), (k145, .inl (cI, 60, .inl c145)), (k146, .inl (cI, 40, .inl c146)), (k147, .inl (cI, 40, .inl c147)), (k148, .inl (cI, 40, .inl c148)), (k150, .inl (cI, 36, .inl c150)), (k3, .inr (4, [.ref k30, .ref k31, .ref k32, .ref k33, .ref k34, .int sc5_45, .int sc6_46])), (k30, .inl (cI, 50, .inl sc0_47)), (k31, .inl (cI, 600, .inl sc1_48)), (k32, .inl (cI, 12, .inl sc2_49)), (k33, .inl (cI, 12, .inl sc3_50)), (k34, .inl (cI, 12, .inl sc4_51)), (k4, .inr (4, [.ref k40, .ref k41, .ref k42, .ref k43, .ref k44, .int c45, .int c46])), (k40, .inl (cI, 50, .inl c40)), (k41, .inl (cI, 600, .inl c41)), (k42, .inl (cI, 12, .inl c42)), (k43, .inl (cI, 12, .inl c43)), (k44, .inl (cI, 12, .inl c44))] H := hP
    replace hD : va_D A [(k, .inr (10, [.ref k0, .ref k1, .ref k2, .ref k3, .ref k4, .ref k5, .ref k6, .ref k7, .ref k8, .ref k9, .ref ka, .ref kb, .int cc])), (kb, .inl (cI, 6, .inl cb)), (k0, .inr (9, [.ref k00, .ref k01, .ref k02, .ref k03, .ref k04, .ref k05, .int sc6_4, .int sc7_5, .int sc8_6])), (k00, .inl (cI, 12, .inl sc0_7)), (k01, .inl (cI, 40, .inl sc1_8)), (k02, .inl (cI, 40, .inl sc2_9)), (k03, .inl (cI, 20, .inl sc3_10)), (k04, .inr (8, [.ref k040, .ref k041, .ref k042, .ref k043, .ref k044, .ref k045, .ref k046, .ref k047, .ref k048, .int sc49_11])), (k05, .inr (3, [.ref k050, .int sc51_12])), (k040, .inl (cI, 60, .inl sc40_13)), (k041, .inl (cI, 60, .inl sc41_14)), (k042, .inl (cI, 60, .inl sc42_15)), (k043, .inl (cI, 60, .inl sc43_16)), (k044, .inl (cI, 60, .inl sc44_17)), (k045, .inl (cI, 60, .inl sc45_18)), (k046, .inl (cI, 40, .inl sc46_19)), (k047, .inl (cI, 40, .inl sc47_20)), (k048, .inl (cI, 40, .inl sc48_21)), (k050, .inl (cI, 36, .inl sc50_22)), (k1, .inr (9, [.ref k10, .ref k11, .ref k12, .ref k13, .ref k14, .ref k15, .int c16, .int c17, .int c18])), (k10, .inl (cI, 12, .inl c10)), (k11, .inl (cI, 40, .inl c11)), (k12, .inl (cI, 40, .inl c12)), (k13, .inl (cI, 20, .inl c13)), (k14, .inr (8, [.ref k140, .ref k141, .ref k142, .ref k143, .ref k144, .ref k145, .ref k146, .ref k147, .ref k148, .int c149])), (k15, .inr (3, [.ref k150, .int c151])), (k140, .inl (cI, 60, .inl c140)), (k141, .inl (cI, 60, .inl c141)), (k142, .inl (cI, 60, .inl c142)), (k143, .inl (cI, 60, .inl c143)), (k144, .inl (cI, 60, .inl c144)), (k145, .inl (cI, 60, .inl c145)), (k146, .inl (cI, 40, .inl c146)), (k147, .inl (cI, 40, .inl c147)), (k148, .inl (cI, 40, .inl c148)), (k150, .inl (cI, 36, .inl c150)), (k3, .inr (4, [.ref k30, .ref k31, .ref k32, .ref k33, .ref k34, .int sc5_45, .int sc6_46])), (k30, .inl (cI, 50, .inl sc0_47)), (k31, .inl (cI, 600, .inl sc1_48)), (k32, .inl (cI, 12, .inl sc2_49)), (k33, .inl (cI, 12, .inl sc3_50)), (k34, .inl (cI, 12, .inl sc4_51)), (k4, .inr (4, [.ref k40, .ref k41, .ref k42, .ref k43, .ref k44, .int c45, .int c46])), (k40, .inl (cI, 50, .inl c40)), (k41, .inl (cI, 600, .inl c41)), (k42, .inl (cI, 12, .inl c42)), (k43, .inl (cI, 12, .inl c43)), (k44, .inl (cI, 12, .inl c44))] := hD
    have lo_sc5_45 := k_lo sc5_45
    have hi_sc5_45 := k_hi sc5_45
    have lo_sc6_46 := k_lo sc6_46
    have hi_sc6_46 := k_hi sc6_46
    obtain ⟨h_53, h_54, h_55, h_56, h_57, h_58, h_59⟩ := w_44
    have h_53 : sc0_47 = c40 := h_53
    have h_54 : sc1_48 = c41 := h_54
    have h_55 : sc2_49 = c42 := h_55
    have h_56 : sc3_50 = c43 := h_56
    have h_57 : sc4_51 = c44 := h_57
    have h_58 : sc5_45 = c45 := h_58
    have h_59 : sc6_46 = c46 := h_59
    refine lv_aload_n hx hb dX10_restore_35 rfl (lv_at hl 0 rfl) ?_
    refine va_get (D := D) (ci := 10) (v := .ref k0) (C := RX10) (T := TX10) (N := 13) hx hb hT giX10 hown hK hP 0 rfl rfl 0 (by decide) (hT (Cond.fieldLink RX10 12 "DesertWire" "now" "LDesertWire$World;") mw_291) (fun _ h9 => h9) rfl dX10_restore_36 ?_
    refine va_get (D := D) (ci := 9) (v := .int sc8_6) (C := RX9) (T := TX9) (N := 9) hx hb hT giX9 hown hK hP 2 rfl rfl 8 (by decide) (hT (Cond.fieldLink RX10 109 "DesertWire$World" "day" "I") mw_110) (fun _ h9 => h9) rfl dX10_restore_39 ?_
    exact hRet (sc6_4, sc7_5, sc8_6, sc5_45, sc6_46, cb, sc0_7, sc1_8, sc2_9, sc3_10, sc49_11, sc51_12, sc0_47, sc1_48, sc2_49, sc3_50, sc4_51, sc40_13, sc41_14, sc42_15, sc43_16, sc44_17, sc45_18, sc46_19, sc47_20, sc48_21, sc50_22) [0, 2, 19, 36, 42, 1, 3, 4, 5, 6, 7, 8, 20, 21, 22, 23, 24, 25, 37, 38, 39, 40, 41, 43, 44, 45, 46, 47, 9, 10, 11, 12, 13, 14, 15, 16, 17, 18, 26, 27, 28, 29, 30, 31, 32, 33, 34, 35] ⟨(by (try dsimp only); unfold restR; (repeat (first | rw [if_pos (by omega)] | rw [if_neg (by omega)])); first | done | exact h_42), (by (try dsimp only); unfold ifF; (repeat (first | rw [if_pos (by omega)] | rw [if_neg (by omega)])); first | done | exact h_24), (by (try dsimp only); unfold ifF; (repeat (first | rw [if_pos (by omega)] | rw [if_neg (by omega)])); first | done | exact h_25), (by (try dsimp only); unfold ifF; (repeat (first | rw [if_pos (by omega)] | rw [if_neg (by omega)])); first | done | exact h_26), (by (try dsimp only); unfold ifF; (repeat (first | rw [if_pos (by omega)] | rw [if_neg (by omega)])); first | done | exact h_27), (by (try dsimp only); unfold ifF; (repeat (first | rw [if_pos (by omega)] | rw [if_neg (by omega)])); first | done | exact h_28), (by (try dsimp only); unfold ifF; (repeat (first | rw [if_pos (by omega)] | rw [if_neg (by omega)])); first | done | exact h_29), (by (try dsimp only); unfold ifF; (repeat (first | rw [if_pos (by omega)] | rw [if_neg (by omega)])); first | done | exact h_30), (by (try dsimp only); unfold ifF; (repeat (first | rw [if_pos (by omega)] | rw [if_neg (by omega)])); first | done | exact h_31), (by (try dsimp only); unfold ifF; (repeat (first | rw [if_pos (by omega)] | rw [if_neg (by omega)])); first | done | exact h_32), (by (try dsimp only); unfold ifF; (repeat (first | rw [if_pos (by omega)] | rw [if_neg (by omega)])); first | done | exact h_33), (by (try dsimp only); unfold ifF; (repeat (first | rw [if_pos (by omega)] | rw [if_neg (by omega)])); first | done | exact h_34), (by (try dsimp only); unfold ifF; (repeat (first | rw [if_pos (by omega)] | rw [if_neg (by omega)])); first | done | exact h_35), (by (try dsimp only); unfold ifF; (repeat (first | rw [if_pos (by omega)] | rw [if_neg (by omega)])); first | done | exact h_36), (by (try dsimp only); unfold ifI; (repeat (first | rw [if_pos (by omega)] | rw [if_neg (by omega)])); first | done | exact h_37), (by (try dsimp only); unfold ifF; (repeat (first | rw [if_pos (by omega)] | rw [if_neg (by omega)])); first | done | exact h_38), (by (try dsimp only); unfold ifI; (repeat (first | rw [if_pos (by omega)] | rw [if_neg (by omega)])); first | done | exact h_39), (by (try dsimp only); unfold ifI; (repeat (first | rw [if_pos (by omega)] | rw [if_neg (by omega)])); first | done | exact h_40), (by (try dsimp only); unfold ifI; (repeat (first | rw [if_pos (by omega)] | rw [if_neg (by omega)])); first | done | exact h_41), (by (try dsimp only); unfold ifI; (repeat (first | rw [if_pos (by omega)] | rw [if_neg (by omega)])); first | done | exact h_42), (by (try dsimp only); unfold ifF; (repeat (first | rw [if_pos (by omega)] | rw [if_neg (by omega)])); first | done | exact h_53), (by (try dsimp only); unfold ifF; (repeat (first | rw [if_pos (by omega)] | rw [if_neg (by omega)])); first | done | exact h_54), (by (try dsimp only); unfold ifF; (repeat (first | rw [if_pos (by omega)] | rw [if_neg (by omega)])); first | done | exact h_55), (by (try dsimp only); unfold ifF; (repeat (first | rw [if_pos (by omega)] | rw [if_neg (by omega)])); first | done | exact h_56), (by (try dsimp only); unfold ifF; (repeat (first | rw [if_pos (by omega)] | rw [if_neg (by omega)])); first | done | exact h_57), (by (try dsimp only); unfold ifI; (repeat (first | rw [if_pos (by omega)] | rw [if_neg (by omega)])); first | done | exact h_58), (by (try dsimp only); unfold ifI; (repeat (first | rw [if_pos (by omega)] | rw [if_neg (by omega)])); first | done | exact h_59)⟩ hP hD (by decide) rfl hS rfl dX10_restore_42
  · refine lv_aload_n hx hb dX10_restore_7 rfl (lv_at hl 0 rfl) ?_
    refine lv_iconst (v := 2) hx hb dX10_restore_8 (by decide) ?_
    refine kJi (wr := [(k0, .inr (9, [.ref k00, .ref k01, .ref k02, .ref k03, .ref k04, .ref k05, .int c06, .int c07, .int c08])), (k1, .inr (9, [.ref k10, .ref k11, .ref k12, .ref k13, .ref k14, .ref k15, .int c16, .int c17, .int c18])), (k3, .inr (4, [.ref k30, .ref k31, .ref k32, .ref k33, .ref k34, .int c35, .int c36])), (k4, .inr (4, [.ref k40, .ref k41, .ref k42, .ref k43, .ref k44, .int c45, .int c46])), (k00, .inl (cI, 12, .inl c00)), (k01, .inl (cI, 40, .inl c01)), (k02, .inl (cI, 40, .inl c02)), (k03, .inl (cI, 20, .inl c03)), (k04, .inr (8, [.ref k040, .ref k041, .ref k042, .ref k043, .ref k044, .ref k045, .ref k046, .ref k047, .ref k048, .int c049])), (k05, .inr (3, [.ref k050, .int c051])), (k10, .inl (cI, 12, .inl c10)), (k11, .inl (cI, 40, .inl c11)), (k12, .inl (cI, 40, .inl c12)), (k13, .inl (cI, 20, .inl c13)), (k14, .inr (8, [.ref k140, .ref k141, .ref k142, .ref k143, .ref k144, .ref k145, .ref k146, .ref k147, .ref k148, .int c149])), (k15, .inr (3, [.ref k150, .int c151])), (k30, .inl (cI, 50, .inl c30)), (k31, .inl (cI, 600, .inl c31)), (k32, .inl (cI, 12, .inl c32)), (k33, .inl (cI, 12, .inl c33)), (k34, .inl (cI, 12, .inl c34)), (k40, .inl (cI, 50, .inl c40)), (k41, .inl (cI, 600, .inl c41)), (k42, .inl (cI, 12, .inl c42)), (k43, .inl (cI, 12, .inl c43)), (k44, .inl (cI, 12, .inl c44)), (k040, .inl (cI, 60, .inl c040)), (k041, .inl (cI, 60, .inl c041)), (k042, .inl (cI, 60, .inl c042)), (k043, .inl (cI, 60, .inl c043)), (k044, .inl (cI, 60, .inl c044)), (k045, .inl (cI, 60, .inl c045)), (k046, .inl (cI, 40, .inl c046)), (k047, .inl (cI, 40, .inl c047)), (k048, .inl (cI, 40, .inl c048)), (k050, .inl (cI, 36, .inl c050)), (k140, .inl (cI, 60, .inl c140)), (k141, .inl (cI, 60, .inl c141)), (k142, .inl (cI, 60, .inl c142)), (k143, .inl (cI, 60, .inl c143)), (k144, .inl (cI, 60, .inl c144)), (k145, .inl (cI, 60, .inl c145)), (k146, .inl (cI, 40, .inl c146)), (k147, .inl (cI, 40, .inl c147)), (k148, .inl (cI, 40, .inl c148)), (k150, .inl (cI, 36, .inl c150))]) (va_runV (As := [.int 2]) (rest := []) ⟨hx, hb, hml, hown, hT⟩ (c_X10_findingG l D cI aK aV k k0 k1 k2 k3 k4 k5 k6 k7 k8 k9 ka kb s.heap.size cc cb 2) (cwV 1 hT (gV_in mw_338 mw_335 mw_337 mw_p1_0 mw_1) rfl rfl rfl (by decide +kernel) ⟨Nat.le_of_ble_eq_true rfl, Nat.le_of_ble_eq_true rfl⟩) (kRecvX (q0 := 0) (ci := 10) hK hP hD hN hXS hS hA rfl rfl [0, 5] rfl (by decide)) rfl rfl hl.1 rfl (lv_room (Nat.le_of_ble_eq_true rfl)) dX10_restore_9 ⟨Nat.le_of_ble_eq_true rfl, Nat.le_of_ble_eq_true rfl⟩) hP hD hS hA [0, 5] [1, 2, 3, 4, 6, 7, 8, 9, 10, 11, 12, 13, 14, 15, 16, 17, 18, 19, 20, 21, 22, 23, 24, 25, 26, 27, 28, 29, 30, 31, 32, 33, 34, 35, 36, 37, 38, 39, 40, 41, 42, 43, 44, 45, 46, 47] rfl rfl (by decide) (by decide) ?_
    clear hP hD hS
    intro r_60 scb_62 H locs w_61 hP hD hS
    replace hP : va_P D vwCl [(k0, .inr (9, [.ref k00, .ref k01, .ref k02, .ref k03, .ref k04, .ref k05, .int c06, .int c07, .int c08])), (k1, .inr (9, [.ref k10, .ref k11, .ref k12, .ref k13, .ref k14, .ref k15, .int c16, .int c17, .int c18])), (k3, .inr (4, [.ref k30, .ref k31, .ref k32, .ref k33, .ref k34, .int c35, .int c36])), (k4, .inr (4, [.ref k40, .ref k41, .ref k42, .ref k43, .ref k44, .int c45, .int c46])), (k00, .inl (cI, 12, .inl c00)), (k01, .inl (cI, 40, .inl c01)), (k02, .inl (cI, 40, .inl c02)), (k03, .inl (cI, 20, .inl c03)), (k04, .inr (8, [.ref k040, .ref k041, .ref k042, .ref k043, .ref k044, .ref k045, .ref k046, .ref k047, .ref k048, .int c049])), (k05, .inr (3, [.ref k050, .int c051])), (k10, .inl (cI, 12, .inl c10)), (k11, .inl (cI, 40, .inl c11)), (k12, .inl (cI, 40, .inl c12)), (k13, .inl (cI, 20, .inl c13)), (k14, .inr (8, [.ref k140, .ref k141, .ref k142, .ref k143, .ref k144, .ref k145, .ref k146, .ref k147, .ref k148, .int c149])), (k15, .inr (3, [.ref k150, .int c151])), (k30, .inl (cI, 50, .inl c30)), (k31, .inl (cI, 600, .inl c31)), (k32, .inl (cI, 12, .inl c32)), (k33, .inl (cI, 12, .inl c33)), (k34, .inl (cI, 12, .inl c34)), (k40, .inl (cI, 50, .inl c40)), (k41, .inl (cI, 600, .inl c41)), (k42, .inl (cI, 12, .inl c42)), (k43, .inl (cI, 12, .inl c43)), (k44, .inl (cI, 12, .inl c44)), (k040, .inl (cI, 60, .inl c040)), (k041, .inl (cI, 60, .inl c041)), (k042, .inl (cI, 60, .inl c042)), (k043, .inl (cI, 60, .inl c043)), (k044, .inl (cI, 60, .inl c044)), (k045, .inl (cI, 60, .inl c045)), (k046, .inl (cI, 40, .inl c046)), (k047, .inl (cI, 40, .inl c047)), (k048, .inl (cI, 40, .inl c048)), (k050, .inl (cI, 36, .inl c050)), (k140, .inl (cI, 60, .inl c140)), (k141, .inl (cI, 60, .inl c141)), (k142, .inl (cI, 60, .inl c142)), (k143, .inl (cI, 60, .inl c143)), (k144, .inl (cI, 60, .inl c144)), (k145, .inl (cI, 60, .inl c145)), (k146, .inl (cI, 40, .inl c146)), (k147, .inl (cI, 40, .inl c147)), (k148, .inl (cI, 40, .inl c148)), (k150, .inl (cI, 36, .inl c150)), (k, .inr (10, [.ref k0, .ref k1, .ref k2, .ref k3, .ref k4, .ref k5, .ref k6, .ref k7, .ref k8, .ref k9, .ref ka, .ref kb, .int cc])), (kb, .inl (cI, 6, .inl scb_62))] H := hP
    replace hD : va_D A [(k0, .inr (9, [.ref k00, .ref k01, .ref k02, .ref k03, .ref k04, .ref k05, .int c06, .int c07, .int c08])), (k1, .inr (9, [.ref k10, .ref k11, .ref k12, .ref k13, .ref k14, .ref k15, .int c16, .int c17, .int c18])), (k3, .inr (4, [.ref k30, .ref k31, .ref k32, .ref k33, .ref k34, .int c35, .int c36])), (k4, .inr (4, [.ref k40, .ref k41, .ref k42, .ref k43, .ref k44, .int c45, .int c46])), (k00, .inl (cI, 12, .inl c00)), (k01, .inl (cI, 40, .inl c01)), (k02, .inl (cI, 40, .inl c02)), (k03, .inl (cI, 20, .inl c03)), (k04, .inr (8, [.ref k040, .ref k041, .ref k042, .ref k043, .ref k044, .ref k045, .ref k046, .ref k047, .ref k048, .int c049])), (k05, .inr (3, [.ref k050, .int c051])), (k10, .inl (cI, 12, .inl c10)), (k11, .inl (cI, 40, .inl c11)), (k12, .inl (cI, 40, .inl c12)), (k13, .inl (cI, 20, .inl c13)), (k14, .inr (8, [.ref k140, .ref k141, .ref k142, .ref k143, .ref k144, .ref k145, .ref k146, .ref k147, .ref k148, .int c149])), (k15, .inr (3, [.ref k150, .int c151])), (k30, .inl (cI, 50, .inl c30)), (k31, .inl (cI, 600, .inl c31)), (k32, .inl (cI, 12, .inl c32)), (k33, .inl (cI, 12, .inl c33)), (k34, .inl (cI, 12, .inl c34)), (k40, .inl (cI, 50, .inl c40)), (k41, .inl (cI, 600, .inl c41)), (k42, .inl (cI, 12, .inl c42)), (k43, .inl (cI, 12, .inl c43)), (k44, .inl (cI, 12, .inl c44)), (k040, .inl (cI, 60, .inl c040)), (k041, .inl (cI, 60, .inl c041)), (k042, .inl (cI, 60, .inl c042)), (k043, .inl (cI, 60, .inl c043)), (k044, .inl (cI, 60, .inl c044)), (k045, .inl (cI, 60, .inl c045)), (k046, .inl (cI, 40, .inl c046)), (k047, .inl (cI, 40, .inl c047)), (k048, .inl (cI, 40, .inl c048)), (k050, .inl (cI, 36, .inl c050)), (k140, .inl (cI, 60, .inl c140)), (k141, .inl (cI, 60, .inl c141)), (k142, .inl (cI, 60, .inl c142)), (k143, .inl (cI, 60, .inl c143)), (k144, .inl (cI, 60, .inl c144)), (k145, .inl (cI, 60, .inl c145)), (k146, .inl (cI, 40, .inl c146)), (k147, .inl (cI, 40, .inl c147)), (k148, .inl (cI, 40, .inl c148)), (k150, .inl (cI, 36, .inl c150)), (k, .inr (10, [.ref k0, .ref k1, .ref k2, .ref k3, .ref k4, .ref k5, .ref k6, .ref k7, .ref k8, .ref k9, .ref ka, .ref kb, .int cc])), (kb, .inl (cI, 6, .inl scb_62))] := hD
    have hr_60 := w_61
    obtain rfl : r_60 = (-1000002) := hr_60.trans (by decide)
    exact hRet (c06, c07, c08, c35, c36, scb_62, c00, c01, c02, c03, c049, c051, c30, c31, c32, c33, c34, c040, c041, c042, c043, c044, c045, c046, c047, c048, c050) [46, 0, 1, 2, 3, 47, 4, 5, 6, 7, 8, 9, 10, 11, 12, 13, 14, 15, 16, 17, 18, 19, 20, 21, 22, 23, 24, 25, 26, 27, 28, 29, 30, 31, 32, 33, 34, 35, 36, 37, 38, 39, 40, 41, 42, 43, 44, 45] ⟨(by (try dsimp only); unfold restR; (repeat (first | rw [if_pos (by omega)] | rw [if_neg (by omega)]))), (by (try dsimp only); unfold ifF; (repeat (first | rw [if_pos (by omega)] | rw [if_neg (by omega)]))), (by (try dsimp only); unfold ifF; (repeat (first | rw [if_pos (by omega)] | rw [if_neg (by omega)]))), (by (try dsimp only); unfold ifF; (repeat (first | rw [if_pos (by omega)] | rw [if_neg (by omega)]))), (by (try dsimp only); unfold ifF; (repeat (first | rw [if_pos (by omega)] | rw [if_neg (by omega)]))), (by (try dsimp only); unfold ifF; (repeat (first | rw [if_pos (by omega)] | rw [if_neg (by omega)]))), (by (try dsimp only); unfold ifF; (repeat (first | rw [if_pos (by omega)] | rw [if_neg (by omega)]))), (by (try dsimp only); unfold ifF; (repeat (first | rw [if_pos (by omega)] | rw [if_neg (by omega)]))), (by (try dsimp only); unfold ifF; (repeat (first | rw [if_pos (by omega)] | rw [if_neg (by omega)]))), (by (try dsimp only); unfold ifF; (repeat (first | rw [if_pos (by omega)] | rw [if_neg (by omega)]))), (by (try dsimp only); unfold ifF; (repeat (first | rw [if_pos (by omega)] | rw [if_neg (by omega)]))), (by (try dsimp only); unfold ifF; (repeat (first | rw [if_pos (by omega)] | rw [if_neg (by omega)]))), (by (try dsimp only); unfold ifF; (repeat (first | rw [if_pos (by omega)] | rw [if_neg (by omega)]))), (by (try dsimp only); unfold ifF; (repeat (first | rw [if_pos (by omega)] | rw [if_neg (by omega)]))), (by (try dsimp only); unfold ifI; (repeat (first | rw [if_pos (by omega)] | rw [if_neg (by omega)]))), (by (try dsimp only); unfold ifF; (repeat (first | rw [if_pos (by omega)] | rw [if_neg (by omega)]))), (by (try dsimp only); unfold ifI; (repeat (first | rw [if_pos (by omega)] | rw [if_neg (by omega)]))), (by (try dsimp only); unfold ifI; (repeat (first | rw [if_pos (by omega)] | rw [if_neg (by omega)]))), (by (try dsimp only); unfold ifI; (repeat (first | rw [if_pos (by omega)] | rw [if_neg (by omega)]))), (by (try dsimp only); unfold ifI; (repeat (first | rw [if_pos (by omega)] | rw [if_neg (by omega)]))), (by (try dsimp only); unfold ifF; (repeat (first | rw [if_pos (by omega)] | rw [if_neg (by omega)]))), (by (try dsimp only); unfold ifF; (repeat (first | rw [if_pos (by omega)] | rw [if_neg (by omega)]))), (by (try dsimp only); unfold ifF; (repeat (first | rw [if_pos (by omega)] | rw [if_neg (by omega)]))), (by (try dsimp only); unfold ifF; (repeat (first | rw [if_pos (by omega)] | rw [if_neg (by omega)]))), (by (try dsimp only); unfold ifF; (repeat (first | rw [if_pos (by omega)] | rw [if_neg (by omega)]))), (by (try dsimp only); unfold ifI; (repeat (first | rw [if_pos (by omega)] | rw [if_neg (by omega)]))), (by (try dsimp only); unfold ifI; (repeat (first | rw [if_pos (by omega)] | rw [if_neg (by omega)])))⟩ hP hD (by decide) rfl hS rfl dX10_restore_12

set_option maxHeartbeats 4000000 in
set_option maxRecDepth 100000 in
theorem c_X10_wantOfD (l : Launch) (D : va_G) (cI : ClassId) (aK aV : Nat → Nat) (k k0 k1 k2 k3 k4 k5 k6 k7 k8 k9 ka kb k00 k01 k02 k03 k04 k05 k30 k31 k32 k33 k34 k50 k040 k041 k042 k043 k044 k045 k046 k047 k048 : Nat) (sz : Nat) (cc : Int32) (c06 : Int32) (c07 : Int32) (c08 : Int32) (c35 : Int32) (c36 : Int32) (c51 : Int32) (c52 : Int32) (c53 : Int32) (c54 : Int32) (c55 : Int32) (c56 : Int32) (c57 : Int32) (c049 : Int32) (c31 : Nat → Int32) (c32 : Nat → Int32) (c33 : Nat → Int32) (c34 : Nat → Int32) (c50 : Nat → Int32) (c040 : Nat → Int32) (c042 : Nat → Int32) (c045 : Nat → Int32) (c00 : Nat → Int32) (c01 : Nat → Int32) (c02 : Nat → Int32) (c03 : Nat → Int32) (c041 : Nat → Int32) (c043 : Nat → Int32) (c044 : Nat → Int32) (c046 : Nat → Int32) (c047 : Nat → Int32) (c048 : Nat → Int32) (c050 : Nat → Int32) (c051 : Int32) (gx : Nat → Int32) (a0 : Int32) (pre0 : WR c00 c01 c02 c03 c040 c041 c042 c043 c044 c045 c046 c047 c048 c049 c050 c051 c06 c07 c08 gx) (pre1 : SB gx) (pre2 : BYT c50 0) (pre3 : BYN 600 c31) (pre4 : ∀ k : Nat, k < 12 → 0 ≤ (c32 k).toInt ∧ (c32 k).toInt ≤ 50) (pre5 : 0 ≤ c36.toInt) (pre6 : c36.toInt ≤ 12) (pre7 : 0 ≤ a0.toInt) (pre8 : a0.toInt < c049.toInt) : Met l yX10_wantOf (gW yX10_wantOf cX10_wantOf 3 (some .int)) ({ frames := 95, cells := 0, slots := 0, locals := 5962 } : Room) (kPreX D cI aK aV [.ref k, .int a0] [(k, .inr (10, [.ref k0, .ref k1, .ref k2, .ref k3, .ref k4, .ref k5, .ref k6, .ref k7, .ref k8, .ref k9, .ref ka, .ref kb, .int cc])), (k0, .inr (9, [.ref k00, .ref k01, .ref k02, .ref k03, .ref k04, .ref k05, .int c06, .int c07, .int c08])), (k3, .inr (4, [.ref k30, .ref k31, .ref k32, .ref k33, .ref k34, .int c35, .int c36])), (k5, .inr (5, [.ref k50, .int c51, .int c52, .int c53, .int c54, .int c55, .int c56, .int c57])), (k04, .inr (8, [.ref k040, .ref k041, .ref k042, .ref k043, .ref k044, .ref k045, .ref k046, .ref k047, .ref k048, .int c049])), (k31, .inl (cI, 600, .inl c31)), (k32, .inl (cI, 12, .inl c32)), (k33, .inl (cI, 12, .inl c33)), (k34, .inl (cI, 12, .inl c34)), (k50, .inl (cI, 50, .inl c50)), (k040, .inl (cI, 60, .inl c040)), (k042, .inl (cI, 60, .inl c042)), (k045, .inl (cI, 60, .inl c045))] sz) (va_Qi (fun (r : Int32) (u : Int32 × Int32 × Int32 × Int32 × Int32 × Int32 × Int32 × (Nat → Int32)) => ((stF gx a0 1 = 1 ∧ PRV c33 c34 (fun j => tG c31 (50 * j) (c32 j)) c32 c36.toInt.toNat c08 2 (wW gx a0 0) (wW gx a0 2) 0 r) ∨ (stF gx a0 1 = 0 ∧ r = 0)) ∧ BYT u.2.2.2.2.2.2.2 0) (fun u t => kWd D cI (va_A [(k, .inr (10, [.ref k0, .ref k1, .ref k2, .ref k3, .ref k4, .ref k5, .ref k6, .ref k7, .ref k8, .ref k9, .ref ka, .ref kb, .int cc])), (k0, .inr (9, [.ref k00, .ref k01, .ref k02, .ref k03, .ref k04, .ref k05, .int c06, .int c07, .int c08])), (k3, .inr (4, [.ref k30, .ref k31, .ref k32, .ref k33, .ref k34, .int c35, .int c36])), (k5, .inr (5, [.ref k50, .int c51, .int c52, .int c53, .int c54, .int c55, .int c56, .int c57])), (k04, .inr (8, [.ref k040, .ref k041, .ref k042, .ref k043, .ref k044, .ref k045, .ref k046, .ref k047, .ref k048, .int c049])), (k31, .inl (cI, 600, .inl c31)), (k32, .inl (cI, 12, .inl c32)), (k33, .inl (cI, 12, .inl c33)), (k34, .inl (cI, 12, .inl c34)), (k50, .inl (cI, 50, .inl c50)), (k040, .inl (cI, 60, .inl c040)), (k042, .inl (cI, 60, .inl c042)), (k045, .inl (cI, 60, .inl c045))] sz) [(k, .inr (10, [.ref k0, .ref k1, .ref k2, .ref k3, .ref k4, .ref k5, .ref k6, .ref k7, .ref k8, .ref k9, .ref ka, .ref kb, .int cc])), (k0, .inr (9, [.ref k00, .ref k01, .ref k02, .ref k03, .ref k04, .ref k05, .int c06, .int c07, .int c08])), (k3, .inr (4, [.ref k30, .ref k31, .ref k32, .ref k33, .ref k34, .int c35, .int c36])), (k5, .inr (5, [.ref k50, .int u.1, .int u.2.1, .int u.2.2.1, .int u.2.2.2.1, .int u.2.2.2.2.1, .int u.2.2.2.2.2.1, .int u.2.2.2.2.2.2.1])), (k04, .inr (8, [.ref k040, .ref k041, .ref k042, .ref k043, .ref k044, .ref k045, .ref k046, .ref k047, .ref k048, .int c049])), (k31, .inl (cI, 600, .inl c31)), (k32, .inl (cI, 12, .inl c32)), (k33, .inl (cI, 12, .inl c33)), (k34, .inl (cI, 12, .inl c34)), (k50, .inl (cI, 50, .inl u.2.2.2.2.2.2.2)), (k040, .inl (cI, 60, .inl c040)), (k042, .inl (cI, 60, .inl c042)), (k045, .inl (cI, 60, .inl c045))] t) (va_A [(k, .inr (10, [.ref k0, .ref k1, .ref k2, .ref k3, .ref k4, .ref k5, .ref k6, .ref k7, .ref k8, .ref k9, .ref ka, .ref kb, .int cc])), (k0, .inr (9, [.ref k00, .ref k01, .ref k02, .ref k03, .ref k04, .ref k05, .int c06, .int c07, .int c08])), (k3, .inr (4, [.ref k30, .ref k31, .ref k32, .ref k33, .ref k34, .int c35, .int c36])), (k5, .inr (5, [.ref k50, .int c51, .int c52, .int c53, .int c54, .int c55, .int c56, .int c57])), (k04, .inr (8, [.ref k040, .ref k041, .ref k042, .ref k043, .ref k044, .ref k045, .ref k046, .ref k047, .ref k048, .int c049])), (k31, .inl (cI, 600, .inl c31)), (k32, .inl (cI, 12, .inl c32)), (k33, .inl (cI, 12, .inl c33)), (k34, .inl (cI, 12, .inl c34)), (k50, .inl (cI, 50, .inl c50)), (k040, .inl (cI, 60, .inl c040)), (k042, .inl (cI, 60, .inl c042)), (k045, .inl (cI, 60, .inl c045))] sz)) 0 0 (va_A [(k, .inr (10, [.ref k0, .ref k1, .ref k2, .ref k3, .ref k4, .ref k5, .ref k6, .ref k7, .ref k8, .ref k9, .ref ka, .ref kb, .int cc])), (k0, .inr (9, [.ref k00, .ref k01, .ref k02, .ref k03, .ref k04, .ref k05, .int c06, .int c07, .int c08])), (k3, .inr (4, [.ref k30, .ref k31, .ref k32, .ref k33, .ref k34, .int c35, .int c36])), (k5, .inr (5, [.ref k50, .int c51, .int c52, .int c53, .int c54, .int c55, .int c56, .int c57])), (k04, .inr (8, [.ref k040, .ref k041, .ref k042, .ref k043, .ref k044, .ref k045, .ref k046, .ref k047, .ref k048, .int c049])), (k31, .inl (cI, 600, .inl c31)), (k32, .inl (cI, 12, .inl c32)), (k33, .inl (cI, 12, .inl c33)), (k34, .inl (cI, 12, .inl c34)), (k50, .inl (cI, 50, .inl c50)), (k040, .inl (cI, 60, .inl c040)), (k042, .inl (cI, 60, .inl c042)), (k045, .inl (cI, 60, .inl c045))] sz) := by
  refine kMetIX (own := RX10) (by decide) rfl (Nat.le_of_ble_eq_true rfl) ?_
  intro p e s m args below meth c hx hb hT hown hname hml A Q hK hP hD hS hA hN hXS hRet ls hl
  have hl : lv_has ls 3 [(0, .ref k), (1, .int a0)] := hl
  have lo_a0 := k_lo a0
  have hi_a0 := k_hi a0
  have lo_c06 := k_lo c06
  have hi_c06 := k_hi c06
  have lo_c07 := k_lo c07
  have hi_c07 := k_hi c07
  have lo_c08 := k_lo c08
  have hi_c08 := k_hi c08
  have lo_c36 := k_lo c36
  have hi_c36 := k_hi c36
  have lo_c049 := k_lo c049
  have hi_c049 := k_hi c049
  have lo_c051 := k_lo c051
  have hi_c051 := k_hi c051
  have pre0 : WR c00 c01 c02 c03 c040 c041 c042 c043 c044 c045 c046 c047 c048 c049 c050 c051 c06 c07 c08 gx := pre0
  have b_1 : 0 ≤ c049.toInt ∧ c049.toInt ≤ 60 := WKR.n0 (WR.kw pre0)
  have t_2 : c049.toInt = (gx 1).toInt := WKR.nt (WR.kw pre0)
  have b_3 : 0 ≤ c051.toInt ∧ c051.toInt ≤ 4 := ((WR.kp pre0)).2.1
  have t_4 : c051.toInt = (gx 2).toInt := PTR.nt (WR.kp pre0)
  have t_5 : c08.toInt = (gx 0).toInt := by rw [WR.dd pre0]
  have pre1 : SB gx := pre1
  have pre2 : BYT c50 0 := pre2
  have pre3 : BYN 600 c31 := pre3
  refine lv_aload_n hx hb dX10_wantOf_0 rfl (lv_at hl 0 rfl) ?_
  refine va_get (D := D) (ci := 10) (v := .ref k0) (C := RX10) (T := TX10) (N := 13) hx hb hT giX10 hown hK hP 0 rfl rfl 0 (by decide) (hT (Cond.fieldLink RX10 12 "DesertWire" "now" "LDesertWire$World;") mw_291) (fun _ h9 => h9) rfl dX10_wantOf_1 ?_
  refine va_get (D := D) (ci := 9) (v := .ref k04) (C := RX9) (T := TX9) (N := 9) hx hb hT giX9 hown hK hP 1 rfl rfl 4 (by decide) (hT (Cond.fieldLink RX10 99 "DesertWire$World" "works" "LDesertWire$Works;") mw_99) (fun _ h9 => h9) rfl dX10_wantOf_4 ?_
  refine lv_astore_n (lv' := [(2, .ref k04), (0, .ref k), (1, .int a0)]) hx hb dX10_wantOf_7 rfl hl (by decide) rfl ?_
  clear hl
  intro ls hl
  refine lv_aload_n hx hb dX10_wantOf_8 rfl (lv_at hl 0 rfl) ?_
  refine lv_iload_n hx hb dX10_wantOf_9 rfl (lv_at hl 2 rfl) ?_
  refine kJi (wr := [(k, .inr (10, [.ref k0, .ref k1, .ref k2, .ref k3, .ref k4, .ref k5, .ref k6, .ref k7, .ref k8, .ref k9, .ref ka, .ref kb, .int cc])), (k0, .inr (9, [.ref k00, .ref k01, .ref k02, .ref k03, .ref k04, .ref k05, .int c06, .int c07, .int c08])), (k3, .inr (4, [.ref k30, .ref k31, .ref k32, .ref k33, .ref k34, .int c35, .int c36])), (k5, .inr (5, [.ref k50, .int c51, .int c52, .int c53, .int c54, .int c55, .int c56, .int c57])), (k31, .inl (cI, 600, .inl c31)), (k32, .inl (cI, 12, .inl c32)), (k33, .inl (cI, 12, .inl c33)), (k34, .inl (cI, 12, .inl c34)), (k50, .inl (cI, 50, .inl c50)), (k040, .inl (cI, 60, .inl c040)), (k042, .inl (cI, 60, .inl c042))]) (va_runV (As := [.int a0]) (rest := []) ⟨hx, hb, hml, hown, hT⟩ (c_X8_isDownD l D cI aK aV k04 k040 k041 k042 k043 k044 k045 k046 k047 k048 s.heap.size c049 c045 a0) (cwV 1 hT (gV_in mw_407 mw_404 mw_405 mw_406 mw_3) rfl rfl rfl (by decide +kernel) ⟨Nat.le_of_ble_eq_true rfl, Nat.le_of_ble_eq_true rfl⟩) (kRecvX (q0 := 4) (ci := 8) hK hP hD hN hXS hS hA rfl rfl [4, 12] rfl (by decide)) rfl rfl hl.1 rfl (lv_room (Nat.le_of_ble_eq_true rfl)) dX10_wantOf_10 ⟨Nat.le_of_ble_eq_true rfl, Nat.le_of_ble_eq_true rfl⟩) hP hD hS hA [4, 12] [0, 1, 2, 3, 5, 6, 7, 8, 9, 10, 11] rfl rfl (by decide) (by decide) ?_
  clear hP hD hS
  intro r_6 u_8 H locs w_7 hP hD hS
  replace hP : va_P D vwCl [(k, .inr (10, [.ref k0, .ref k1, .ref k2, .ref k3, .ref k4, .ref k5, .ref k6, .ref k7, .ref k8, .ref k9, .ref ka, .ref kb, .int cc])), (k0, .inr (9, [.ref k00, .ref k01, .ref k02, .ref k03, .ref k04, .ref k05, .int c06, .int c07, .int c08])), (k3, .inr (4, [.ref k30, .ref k31, .ref k32, .ref k33, .ref k34, .int c35, .int c36])), (k5, .inr (5, [.ref k50, .int c51, .int c52, .int c53, .int c54, .int c55, .int c56, .int c57])), (k31, .inl (cI, 600, .inl c31)), (k32, .inl (cI, 12, .inl c32)), (k33, .inl (cI, 12, .inl c33)), (k34, .inl (cI, 12, .inl c34)), (k50, .inl (cI, 50, .inl c50)), (k040, .inl (cI, 60, .inl c040)), (k042, .inl (cI, 60, .inl c042)), (k04, .inr (8, [.ref k040, .ref k041, .ref k042, .ref k043, .ref k044, .ref k045, .ref k046, .ref k047, .ref k048, .int c049])), (k045, .inl (cI, 60, .inl c045))] H := hP
  replace hD : va_D A [(k, .inr (10, [.ref k0, .ref k1, .ref k2, .ref k3, .ref k4, .ref k5, .ref k6, .ref k7, .ref k8, .ref k9, .ref ka, .ref kb, .int cc])), (k0, .inr (9, [.ref k00, .ref k01, .ref k02, .ref k03, .ref k04, .ref k05, .int c06, .int c07, .int c08])), (k3, .inr (4, [.ref k30, .ref k31, .ref k32, .ref k33, .ref k34, .int c35, .int c36])), (k5, .inr (5, [.ref k50, .int c51, .int c52, .int c53, .int c54, .int c55, .int c56, .int c57])), (k31, .inl (cI, 600, .inl c31)), (k32, .inl (cI, 12, .inl c32)), (k33, .inl (cI, 12, .inl c33)), (k34, .inl (cI, 12, .inl c34)), (k50, .inl (cI, 50, .inl c50)), (k040, .inl (cI, 60, .inl c040)), (k042, .inl (cI, 60, .inl c042)), (k04, .inr (8, [.ref k040, .ref k041, .ref k042, .ref k043, .ref k044, .ref k045, .ref k046, .ref k047, .ref k048, .int c049])), (k045, .inl (cI, 60, .inl c045))] := hD
  rcases w_7 with ⟨hr_6, h_9, h_10, h_11, h_12⟩ | ⟨hr_6, h_13, h_14, h_15, h_16⟩ | ⟨hr_6, h_17⟩
  · have h_9 : 0 ≤ a0.toInt := h_9
    have h_10 : a0.toInt < c049.toInt := h_10
    have h_11 : a0.toInt ≤ 59 := h_11
    have h_12 : (c045 a0.toNatClampNeg).toInt ≠ 0 := h_12
    have t_18 : (c045 a0.toNatClampNeg).toInt = (wW gx a0 4).toInt := by rw [WKR.r4 (WR.kw pre0) (by omega) (by omega)]
    obtain rfl : r_6 = 1 := hr_6.trans (by decide)
    have t_19 : (c045 a0.toNatClampNeg).toInt = (wW gx a0 4).toInt := by rw [WKR.r4 (WR.kw pre0) (by omega) (by omega)]
    refine b_if_ne hx hb zl_1 (tgt := 27) dX10_wantOf_13 (by decide) (fun c_20 => ?_) (fun c_20 => by exfalso; omega)
    refine lv_iconst (v := 0) hx hb dX10_wantOf_27 (by decide) ?_
    exact hRet (c51, c52, c53, c54, c55, c56, c57, c50) [0, 1, 2, 3, 11, 4, 5, 6, 7, 8, 9, 10, 12] ⟨(Or.inr ⟨WKR.pole0 (WR.kw pre0) (by omega) (by omega) (by rw [WKR.r0 (WR.kw pre0) (by omega) (by omega)]; omega), rfl⟩), pre2⟩ hP hD (by decide) rfl hS rfl dX10_wantOf_28
  · have h_13 : 0 ≤ a0.toInt := h_13
    have h_14 : a0.toInt < c049.toInt := h_14
    have h_15 : a0.toInt ≤ 59 := h_15
    have h_16 : (c045 a0.toNatClampNeg).toInt = 0 := h_16
    have t_21 : (c045 a0.toNatClampNeg).toInt = (wW gx a0 4).toInt := by rw [WKR.r4 (WR.kw pre0) (by omega) (by omega)]
    obtain rfl : r_6 = 0 := hr_6.trans (by decide)
    have t_22 : (c045 a0.toNatClampNeg).toInt = (wW gx a0 4).toInt := by rw [WKR.r4 (WR.kw pre0) (by omega) (by omega)]
    refine b_if_ne hx hb zl_0 (tgt := 27) dX10_wantOf_13 (by decide) (fun c_23 => by exfalso; omega) (fun c_23 => ?_)
    refine lv_aload_n hx hb dX10_wantOf_16 rfl (lv_at hl 0 rfl) ?_
    refine lv_iload_n hx hb dX10_wantOf_17 rfl (lv_at hl 2 rfl) ?_
    refine kJi (wr := [(k, .inr (10, [.ref k0, .ref k1, .ref k2, .ref k3, .ref k4, .ref k5, .ref k6, .ref k7, .ref k8, .ref k9, .ref ka, .ref kb, .int cc])), (k0, .inr (9, [.ref k00, .ref k01, .ref k02, .ref k03, .ref k04, .ref k05, .int c06, .int c07, .int c08])), (k3, .inr (4, [.ref k30, .ref k31, .ref k32, .ref k33, .ref k34, .int c35, .int c36])), (k5, .inr (5, [.ref k50, .int c51, .int c52, .int c53, .int c54, .int c55, .int c56, .int c57])), (k31, .inl (cI, 600, .inl c31)), (k32, .inl (cI, 12, .inl c32)), (k33, .inl (cI, 12, .inl c33)), (k34, .inl (cI, 12, .inl c34)), (k50, .inl (cI, 50, .inl c50)), (k042, .inl (cI, 60, .inl c042)), (k045, .inl (cI, 60, .inl c045))]) (va_runV (As := [.int a0]) (rest := []) ⟨hx, hb, hml, hown, hT⟩ (c_X8_kindOfD l D cI aK aV k04 k040 k041 k042 k043 k044 k045 k046 k047 k048 H.size c049 c040 a0) (cwV 1 hT (gV_in mw_384 mw_381 mw_382 mw_383 mw_3) rfl rfl rfl (by decide +kernel) ⟨Nat.le_of_ble_eq_true rfl, Nat.le_of_ble_eq_true rfl⟩) (kRecvX (q0 := 11) (ci := 8) hK hP hD hN hXS hS hA rfl rfl [11, 9] rfl (by decide)) rfl rfl hl.1 rfl (lv_room (Nat.le_of_ble_eq_true rfl)) dX10_wantOf_18 ⟨Nat.le_of_ble_eq_true rfl, Nat.le_of_ble_eq_true rfl⟩) hP hD hS hA [11, 9] [0, 1, 2, 3, 4, 5, 6, 7, 8, 10, 12] rfl rfl (by decide) (by decide) ?_
    clear hP hD hS
    intro r_24 u_26 H locs w_25 hP hD hS
    replace hP : va_P D vwCl [(k, .inr (10, [.ref k0, .ref k1, .ref k2, .ref k3, .ref k4, .ref k5, .ref k6, .ref k7, .ref k8, .ref k9, .ref ka, .ref kb, .int cc])), (k0, .inr (9, [.ref k00, .ref k01, .ref k02, .ref k03, .ref k04, .ref k05, .int c06, .int c07, .int c08])), (k3, .inr (4, [.ref k30, .ref k31, .ref k32, .ref k33, .ref k34, .int c35, .int c36])), (k5, .inr (5, [.ref k50, .int c51, .int c52, .int c53, .int c54, .int c55, .int c56, .int c57])), (k31, .inl (cI, 600, .inl c31)), (k32, .inl (cI, 12, .inl c32)), (k33, .inl (cI, 12, .inl c33)), (k34, .inl (cI, 12, .inl c34)), (k50, .inl (cI, 50, .inl c50)), (k042, .inl (cI, 60, .inl c042)), (k045, .inl (cI, 60, .inl c045)), (k04, .inr (8, [.ref k040, .ref k041, .ref k042, .ref k043, .ref k044, .ref k045, .ref k046, .ref k047, .ref k048, .int c049])), (k040, .inl (cI, 60, .inl c040))] H := hP
    replace hD : va_D A [(k, .inr (10, [.ref k0, .ref k1, .ref k2, .ref k3, .ref k4, .ref k5, .ref k6, .ref k7, .ref k8, .ref k9, .ref ka, .ref kb, .int cc])), (k0, .inr (9, [.ref k00, .ref k01, .ref k02, .ref k03, .ref k04, .ref k05, .int c06, .int c07, .int c08])), (k3, .inr (4, [.ref k30, .ref k31, .ref k32, .ref k33, .ref k34, .int c35, .int c36])), (k5, .inr (5, [.ref k50, .int c51, .int c52, .int c53, .int c54, .int c55, .int c56, .int c57])), (k31, .inl (cI, 600, .inl c31)), (k32, .inl (cI, 12, .inl c32)), (k33, .inl (cI, 12, .inl c33)), (k34, .inl (cI, 12, .inl c34)), (k50, .inl (cI, 50, .inl c50)), (k042, .inl (cI, 60, .inl c042)), (k045, .inl (cI, 60, .inl c045)), (k04, .inr (8, [.ref k040, .ref k041, .ref k042, .ref k043, .ref k044, .ref k045, .ref k046, .ref k047, .ref k048, .int c049])), (k040, .inl (cI, 60, .inl c040))] := hD
    rcases w_25 with ⟨h_27, h_28, h_29, h_30⟩ | ⟨hr_24, h_31⟩
    · have h_27 : 0 ≤ a0.toInt := h_27
      have h_28 : a0.toInt < c049.toInt := h_28
      have h_29 : a0.toInt ≤ 59 := h_29
      have h_30 : r_24 = c040 a0.toNatClampNeg := h_30
      have h_32 : r_24 = wW gx a0 0 := Eq.trans h_30 (WKR.r0 (WR.kw pre0) (by omega) (by omega))
      have t_33 : r_24.toInt = (wW gx a0 0).toInt := by rw [h_32]
      have b_34 : 0 ≤ r_24.toInt ∧ r_24.toInt ≤ 5 := by rw [h_32]; exact SB.w0 pre1 (by omega) (by omega)
      have lo_r_24 := k_lo r_24
      have hi_r_24 := k_hi r_24
      refine kJi (wr := [(k, .inr (10, [.ref k0, .ref k1, .ref k2, .ref k3, .ref k4, .ref k5, .ref k6, .ref k7, .ref k8, .ref k9, .ref ka, .ref kb, .int cc])), (k0, .inr (9, [.ref k00, .ref k01, .ref k02, .ref k03, .ref k04, .ref k05, .int c06, .int c07, .int c08])), (k3, .inr (4, [.ref k30, .ref k31, .ref k32, .ref k33, .ref k34, .int c35, .int c36])), (k5, .inr (5, [.ref k50, .int c51, .int c52, .int c53, .int c54, .int c55, .int c56, .int c57])), (k31, .inl (cI, 600, .inl c31)), (k32, .inl (cI, 12, .inl c32)), (k33, .inl (cI, 12, .inl c33)), (k34, .inl (cI, 12, .inl c34)), (k50, .inl (cI, 50, .inl c50)), (k042, .inl (cI, 60, .inl c042)), (k045, .inl (cI, 60, .inl c045)), (k04, .inr (8, [.ref k040, .ref k041, .ref k042, .ref k043, .ref k044, .ref k045, .ref k046, .ref k047, .ref k048, .int c049])), (k040, .inl (cI, 60, .inl c040))]) (va_runS (As := [.int r_24]) (rest := []) ⟨hx, hb, hml, hown, hT⟩ (c_X10_isPoleD l D cI aK aV H.size r_24) (cwS 1 hT (gS_in mw_375 mw_436 mw_374 mw_1) rfl rfl rfl (by decide +kernel) ⟨Nat.le_of_ble_eq_true rfl, Nat.le_of_ble_eq_true rfl⟩) (kStatX hK hP hD hN hXS hS hA [] rfl (by decide)) rfl rfl hl.1 rfl (lv_room (Nat.le_of_ble_eq_true rfl)) dX10_wantOf_21 ⟨Nat.le_of_ble_eq_true rfl, Nat.le_of_ble_eq_true rfl⟩) hP hD hS hA [] [0, 1, 2, 3, 4, 5, 6, 7, 8, 9, 10, 11, 12] rfl rfl (by decide) (by decide) ?_
      clear hP hD hS
      intro r_35 u_37 H locs w_36 hP hD hS
      replace hP : va_P D vwCl [(k, .inr (10, [.ref k0, .ref k1, .ref k2, .ref k3, .ref k4, .ref k5, .ref k6, .ref k7, .ref k8, .ref k9, .ref ka, .ref kb, .int cc])), (k0, .inr (9, [.ref k00, .ref k01, .ref k02, .ref k03, .ref k04, .ref k05, .int c06, .int c07, .int c08])), (k3, .inr (4, [.ref k30, .ref k31, .ref k32, .ref k33, .ref k34, .int c35, .int c36])), (k5, .inr (5, [.ref k50, .int c51, .int c52, .int c53, .int c54, .int c55, .int c56, .int c57])), (k31, .inl (cI, 600, .inl c31)), (k32, .inl (cI, 12, .inl c32)), (k33, .inl (cI, 12, .inl c33)), (k34, .inl (cI, 12, .inl c34)), (k50, .inl (cI, 50, .inl c50)), (k042, .inl (cI, 60, .inl c042)), (k045, .inl (cI, 60, .inl c045)), (k04, .inr (8, [.ref k040, .ref k041, .ref k042, .ref k043, .ref k044, .ref k045, .ref k046, .ref k047, .ref k048, .int c049])), (k040, .inl (cI, 60, .inl c040))] H := hP
      replace hD : va_D A [(k, .inr (10, [.ref k0, .ref k1, .ref k2, .ref k3, .ref k4, .ref k5, .ref k6, .ref k7, .ref k8, .ref k9, .ref ka, .ref kb, .int cc])), (k0, .inr (9, [.ref k00, .ref k01, .ref k02, .ref k03, .ref k04, .ref k05, .int c06, .int c07, .int c08])), (k3, .inr (4, [.ref k30, .ref k31, .ref k32, .ref k33, .ref k34, .int c35, .int c36])), (k5, .inr (5, [.ref k50, .int c51, .int c52, .int c53, .int c54, .int c55, .int c56, .int c57])), (k31, .inl (cI, 600, .inl c31)), (k32, .inl (cI, 12, .inl c32)), (k33, .inl (cI, 12, .inl c33)), (k34, .inl (cI, 12, .inl c34)), (k50, .inl (cI, 50, .inl c50)), (k042, .inl (cI, 60, .inl c042)), (k045, .inl (cI, 60, .inl c045)), (k04, .inr (8, [.ref k040, .ref k041, .ref k042, .ref k043, .ref k044, .ref k045, .ref k046, .ref k047, .ref k048, .int c049])), (k040, .inl (cI, 60, .inl c040))] := hD
      rcases w_36 with ⟨hr_35, h_38⟩ | ⟨hr_35, h_39, h_40, h_41⟩
      · have h_38 : r_24.toInt = 1 ∨ r_24.toInt = 2 ∨ r_24.toInt = 3 := h_38
        obtain rfl : r_35 = 1 := hr_35.trans (by decide)
        refine b_if_ne hx hb zl_1 (tgt := 29) dX10_wantOf_24 (by decide) (fun c_42 => ?_) (fun c_42 => by exfalso; omega)
        refine lv_aload_n hx hb dX10_wantOf_29 rfl (lv_at hl 1 rfl) ?_
        refine lv_iconst (v := 2) hx hb dX10_wantOf_30 (by decide) ?_
        refine lv_aload_n hx hb dX10_wantOf_31 rfl (lv_at hl 0 rfl) ?_
        refine lv_iload_n hx hb dX10_wantOf_32 rfl (lv_at hl 2 rfl) ?_
        refine kJi (wr := [(k, .inr (10, [.ref k0, .ref k1, .ref k2, .ref k3, .ref k4, .ref k5, .ref k6, .ref k7, .ref k8, .ref k9, .ref ka, .ref kb, .int cc])), (k0, .inr (9, [.ref k00, .ref k01, .ref k02, .ref k03, .ref k04, .ref k05, .int c06, .int c07, .int c08])), (k3, .inr (4, [.ref k30, .ref k31, .ref k32, .ref k33, .ref k34, .int c35, .int c36])), (k5, .inr (5, [.ref k50, .int c51, .int c52, .int c53, .int c54, .int c55, .int c56, .int c57])), (k31, .inl (cI, 600, .inl c31)), (k32, .inl (cI, 12, .inl c32)), (k33, .inl (cI, 12, .inl c33)), (k34, .inl (cI, 12, .inl c34)), (k50, .inl (cI, 50, .inl c50)), (k042, .inl (cI, 60, .inl c042)), (k045, .inl (cI, 60, .inl c045))]) (va_runV (As := [.int a0]) (rest := [.int 2, .ref k]) ⟨hx, hb, hml, hown, hT⟩ (c_X8_kindOfD l D cI aK aV k04 k040 k041 k042 k043 k044 k045 k046 k047 k048 H.size c049 c040 a0) (cwV 1 hT (gV_in mw_384 mw_381 mw_382 mw_383 mw_3) rfl rfl rfl (by decide +kernel) ⟨Nat.le_of_ble_eq_true rfl, Nat.le_of_ble_eq_true rfl⟩) (kRecvX (q0 := 11) (ci := 8) hK hP hD hN hXS hS hA rfl rfl [11, 12] rfl (by decide)) rfl rfl hl.1 rfl (lv_room (Nat.le_of_ble_eq_true rfl)) dX10_wantOf_33 ⟨Nat.le_of_ble_eq_true rfl, Nat.le_of_ble_eq_true rfl⟩) hP hD hS hA [11, 12] [0, 1, 2, 3, 4, 5, 6, 7, 8, 9, 10] rfl rfl (by decide) (by decide) ?_
        clear hP hD hS
        intro r_43 u_45 H locs w_44 hP hD hS
        replace hP : va_P D vwCl [(k, .inr (10, [.ref k0, .ref k1, .ref k2, .ref k3, .ref k4, .ref k5, .ref k6, .ref k7, .ref k8, .ref k9, .ref ka, .ref kb, .int cc])), (k0, .inr (9, [.ref k00, .ref k01, .ref k02, .ref k03, .ref k04, .ref k05, .int c06, .int c07, .int c08])), (k3, .inr (4, [.ref k30, .ref k31, .ref k32, .ref k33, .ref k34, .int c35, .int c36])), (k5, .inr (5, [.ref k50, .int c51, .int c52, .int c53, .int c54, .int c55, .int c56, .int c57])), (k31, .inl (cI, 600, .inl c31)), (k32, .inl (cI, 12, .inl c32)), (k33, .inl (cI, 12, .inl c33)), (k34, .inl (cI, 12, .inl c34)), (k50, .inl (cI, 50, .inl c50)), (k042, .inl (cI, 60, .inl c042)), (k045, .inl (cI, 60, .inl c045)), (k04, .inr (8, [.ref k040, .ref k041, .ref k042, .ref k043, .ref k044, .ref k045, .ref k046, .ref k047, .ref k048, .int c049])), (k040, .inl (cI, 60, .inl c040))] H := hP
        replace hD : va_D A [(k, .inr (10, [.ref k0, .ref k1, .ref k2, .ref k3, .ref k4, .ref k5, .ref k6, .ref k7, .ref k8, .ref k9, .ref ka, .ref kb, .int cc])), (k0, .inr (9, [.ref k00, .ref k01, .ref k02, .ref k03, .ref k04, .ref k05, .int c06, .int c07, .int c08])), (k3, .inr (4, [.ref k30, .ref k31, .ref k32, .ref k33, .ref k34, .int c35, .int c36])), (k5, .inr (5, [.ref k50, .int c51, .int c52, .int c53, .int c54, .int c55, .int c56, .int c57])), (k31, .inl (cI, 600, .inl c31)), (k32, .inl (cI, 12, .inl c32)), (k33, .inl (cI, 12, .inl c33)), (k34, .inl (cI, 12, .inl c34)), (k50, .inl (cI, 50, .inl c50)), (k042, .inl (cI, 60, .inl c042)), (k045, .inl (cI, 60, .inl c045)), (k04, .inr (8, [.ref k040, .ref k041, .ref k042, .ref k043, .ref k044, .ref k045, .ref k046, .ref k047, .ref k048, .int c049])), (k040, .inl (cI, 60, .inl c040))] := hD
        rcases w_44 with ⟨h_46, h_47, h_48, h_49⟩ | ⟨hr_43, h_50⟩
        · have h_46 : 0 ≤ a0.toInt := h_46
          have h_47 : a0.toInt < c049.toInt := h_47
          have h_48 : a0.toInt ≤ 59 := h_48
          have h_49 : r_43 = c040 a0.toNatClampNeg := h_49
          have h_51 : r_43 = wW gx a0 0 := Eq.trans h_49 (WKR.r0 (WR.kw pre0) (by omega) (by omega))
          have t_52 : r_43.toInt = (wW gx a0 0).toInt := by rw [h_51]
          have b_53 : 0 ≤ r_43.toInt ∧ r_43.toInt ≤ 5 := by rw [h_51]; exact SB.w0 pre1 (by omega) (by omega)
          have lo_r_43 := k_lo r_43
          have hi_r_43 := k_hi r_43
          refine lv_aload_n hx hb dX10_wantOf_36 rfl (lv_at hl 0 rfl) ?_
          refine lv_iload_n hx hb dX10_wantOf_37 rfl (lv_at hl 2 rfl) ?_
          refine kJi (wr := [(k, .inr (10, [.ref k0, .ref k1, .ref k2, .ref k3, .ref k4, .ref k5, .ref k6, .ref k7, .ref k8, .ref k9, .ref ka, .ref kb, .int cc])), (k0, .inr (9, [.ref k00, .ref k01, .ref k02, .ref k03, .ref k04, .ref k05, .int c06, .int c07, .int c08])), (k3, .inr (4, [.ref k30, .ref k31, .ref k32, .ref k33, .ref k34, .int c35, .int c36])), (k5, .inr (5, [.ref k50, .int c51, .int c52, .int c53, .int c54, .int c55, .int c56, .int c57])), (k31, .inl (cI, 600, .inl c31)), (k32, .inl (cI, 12, .inl c32)), (k33, .inl (cI, 12, .inl c33)), (k34, .inl (cI, 12, .inl c34)), (k50, .inl (cI, 50, .inl c50)), (k045, .inl (cI, 60, .inl c045)), (k040, .inl (cI, 60, .inl c040))]) (va_runV (As := [.int a0]) (rest := [.int r_43, .int 2, .ref k]) ⟨hx, hb, hml, hown, hT⟩ (c_X8_sizeOfD l D cI aK aV k04 k040 k041 k042 k043 k044 k045 k046 k047 k048 H.size c049 c042 a0) (cwV 1 hT (gV_in mw_394 mw_391 mw_392 mw_393 mw_3) rfl rfl rfl (by decide +kernel) ⟨Nat.le_of_ble_eq_true rfl, Nat.le_of_ble_eq_true rfl⟩) (kRecvX (q0 := 11) (ci := 8) hK hP hD hN hXS hS hA rfl rfl [11, 9] rfl (by decide)) rfl rfl hl.1 rfl (lv_room (Nat.le_of_ble_eq_true rfl)) dX10_wantOf_38 ⟨Nat.le_of_ble_eq_true rfl, Nat.le_of_ble_eq_true rfl⟩) hP hD hS hA [11, 9] [0, 1, 2, 3, 4, 5, 6, 7, 8, 10, 12] rfl rfl (by decide) (by decide) ?_
          clear hP hD hS
          intro r_54 u_56 H locs w_55 hP hD hS
          replace hP : va_P D vwCl [(k, .inr (10, [.ref k0, .ref k1, .ref k2, .ref k3, .ref k4, .ref k5, .ref k6, .ref k7, .ref k8, .ref k9, .ref ka, .ref kb, .int cc])), (k0, .inr (9, [.ref k00, .ref k01, .ref k02, .ref k03, .ref k04, .ref k05, .int c06, .int c07, .int c08])), (k3, .inr (4, [.ref k30, .ref k31, .ref k32, .ref k33, .ref k34, .int c35, .int c36])), (k5, .inr (5, [.ref k50, .int c51, .int c52, .int c53, .int c54, .int c55, .int c56, .int c57])), (k31, .inl (cI, 600, .inl c31)), (k32, .inl (cI, 12, .inl c32)), (k33, .inl (cI, 12, .inl c33)), (k34, .inl (cI, 12, .inl c34)), (k50, .inl (cI, 50, .inl c50)), (k045, .inl (cI, 60, .inl c045)), (k040, .inl (cI, 60, .inl c040)), (k04, .inr (8, [.ref k040, .ref k041, .ref k042, .ref k043, .ref k044, .ref k045, .ref k046, .ref k047, .ref k048, .int c049])), (k042, .inl (cI, 60, .inl c042))] H := hP
          replace hD : va_D A [(k, .inr (10, [.ref k0, .ref k1, .ref k2, .ref k3, .ref k4, .ref k5, .ref k6, .ref k7, .ref k8, .ref k9, .ref ka, .ref kb, .int cc])), (k0, .inr (9, [.ref k00, .ref k01, .ref k02, .ref k03, .ref k04, .ref k05, .int c06, .int c07, .int c08])), (k3, .inr (4, [.ref k30, .ref k31, .ref k32, .ref k33, .ref k34, .int c35, .int c36])), (k5, .inr (5, [.ref k50, .int c51, .int c52, .int c53, .int c54, .int c55, .int c56, .int c57])), (k31, .inl (cI, 600, .inl c31)), (k32, .inl (cI, 12, .inl c32)), (k33, .inl (cI, 12, .inl c33)), (k34, .inl (cI, 12, .inl c34)), (k50, .inl (cI, 50, .inl c50)), (k045, .inl (cI, 60, .inl c045)), (k040, .inl (cI, 60, .inl c040)), (k04, .inr (8, [.ref k040, .ref k041, .ref k042, .ref k043, .ref k044, .ref k045, .ref k046, .ref k047, .ref k048, .int c049])), (k042, .inl (cI, 60, .inl c042))] := hD
          rcases w_55 with ⟨h_57, h_58, h_59, h_60⟩ | ⟨hr_54, h_61⟩
          · have h_57 : 0 ≤ a0.toInt := h_57
            have h_58 : a0.toInt < c049.toInt := h_58
            have h_59 : a0.toInt ≤ 59 := h_59
            have h_60 : r_54 = c042 a0.toNatClampNeg := h_60
            have h_62 : r_54 = wW gx a0 2 := Eq.trans h_60 (WKR.r2 (WR.kw pre0) (by omega) (by omega))
            have t_63 : r_54.toInt = (wW gx a0 2).toInt := by rw [h_62]
            have lo_r_54 := k_lo r_54
            have hi_r_54 := k_hi r_54
            refine lv_iconst (v := 0) hx hb dX10_wantOf_41 (by decide) ?_
            refine kJi (wr := [(k045, .inl (cI, 60, .inl c045)), (k040, .inl (cI, 60, .inl c040)), (k04, .inr (8, [.ref k040, .ref k041, .ref k042, .ref k043, .ref k044, .ref k045, .ref k046, .ref k047, .ref k048, .int c049])), (k042, .inl (cI, 60, .inl c042))]) (va_runV (As := [.int 2, .int r_43, .int r_54, .int 0]) (rest := []) ⟨hx, hb, hml, hown, hT⟩ (c_X10_valueOfG l D cI aK aV k k0 k1 k2 k3 k4 k5 k6 k7 k8 k9 ka kb k00 k01 k02 k03 k04 k05 k30 k31 k32 k33 k34 k50 H.size cc c06 c07 c08 c35 c36 c51 c52 c53 c54 c55 c56 c57 c31 c32 c33 c34 c50 2 r_43 r_54 0 pre2 pre3 pre4 (by first | omega | (simp only [zl_0, zl_2]; first | done | omega) | decide | assumption | rfl) (by first | omega | (simp only [zl_0, zl_2]; first | done | omega) | decide | assumption | rfl) (by first | omega | (simp only [zl_0, zl_2]; first | done | omega) | decide | assumption | rfl) (by first | omega | (simp only [zl_0, zl_2]; first | done | omega) | decide | assumption | rfl)) (cwV 4 hT (gV_in mw_440 mw_437 mw_439 mw_p1_4 mw_1) rfl rfl rfl (by decide +kernel) ⟨Nat.le_of_ble_eq_true rfl, Nat.le_of_ble_eq_true rfl⟩) (kRecvX (q0 := 0) (ci := 10) hK hP hD hN hXS hS hA rfl rfl [0, 1, 2, 3, 4, 5, 6, 7, 8] rfl (by decide)) rfl rfl hl.1 rfl (lv_room (Nat.le_of_ble_eq_true rfl)) dX10_wantOf_42 ⟨Nat.le_of_ble_eq_true rfl, Nat.le_of_ble_eq_true rfl⟩) hP hD hS hA [0, 1, 2, 3, 4, 5, 6, 7, 8] [9, 10, 11, 12] rfl rfl (by decide) (by decide) ?_
            clear hP hD hS
            intro r_64 u_74 H locs w_65 hP hD hS
            obtain ⟨sc51_66, sc52_67, sc53_68, sc54_69, sc55_70, sc56_71, sc57_72, sc50_73⟩ := u_74
            replace hP : va_P D vwCl [(k045, .inl (cI, 60, .inl c045)), (k040, .inl (cI, 60, .inl c040)), (k04, .inr (8, [.ref k040, .ref k041, .ref k042, .ref k043, .ref k044, .ref k045, .ref k046, .ref k047, .ref k048, .int c049])), (k042, .inl (cI, 60, .inl c042)), (k, .inr (10, [.ref k0, .ref k1, .ref k2, .ref k3, .ref k4, .ref k5, .ref k6, .ref k7, .ref k8, .ref k9, .ref ka, .ref kb, .int cc])), (k0, .inr (9, [.ref k00, .ref k01, .ref k02, .ref k03, .ref k04, .ref k05, .int c06, .int c07, .int c08])), (k3, .inr (4, [.ref k30, .ref k31, .ref k32, .ref k33, .ref k34, .int c35, .int c36])), (k5, .inr (5, [.ref k50, .int sc51_66, .int sc52_67, .int sc53_68, .int sc54_69, .int sc55_70, .int sc56_71, .int sc57_72])), (k31, .inl (cI, 600, .inl c31)), (k32, .inl (cI, 12, .inl c32)), (k33, .inl (cI, 12, .inl c33)), (k34, .inl (cI, 12, .inl c34)), (k50, .inl (cI, 50, .inl sc50_73))] H := hP
            replace hD : va_D A [(k045, .inl (cI, 60, .inl c045)), (k040, .inl (cI, 60, .inl c040)), (k04, .inr (8, [.ref k040, .ref k041, .ref k042, .ref k043, .ref k044, .ref k045, .ref k046, .ref k047, .ref k048, .int c049])), (k042, .inl (cI, 60, .inl c042)), (k, .inr (10, [.ref k0, .ref k1, .ref k2, .ref k3, .ref k4, .ref k5, .ref k6, .ref k7, .ref k8, .ref k9, .ref ka, .ref kb, .int cc])), (k0, .inr (9, [.ref k00, .ref k01, .ref k02, .ref k03, .ref k04, .ref k05, .int c06, .int c07, .int c08])), (k3, .inr (4, [.ref k30, .ref k31, .ref k32, .ref k33, .ref k34, .int c35, .int c36])), (k5, .inr (5, [.ref k50, .int sc51_66, .int sc52_67, .int sc53_68, .int sc54_69, .int sc55_70, .int sc56_71, .int sc57_72])), (k31, .inl (cI, 600, .inl c31)), (k32, .inl (cI, 12, .inl c32)), (k33, .inl (cI, 12, .inl c33)), (k34, .inl (cI, 12, .inl c34)), (k50, .inl (cI, 50, .inl sc50_73))] := hD
            obtain ⟨h_75, h_76⟩ := w_65
            try simp only [zl_0, zl_2] at h_75
            have h_75 : PRV c33 c34 (fun j => tG c31 (50 * j) (c32 j)) c32 c36.toInt.toNat c08 2 r_43 r_54 0 r_64 := h_75
            have h_75 : PRV c33 c34 (fun j => tG c31 (50 * j) (c32 j)) c32 c36.toInt.toNat c08 2 r_43 r_54 0 r_64 := h_75
            try simp only [zl_0, zl_2] at h_76
            have h_76 : BYT sc50_73 0 := h_76
            have lo_r_64 := k_lo r_64
            have hi_r_64 := k_hi r_64
            exact hRet (sc51_66, sc52_67, sc53_68, sc54_69, sc55_70, sc56_71, sc57_72, sc50_73) [4, 5, 6, 7, 2, 8, 9, 10, 11, 12, 1, 3, 0] ⟨(Or.inl ⟨WKR.pole (WR.kw pre0) (by omega) (by omega) (by omega) (by rw [WKR.r0 (WR.kw pre0) (by omega) (by omega)]; omega), by rw [← h_51, ← h_62]; exact h_75⟩), h_76⟩ hP hD (by decide) rfl hS rfl dX10_wantOf_45
          · exfalso; omega
        · exfalso; omega
      · have h_39 : r_24.toInt ≠ 1 := h_39
        have h_40 : r_24.toInt ≠ 2 := h_40
        have h_41 : r_24.toInt ≠ 3 := h_41
        obtain rfl : r_35 = 0 := hr_35.trans (by decide)
        refine b_if_ne hx hb zl_0 (tgt := 29) dX10_wantOf_24 (by decide) (fun c_77 => by exfalso; omega) (fun c_77 => ?_)
        refine lv_iconst (v := 0) hx hb dX10_wantOf_27 (by decide) ?_
        exact hRet (c51, c52, c53, c54, c55, c56, c57, c50) [0, 1, 2, 3, 11, 4, 5, 6, 7, 8, 12, 9, 10] ⟨(Or.inr ⟨WKR.pole0 (WR.kw pre0) (by omega) (by omega) (by rw [WKR.r0 (WR.kw pre0) (by omega) (by omega)]; omega), rfl⟩), pre2⟩ hP hD (by decide) rfl hS rfl dX10_wantOf_28
    · exfalso; omega
  · exfalso; omega

set_option maxHeartbeats 4000000 in
set_option maxRecDepth 100000 in
theorem c_X10_workIsD (l : Launch) (D : va_G) (cI : ClassId) (aK aV : Nat → Nat) (k k0 k1 k2 k3 k4 k5 k6 k7 k8 k9 ka kb k00 k01 k02 k03 k04 k05 k30 k31 k32 k33 k34 k50 k040 k041 k042 k043 k044 k045 k046 k047 k048 : Nat) (sz : Nat) (cc : Int32) (c06 : Int32) (c07 : Int32) (c08 : Int32) (c35 : Int32) (c36 : Int32) (c51 : Int32) (c52 : Int32) (c53 : Int32) (c54 : Int32) (c55 : Int32) (c56 : Int32) (c57 : Int32) (cb : Nat → Int32) (c01 : Nat → Int32) (c049 : Int32) (c31 : Nat → Int32) (c32 : Nat → Int32) (c33 : Nat → Int32) (c34 : Nat → Int32) (c50 : Nat → Int32) (c040 : Nat → Int32) (c041 : Nat → Int32) (c042 : Nat → Int32) (c043 : Nat → Int32) (c044 : Nat → Int32) (c045 : Nat → Int32) (c00 : Nat → Int32) (c02 : Nat → Int32) (c03 : Nat → Int32) (c046 : Nat → Int32) (c047 : Nat → Int32) (c048 : Nat → Int32) (c050 : Nat → Int32) (c051 : Int32) (gx : Nat → Int32) (a0 : Int32) (a1 : Int32) (pre0 : WR c00 c01 c02 c03 c040 c041 c042 c043 c044 c045 c046 c047 c048 c049 c050 c051 c06 c07 c08 gx) (pre1 : SB gx) (pre2 : BYT c50 0) (pre3 : BYN 600 c31) (pre4 : ∀ k : Nat, k < 12 → 0 ≤ (c32 k).toInt ∧ (c32 k).toInt ≤ 50) (pre5 : 0 ≤ c36.toInt) (pre6 : c36.toInt ≤ 12) : Met l yX10_workIs (gW yX10_workIs cX10_workIs 4 (some .int)) ({ frames := 96, cells := 0, slots := 0, locals := 5984 } : Room) (kPreX D cI aK aV [.ref k, .int a0, .int a1] [(k, .inr (10, [.ref k0, .ref k1, .ref k2, .ref k3, .ref k4, .ref k5, .ref k6, .ref k7, .ref k8, .ref k9, .ref ka, .ref kb, .int cc])), (k0, .inr (9, [.ref k00, .ref k01, .ref k02, .ref k03, .ref k04, .ref k05, .int c06, .int c07, .int c08])), (k3, .inr (4, [.ref k30, .ref k31, .ref k32, .ref k33, .ref k34, .int c35, .int c36])), (k5, .inr (5, [.ref k50, .int c51, .int c52, .int c53, .int c54, .int c55, .int c56, .int c57])), (kb, .inl (cI, 6, .inl cb)), (k01, .inl (cI, 40, .inl c01)), (k04, .inr (8, [.ref k040, .ref k041, .ref k042, .ref k043, .ref k044, .ref k045, .ref k046, .ref k047, .ref k048, .int c049])), (k31, .inl (cI, 600, .inl c31)), (k32, .inl (cI, 12, .inl c32)), (k33, .inl (cI, 12, .inl c33)), (k34, .inl (cI, 12, .inl c34)), (k50, .inl (cI, 50, .inl c50)), (k040, .inl (cI, 60, .inl c040)), (k041, .inl (cI, 60, .inl c041)), (k042, .inl (cI, 60, .inl c042)), (k043, .inl (cI, 60, .inl c043)), (k044, .inl (cI, 60, .inl c044)), (k045, .inl (cI, 60, .inl c045))] sz) (va_Qi (fun (r : Int32) (u : Int32 × Int32 × Int32 × Int32 × Int32 × Int32 × Int32 × (Nat → Int32) × (Nat → Int32)) => ((a1.toInt = 7 ∧ (0 ≤ a0.toInt ∧ a0.toInt < (gx 1).toInt) ∧ stF gx a0 1 = 1 ∧ PRV c33 c34 (fun j => tG c31 (50 * j) (c32 j)) c32 c36.toInt.toNat c08 2 (wW gx a0 0) (wW gx a0 2) 0 r) ∨ (¬ (a1.toInt = 7 ∧ (0 ≤ a0.toInt ∧ a0.toInt < (gx 1).toInt) ∧ stF gx a0 1 = 1) ∧ r = wiR gx a0 a1)) ∧ BYT u.2.2.2.2.2.2.2.2 0) (fun u t => kWd D cI (va_A [(k, .inr (10, [.ref k0, .ref k1, .ref k2, .ref k3, .ref k4, .ref k5, .ref k6, .ref k7, .ref k8, .ref k9, .ref ka, .ref kb, .int cc])), (k0, .inr (9, [.ref k00, .ref k01, .ref k02, .ref k03, .ref k04, .ref k05, .int c06, .int c07, .int c08])), (k3, .inr (4, [.ref k30, .ref k31, .ref k32, .ref k33, .ref k34, .int c35, .int c36])), (k5, .inr (5, [.ref k50, .int c51, .int c52, .int c53, .int c54, .int c55, .int c56, .int c57])), (kb, .inl (cI, 6, .inl cb)), (k01, .inl (cI, 40, .inl c01)), (k04, .inr (8, [.ref k040, .ref k041, .ref k042, .ref k043, .ref k044, .ref k045, .ref k046, .ref k047, .ref k048, .int c049])), (k31, .inl (cI, 600, .inl c31)), (k32, .inl (cI, 12, .inl c32)), (k33, .inl (cI, 12, .inl c33)), (k34, .inl (cI, 12, .inl c34)), (k50, .inl (cI, 50, .inl c50)), (k040, .inl (cI, 60, .inl c040)), (k041, .inl (cI, 60, .inl c041)), (k042, .inl (cI, 60, .inl c042)), (k043, .inl (cI, 60, .inl c043)), (k044, .inl (cI, 60, .inl c044)), (k045, .inl (cI, 60, .inl c045))] sz) [(k, .inr (10, [.ref k0, .ref k1, .ref k2, .ref k3, .ref k4, .ref k5, .ref k6, .ref k7, .ref k8, .ref k9, .ref ka, .ref kb, .int cc])), (k0, .inr (9, [.ref k00, .ref k01, .ref k02, .ref k03, .ref k04, .ref k05, .int c06, .int c07, .int c08])), (k3, .inr (4, [.ref k30, .ref k31, .ref k32, .ref k33, .ref k34, .int c35, .int c36])), (k5, .inr (5, [.ref k50, .int u.1, .int u.2.1, .int u.2.2.1, .int u.2.2.2.1, .int u.2.2.2.2.1, .int u.2.2.2.2.2.1, .int u.2.2.2.2.2.2.1])), (kb, .inl (cI, 6, .inl u.2.2.2.2.2.2.2.1)), (k01, .inl (cI, 40, .inl c01)), (k04, .inr (8, [.ref k040, .ref k041, .ref k042, .ref k043, .ref k044, .ref k045, .ref k046, .ref k047, .ref k048, .int c049])), (k31, .inl (cI, 600, .inl c31)), (k32, .inl (cI, 12, .inl c32)), (k33, .inl (cI, 12, .inl c33)), (k34, .inl (cI, 12, .inl c34)), (k50, .inl (cI, 50, .inl u.2.2.2.2.2.2.2.2)), (k040, .inl (cI, 60, .inl c040)), (k041, .inl (cI, 60, .inl c041)), (k042, .inl (cI, 60, .inl c042)), (k043, .inl (cI, 60, .inl c043)), (k044, .inl (cI, 60, .inl c044)), (k045, .inl (cI, 60, .inl c045))] t) (va_A [(k, .inr (10, [.ref k0, .ref k1, .ref k2, .ref k3, .ref k4, .ref k5, .ref k6, .ref k7, .ref k8, .ref k9, .ref ka, .ref kb, .int cc])), (k0, .inr (9, [.ref k00, .ref k01, .ref k02, .ref k03, .ref k04, .ref k05, .int c06, .int c07, .int c08])), (k3, .inr (4, [.ref k30, .ref k31, .ref k32, .ref k33, .ref k34, .int c35, .int c36])), (k5, .inr (5, [.ref k50, .int c51, .int c52, .int c53, .int c54, .int c55, .int c56, .int c57])), (kb, .inl (cI, 6, .inl cb)), (k01, .inl (cI, 40, .inl c01)), (k04, .inr (8, [.ref k040, .ref k041, .ref k042, .ref k043, .ref k044, .ref k045, .ref k046, .ref k047, .ref k048, .int c049])), (k31, .inl (cI, 600, .inl c31)), (k32, .inl (cI, 12, .inl c32)), (k33, .inl (cI, 12, .inl c33)), (k34, .inl (cI, 12, .inl c34)), (k50, .inl (cI, 50, .inl c50)), (k040, .inl (cI, 60, .inl c040)), (k041, .inl (cI, 60, .inl c041)), (k042, .inl (cI, 60, .inl c042)), (k043, .inl (cI, 60, .inl c043)), (k044, .inl (cI, 60, .inl c044)), (k045, .inl (cI, 60, .inl c045))] sz)) 0 0 (va_A [(k, .inr (10, [.ref k0, .ref k1, .ref k2, .ref k3, .ref k4, .ref k5, .ref k6, .ref k7, .ref k8, .ref k9, .ref ka, .ref kb, .int cc])), (k0, .inr (9, [.ref k00, .ref k01, .ref k02, .ref k03, .ref k04, .ref k05, .int c06, .int c07, .int c08])), (k3, .inr (4, [.ref k30, .ref k31, .ref k32, .ref k33, .ref k34, .int c35, .int c36])), (k5, .inr (5, [.ref k50, .int c51, .int c52, .int c53, .int c54, .int c55, .int c56, .int c57])), (kb, .inl (cI, 6, .inl cb)), (k01, .inl (cI, 40, .inl c01)), (k04, .inr (8, [.ref k040, .ref k041, .ref k042, .ref k043, .ref k044, .ref k045, .ref k046, .ref k047, .ref k048, .int c049])), (k31, .inl (cI, 600, .inl c31)), (k32, .inl (cI, 12, .inl c32)), (k33, .inl (cI, 12, .inl c33)), (k34, .inl (cI, 12, .inl c34)), (k50, .inl (cI, 50, .inl c50)), (k040, .inl (cI, 60, .inl c040)), (k041, .inl (cI, 60, .inl c041)), (k042, .inl (cI, 60, .inl c042)), (k043, .inl (cI, 60, .inl c043)), (k044, .inl (cI, 60, .inl c044)), (k045, .inl (cI, 60, .inl c045))] sz) := by
  refine kMetIX (own := RX10) (by decide) rfl (Nat.le_of_ble_eq_true rfl) ?_
  intro p e s m args below meth c hx hb hT hown hname hml A Q hK hP hD hS hA hN hXS hRet ls hl
  have hl : lv_has ls 4 [(0, .ref k), (1, .int a0), (2, .int a1)] := hl
  have lo_a0 := k_lo a0
  have hi_a0 := k_hi a0
  have lo_a1 := k_lo a1
  have hi_a1 := k_hi a1
  have lo_c06 := k_lo c06
  have hi_c06 := k_hi c06
  have lo_c07 := k_lo c07
  have hi_c07 := k_hi c07
  have lo_c08 := k_lo c08
  have hi_c08 := k_hi c08
  have lo_c36 := k_lo c36
  have hi_c36 := k_hi c36
  have lo_c049 := k_lo c049
  have hi_c049 := k_hi c049
  have lo_c051 := k_lo c051
  have hi_c051 := k_hi c051
  have pre0 : WR c00 c01 c02 c03 c040 c041 c042 c043 c044 c045 c046 c047 c048 c049 c050 c051 c06 c07 c08 gx := pre0
  have b_1 : 0 ≤ c049.toInt ∧ c049.toInt ≤ 60 := WKR.n0 (WR.kw pre0)
  have t_2 : c049.toInt = (gx 1).toInt := WKR.nt (WR.kw pre0)
  have b_3 : 0 ≤ c051.toInt ∧ c051.toInt ≤ 4 := ((WR.kp pre0)).2.1
  have t_4 : c051.toInt = (gx 2).toInt := PTR.nt (WR.kp pre0)
  have t_5 : c08.toInt = (gx 0).toInt := by rw [WR.dd pre0]
  have pre1 : SB gx := pre1
  have pre2 : BYT c50 0 := pre2
  have pre3 : BYN 600 c31 := pre3
  refine lv_aload_n hx hb dX10_workIs_0 rfl (lv_at hl 0 rfl) ?_
  refine va_get (D := D) (ci := 10) (v := .ref k0) (C := RX10) (T := TX10) (N := 13) hx hb hT giX10 hown hK hP 0 rfl rfl 0 (by decide) (hT (Cond.fieldLink RX10 12 "DesertWire" "now" "LDesertWire$World;") mw_291) (fun _ h9 => h9) rfl dX10_workIs_1 ?_
  refine va_get (D := D) (ci := 9) (v := .ref k04) (C := RX9) (T := TX9) (N := 9) hx hb hT giX9 hown hK hP 1 rfl rfl 4 (by decide) (hT (Cond.fieldLink RX10 99 "DesertWire$World" "works" "LDesertWire$Works;") mw_99) (fun _ h9 => h9) rfl dX10_workIs_4 ?_
  refine lv_iload_n hx hb dX10_workIs_7 rfl (lv_at hl 1 rfl) ?_
  refine kJi (wr := [(k, .inr (10, [.ref k0, .ref k1, .ref k2, .ref k3, .ref k4, .ref k5, .ref k6, .ref k7, .ref k8, .ref k9, .ref ka, .ref kb, .int cc])), (k0, .inr (9, [.ref k00, .ref k01, .ref k02, .ref k03, .ref k04, .ref k05, .int c06, .int c07, .int c08])), (k3, .inr (4, [.ref k30, .ref k31, .ref k32, .ref k33, .ref k34, .int c35, .int c36])), (k5, .inr (5, [.ref k50, .int c51, .int c52, .int c53, .int c54, .int c55, .int c56, .int c57])), (kb, .inl (cI, 6, .inl cb)), (k01, .inl (cI, 40, .inl c01)), (k31, .inl (cI, 600, .inl c31)), (k32, .inl (cI, 12, .inl c32)), (k33, .inl (cI, 12, .inl c33)), (k34, .inl (cI, 12, .inl c34)), (k50, .inl (cI, 50, .inl c50)), (k040, .inl (cI, 60, .inl c040)), (k041, .inl (cI, 60, .inl c041)), (k042, .inl (cI, 60, .inl c042)), (k043, .inl (cI, 60, .inl c043)), (k044, .inl (cI, 60, .inl c044)), (k045, .inl (cI, 60, .inl c045))]) (va_runV (As := [.int a0]) (rest := []) ⟨hx, hb, hml, hown, hT⟩ (c_X8_hasG l D cI aK aV k04 k040 k041 k042 k043 k044 k045 k046 k047 k048 s.heap.size c049 a0) (cwV 1 hT (gV_in mw_371 mw_380 mw_369 mw_370 mw_3) rfl rfl rfl (by decide +kernel) ⟨Nat.le_of_ble_eq_true rfl, Nat.le_of_ble_eq_true rfl⟩) (kRecvX (q0 := 6) (ci := 8) hK hP hD hN hXS hS hA rfl rfl [6] rfl (by decide)) rfl rfl hl.1 rfl (lv_room (Nat.le_of_ble_eq_true rfl)) dX10_workIs_8 ⟨Nat.le_of_ble_eq_true rfl, Nat.le_of_ble_eq_true rfl⟩) hP hD hS hA [6] [0, 1, 2, 3, 4, 5, 7, 8, 9, 10, 11, 12, 13, 14, 15, 16, 17] rfl rfl (by decide) (by decide) ?_
  clear hP hD hS
  intro r_6 u_8 H locs w_7 hP hD hS
  replace hP : va_P D vwCl [(k, .inr (10, [.ref k0, .ref k1, .ref k2, .ref k3, .ref k4, .ref k5, .ref k6, .ref k7, .ref k8, .ref k9, .ref ka, .ref kb, .int cc])), (k0, .inr (9, [.ref k00, .ref k01, .ref k02, .ref k03, .ref k04, .ref k05, .int c06, .int c07, .int c08])), (k3, .inr (4, [.ref k30, .ref k31, .ref k32, .ref k33, .ref k34, .int c35, .int c36])), (k5, .inr (5, [.ref k50, .int c51, .int c52, .int c53, .int c54, .int c55, .int c56, .int c57])), (kb, .inl (cI, 6, .inl cb)), (k01, .inl (cI, 40, .inl c01)), (k31, .inl (cI, 600, .inl c31)), (k32, .inl (cI, 12, .inl c32)), (k33, .inl (cI, 12, .inl c33)), (k34, .inl (cI, 12, .inl c34)), (k50, .inl (cI, 50, .inl c50)), (k040, .inl (cI, 60, .inl c040)), (k041, .inl (cI, 60, .inl c041)), (k042, .inl (cI, 60, .inl c042)), (k043, .inl (cI, 60, .inl c043)), (k044, .inl (cI, 60, .inl c044)), (k045, .inl (cI, 60, .inl c045)), (k04, .inr (8, [.ref k040, .ref k041, .ref k042, .ref k043, .ref k044, .ref k045, .ref k046, .ref k047, .ref k048, .int c049]))] H := hP
  replace hD : va_D A [(k, .inr (10, [.ref k0, .ref k1, .ref k2, .ref k3, .ref k4, .ref k5, .ref k6, .ref k7, .ref k8, .ref k9, .ref ka, .ref kb, .int cc])), (k0, .inr (9, [.ref k00, .ref k01, .ref k02, .ref k03, .ref k04, .ref k05, .int c06, .int c07, .int c08])), (k3, .inr (4, [.ref k30, .ref k31, .ref k32, .ref k33, .ref k34, .int c35, .int c36])), (k5, .inr (5, [.ref k50, .int c51, .int c52, .int c53, .int c54, .int c55, .int c56, .int c57])), (kb, .inl (cI, 6, .inl cb)), (k01, .inl (cI, 40, .inl c01)), (k31, .inl (cI, 600, .inl c31)), (k32, .inl (cI, 12, .inl c32)), (k33, .inl (cI, 12, .inl c33)), (k34, .inl (cI, 12, .inl c34)), (k50, .inl (cI, 50, .inl c50)), (k040, .inl (cI, 60, .inl c040)), (k041, .inl (cI, 60, .inl c041)), (k042, .inl (cI, 60, .inl c042)), (k043, .inl (cI, 60, .inl c043)), (k044, .inl (cI, 60, .inl c044)), (k045, .inl (cI, 60, .inl c045)), (k04, .inr (8, [.ref k040, .ref k041, .ref k042, .ref k043, .ref k044, .ref k045, .ref k046, .ref k047, .ref k048, .int c049]))] := hD
  rcases w_7 with ⟨hr_6, h_9, h_10, h_11⟩ | ⟨hr_6, h_12⟩
  · have h_9 : 0 ≤ a0.toInt := h_9
    have h_10 : a0.toInt < c049.toInt := h_10
    have h_11 : a0.toInt < 60 := h_11
    obtain rfl : r_6 = 1 := hr_6.trans (by decide)
    refine b_if_ne hx hb zl_1 (tgt := 20) dX10_workIs_11 (by decide) (fun c_13 => ?_) (fun c_13 => by exfalso; omega)
    refine lv_aload_n hx hb dX10_workIs_20 rfl (lv_at hl 0 rfl) ?_
    refine va_get (D := D) (ci := 10) (v := .ref k0) (C := RX10) (T := TX10) (N := 13) hx hb hT giX10 hown hK hP 0 rfl rfl 0 (by decide) (hT (Cond.fieldLink RX10 12 "DesertWire" "now" "LDesertWire$World;") mw_291) (fun _ h9 => h9) rfl dX10_workIs_21 ?_
    refine va_get (D := D) (ci := 9) (v := .ref k04) (C := RX9) (T := TX9) (N := 9) hx hb hT giX9 hown hK hP 1 rfl rfl 4 (by decide) (hT (Cond.fieldLink RX10 99 "DesertWire$World" "works" "LDesertWire$Works;") mw_99) (fun _ h9 => h9) rfl dX10_workIs_24 ?_
    refine lv_astore_n (lv' := [(3, .ref k04), (0, .ref k), (1, .int a0), (2, .int a1)]) hx hb dX10_workIs_27 rfl hl (by decide) rfl ?_
    clear hl
    intro ls hl
    refine lv_iload_n hx hb dX10_workIs_28 rfl (lv_at hl 3 rfl) ?_
    by_cases c_14 : a1.toInt = 0
    · refine lv_tableIn (off := 47) (tgt := 76) hx hb dX10_workIs_29 (by omega) (by omega) (by rw [c_14]; decide) (by decide) ?_
      refine lv_aload_n hx hb dX10_workIs_76 rfl (lv_at hl 0 rfl) ?_
      refine lv_iload_n hx hb dX10_workIs_77 rfl (lv_at hl 2 rfl) ?_
      refine kJi (wr := [(k, .inr (10, [.ref k0, .ref k1, .ref k2, .ref k3, .ref k4, .ref k5, .ref k6, .ref k7, .ref k8, .ref k9, .ref ka, .ref kb, .int cc])), (k0, .inr (9, [.ref k00, .ref k01, .ref k02, .ref k03, .ref k04, .ref k05, .int c06, .int c07, .int c08])), (k3, .inr (4, [.ref k30, .ref k31, .ref k32, .ref k33, .ref k34, .int c35, .int c36])), (k5, .inr (5, [.ref k50, .int c51, .int c52, .int c53, .int c54, .int c55, .int c56, .int c57])), (kb, .inl (cI, 6, .inl cb)), (k01, .inl (cI, 40, .inl c01)), (k31, .inl (cI, 600, .inl c31)), (k32, .inl (cI, 12, .inl c32)), (k33, .inl (cI, 12, .inl c33)), (k34, .inl (cI, 12, .inl c34)), (k50, .inl (cI, 50, .inl c50)), (k041, .inl (cI, 60, .inl c041)), (k042, .inl (cI, 60, .inl c042)), (k043, .inl (cI, 60, .inl c043)), (k044, .inl (cI, 60, .inl c044)), (k045, .inl (cI, 60, .inl c045))]) (va_runV (As := [.int a0]) (rest := []) ⟨hx, hb, hml, hown, hT⟩ (c_X8_kindOfD l D cI aK aV k04 k040 k041 k042 k043 k044 k045 k046 k047 k048 H.size c049 c040 a0) (cwV 1 hT (gV_in mw_384 mw_381 mw_382 mw_383 mw_3) rfl rfl rfl (by decide +kernel) ⟨Nat.le_of_ble_eq_true rfl, Nat.le_of_ble_eq_true rfl⟩) (kRecvX (q0 := 17) (ci := 8) hK hP hD hN hXS hS hA rfl rfl [17, 11] rfl (by decide)) rfl rfl hl.1 rfl (lv_room (Nat.le_of_ble_eq_true rfl)) dX10_workIs_78 ⟨Nat.le_of_ble_eq_true rfl, Nat.le_of_ble_eq_true rfl⟩) hP hD hS hA [17, 11] [0, 1, 2, 3, 4, 5, 6, 7, 8, 9, 10, 12, 13, 14, 15, 16] rfl rfl (by decide) (by decide) ?_
      clear hP hD hS
      intro r_15 u_17 H locs w_16 hP hD hS
      replace hP : va_P D vwCl [(k, .inr (10, [.ref k0, .ref k1, .ref k2, .ref k3, .ref k4, .ref k5, .ref k6, .ref k7, .ref k8, .ref k9, .ref ka, .ref kb, .int cc])), (k0, .inr (9, [.ref k00, .ref k01, .ref k02, .ref k03, .ref k04, .ref k05, .int c06, .int c07, .int c08])), (k3, .inr (4, [.ref k30, .ref k31, .ref k32, .ref k33, .ref k34, .int c35, .int c36])), (k5, .inr (5, [.ref k50, .int c51, .int c52, .int c53, .int c54, .int c55, .int c56, .int c57])), (kb, .inl (cI, 6, .inl cb)), (k01, .inl (cI, 40, .inl c01)), (k31, .inl (cI, 600, .inl c31)), (k32, .inl (cI, 12, .inl c32)), (k33, .inl (cI, 12, .inl c33)), (k34, .inl (cI, 12, .inl c34)), (k50, .inl (cI, 50, .inl c50)), (k041, .inl (cI, 60, .inl c041)), (k042, .inl (cI, 60, .inl c042)), (k043, .inl (cI, 60, .inl c043)), (k044, .inl (cI, 60, .inl c044)), (k045, .inl (cI, 60, .inl c045)), (k04, .inr (8, [.ref k040, .ref k041, .ref k042, .ref k043, .ref k044, .ref k045, .ref k046, .ref k047, .ref k048, .int c049])), (k040, .inl (cI, 60, .inl c040))] H := hP
      replace hD : va_D A [(k, .inr (10, [.ref k0, .ref k1, .ref k2, .ref k3, .ref k4, .ref k5, .ref k6, .ref k7, .ref k8, .ref k9, .ref ka, .ref kb, .int cc])), (k0, .inr (9, [.ref k00, .ref k01, .ref k02, .ref k03, .ref k04, .ref k05, .int c06, .int c07, .int c08])), (k3, .inr (4, [.ref k30, .ref k31, .ref k32, .ref k33, .ref k34, .int c35, .int c36])), (k5, .inr (5, [.ref k50, .int c51, .int c52, .int c53, .int c54, .int c55, .int c56, .int c57])), (kb, .inl (cI, 6, .inl cb)), (k01, .inl (cI, 40, .inl c01)), (k31, .inl (cI, 600, .inl c31)), (k32, .inl (cI, 12, .inl c32)), (k33, .inl (cI, 12, .inl c33)), (k34, .inl (cI, 12, .inl c34)), (k50, .inl (cI, 50, .inl c50)), (k041, .inl (cI, 60, .inl c041)), (k042, .inl (cI, 60, .inl c042)), (k043, .inl (cI, 60, .inl c043)), (k044, .inl (cI, 60, .inl c044)), (k045, .inl (cI, 60, .inl c045)), (k04, .inr (8, [.ref k040, .ref k041, .ref k042, .ref k043, .ref k044, .ref k045, .ref k046, .ref k047, .ref k048, .int c049])), (k040, .inl (cI, 60, .inl c040))] := hD
      rcases w_16 with ⟨h_18, h_19, h_20, h_21⟩ | ⟨hr_15, h_22⟩
      · have h_18 : 0 ≤ a0.toInt := h_18
        have h_19 : a0.toInt < c049.toInt := h_19
        have h_20 : a0.toInt ≤ 59 := h_20
        have h_21 : r_15 = c040 a0.toNatClampNeg := h_21
        have h_23 : r_15 = wW gx a0 0 := Eq.trans h_21 (WKR.r0 (WR.kw pre0) (by omega) (by omega))
        have t_24 : r_15.toInt = (wW gx a0 0).toInt := by rw [h_23]
        have b_25 : 0 ≤ r_15.toInt ∧ r_15.toInt ≤ 5 := by rw [h_23]; exact SB.w0 pre1 (by omega) (by omega)
        have lo_r_15 := k_lo r_15
        have hi_r_15 := k_hi r_15
        exact hRet (c51, c52, c53, c54, c55, c56, c57, cb, c50) [0, 1, 2, 3, 4, 5, 16, 6, 7, 8, 9, 10, 17, 11, 12, 13, 14, 15] ⟨(Or.inr ⟨(fun z => by omega), by unfold wiR; (repeat (first | rw [if_pos (by omega)] | rw [if_neg (by omega)])); rw [h_23]; unfold wW; congr 1; omega⟩), pre2⟩ hP hD (by decide) rfl hS rfl dX10_workIs_81
      · exfalso; omega
    by_cases c_26 : a1.toInt = 1
    · refine lv_tableIn (off := 53) (tgt := 82) hx hb dX10_workIs_29 (by omega) (by omega) (by rw [c_26]; decide) (by decide) ?_
      refine lv_aload_n hx hb dX10_workIs_82 rfl (lv_at hl 0 rfl) ?_
      refine lv_iload_n hx hb dX10_workIs_83 rfl (lv_at hl 2 rfl) ?_
      refine kJi (wr := [(k, .inr (10, [.ref k0, .ref k1, .ref k2, .ref k3, .ref k4, .ref k5, .ref k6, .ref k7, .ref k8, .ref k9, .ref ka, .ref kb, .int cc])), (k0, .inr (9, [.ref k00, .ref k01, .ref k02, .ref k03, .ref k04, .ref k05, .int c06, .int c07, .int c08])), (k3, .inr (4, [.ref k30, .ref k31, .ref k32, .ref k33, .ref k34, .int c35, .int c36])), (k5, .inr (5, [.ref k50, .int c51, .int c52, .int c53, .int c54, .int c55, .int c56, .int c57])), (kb, .inl (cI, 6, .inl cb)), (k01, .inl (cI, 40, .inl c01)), (k31, .inl (cI, 600, .inl c31)), (k32, .inl (cI, 12, .inl c32)), (k33, .inl (cI, 12, .inl c33)), (k34, .inl (cI, 12, .inl c34)), (k50, .inl (cI, 50, .inl c50)), (k040, .inl (cI, 60, .inl c040)), (k042, .inl (cI, 60, .inl c042)), (k043, .inl (cI, 60, .inl c043)), (k044, .inl (cI, 60, .inl c044)), (k045, .inl (cI, 60, .inl c045))]) (va_runV (As := [.int a0]) (rest := []) ⟨hx, hb, hml, hown, hT⟩ (c_X8_mileOfD l D cI aK aV k04 k040 k041 k042 k043 k044 k045 k046 k047 k048 H.size c049 c041 a0) (cwV 1 hT (gV_in mw_367 mw_399 mw_365 mw_366 mw_3) rfl rfl rfl (by decide +kernel) ⟨Nat.le_of_ble_eq_true rfl, Nat.le_of_ble_eq_true rfl⟩) (kRecvX (q0 := 17) (ci := 8) hK hP hD hN hXS hS hA rfl rfl [17, 12] rfl (by decide)) rfl rfl hl.1 rfl (lv_room (Nat.le_of_ble_eq_true rfl)) dX10_workIs_84 ⟨Nat.le_of_ble_eq_true rfl, Nat.le_of_ble_eq_true rfl⟩) hP hD hS hA [17, 12] [0, 1, 2, 3, 4, 5, 6, 7, 8, 9, 10, 11, 13, 14, 15, 16] rfl rfl (by decide) (by decide) ?_
      clear hP hD hS
      intro r_27 u_29 H locs w_28 hP hD hS
      replace hP : va_P D vwCl [(k, .inr (10, [.ref k0, .ref k1, .ref k2, .ref k3, .ref k4, .ref k5, .ref k6, .ref k7, .ref k8, .ref k9, .ref ka, .ref kb, .int cc])), (k0, .inr (9, [.ref k00, .ref k01, .ref k02, .ref k03, .ref k04, .ref k05, .int c06, .int c07, .int c08])), (k3, .inr (4, [.ref k30, .ref k31, .ref k32, .ref k33, .ref k34, .int c35, .int c36])), (k5, .inr (5, [.ref k50, .int c51, .int c52, .int c53, .int c54, .int c55, .int c56, .int c57])), (kb, .inl (cI, 6, .inl cb)), (k01, .inl (cI, 40, .inl c01)), (k31, .inl (cI, 600, .inl c31)), (k32, .inl (cI, 12, .inl c32)), (k33, .inl (cI, 12, .inl c33)), (k34, .inl (cI, 12, .inl c34)), (k50, .inl (cI, 50, .inl c50)), (k040, .inl (cI, 60, .inl c040)), (k042, .inl (cI, 60, .inl c042)), (k043, .inl (cI, 60, .inl c043)), (k044, .inl (cI, 60, .inl c044)), (k045, .inl (cI, 60, .inl c045)), (k04, .inr (8, [.ref k040, .ref k041, .ref k042, .ref k043, .ref k044, .ref k045, .ref k046, .ref k047, .ref k048, .int c049])), (k041, .inl (cI, 60, .inl c041))] H := hP
      replace hD : va_D A [(k, .inr (10, [.ref k0, .ref k1, .ref k2, .ref k3, .ref k4, .ref k5, .ref k6, .ref k7, .ref k8, .ref k9, .ref ka, .ref kb, .int cc])), (k0, .inr (9, [.ref k00, .ref k01, .ref k02, .ref k03, .ref k04, .ref k05, .int c06, .int c07, .int c08])), (k3, .inr (4, [.ref k30, .ref k31, .ref k32, .ref k33, .ref k34, .int c35, .int c36])), (k5, .inr (5, [.ref k50, .int c51, .int c52, .int c53, .int c54, .int c55, .int c56, .int c57])), (kb, .inl (cI, 6, .inl cb)), (k01, .inl (cI, 40, .inl c01)), (k31, .inl (cI, 600, .inl c31)), (k32, .inl (cI, 12, .inl c32)), (k33, .inl (cI, 12, .inl c33)), (k34, .inl (cI, 12, .inl c34)), (k50, .inl (cI, 50, .inl c50)), (k040, .inl (cI, 60, .inl c040)), (k042, .inl (cI, 60, .inl c042)), (k043, .inl (cI, 60, .inl c043)), (k044, .inl (cI, 60, .inl c044)), (k045, .inl (cI, 60, .inl c045)), (k04, .inr (8, [.ref k040, .ref k041, .ref k042, .ref k043, .ref k044, .ref k045, .ref k046, .ref k047, .ref k048, .int c049])), (k041, .inl (cI, 60, .inl c041))] := hD
      rcases w_28 with ⟨h_30, h_31, h_32, h_33⟩ | ⟨hr_27, h_34⟩
      · have h_30 : 0 ≤ a0.toInt := h_30
        have h_31 : a0.toInt < c049.toInt := h_31
        have h_32 : a0.toInt ≤ 59 := h_32
        have h_33 : r_27 = c041 a0.toNatClampNeg := h_33
        have h_35 : r_27 = wW gx a0 1 := Eq.trans h_33 (WKR.r1 (WR.kw pre0) (by omega) (by omega))
        have t_36 : r_27.toInt = (wW gx a0 1).toInt := by rw [h_35]
        have b_37 : 0 ≤ r_27.toInt ∧ r_27.toInt ≤ 39 := by rw [h_35]; exact SB.w1 pre1 (by omega) (by omega)
        have lo_r_27 := k_lo r_27
        have hi_r_27 := k_hi r_27
        exact hRet (c51, c52, c53, c54, c55, c56, c57, cb, c50) [0, 1, 2, 3, 4, 5, 16, 6, 7, 8, 9, 10, 11, 17, 12, 13, 14, 15] ⟨(Or.inr ⟨(fun z => by omega), by unfold wiR; (repeat (first | rw [if_pos (by omega)] | rw [if_neg (by omega)])); rw [h_35]; unfold wW; congr 1; omega⟩), pre2⟩ hP hD (by decide) rfl hS rfl dX10_workIs_87
      · exfalso; omega
    by_cases c_38 : a1.toInt = 2
    · refine lv_tableIn (off := 59) (tgt := 88) hx hb dX10_workIs_29 (by omega) (by omega) (by rw [c_38]; decide) (by decide) ?_
      refine lv_aload_n hx hb dX10_workIs_88 rfl (lv_at hl 0 rfl) ?_
      refine lv_iload_n hx hb dX10_workIs_89 rfl (lv_at hl 2 rfl) ?_
      refine kJi (wr := [(k, .inr (10, [.ref k0, .ref k1, .ref k2, .ref k3, .ref k4, .ref k5, .ref k6, .ref k7, .ref k8, .ref k9, .ref ka, .ref kb, .int cc])), (k0, .inr (9, [.ref k00, .ref k01, .ref k02, .ref k03, .ref k04, .ref k05, .int c06, .int c07, .int c08])), (k3, .inr (4, [.ref k30, .ref k31, .ref k32, .ref k33, .ref k34, .int c35, .int c36])), (k5, .inr (5, [.ref k50, .int c51, .int c52, .int c53, .int c54, .int c55, .int c56, .int c57])), (kb, .inl (cI, 6, .inl cb)), (k01, .inl (cI, 40, .inl c01)), (k31, .inl (cI, 600, .inl c31)), (k32, .inl (cI, 12, .inl c32)), (k33, .inl (cI, 12, .inl c33)), (k34, .inl (cI, 12, .inl c34)), (k50, .inl (cI, 50, .inl c50)), (k040, .inl (cI, 60, .inl c040)), (k041, .inl (cI, 60, .inl c041)), (k043, .inl (cI, 60, .inl c043)), (k044, .inl (cI, 60, .inl c044)), (k045, .inl (cI, 60, .inl c045))]) (va_runV (As := [.int a0]) (rest := []) ⟨hx, hb, hml, hown, hT⟩ (c_X8_sizeOfD l D cI aK aV k04 k040 k041 k042 k043 k044 k045 k046 k047 k048 H.size c049 c042 a0) (cwV 1 hT (gV_in mw_394 mw_391 mw_392 mw_393 mw_3) rfl rfl rfl (by decide +kernel) ⟨Nat.le_of_ble_eq_true rfl, Nat.le_of_ble_eq_true rfl⟩) (kRecvX (q0 := 17) (ci := 8) hK hP hD hN hXS hS hA rfl rfl [17, 13] rfl (by decide)) rfl rfl hl.1 rfl (lv_room (Nat.le_of_ble_eq_true rfl)) dX10_workIs_90 ⟨Nat.le_of_ble_eq_true rfl, Nat.le_of_ble_eq_true rfl⟩) hP hD hS hA [17, 13] [0, 1, 2, 3, 4, 5, 6, 7, 8, 9, 10, 11, 12, 14, 15, 16] rfl rfl (by decide) (by decide) ?_
      clear hP hD hS
      intro r_39 u_41 H locs w_40 hP hD hS
      replace hP : va_P D vwCl [(k, .inr (10, [.ref k0, .ref k1, .ref k2, .ref k3, .ref k4, .ref k5, .ref k6, .ref k7, .ref k8, .ref k9, .ref ka, .ref kb, .int cc])), (k0, .inr (9, [.ref k00, .ref k01, .ref k02, .ref k03, .ref k04, .ref k05, .int c06, .int c07, .int c08])), (k3, .inr (4, [.ref k30, .ref k31, .ref k32, .ref k33, .ref k34, .int c35, .int c36])), (k5, .inr (5, [.ref k50, .int c51, .int c52, .int c53, .int c54, .int c55, .int c56, .int c57])), (kb, .inl (cI, 6, .inl cb)), (k01, .inl (cI, 40, .inl c01)), (k31, .inl (cI, 600, .inl c31)), (k32, .inl (cI, 12, .inl c32)), (k33, .inl (cI, 12, .inl c33)), (k34, .inl (cI, 12, .inl c34)), (k50, .inl (cI, 50, .inl c50)), (k040, .inl (cI, 60, .inl c040)), (k041, .inl (cI, 60, .inl c041)), (k043, .inl (cI, 60, .inl c043)), (k044, .inl (cI, 60, .inl c044)), (k045, .inl (cI, 60, .inl c045)), (k04, .inr (8, [.ref k040, .ref k041, .ref k042, .ref k043, .ref k044, .ref k045, .ref k046, .ref k047, .ref k048, .int c049])), (k042, .inl (cI, 60, .inl c042))] H := hP
      replace hD : va_D A [(k, .inr (10, [.ref k0, .ref k1, .ref k2, .ref k3, .ref k4, .ref k5, .ref k6, .ref k7, .ref k8, .ref k9, .ref ka, .ref kb, .int cc])), (k0, .inr (9, [.ref k00, .ref k01, .ref k02, .ref k03, .ref k04, .ref k05, .int c06, .int c07, .int c08])), (k3, .inr (4, [.ref k30, .ref k31, .ref k32, .ref k33, .ref k34, .int c35, .int c36])), (k5, .inr (5, [.ref k50, .int c51, .int c52, .int c53, .int c54, .int c55, .int c56, .int c57])), (kb, .inl (cI, 6, .inl cb)), (k01, .inl (cI, 40, .inl c01)), (k31, .inl (cI, 600, .inl c31)), (k32, .inl (cI, 12, .inl c32)), (k33, .inl (cI, 12, .inl c33)), (k34, .inl (cI, 12, .inl c34)), (k50, .inl (cI, 50, .inl c50)), (k040, .inl (cI, 60, .inl c040)), (k041, .inl (cI, 60, .inl c041)), (k043, .inl (cI, 60, .inl c043)), (k044, .inl (cI, 60, .inl c044)), (k045, .inl (cI, 60, .inl c045)), (k04, .inr (8, [.ref k040, .ref k041, .ref k042, .ref k043, .ref k044, .ref k045, .ref k046, .ref k047, .ref k048, .int c049])), (k042, .inl (cI, 60, .inl c042))] := hD
      rcases w_40 with ⟨h_42, h_43, h_44, h_45⟩ | ⟨hr_39, h_46⟩
      · have h_42 : 0 ≤ a0.toInt := h_42
        have h_43 : a0.toInt < c049.toInt := h_43
        have h_44 : a0.toInt ≤ 59 := h_44
        have h_45 : r_39 = c042 a0.toNatClampNeg := h_45
        have h_47 : r_39 = wW gx a0 2 := Eq.trans h_45 (WKR.r2 (WR.kw pre0) (by omega) (by omega))
        have t_48 : r_39.toInt = (wW gx a0 2).toInt := by rw [h_47]
        have lo_r_39 := k_lo r_39
        have hi_r_39 := k_hi r_39
        exact hRet (c51, c52, c53, c54, c55, c56, c57, cb, c50) [0, 1, 2, 3, 4, 5, 16, 6, 7, 8, 9, 10, 11, 12, 17, 13, 14, 15] ⟨(Or.inr ⟨(fun z => by omega), by unfold wiR; (repeat (first | rw [if_pos (by omega)] | rw [if_neg (by omega)])); rw [h_47]; unfold wW; congr 1; omega⟩), pre2⟩ hP hD (by decide) rfl hS rfl dX10_workIs_93
      · exfalso; omega
    by_cases c_49 : a1.toInt = 3
    · refine lv_tableIn (off := 65) (tgt := 94) hx hb dX10_workIs_29 (by omega) (by omega) (by rw [c_49]; decide) (by decide) ?_
      refine lv_aload_n hx hb dX10_workIs_94 rfl (lv_at hl 0 rfl) ?_
      refine lv_iload_n hx hb dX10_workIs_95 rfl (lv_at hl 2 rfl) ?_
      refine kJi (wr := [(k, .inr (10, [.ref k0, .ref k1, .ref k2, .ref k3, .ref k4, .ref k5, .ref k6, .ref k7, .ref k8, .ref k9, .ref ka, .ref kb, .int cc])), (k0, .inr (9, [.ref k00, .ref k01, .ref k02, .ref k03, .ref k04, .ref k05, .int c06, .int c07, .int c08])), (k3, .inr (4, [.ref k30, .ref k31, .ref k32, .ref k33, .ref k34, .int c35, .int c36])), (k5, .inr (5, [.ref k50, .int c51, .int c52, .int c53, .int c54, .int c55, .int c56, .int c57])), (kb, .inl (cI, 6, .inl cb)), (k01, .inl (cI, 40, .inl c01)), (k31, .inl (cI, 600, .inl c31)), (k32, .inl (cI, 12, .inl c32)), (k33, .inl (cI, 12, .inl c33)), (k34, .inl (cI, 12, .inl c34)), (k50, .inl (cI, 50, .inl c50)), (k040, .inl (cI, 60, .inl c040)), (k041, .inl (cI, 60, .inl c041)), (k042, .inl (cI, 60, .inl c042)), (k044, .inl (cI, 60, .inl c044)), (k045, .inl (cI, 60, .inl c045))]) (va_runV (As := [.int a0]) (rest := []) ⟨hx, hb, hml, hown, hT⟩ (c_X8_sinceOfD l D cI aK aV k04 k040 k041 k042 k043 k044 k045 k046 k047 k048 H.size c049 c043 a0) (cwV 1 hT (gV_in mw_403 mw_400 mw_401 mw_402 mw_3) rfl rfl rfl (by decide +kernel) ⟨Nat.le_of_ble_eq_true rfl, Nat.le_of_ble_eq_true rfl⟩) (kRecvX (q0 := 17) (ci := 8) hK hP hD hN hXS hS hA rfl rfl [17, 14] rfl (by decide)) rfl rfl hl.1 rfl (lv_room (Nat.le_of_ble_eq_true rfl)) dX10_workIs_96 ⟨Nat.le_of_ble_eq_true rfl, Nat.le_of_ble_eq_true rfl⟩) hP hD hS hA [17, 14] [0, 1, 2, 3, 4, 5, 6, 7, 8, 9, 10, 11, 12, 13, 15, 16] rfl rfl (by decide) (by decide) ?_
      clear hP hD hS
      intro r_50 u_52 H locs w_51 hP hD hS
      replace hP : va_P D vwCl [(k, .inr (10, [.ref k0, .ref k1, .ref k2, .ref k3, .ref k4, .ref k5, .ref k6, .ref k7, .ref k8, .ref k9, .ref ka, .ref kb, .int cc])), (k0, .inr (9, [.ref k00, .ref k01, .ref k02, .ref k03, .ref k04, .ref k05, .int c06, .int c07, .int c08])), (k3, .inr (4, [.ref k30, .ref k31, .ref k32, .ref k33, .ref k34, .int c35, .int c36])), (k5, .inr (5, [.ref k50, .int c51, .int c52, .int c53, .int c54, .int c55, .int c56, .int c57])), (kb, .inl (cI, 6, .inl cb)), (k01, .inl (cI, 40, .inl c01)), (k31, .inl (cI, 600, .inl c31)), (k32, .inl (cI, 12, .inl c32)), (k33, .inl (cI, 12, .inl c33)), (k34, .inl (cI, 12, .inl c34)), (k50, .inl (cI, 50, .inl c50)), (k040, .inl (cI, 60, .inl c040)), (k041, .inl (cI, 60, .inl c041)), (k042, .inl (cI, 60, .inl c042)), (k044, .inl (cI, 60, .inl c044)), (k045, .inl (cI, 60, .inl c045)), (k04, .inr (8, [.ref k040, .ref k041, .ref k042, .ref k043, .ref k044, .ref k045, .ref k046, .ref k047, .ref k048, .int c049])), (k043, .inl (cI, 60, .inl c043))] H := hP
      replace hD : va_D A [(k, .inr (10, [.ref k0, .ref k1, .ref k2, .ref k3, .ref k4, .ref k5, .ref k6, .ref k7, .ref k8, .ref k9, .ref ka, .ref kb, .int cc])), (k0, .inr (9, [.ref k00, .ref k01, .ref k02, .ref k03, .ref k04, .ref k05, .int c06, .int c07, .int c08])), (k3, .inr (4, [.ref k30, .ref k31, .ref k32, .ref k33, .ref k34, .int c35, .int c36])), (k5, .inr (5, [.ref k50, .int c51, .int c52, .int c53, .int c54, .int c55, .int c56, .int c57])), (kb, .inl (cI, 6, .inl cb)), (k01, .inl (cI, 40, .inl c01)), (k31, .inl (cI, 600, .inl c31)), (k32, .inl (cI, 12, .inl c32)), (k33, .inl (cI, 12, .inl c33)), (k34, .inl (cI, 12, .inl c34)), (k50, .inl (cI, 50, .inl c50)), (k040, .inl (cI, 60, .inl c040)), (k041, .inl (cI, 60, .inl c041)), (k042, .inl (cI, 60, .inl c042)), (k044, .inl (cI, 60, .inl c044)), (k045, .inl (cI, 60, .inl c045)), (k04, .inr (8, [.ref k040, .ref k041, .ref k042, .ref k043, .ref k044, .ref k045, .ref k046, .ref k047, .ref k048, .int c049])), (k043, .inl (cI, 60, .inl c043))] := hD
      rcases w_51 with ⟨h_53, h_54, h_55, h_56⟩ | ⟨hr_50, h_57⟩
      · have h_53 : 0 ≤ a0.toInt := h_53
        have h_54 : a0.toInt < c049.toInt := h_54
        have h_55 : a0.toInt ≤ 59 := h_55
        have h_56 : r_50 = c043 a0.toNatClampNeg := h_56
        have h_58 : r_50 = wW gx a0 3 := Eq.trans h_56 (WKR.r3 (WR.kw pre0) (by omega) (by omega))
        have t_59 : r_50.toInt = (wW gx a0 3).toInt := by rw [h_58]
        have b_60 : 0 ≤ r_50.toInt ∧ r_50.toInt ≤ 2001 := by rw [h_58]; exact SB.w3 pre1 (by omega) (by omega)
        have lo_r_50 := k_lo r_50
        have hi_r_50 := k_hi r_50
        exact hRet (c51, c52, c53, c54, c55, c56, c57, cb, c50) [0, 1, 2, 3, 4, 5, 16, 6, 7, 8, 9, 10, 11, 12, 13, 17, 14, 15] ⟨(Or.inr ⟨(fun z => by omega), by unfold wiR; (repeat (first | rw [if_pos (by omega)] | rw [if_neg (by omega)])); rw [h_58]; unfold wW; congr 1; omega⟩), pre2⟩ hP hD (by decide) rfl hS rfl dX10_workIs_99
      · exfalso; omega
    by_cases c_61 : a1.toInt = 4
    · refine lv_tableIn (off := 71) (tgt := 100) hx hb dX10_workIs_29 (by omega) (by omega) (by rw [c_61]; decide) (by decide) ?_
      refine lv_aload_n hx hb dX10_workIs_100 rfl (lv_at hl 0 rfl) ?_
      refine lv_iload_n hx hb dX10_workIs_101 rfl (lv_at hl 2 rfl) ?_
      refine kJi (wr := [(k, .inr (10, [.ref k0, .ref k1, .ref k2, .ref k3, .ref k4, .ref k5, .ref k6, .ref k7, .ref k8, .ref k9, .ref ka, .ref kb, .int cc])), (k0, .inr (9, [.ref k00, .ref k01, .ref k02, .ref k03, .ref k04, .ref k05, .int c06, .int c07, .int c08])), (k3, .inr (4, [.ref k30, .ref k31, .ref k32, .ref k33, .ref k34, .int c35, .int c36])), (k5, .inr (5, [.ref k50, .int c51, .int c52, .int c53, .int c54, .int c55, .int c56, .int c57])), (kb, .inl (cI, 6, .inl cb)), (k01, .inl (cI, 40, .inl c01)), (k31, .inl (cI, 600, .inl c31)), (k32, .inl (cI, 12, .inl c32)), (k33, .inl (cI, 12, .inl c33)), (k34, .inl (cI, 12, .inl c34)), (k50, .inl (cI, 50, .inl c50)), (k040, .inl (cI, 60, .inl c040)), (k041, .inl (cI, 60, .inl c041)), (k042, .inl (cI, 60, .inl c042)), (k043, .inl (cI, 60, .inl c043)), (k044, .inl (cI, 60, .inl c044))]) (va_runV (As := [.int a0]) (rest := []) ⟨hx, hb, hml, hown, hT⟩ (c_X8_isDownD l D cI aK aV k04 k040 k041 k042 k043 k044 k045 k046 k047 k048 H.size c049 c045 a0) (cwV 1 hT (gV_in mw_407 mw_404 mw_405 mw_406 mw_3) rfl rfl rfl (by decide +kernel) ⟨Nat.le_of_ble_eq_true rfl, Nat.le_of_ble_eq_true rfl⟩) (kRecvX (q0 := 17) (ci := 8) hK hP hD hN hXS hS hA rfl rfl [17, 16] rfl (by decide)) rfl rfl hl.1 rfl (lv_room (Nat.le_of_ble_eq_true rfl)) dX10_workIs_102 ⟨Nat.le_of_ble_eq_true rfl, Nat.le_of_ble_eq_true rfl⟩) hP hD hS hA [17, 16] [0, 1, 2, 3, 4, 5, 6, 7, 8, 9, 10, 11, 12, 13, 14, 15] rfl rfl (by decide) (by decide) ?_
      clear hP hD hS
      intro r_62 u_64 H locs w_63 hP hD hS
      replace hP : va_P D vwCl [(k, .inr (10, [.ref k0, .ref k1, .ref k2, .ref k3, .ref k4, .ref k5, .ref k6, .ref k7, .ref k8, .ref k9, .ref ka, .ref kb, .int cc])), (k0, .inr (9, [.ref k00, .ref k01, .ref k02, .ref k03, .ref k04, .ref k05, .int c06, .int c07, .int c08])), (k3, .inr (4, [.ref k30, .ref k31, .ref k32, .ref k33, .ref k34, .int c35, .int c36])), (k5, .inr (5, [.ref k50, .int c51, .int c52, .int c53, .int c54, .int c55, .int c56, .int c57])), (kb, .inl (cI, 6, .inl cb)), (k01, .inl (cI, 40, .inl c01)), (k31, .inl (cI, 600, .inl c31)), (k32, .inl (cI, 12, .inl c32)), (k33, .inl (cI, 12, .inl c33)), (k34, .inl (cI, 12, .inl c34)), (k50, .inl (cI, 50, .inl c50)), (k040, .inl (cI, 60, .inl c040)), (k041, .inl (cI, 60, .inl c041)), (k042, .inl (cI, 60, .inl c042)), (k043, .inl (cI, 60, .inl c043)), (k044, .inl (cI, 60, .inl c044)), (k04, .inr (8, [.ref k040, .ref k041, .ref k042, .ref k043, .ref k044, .ref k045, .ref k046, .ref k047, .ref k048, .int c049])), (k045, .inl (cI, 60, .inl c045))] H := hP
      replace hD : va_D A [(k, .inr (10, [.ref k0, .ref k1, .ref k2, .ref k3, .ref k4, .ref k5, .ref k6, .ref k7, .ref k8, .ref k9, .ref ka, .ref kb, .int cc])), (k0, .inr (9, [.ref k00, .ref k01, .ref k02, .ref k03, .ref k04, .ref k05, .int c06, .int c07, .int c08])), (k3, .inr (4, [.ref k30, .ref k31, .ref k32, .ref k33, .ref k34, .int c35, .int c36])), (k5, .inr (5, [.ref k50, .int c51, .int c52, .int c53, .int c54, .int c55, .int c56, .int c57])), (kb, .inl (cI, 6, .inl cb)), (k01, .inl (cI, 40, .inl c01)), (k31, .inl (cI, 600, .inl c31)), (k32, .inl (cI, 12, .inl c32)), (k33, .inl (cI, 12, .inl c33)), (k34, .inl (cI, 12, .inl c34)), (k50, .inl (cI, 50, .inl c50)), (k040, .inl (cI, 60, .inl c040)), (k041, .inl (cI, 60, .inl c041)), (k042, .inl (cI, 60, .inl c042)), (k043, .inl (cI, 60, .inl c043)), (k044, .inl (cI, 60, .inl c044)), (k04, .inr (8, [.ref k040, .ref k041, .ref k042, .ref k043, .ref k044, .ref k045, .ref k046, .ref k047, .ref k048, .int c049])), (k045, .inl (cI, 60, .inl c045))] := hD
      rcases w_63 with ⟨hr_62, h_65, h_66, h_67, h_68⟩ | ⟨hr_62, h_69, h_70, h_71, h_72⟩ | ⟨hr_62, h_73⟩
      · have h_65 : 0 ≤ a0.toInt := h_65
        have h_66 : a0.toInt < c049.toInt := h_66
        have h_67 : a0.toInt ≤ 59 := h_67
        have h_68 : (c045 a0.toNatClampNeg).toInt ≠ 0 := h_68
        have t_74 : (c045 a0.toNatClampNeg).toInt = (wW gx a0 4).toInt := by rw [WKR.r4 (WR.kw pre0) (by omega) (by omega)]
        obtain rfl : r_62 = 1 := hr_62.trans (by decide)
        have t_75 : (c045 a0.toNatClampNeg).toInt = (wW gx a0 4).toInt := by rw [WKR.r4 (WR.kw pre0) (by omega) (by omega)]
        refine b_if_eq hx hb zl_1 (tgt := 112) dX10_workIs_105 (by decide) (fun c_76 => by exfalso; omega) (fun c_76 => ?_)
        refine lv_iconst (v := 1) hx hb dX10_workIs_108 (by decide) ?_
        refine lv_goto (tgt := 113) hx hb dX10_workIs_109 (by decide) ?_
        exact hRet (c51, c52, c53, c54, c55, c56, c57, cb, c50) [0, 1, 2, 3, 4, 5, 16, 6, 7, 8, 9, 10, 11, 12, 13, 14, 15, 17] ⟨(Or.inr ⟨(fun z => by omega), by unfold wiR; (repeat (first | rw [if_pos (by omega)] | rw [if_neg (by omega)])); exact k_inj (by rw [zl_1]; rw [show a1.toInt.toNat = 4 from by omega]; show _ = (wW gx a0 4).toInt; have hb := SB.w4 pre1 (w := a0) (by omega) (by omega); omega)⟩), pre2⟩ hP hD (by decide) rfl hS rfl dX10_workIs_113
      · have h_69 : 0 ≤ a0.toInt := h_69
        have h_70 : a0.toInt < c049.toInt := h_70
        have h_71 : a0.toInt ≤ 59 := h_71
        have h_72 : (c045 a0.toNatClampNeg).toInt = 0 := h_72
        have t_77 : (c045 a0.toNatClampNeg).toInt = (wW gx a0 4).toInt := by rw [WKR.r4 (WR.kw pre0) (by omega) (by omega)]
        obtain rfl : r_62 = 0 := hr_62.trans (by decide)
        have t_78 : (c045 a0.toNatClampNeg).toInt = (wW gx a0 4).toInt := by rw [WKR.r4 (WR.kw pre0) (by omega) (by omega)]
        refine b_if_eq hx hb zl_0 (tgt := 112) dX10_workIs_105 (by decide) (fun c_79 => ?_) (fun c_79 => by exfalso; omega)
        refine lv_iconst (v := 0) hx hb dX10_workIs_112 (by decide) ?_
        exact hRet (c51, c52, c53, c54, c55, c56, c57, cb, c50) [0, 1, 2, 3, 4, 5, 16, 6, 7, 8, 9, 10, 11, 12, 13, 14, 15, 17] ⟨(Or.inr ⟨(fun z => by omega), by unfold wiR; (repeat (first | rw [if_pos (by omega)] | rw [if_neg (by omega)])); exact k_inj (by rw [zl_0]; rw [show a1.toInt.toNat = 4 from by omega]; show _ = (wW gx a0 4).toInt; have hb := SB.w4 pre1 (w := a0) (by omega) (by omega); omega)⟩), pre2⟩ hP hD (by decide) rfl hS rfl dX10_workIs_113
      · exfalso; omega
    by_cases c_80 : a1.toInt = 5
    · refine lv_tableIn (off := 85) (tgt := 114) hx hb dX10_workIs_29 (by omega) (by omega) (by rw [c_80]; decide) (by decide) ?_
      refine lv_aload_n hx hb dX10_workIs_114 rfl (lv_at hl 1 rfl) ?_
      refine va_get (D := D) (ci := 10) (v := .ref k0) (C := RX10) (T := TX10) (N := 13) hx hb hT giX10 hown hK hP 0 rfl rfl 0 (by decide) (hT (Cond.fieldLink RX10 12 "DesertWire" "now" "LDesertWire$World;") mw_291) (fun _ h9 => h9) rfl dX10_workIs_115 ?_
      refine lv_iload_n hx hb dX10_workIs_118 rfl (lv_at hl 2 rfl) ?_
      refine kJi (wr := [(k, .inr (10, [.ref k0, .ref k1, .ref k2, .ref k3, .ref k4, .ref k5, .ref k6, .ref k7, .ref k8, .ref k9, .ref ka, .ref kb, .int cc])), (k3, .inr (4, [.ref k30, .ref k31, .ref k32, .ref k33, .ref k34, .int c35, .int c36])), (k5, .inr (5, [.ref k50, .int c51, .int c52, .int c53, .int c54, .int c55, .int c56, .int c57])), (kb, .inl (cI, 6, .inl cb)), (k31, .inl (cI, 600, .inl c31)), (k32, .inl (cI, 12, .inl c32)), (k33, .inl (cI, 12, .inl c33)), (k34, .inl (cI, 12, .inl c34)), (k50, .inl (cI, 50, .inl c50)), (k042, .inl (cI, 60, .inl c042)), (k044, .inl (cI, 60, .inl c044))]) (va_runV (As := [.int a0]) (rest := []) ⟨hx, hb, hml, hown, hT⟩ (c_X9_eatenOnD l D cI aK aV k0 k00 k01 k02 k03 k04 k05 k040 k041 k042 k043 k044 k045 k046 k047 k048 H.size c06 c07 c08 c01 c049 c040 c041 c043 c045 c00 c02 c03 c042 c044 c046 c047 c048 c050 c051 gx a0 pre0 pre1 (by first | omega | decide | assumption | rfl) (by first | omega | decide | assumption | rfl)) (cwV 1 hT (gV_in mw_411 mw_408 mw_409 mw_410 mw_2) rfl rfl rfl (by decide +kernel) ⟨Nat.le_of_ble_eq_true rfl, Nat.le_of_ble_eq_true rfl⟩) (kRecvX (q0 := 1) (ci := 9) hK hP hD hN hXS hS hA rfl rfl [1, 5, 17, 11, 12, 14, 16] rfl (by decide)) rfl rfl hl.1 rfl (lv_room (Nat.le_of_ble_eq_true rfl)) dX10_workIs_119 ⟨Nat.le_of_ble_eq_true rfl, Nat.le_of_ble_eq_true rfl⟩) hP hD hS hA [1, 5, 17, 11, 12, 14, 16] [0, 2, 3, 4, 6, 7, 8, 9, 10, 13, 15] rfl rfl (by decide) (by decide) ?_
      clear hP hD hS
      intro r_81 u_83 H locs w_82 hP hD hS
      replace hP : va_P D vwCl [(k, .inr (10, [.ref k0, .ref k1, .ref k2, .ref k3, .ref k4, .ref k5, .ref k6, .ref k7, .ref k8, .ref k9, .ref ka, .ref kb, .int cc])), (k3, .inr (4, [.ref k30, .ref k31, .ref k32, .ref k33, .ref k34, .int c35, .int c36])), (k5, .inr (5, [.ref k50, .int c51, .int c52, .int c53, .int c54, .int c55, .int c56, .int c57])), (kb, .inl (cI, 6, .inl cb)), (k31, .inl (cI, 600, .inl c31)), (k32, .inl (cI, 12, .inl c32)), (k33, .inl (cI, 12, .inl c33)), (k34, .inl (cI, 12, .inl c34)), (k50, .inl (cI, 50, .inl c50)), (k042, .inl (cI, 60, .inl c042)), (k044, .inl (cI, 60, .inl c044)), (k0, .inr (9, [.ref k00, .ref k01, .ref k02, .ref k03, .ref k04, .ref k05, .int c06, .int c07, .int c08])), (k01, .inl (cI, 40, .inl c01)), (k04, .inr (8, [.ref k040, .ref k041, .ref k042, .ref k043, .ref k044, .ref k045, .ref k046, .ref k047, .ref k048, .int c049])), (k040, .inl (cI, 60, .inl c040)), (k041, .inl (cI, 60, .inl c041)), (k043, .inl (cI, 60, .inl c043)), (k045, .inl (cI, 60, .inl c045))] H := hP
      replace hD : va_D A [(k, .inr (10, [.ref k0, .ref k1, .ref k2, .ref k3, .ref k4, .ref k5, .ref k6, .ref k7, .ref k8, .ref k9, .ref ka, .ref kb, .int cc])), (k3, .inr (4, [.ref k30, .ref k31, .ref k32, .ref k33, .ref k34, .int c35, .int c36])), (k5, .inr (5, [.ref k50, .int c51, .int c52, .int c53, .int c54, .int c55, .int c56, .int c57])), (kb, .inl (cI, 6, .inl cb)), (k31, .inl (cI, 600, .inl c31)), (k32, .inl (cI, 12, .inl c32)), (k33, .inl (cI, 12, .inl c33)), (k34, .inl (cI, 12, .inl c34)), (k50, .inl (cI, 50, .inl c50)), (k042, .inl (cI, 60, .inl c042)), (k044, .inl (cI, 60, .inl c044)), (k0, .inr (9, [.ref k00, .ref k01, .ref k02, .ref k03, .ref k04, .ref k05, .int c06, .int c07, .int c08])), (k01, .inl (cI, 40, .inl c01)), (k04, .inr (8, [.ref k040, .ref k041, .ref k042, .ref k043, .ref k044, .ref k045, .ref k046, .ref k047, .ref k048, .int c049])), (k040, .inl (cI, 60, .inl c040)), (k041, .inl (cI, 60, .inl c041)), (k043, .inl (cI, 60, .inl c043)), (k045, .inl (cI, 60, .inl c045))] := hD
      have h_84 := w_82
      have h_84 : r_81 = eoN gx a0.toInt.toNat := h_84
      have h_84 : r_81 = eoN gx a0.toInt.toNat := h_84
      have lo_r_81 := k_lo r_81
      have hi_r_81 := k_hi r_81
      exact hRet (c51, c52, c53, c54, c55, c56, c57, cb, c50) [0, 11, 1, 2, 3, 12, 13, 4, 5, 6, 7, 8, 14, 15, 9, 16, 10, 17] ⟨(Or.inr ⟨(fun z => by omega), by unfold wiR; (repeat (first | rw [if_pos (by omega)] | rw [if_neg (by omega)])); exact h_84⟩), pre2⟩ hP hD (by decide) rfl hS rfl dX10_workIs_122
    by_cases c_85 : a1.toInt = 6
    · refine lv_tableIn (off := 94) (tgt := 123) hx hb dX10_workIs_29 (by omega) (by omega) (by rw [c_85]; decide) (by decide) ?_
      refine lv_aload_n hx hb dX10_workIs_123 rfl (lv_at hl 0 rfl) ?_
      refine lv_iload_n hx hb dX10_workIs_124 rfl (lv_at hl 2 rfl) ?_
      refine kJi (wr := [(k, .inr (10, [.ref k0, .ref k1, .ref k2, .ref k3, .ref k4, .ref k5, .ref k6, .ref k7, .ref k8, .ref k9, .ref ka, .ref kb, .int cc])), (k0, .inr (9, [.ref k00, .ref k01, .ref k02, .ref k03, .ref k04, .ref k05, .int c06, .int c07, .int c08])), (k3, .inr (4, [.ref k30, .ref k31, .ref k32, .ref k33, .ref k34, .int c35, .int c36])), (k5, .inr (5, [.ref k50, .int c51, .int c52, .int c53, .int c54, .int c55, .int c56, .int c57])), (kb, .inl (cI, 6, .inl cb)), (k01, .inl (cI, 40, .inl c01)), (k31, .inl (cI, 600, .inl c31)), (k32, .inl (cI, 12, .inl c32)), (k33, .inl (cI, 12, .inl c33)), (k34, .inl (cI, 12, .inl c34)), (k50, .inl (cI, 50, .inl c50)), (k041, .inl (cI, 60, .inl c041)), (k042, .inl (cI, 60, .inl c042)), (k043, .inl (cI, 60, .inl c043)), (k044, .inl (cI, 60, .inl c044)), (k045, .inl (cI, 60, .inl c045))]) (va_runV (As := [.int a0]) (rest := []) ⟨hx, hb, hml, hown, hT⟩ (c_X8_kindOfD l D cI aK aV k04 k040 k041 k042 k043 k044 k045 k046 k047 k048 H.size c049 c040 a0) (cwV 1 hT (gV_in mw_384 mw_381 mw_382 mw_383 mw_3) rfl rfl rfl (by decide +kernel) ⟨Nat.le_of_ble_eq_true rfl, Nat.le_of_ble_eq_true rfl⟩) (kRecvX (q0 := 17) (ci := 8) hK hP hD hN hXS hS hA rfl rfl [17, 11] rfl (by decide)) rfl rfl hl.1 rfl (lv_room (Nat.le_of_ble_eq_true rfl)) dX10_workIs_125 ⟨Nat.le_of_ble_eq_true rfl, Nat.le_of_ble_eq_true rfl⟩) hP hD hS hA [17, 11] [0, 1, 2, 3, 4, 5, 6, 7, 8, 9, 10, 12, 13, 14, 15, 16] rfl rfl (by decide) (by decide) ?_
      clear hP hD hS
      intro r_86 u_88 H locs w_87 hP hD hS
      replace hP : va_P D vwCl [(k, .inr (10, [.ref k0, .ref k1, .ref k2, .ref k3, .ref k4, .ref k5, .ref k6, .ref k7, .ref k8, .ref k9, .ref ka, .ref kb, .int cc])), (k0, .inr (9, [.ref k00, .ref k01, .ref k02, .ref k03, .ref k04, .ref k05, .int c06, .int c07, .int c08])), (k3, .inr (4, [.ref k30, .ref k31, .ref k32, .ref k33, .ref k34, .int c35, .int c36])), (k5, .inr (5, [.ref k50, .int c51, .int c52, .int c53, .int c54, .int c55, .int c56, .int c57])), (kb, .inl (cI, 6, .inl cb)), (k01, .inl (cI, 40, .inl c01)), (k31, .inl (cI, 600, .inl c31)), (k32, .inl (cI, 12, .inl c32)), (k33, .inl (cI, 12, .inl c33)), (k34, .inl (cI, 12, .inl c34)), (k50, .inl (cI, 50, .inl c50)), (k041, .inl (cI, 60, .inl c041)), (k042, .inl (cI, 60, .inl c042)), (k043, .inl (cI, 60, .inl c043)), (k044, .inl (cI, 60, .inl c044)), (k045, .inl (cI, 60, .inl c045)), (k04, .inr (8, [.ref k040, .ref k041, .ref k042, .ref k043, .ref k044, .ref k045, .ref k046, .ref k047, .ref k048, .int c049])), (k040, .inl (cI, 60, .inl c040))] H := hP
      replace hD : va_D A [(k, .inr (10, [.ref k0, .ref k1, .ref k2, .ref k3, .ref k4, .ref k5, .ref k6, .ref k7, .ref k8, .ref k9, .ref ka, .ref kb, .int cc])), (k0, .inr (9, [.ref k00, .ref k01, .ref k02, .ref k03, .ref k04, .ref k05, .int c06, .int c07, .int c08])), (k3, .inr (4, [.ref k30, .ref k31, .ref k32, .ref k33, .ref k34, .int c35, .int c36])), (k5, .inr (5, [.ref k50, .int c51, .int c52, .int c53, .int c54, .int c55, .int c56, .int c57])), (kb, .inl (cI, 6, .inl cb)), (k01, .inl (cI, 40, .inl c01)), (k31, .inl (cI, 600, .inl c31)), (k32, .inl (cI, 12, .inl c32)), (k33, .inl (cI, 12, .inl c33)), (k34, .inl (cI, 12, .inl c34)), (k50, .inl (cI, 50, .inl c50)), (k041, .inl (cI, 60, .inl c041)), (k042, .inl (cI, 60, .inl c042)), (k043, .inl (cI, 60, .inl c043)), (k044, .inl (cI, 60, .inl c044)), (k045, .inl (cI, 60, .inl c045)), (k04, .inr (8, [.ref k040, .ref k041, .ref k042, .ref k043, .ref k044, .ref k045, .ref k046, .ref k047, .ref k048, .int c049])), (k040, .inl (cI, 60, .inl c040))] := hD
      rcases w_87 with ⟨h_89, h_90, h_91, h_92⟩ | ⟨hr_86, h_93⟩
      · have h_89 : 0 ≤ a0.toInt := h_89
        have h_90 : a0.toInt < c049.toInt := h_90
        have h_91 : a0.toInt ≤ 59 := h_91
        have h_92 : r_86 = c040 a0.toNatClampNeg := h_92
        have h_94 : r_86 = wW gx a0 0 := Eq.trans h_92 (WKR.r0 (WR.kw pre0) (by omega) (by omega))
        have t_95 : r_86.toInt = (wW gx a0 0).toInt := by rw [h_94]
        have b_96 : 0 ≤ r_86.toInt ∧ r_86.toInt ≤ 5 := by rw [h_94]; exact SB.w0 pre1 (by omega) (by omega)
        have lo_r_86 := k_lo r_86
        have hi_r_86 := k_hi r_86
        refine lv_iconst (v := 5) hx hb dX10_workIs_128 (by decide) ?_
        refine b_icmp_ne hx hb rfl zl_5 (tgt := 140) dX10_workIs_129 (by decide) (fun c_97 => ?_) (fun c_97 => ?_)
        · refine lv_iconst (v := (-1)) hx hb dX10_workIs_140 (by decide) ?_
          exact hRet (c51, c52, c53, c54, c55, c56, c57, cb, c50) [0, 1, 2, 3, 4, 5, 16, 6, 7, 8, 9, 10, 17, 11, 12, 13, 14, 15] ⟨(Or.inr ⟨(fun z => by omega), by unfold wiR; (repeat (first | rw [if_pos (by omega)] | rw [if_neg (by omega)]))⟩), pre2⟩ hP hD (by decide) rfl hS rfl dX10_workIs_141
        · refine lv_aload_n hx hb dX10_workIs_132 rfl (lv_at hl 0 rfl) ?_
          refine lv_iload_n hx hb dX10_workIs_133 rfl (lv_at hl 2 rfl) ?_
          refine kJi (wr := [(k, .inr (10, [.ref k0, .ref k1, .ref k2, .ref k3, .ref k4, .ref k5, .ref k6, .ref k7, .ref k8, .ref k9, .ref ka, .ref kb, .int cc])), (k0, .inr (9, [.ref k00, .ref k01, .ref k02, .ref k03, .ref k04, .ref k05, .int c06, .int c07, .int c08])), (k3, .inr (4, [.ref k30, .ref k31, .ref k32, .ref k33, .ref k34, .int c35, .int c36])), (k5, .inr (5, [.ref k50, .int c51, .int c52, .int c53, .int c54, .int c55, .int c56, .int c57])), (kb, .inl (cI, 6, .inl cb)), (k01, .inl (cI, 40, .inl c01)), (k31, .inl (cI, 600, .inl c31)), (k32, .inl (cI, 12, .inl c32)), (k33, .inl (cI, 12, .inl c33)), (k34, .inl (cI, 12, .inl c34)), (k50, .inl (cI, 50, .inl c50)), (k041, .inl (cI, 60, .inl c041)), (k042, .inl (cI, 60, .inl c042)), (k043, .inl (cI, 60, .inl c043)), (k045, .inl (cI, 60, .inl c045)), (k040, .inl (cI, 60, .inl c040))]) (va_runV (As := [.int a0]) (rest := []) ⟨hx, hb, hml, hown, hT⟩ (c_X8_foodOfD l D cI aK aV k04 k040 k041 k042 k043 k044 k045 k046 k047 k048 H.size c049 c044 a0) (cwV 1 hT (gV_in mw_431 mw_428 mw_429 mw_430 mw_3) rfl rfl rfl (by decide +kernel) ⟨Nat.le_of_ble_eq_true rfl, Nat.le_of_ble_eq_true rfl⟩) (kRecvX (q0 := 16) (ci := 8) hK hP hD hN hXS hS hA rfl rfl [16, 14] rfl (by decide)) rfl rfl hl.1 rfl (lv_room (Nat.le_of_ble_eq_true rfl)) dX10_workIs_134 ⟨Nat.le_of_ble_eq_true rfl, Nat.le_of_ble_eq_true rfl⟩) hP hD hS hA [16, 14] [0, 1, 2, 3, 4, 5, 6, 7, 8, 9, 10, 11, 12, 13, 15, 17] rfl rfl (by decide) (by decide) ?_
          clear hP hD hS
          intro r_98 u_100 H locs w_99 hP hD hS
          replace hP : va_P D vwCl [(k, .inr (10, [.ref k0, .ref k1, .ref k2, .ref k3, .ref k4, .ref k5, .ref k6, .ref k7, .ref k8, .ref k9, .ref ka, .ref kb, .int cc])), (k0, .inr (9, [.ref k00, .ref k01, .ref k02, .ref k03, .ref k04, .ref k05, .int c06, .int c07, .int c08])), (k3, .inr (4, [.ref k30, .ref k31, .ref k32, .ref k33, .ref k34, .int c35, .int c36])), (k5, .inr (5, [.ref k50, .int c51, .int c52, .int c53, .int c54, .int c55, .int c56, .int c57])), (kb, .inl (cI, 6, .inl cb)), (k01, .inl (cI, 40, .inl c01)), (k31, .inl (cI, 600, .inl c31)), (k32, .inl (cI, 12, .inl c32)), (k33, .inl (cI, 12, .inl c33)), (k34, .inl (cI, 12, .inl c34)), (k50, .inl (cI, 50, .inl c50)), (k041, .inl (cI, 60, .inl c041)), (k042, .inl (cI, 60, .inl c042)), (k043, .inl (cI, 60, .inl c043)), (k045, .inl (cI, 60, .inl c045)), (k040, .inl (cI, 60, .inl c040)), (k04, .inr (8, [.ref k040, .ref k041, .ref k042, .ref k043, .ref k044, .ref k045, .ref k046, .ref k047, .ref k048, .int c049])), (k044, .inl (cI, 60, .inl c044))] H := hP
          replace hD : va_D A [(k, .inr (10, [.ref k0, .ref k1, .ref k2, .ref k3, .ref k4, .ref k5, .ref k6, .ref k7, .ref k8, .ref k9, .ref ka, .ref kb, .int cc])), (k0, .inr (9, [.ref k00, .ref k01, .ref k02, .ref k03, .ref k04, .ref k05, .int c06, .int c07, .int c08])), (k3, .inr (4, [.ref k30, .ref k31, .ref k32, .ref k33, .ref k34, .int c35, .int c36])), (k5, .inr (5, [.ref k50, .int c51, .int c52, .int c53, .int c54, .int c55, .int c56, .int c57])), (kb, .inl (cI, 6, .inl cb)), (k01, .inl (cI, 40, .inl c01)), (k31, .inl (cI, 600, .inl c31)), (k32, .inl (cI, 12, .inl c32)), (k33, .inl (cI, 12, .inl c33)), (k34, .inl (cI, 12, .inl c34)), (k50, .inl (cI, 50, .inl c50)), (k041, .inl (cI, 60, .inl c041)), (k042, .inl (cI, 60, .inl c042)), (k043, .inl (cI, 60, .inl c043)), (k045, .inl (cI, 60, .inl c045)), (k040, .inl (cI, 60, .inl c040)), (k04, .inr (8, [.ref k040, .ref k041, .ref k042, .ref k043, .ref k044, .ref k045, .ref k046, .ref k047, .ref k048, .int c049])), (k044, .inl (cI, 60, .inl c044))] := hD
          rcases w_99 with ⟨h_101, h_102, h_103, h_104⟩ | ⟨hr_98, h_105⟩
          · have h_101 : 0 ≤ a0.toInt := h_101
            have h_102 : a0.toInt < c049.toInt := h_102
            have h_103 : a0.toInt ≤ 59 := h_103
            have h_104 : r_98 = c044 a0.toNatClampNeg := h_104
            have h_106 : r_98 = wW gx a0 5 := Eq.trans h_104 (WKR.r5 (WR.kw pre0) (by omega) (by omega))
            have t_107 : r_98.toInt = (wW gx a0 5).toInt := by rw [h_106]
            have b_108 : 0 ≤ r_98.toInt ∧ r_98.toInt ≤ 9999 := by rw [h_106]; exact SB.w5 pre1 (by omega) (by omega)
            have lo_r_98 := k_lo r_98
            have hi_r_98 := k_hi r_98
            refine lv_goto (tgt := 141) hx hb dX10_workIs_137 (by decide) ?_
            exact hRet (c51, c52, c53, c54, c55, c56, c57, cb, c50) [0, 1, 2, 3, 4, 5, 16, 6, 7, 8, 9, 10, 15, 11, 12, 13, 17, 14] ⟨(Or.inr ⟨(fun z => by omega), by unfold wiR; (repeat (first | rw [if_pos (by omega)] | rw [if_neg (by omega)])); first | done | exact h_106⟩), pre2⟩ hP hD (by decide) rfl hS rfl dX10_workIs_141
          · exfalso; omega
      · exfalso; omega
    by_cases c_109 : a1.toInt = 7
    · refine lv_tableIn (off := 113) (tgt := 142) hx hb dX10_workIs_29 (by omega) (by omega) (by rw [c_109]; decide) (by decide) ?_
      refine lv_aload_n hx hb dX10_workIs_142 rfl (lv_at hl 1 rfl) ?_
      refine lv_iload_n hx hb dX10_workIs_143 rfl (lv_at hl 2 rfl) ?_
      refine kJi (wr := [(kb, .inl (cI, 6, .inl cb)), (k01, .inl (cI, 40, .inl c01)), (k041, .inl (cI, 60, .inl c041)), (k043, .inl (cI, 60, .inl c043)), (k044, .inl (cI, 60, .inl c044))]) (va_runV (As := [.int a0]) (rest := []) ⟨hx, hb, hml, hown, hT⟩ (c_X10_wantOfD l D cI aK aV k k0 k1 k2 k3 k4 k5 k6 k7 k8 k9 ka kb k00 k01 k02 k03 k04 k05 k30 k31 k32 k33 k34 k50 k040 k041 k042 k043 k044 k045 k046 k047 k048 H.size cc c06 c07 c08 c35 c36 c51 c52 c53 c54 c55 c56 c57 c049 c31 c32 c33 c34 c50 c040 c042 c045 c00 c01 c02 c03 c041 c043 c044 c046 c047 c048 c050 c051 gx a0 pre0 pre1 pre2 pre3 pre4 (by first | omega | decide | assumption | rfl) (by first | omega | decide | assumption | rfl) (by first | omega | decide | assumption | rfl) (by first | omega | decide | assumption | rfl)) (cwV 1 hT (gV_in mw_435 mw_432 mw_434 mw_p1_3 mw_1) rfl rfl rfl (by decide +kernel) ⟨Nat.le_of_ble_eq_true rfl, Nat.le_of_ble_eq_true rfl⟩) (kRecvX (q0 := 0) (ci := 10) hK hP hD hN hXS hS hA rfl rfl [0, 1, 2, 3, 17, 6, 7, 8, 9, 10, 11, 13, 16] rfl (by decide)) rfl rfl hl.1 rfl (lv_room (Nat.le_of_ble_eq_true rfl)) dX10_workIs_144 ⟨Nat.le_of_ble_eq_true rfl, Nat.le_of_ble_eq_true rfl⟩) hP hD hS hA [0, 1, 2, 3, 17, 6, 7, 8, 9, 10, 11, 13, 16] [4, 5, 12, 14, 15] rfl rfl (by decide) (by decide) ?_
      clear hP hD hS
      intro r_110 u_120 H locs w_111 hP hD hS
      obtain ⟨sc51_112, sc52_113, sc53_114, sc54_115, sc55_116, sc56_117, sc57_118, sc50_119⟩ := u_120
      replace hP : va_P D vwCl [(kb, .inl (cI, 6, .inl cb)), (k01, .inl (cI, 40, .inl c01)), (k041, .inl (cI, 60, .inl c041)), (k043, .inl (cI, 60, .inl c043)), (k044, .inl (cI, 60, .inl c044)), (k, .inr (10, [.ref k0, .ref k1, .ref k2, .ref k3, .ref k4, .ref k5, .ref k6, .ref k7, .ref k8, .ref k9, .ref ka, .ref kb, .int cc])), (k0, .inr (9, [.ref k00, .ref k01, .ref k02, .ref k03, .ref k04, .ref k05, .int c06, .int c07, .int c08])), (k3, .inr (4, [.ref k30, .ref k31, .ref k32, .ref k33, .ref k34, .int c35, .int c36])), (k5, .inr (5, [.ref k50, .int sc51_112, .int sc52_113, .int sc53_114, .int sc54_115, .int sc55_116, .int sc56_117, .int sc57_118])), (k04, .inr (8, [.ref k040, .ref k041, .ref k042, .ref k043, .ref k044, .ref k045, .ref k046, .ref k047, .ref k048, .int c049])), (k31, .inl (cI, 600, .inl c31)), (k32, .inl (cI, 12, .inl c32)), (k33, .inl (cI, 12, .inl c33)), (k34, .inl (cI, 12, .inl c34)), (k50, .inl (cI, 50, .inl sc50_119)), (k040, .inl (cI, 60, .inl c040)), (k042, .inl (cI, 60, .inl c042)), (k045, .inl (cI, 60, .inl c045))] H := hP
      replace hD : va_D A [(kb, .inl (cI, 6, .inl cb)), (k01, .inl (cI, 40, .inl c01)), (k041, .inl (cI, 60, .inl c041)), (k043, .inl (cI, 60, .inl c043)), (k044, .inl (cI, 60, .inl c044)), (k, .inr (10, [.ref k0, .ref k1, .ref k2, .ref k3, .ref k4, .ref k5, .ref k6, .ref k7, .ref k8, .ref k9, .ref ka, .ref kb, .int cc])), (k0, .inr (9, [.ref k00, .ref k01, .ref k02, .ref k03, .ref k04, .ref k05, .int c06, .int c07, .int c08])), (k3, .inr (4, [.ref k30, .ref k31, .ref k32, .ref k33, .ref k34, .int c35, .int c36])), (k5, .inr (5, [.ref k50, .int sc51_112, .int sc52_113, .int sc53_114, .int sc54_115, .int sc55_116, .int sc56_117, .int sc57_118])), (k04, .inr (8, [.ref k040, .ref k041, .ref k042, .ref k043, .ref k044, .ref k045, .ref k046, .ref k047, .ref k048, .int c049])), (k31, .inl (cI, 600, .inl c31)), (k32, .inl (cI, 12, .inl c32)), (k33, .inl (cI, 12, .inl c33)), (k34, .inl (cI, 12, .inl c34)), (k50, .inl (cI, 50, .inl sc50_119)), (k040, .inl (cI, 60, .inl c040)), (k042, .inl (cI, 60, .inl c042)), (k045, .inl (cI, 60, .inl c045))] := hD
      obtain ⟨h_121, h_122⟩ := w_111
      have h_121 : (stF gx a0 1 = 1 ∧ PRV c33 c34 (fun j => tG c31 (50 * j) (c32 j)) c32 c36.toInt.toNat c08 2 (wW gx a0 0) (wW gx a0 2) 0 r_110) ∨ (stF gx a0 1 = 0 ∧ r_110 = 0) := h_121
      have h_121 : (stF gx a0 1 = 1 ∧ PRV c33 c34 (fun j => tG c31 (50 * j) (c32 j)) c32 c36.toInt.toNat c08 2 (wW gx a0 0) (wW gx a0 2) 0 r_110) ∨ (stF gx a0 1 = 0 ∧ r_110 = 0) := h_121
      have h_122 : BYT sc50_119 0 := h_122
      have lo_r_110 := k_lo r_110
      have hi_r_110 := k_hi r_110
      exact hRet (sc51_112, sc52_113, sc53_114, sc54_115, sc55_116, sc56_117, sc57_118, cb, sc50_119) [5, 6, 7, 8, 0, 1, 9, 10, 11, 12, 13, 14, 15, 2, 16, 3, 4, 17] ⟨(by rcases h_121 with ⟨z1, z2⟩ | ⟨z1, z2⟩; exact Or.inl ⟨by omega, ⟨by omega, by omega⟩, z1, z2⟩; exact Or.inr ⟨fun z => by have y := z.2.2; rw [z1] at y; exact absurd y (by decide), by unfold wiR; (repeat (first | rw [if_pos (by omega)] | rw [if_neg (by omega)])); exact z2⟩), h_122⟩ hP hD (by decide) rfl hS rfl dX10_workIs_147
    refine lv_tableOut (tgt := 148) hx hb dX10_workIs_29 (by omega) (by decide) ?_
    refine lv_aload_n hx hb dX10_workIs_148 rfl (lv_at hl 1 rfl) ?_
    refine lv_iconst (v := 1) hx hb dX10_workIs_149 (by decide) ?_
    refine kJi (wr := [(k0, .inr (9, [.ref k00, .ref k01, .ref k02, .ref k03, .ref k04, .ref k05, .int c06, .int c07, .int c08])), (k3, .inr (4, [.ref k30, .ref k31, .ref k32, .ref k33, .ref k34, .int c35, .int c36])), (k5, .inr (5, [.ref k50, .int c51, .int c52, .int c53, .int c54, .int c55, .int c56, .int c57])), (k01, .inl (cI, 40, .inl c01)), (k31, .inl (cI, 600, .inl c31)), (k32, .inl (cI, 12, .inl c32)), (k33, .inl (cI, 12, .inl c33)), (k34, .inl (cI, 12, .inl c34)), (k50, .inl (cI, 50, .inl c50)), (k040, .inl (cI, 60, .inl c040)), (k041, .inl (cI, 60, .inl c041)), (k042, .inl (cI, 60, .inl c042)), (k043, .inl (cI, 60, .inl c043)), (k044, .inl (cI, 60, .inl c044)), (k045, .inl (cI, 60, .inl c045)), (k04, .inr (8, [.ref k040, .ref k041, .ref k042, .ref k043, .ref k044, .ref k045, .ref k046, .ref k047, .ref k048, .int c049]))]) (va_runV (As := [.int 1]) (rest := []) ⟨hx, hb, hml, hown, hT⟩ (c_X10_findingG l D cI aK aV k k0 k1 k2 k3 k4 k5 k6 k7 k8 k9 ka kb H.size cc cb 1) (cwV 1 hT (gV_in mw_338 mw_335 mw_337 mw_p1_0 mw_1) rfl rfl rfl (by decide +kernel) ⟨Nat.le_of_ble_eq_true rfl, Nat.le_of_ble_eq_true rfl⟩) (kRecvX (q0 := 0) (ci := 10) hK hP hD hN hXS hS hA rfl rfl [0, 4] rfl (by decide)) rfl rfl hl.1 rfl (lv_room (Nat.le_of_ble_eq_true rfl)) dX10_workIs_150 ⟨Nat.le_of_ble_eq_true rfl, Nat.le_of_ble_eq_true rfl⟩) hP hD hS hA [0, 4] [1, 2, 3, 5, 6, 7, 8, 9, 10, 11, 12, 13, 14, 15, 16, 17] rfl rfl (by decide) (by decide) ?_
    clear hP hD hS
    intro r_123 scb_125 H locs w_124 hP hD hS
    replace hP : va_P D vwCl [(k0, .inr (9, [.ref k00, .ref k01, .ref k02, .ref k03, .ref k04, .ref k05, .int c06, .int c07, .int c08])), (k3, .inr (4, [.ref k30, .ref k31, .ref k32, .ref k33, .ref k34, .int c35, .int c36])), (k5, .inr (5, [.ref k50, .int c51, .int c52, .int c53, .int c54, .int c55, .int c56, .int c57])), (k01, .inl (cI, 40, .inl c01)), (k31, .inl (cI, 600, .inl c31)), (k32, .inl (cI, 12, .inl c32)), (k33, .inl (cI, 12, .inl c33)), (k34, .inl (cI, 12, .inl c34)), (k50, .inl (cI, 50, .inl c50)), (k040, .inl (cI, 60, .inl c040)), (k041, .inl (cI, 60, .inl c041)), (k042, .inl (cI, 60, .inl c042)), (k043, .inl (cI, 60, .inl c043)), (k044, .inl (cI, 60, .inl c044)), (k045, .inl (cI, 60, .inl c045)), (k04, .inr (8, [.ref k040, .ref k041, .ref k042, .ref k043, .ref k044, .ref k045, .ref k046, .ref k047, .ref k048, .int c049])), (k, .inr (10, [.ref k0, .ref k1, .ref k2, .ref k3, .ref k4, .ref k5, .ref k6, .ref k7, .ref k8, .ref k9, .ref ka, .ref kb, .int cc])), (kb, .inl (cI, 6, .inl scb_125))] H := hP
    replace hD : va_D A [(k0, .inr (9, [.ref k00, .ref k01, .ref k02, .ref k03, .ref k04, .ref k05, .int c06, .int c07, .int c08])), (k3, .inr (4, [.ref k30, .ref k31, .ref k32, .ref k33, .ref k34, .int c35, .int c36])), (k5, .inr (5, [.ref k50, .int c51, .int c52, .int c53, .int c54, .int c55, .int c56, .int c57])), (k01, .inl (cI, 40, .inl c01)), (k31, .inl (cI, 600, .inl c31)), (k32, .inl (cI, 12, .inl c32)), (k33, .inl (cI, 12, .inl c33)), (k34, .inl (cI, 12, .inl c34)), (k50, .inl (cI, 50, .inl c50)), (k040, .inl (cI, 60, .inl c040)), (k041, .inl (cI, 60, .inl c041)), (k042, .inl (cI, 60, .inl c042)), (k043, .inl (cI, 60, .inl c043)), (k044, .inl (cI, 60, .inl c044)), (k045, .inl (cI, 60, .inl c045)), (k04, .inr (8, [.ref k040, .ref k041, .ref k042, .ref k043, .ref k044, .ref k045, .ref k046, .ref k047, .ref k048, .int c049])), (k, .inr (10, [.ref k0, .ref k1, .ref k2, .ref k3, .ref k4, .ref k5, .ref k6, .ref k7, .ref k8, .ref k9, .ref ka, .ref kb, .int cc])), (kb, .inl (cI, 6, .inl scb_125))] := hD
    have hr_123 := w_124
    obtain rfl : r_123 = (-1000001) := hr_123.trans (by decide)
    exact hRet (c51, c52, c53, c54, c55, c56, c57, scb_125, c50) [16, 0, 1, 2, 17, 3, 15, 4, 5, 6, 7, 8, 9, 10, 11, 12, 13, 14] ⟨(Or.inr ⟨(fun z => by omega), (by (try dsimp only); unfold wiR; (repeat (first | rw [if_pos (by omega)] | rw [if_neg (by omega)])))⟩), pre2⟩ hP hD (by decide) rfl hS rfl dX10_workIs_153
  · have h_12 : a0.toInt < 0 ∨ c049.toInt ≤ a0.toInt ∨ 60 ≤ a0.toInt := h_12
    obtain rfl : r_6 = 0 := hr_6.trans (by decide)
    refine b_if_ne hx hb zl_0 (tgt := 20) dX10_workIs_11 (by decide) (fun c_126 => by exfalso; omega) (fun c_126 => ?_)
    refine lv_aload_n hx hb dX10_workIs_14 rfl (lv_at hl 0 rfl) ?_
    refine lv_iconst (v := 1) hx hb dX10_workIs_15 (by decide) ?_
    refine kJi (wr := [(k0, .inr (9, [.ref k00, .ref k01, .ref k02, .ref k03, .ref k04, .ref k05, .int c06, .int c07, .int c08])), (k3, .inr (4, [.ref k30, .ref k31, .ref k32, .ref k33, .ref k34, .int c35, .int c36])), (k5, .inr (5, [.ref k50, .int c51, .int c52, .int c53, .int c54, .int c55, .int c56, .int c57])), (k01, .inl (cI, 40, .inl c01)), (k31, .inl (cI, 600, .inl c31)), (k32, .inl (cI, 12, .inl c32)), (k33, .inl (cI, 12, .inl c33)), (k34, .inl (cI, 12, .inl c34)), (k50, .inl (cI, 50, .inl c50)), (k040, .inl (cI, 60, .inl c040)), (k041, .inl (cI, 60, .inl c041)), (k042, .inl (cI, 60, .inl c042)), (k043, .inl (cI, 60, .inl c043)), (k044, .inl (cI, 60, .inl c044)), (k045, .inl (cI, 60, .inl c045)), (k04, .inr (8, [.ref k040, .ref k041, .ref k042, .ref k043, .ref k044, .ref k045, .ref k046, .ref k047, .ref k048, .int c049]))]) (va_runV (As := [.int 1]) (rest := []) ⟨hx, hb, hml, hown, hT⟩ (c_X10_findingG l D cI aK aV k k0 k1 k2 k3 k4 k5 k6 k7 k8 k9 ka kb H.size cc cb 1) (cwV 1 hT (gV_in mw_338 mw_335 mw_337 mw_p1_0 mw_1) rfl rfl rfl (by decide +kernel) ⟨Nat.le_of_ble_eq_true rfl, Nat.le_of_ble_eq_true rfl⟩) (kRecvX (q0 := 0) (ci := 10) hK hP hD hN hXS hS hA rfl rfl [0, 4] rfl (by decide)) rfl rfl hl.1 rfl (lv_room (Nat.le_of_ble_eq_true rfl)) dX10_workIs_16 ⟨Nat.le_of_ble_eq_true rfl, Nat.le_of_ble_eq_true rfl⟩) hP hD hS hA [0, 4] [1, 2, 3, 5, 6, 7, 8, 9, 10, 11, 12, 13, 14, 15, 16, 17] rfl rfl (by decide) (by decide) ?_
    clear hP hD hS
    intro r_127 scb_129 H locs w_128 hP hD hS
    replace hP : va_P D vwCl [(k0, .inr (9, [.ref k00, .ref k01, .ref k02, .ref k03, .ref k04, .ref k05, .int c06, .int c07, .int c08])), (k3, .inr (4, [.ref k30, .ref k31, .ref k32, .ref k33, .ref k34, .int c35, .int c36])), (k5, .inr (5, [.ref k50, .int c51, .int c52, .int c53, .int c54, .int c55, .int c56, .int c57])), (k01, .inl (cI, 40, .inl c01)), (k31, .inl (cI, 600, .inl c31)), (k32, .inl (cI, 12, .inl c32)), (k33, .inl (cI, 12, .inl c33)), (k34, .inl (cI, 12, .inl c34)), (k50, .inl (cI, 50, .inl c50)), (k040, .inl (cI, 60, .inl c040)), (k041, .inl (cI, 60, .inl c041)), (k042, .inl (cI, 60, .inl c042)), (k043, .inl (cI, 60, .inl c043)), (k044, .inl (cI, 60, .inl c044)), (k045, .inl (cI, 60, .inl c045)), (k04, .inr (8, [.ref k040, .ref k041, .ref k042, .ref k043, .ref k044, .ref k045, .ref k046, .ref k047, .ref k048, .int c049])), (k, .inr (10, [.ref k0, .ref k1, .ref k2, .ref k3, .ref k4, .ref k5, .ref k6, .ref k7, .ref k8, .ref k9, .ref ka, .ref kb, .int cc])), (kb, .inl (cI, 6, .inl scb_129))] H := hP
    replace hD : va_D A [(k0, .inr (9, [.ref k00, .ref k01, .ref k02, .ref k03, .ref k04, .ref k05, .int c06, .int c07, .int c08])), (k3, .inr (4, [.ref k30, .ref k31, .ref k32, .ref k33, .ref k34, .int c35, .int c36])), (k5, .inr (5, [.ref k50, .int c51, .int c52, .int c53, .int c54, .int c55, .int c56, .int c57])), (k01, .inl (cI, 40, .inl c01)), (k31, .inl (cI, 600, .inl c31)), (k32, .inl (cI, 12, .inl c32)), (k33, .inl (cI, 12, .inl c33)), (k34, .inl (cI, 12, .inl c34)), (k50, .inl (cI, 50, .inl c50)), (k040, .inl (cI, 60, .inl c040)), (k041, .inl (cI, 60, .inl c041)), (k042, .inl (cI, 60, .inl c042)), (k043, .inl (cI, 60, .inl c043)), (k044, .inl (cI, 60, .inl c044)), (k045, .inl (cI, 60, .inl c045)), (k04, .inr (8, [.ref k040, .ref k041, .ref k042, .ref k043, .ref k044, .ref k045, .ref k046, .ref k047, .ref k048, .int c049])), (k, .inr (10, [.ref k0, .ref k1, .ref k2, .ref k3, .ref k4, .ref k5, .ref k6, .ref k7, .ref k8, .ref k9, .ref ka, .ref kb, .int cc])), (kb, .inl (cI, 6, .inl scb_129))] := hD
    have hr_127 := w_128
    obtain rfl : r_127 = (-1000001) := hr_127.trans (by decide)
    exact hRet (c51, c52, c53, c54, c55, c56, c57, scb_129, c50) [16, 0, 1, 2, 17, 3, 15, 4, 5, 6, 7, 8, 9, 10, 11, 12, 13, 14] ⟨(Or.inr ⟨(fun z => by omega), (by (try dsimp only); unfold wiR; (repeat (first | rw [if_pos (by omega)] | rw [if_neg (by omega)])))⟩), pre2⟩ hP hD (by decide) rfl hS rfl dX10_workIs_19

set_option maxHeartbeats 4000000 in
set_option maxRecDepth 100000 in
theorem c_X7_bodyFromD (l : Launch) (D : va_G) (cI : ClassId) (aK aV : Nat → Nat) (sz : Nat) (a0 : Int32) (a1 : Int32) (pre0 : 0 ≤ a0.toInt) (pre1 : a0.toInt ≤ 5) (pre2 : 0 ≤ a1.toInt) (pre3 : a1.toInt ≤ 3) : Met l yX7_bodyFrom (gW yX7_bodyFrom cX7_bodyFrom 5 (some .int)) ({ frames := 1, cells := 0, slots := 0, locals := 20 } : Room) (kPreX D cI aK aV [.int a0, .int a1] [] sz) (va_Qi (fun (r : Int32) (u : Unit) => r = bdV a0 a1 ∧ ((r.toInt = 10 ∧ a1.toInt = 0) ∨ (r.toInt = 11 ∧ a1.toInt = 1) ∨ (r.toInt = 12 ∧ a1.toInt = 2) ∨ (r.toInt = 13 ∧ a1.toInt = 3) ∨ (r.toInt = 20 ∧ a1.toInt = 1 ∧ 1 ≤ a0.toInt) ∨ (r.toInt = 21 ∧ a1.toInt = 3 ∧ 1 ≤ a0.toInt) ∨ (r.toInt = 30 ∧ a1.toInt = 0 ∧ 2 ≤ a0.toInt) ∨ (r.toInt = 31 ∧ a1.toInt = 2 ∧ 2 ≤ a0.toInt) ∨ (r.toInt = 40 ∧ a1.toInt = 2 ∧ a0.toInt = 3) ∨ (r.toInt = 41 ∧ a1.toInt = 3 ∧ a0.toInt = 3) ∨ (r.toInt = 50 ∧ a1.toInt = 0 ∧ 4 ≤ a0.toInt) ∨ (r.toInt = 51 ∧ a1.toInt = 2 ∧ 4 ≤ a0.toInt) ∨ (r.toInt = 60 ∧ a1.toInt = 1 ∧ a0.toInt = 5) ∨ (r.toInt = 61 ∧ a1.toInt = 3 ∧ a0.toInt = 5))) (fun u t => kWd D cI (va_A [] sz) [] t) (va_A [] sz)) 0 0 (va_A [] sz) := by
  refine kMetIX (own := RX7) (by decide) rfl (Nat.le_of_ble_eq_true rfl) ?_
  intro p e s m args below meth c hx hb hT hown hname hml A Q hK hP hD hS hA hN hXS hRet ls hl
  have hl : lv_has ls 5 [(0, .int a0), (1, .int a1)] := hl
  have lo_a0 := k_lo a0
  have hi_a0 := k_hi a0
  have lo_a1 := k_lo a1
  have hi_a1 := k_hi a1
  obtain ⟨hXS1, ⟨tB, hZB, hTB⟩, hXS2⟩ := id hXS
  refine lv_iload_n hx hb dX7_bodyFrom_0 rfl (lv_at hl 0 rfl) ?_
  refine lv_istore_n (lv' := [(2, .int a0), (0, .int a0), (1, .int a1)]) hx hb dX7_bodyFrom_1 rfl hl (by decide) rfl ?_
  clear hl
  intro ls hl
  refine lv_iconst (v := 0) hx hb dX7_bodyFrom_2 (by decide) ?_
  refine lv_istore_n (lv' := [(3, .int 0), (2, .int a0), (0, .int a0), (1, .int a1)]) hx hb dX7_bodyFrom_3 rfl hl (by decide) rfl ?_
  clear hl
  intro ls hl
  have hloop_4 : ∀ (fu_ : Nat) (l4_2 : Int32) (l4_3 : Int32), l4_2.toInt ≤ a0.toInt → 0 ≤ l4_3.toInt → 0 ≤ l4_2.toInt → l4_2.toInt ≤ 5 → hgV l4_2 + l4_3.toInt ≤ 3 → bdV l4_2 a1 = bdV a0 a1 → (6 - l4_3.toInt).toNat < fu_ → ∀ (ls : Array Slot) (H : Heap) (locs : List Loc), lv_has ls 5 [(3, .int l4_3), (2, .int l4_2), (0, .int a0), (1, .int a1)] → va_P D vwCl [] H → va_D A [] → va_S A s.heap H locs → W p l e ({ frames := 1, cells := 0, slots := 0, locals := 20 } : Room) s m args below meth c H locs 0 0 Q (F0 m 4 ls []) := by
    intro fu_; induction fu_ with
    | zero => intro l4_2 l4_3 i4_0 i4_1 i4_2 i4_3 i4_4 i4_5 hm; exact absurd hm (by omega)
    | succ fu_ ih4 =>
        intro l4_2 l4_3 i4_0 i4_1 i4_2 i4_3 i4_4 i4_5 hm ls H locs hl hP hD hS
        have lo_l4_2 := k_lo l4_2
        have hi_l4_2 := k_hi l4_2
        have lo_l4_3 := k_lo l4_3
        have hi_l4_3 := k_hi l4_3
        refine lv_iload_n hx hb dX7_bodyFrom_4 rfl (lv_at hl 0 rfl) ?_
        refine lv_bipush (v := 6) hx hb dX7_bodyFrom_5 (by decide) ?_
        refine b_icmp_ge hx hb rfl zl_6 (tgt := 58) dX7_bodyFrom_7 (by decide) (fun c_1 => ?_) (fun c_1 => ?_)
        · refine lv_bipush (v := 10) hx hb dX7_bodyFrom_58 (by decide) ?_
          exact hRet () [] ⟨(by exfalso; have := hg_le l4_2; omega), (bd_in2 (by exfalso; have := hg_le l4_2; omega) (by omega) (by omega) (by omega) (by omega))⟩ hP hD (by decide) rfl hS rfl dX7_bodyFrom_60
        · refine lv_iload_n hx hb dX7_bodyFrom_10 rfl (lv_at hl 1 rfl) ?_
          refine lv_iconst (v := 4) hx hb dX7_bodyFrom_11 (by decide) ?_
          refine lv_imul hx hb dX7_bodyFrom_12 ?_
          refine lv_topi (fun v_2 ev_2 => ?_)
          have tv_2 : v_2.toInt = l4_2.toInt * 4 := by rw [ev_2]; exact k_mulv rfl zl_4 (by omega) (by omega)
          refine lv_iload_n hx hb dX7_bodyFrom_13 rfl (lv_at hl 3 rfl) ?_
          refine lv_iadd hx hb dX7_bodyFrom_14 ?_
          refine lv_topi (fun v_3 ev_3 => ?_)
          have tv_3 : v_3.toInt = v_2.toInt + a1.toInt := by rw [ev_3]; exact k_addv rfl rfl (by omega) (by omega)
          refine lv_istore (lv' := [(4, .int v_3), (3, .int l4_3), (2, .int l4_2), (0, .int a0), (1, .int a1)]) hx hb dX7_bodyFrom_15 hl (by decide) rfl ?_
          clear hl
          intro ls hl
          refine lv_iload hx hb dX7_bodyFrom_17 (lv_at hl 0 rfl) ?_
          refine b_if_lt hx hb rfl (tgt := 47) dX7_bodyFrom_19 (by decide) (fun c_4 => by exfalso; omega) (fun c_4 => ?_)
          refine lv_iload hx hb dX7_bodyFrom_22 (lv_at hl 0 rfl) ?_
          refine va_gets hx hb hZB hS hown (hT _ mw_1058) (fun _ h9 => h9) dX7_bodyFrom_24 ?_
          refine va_tlen (v := 24) hx hb hTB hS (by decide) dX7_bodyFrom_27 ?_
          refine b_icmp_ge hx hb rfl zl_24 (tgt := 47) dX7_bodyFrom_28 (by decide) (fun c_5 => by exfalso; omega) (fun c_5 => ?_)
          refine va_gets hx hb hZB hS hown (hT _ mw_1058) (fun _ h9 => h9) dX7_bodyFrom_31 ?_
          refine lv_iload hx hb dX7_bodyFrom_34 (lv_at hl 0 rfl) ?_
          refine va_ti (v := .int (bodL.getD v_3.toNatClampNeg 0)) hx hb hTB hS (k_in (by omega) (by omega)) rfl dX7_bodyFrom_36 ?_
          refine lv_topi (fun v_6 ev_6 => ?_)
          have lo_v_6 := k_lo v_6
          have hi_v_6 := k_hi v_6
          refine b_if_eq hx hb rfl (tgt := 47) dX7_bodyFrom_37 (by decide) (fun c_7 => ?_) (fun c_7 => ?_)
          · refine lv_iload_n hx hb dX7_bodyFrom_47 rfl (lv_at hl 2 rfl) ?_
            refine kJi (wr := []) (va_runSN (As := [.int l4_2]) (rest := []) ⟨hx, hb, hml, hown, hT⟩ (c_X10_kindAboveD l D cI aK aV H.size l4_2) ⟨va_cnB 1 hT (gW_in mw_390) rfl rfl rfl (hN _ mw_1060) (hT _ mw_1) (by decide +kernel) ⟨Nat.le_of_ble_eq_true rfl, Nat.le_of_ble_eq_true rfl⟩, hT _ mw_389, trivial⟩ (kStatX hK hP hD hN hXS hS hA [] rfl (by decide)) rfl rfl hl.1 rfl (lv_room (Nat.le_of_ble_eq_true rfl)) dX7_bodyFrom_48 ⟨Nat.le_of_ble_eq_true rfl, Nat.le_of_ble_eq_true rfl⟩) hP hD hS hA [] [] rfl rfl (by decide) (by decide) ?_
            clear hP hD hS
            intro r_8 u_10 H locs w_9 hP hD hS
            replace hP : va_P D vwCl [] H := hP
            replace hD : va_D A [] := hD
            rcases w_9 with ⟨hr_8, h_11⟩ | ⟨hr_8, h_12⟩ | ⟨hr_8, h_13⟩ | ⟨hr_8, h_14, h_15, h_16⟩
            · have h_11 : l4_2.toInt = 2 := h_11
              obtain rfl : r_8 = 1 := hr_8.trans (by decide)
              refine lv_istore_n (lv' := [(2, .int 1), (4, .int v_3), (3, .int l4_3), (0, .int a0), (1, .int a1)]) hx hb dX7_bodyFrom_51 rfl hl (by decide) rfl ?_
              clear hl
              intro ls hl
              obtain ⟨v_17, ev_17⟩ : ∃ y : Int32, y = l4_3 + 1 := ⟨_, rfl⟩
              have tv_17 : v_17.toInt = l4_3.toInt + 1 := by rw [ev_17]; exact k_addv rfl zl_1 (by omega) (by omega)
              refine lv_iinc (v := v_17) (lv' := [(3, .int v_17), (2, .int 1), (4, .int v_3), (0, .int a0), (1, .int a1)]) hx hb dX7_bodyFrom_52 hl (k := 2) rfl (by rw [ev_17]; rfl) (by decide) rfl ?_
              clear hl
              intro ls hl
              refine lv_goto (tgt := 4) hx hb dX7_bodyFrom_55 (by decide) ?_
              exact ih4 1 v_17 (by first | omega | (simp only [zl_1]; first | done | omega) | decide | assumption | rfl) (by first | omega | (simp only [zl_1]; first | done | omega) | decide | assumption | rfl) (by first | omega | (simp only [zl_1]; first | done | omega) | decide | assumption | rfl) (by first | omega | (simp only [zl_1]; first | done | omega) | decide | assumption | rfl) (by rw [hg_up (a := l4_2) (p := 1) (by have := zl_1; omega)]; omega) (Eq.trans (bd_up (a := l4_2) (p := 1) (by rw [← bod_at (a := l4_2) (c := a1) ev_6 (by omega) (by omega) (by omega) (by omega) (by rw [k_clamp]; omega)]; omega) (by have := zl_1; omega) (by omega) (by omega)) i4_5) (by omega) ls _ _ (lv_sub hl [0, 1, 3, 4] rfl) (hP.sub [] rfl) (hD.sub [] (by decide) rfl) hS
            · have h_12 : l4_2.toInt = 3 := h_12
              obtain rfl : r_8 = 2 := hr_8.trans (by decide)
              refine lv_istore_n (lv' := [(2, .int 2), (4, .int v_3), (3, .int l4_3), (0, .int a0), (1, .int a1)]) hx hb dX7_bodyFrom_51 rfl hl (by decide) rfl ?_
              clear hl
              intro ls hl
              obtain ⟨v_18, ev_18⟩ : ∃ y : Int32, y = l4_3 + 1 := ⟨_, rfl⟩
              have tv_18 : v_18.toInt = l4_3.toInt + 1 := by rw [ev_18]; exact k_addv rfl zl_1 (by omega) (by omega)
              refine lv_iinc (v := v_18) (lv' := [(3, .int v_18), (2, .int 2), (4, .int v_3), (0, .int a0), (1, .int a1)]) hx hb dX7_bodyFrom_52 hl (k := 2) rfl (by rw [ev_18]; rfl) (by decide) rfl ?_
              clear hl
              intro ls hl
              refine lv_goto (tgt := 4) hx hb dX7_bodyFrom_55 (by decide) ?_
              exact ih4 2 v_18 (by first | omega | (simp only [zl_2]; first | done | omega) | decide | assumption | rfl) (by first | omega | (simp only [zl_2]; first | done | omega) | decide | assumption | rfl) (by first | omega | (simp only [zl_2]; first | done | omega) | decide | assumption | rfl) (by first | omega | (simp only [zl_2]; first | done | omega) | decide | assumption | rfl) (by rw [hg_up (a := l4_2) (p := 2) (by have := zl_2; omega)]; omega) (Eq.trans (bd_up (a := l4_2) (p := 2) (by rw [← bod_at (a := l4_2) (c := a1) ev_6 (by omega) (by omega) (by omega) (by omega) (by rw [k_clamp]; omega)]; omega) (by have := zl_2; omega) (by omega) (by omega)) i4_5) (by omega) ls _ _ (lv_sub hl [0, 1, 3, 4] rfl) (hP.sub [] rfl) (hD.sub [] (by decide) rfl) hS
            · have h_13 : l4_2.toInt = 5 := h_13
              obtain rfl : r_8 = 4 := hr_8.trans (by decide)
              refine lv_istore_n (lv' := [(2, .int 4), (4, .int v_3), (3, .int l4_3), (0, .int a0), (1, .int a1)]) hx hb dX7_bodyFrom_51 rfl hl (by decide) rfl ?_
              clear hl
              intro ls hl
              obtain ⟨v_19, ev_19⟩ : ∃ y : Int32, y = l4_3 + 1 := ⟨_, rfl⟩
              have tv_19 : v_19.toInt = l4_3.toInt + 1 := by rw [ev_19]; exact k_addv rfl zl_1 (by omega) (by omega)
              refine lv_iinc (v := v_19) (lv' := [(3, .int v_19), (2, .int 4), (4, .int v_3), (0, .int a0), (1, .int a1)]) hx hb dX7_bodyFrom_52 hl (k := 2) rfl (by rw [ev_19]; rfl) (by decide) rfl ?_
              clear hl
              intro ls hl
              refine lv_goto (tgt := 4) hx hb dX7_bodyFrom_55 (by decide) ?_
              exact ih4 4 v_19 (by first | omega | (simp only [zl_4]; first | done | omega) | decide | assumption | rfl) (by first | omega | (simp only [zl_4]; first | done | omega) | decide | assumption | rfl) (by first | omega | (simp only [zl_4]; first | done | omega) | decide | assumption | rfl) (by first | omega | (simp only [zl_4]; first | done | omega) | decide | assumption | rfl) (by rw [hg_up (a := l4_2) (p := 4) (by have := zl_4; omega)]; omega) (Eq.trans (bd_up (a := l4_2) (p := 4) (by rw [← bod_at (a := l4_2) (c := a1) ev_6 (by omega) (by omega) (by omega) (by omega) (by rw [k_clamp]; omega)]; omega) (by have := zl_4; omega) (by omega) (by omega)) i4_5) (by omega) ls _ _ (lv_sub hl [0, 1, 3, 4] rfl) (hP.sub [] rfl) (hD.sub [] (by decide) rfl) hS
            · have h_14 : l4_2.toInt ≠ 2 := h_14
              have h_15 : l4_2.toInt ≠ 3 := h_15
              have h_16 : l4_2.toInt ≠ 5 := h_16
              obtain rfl : r_8 = 0 := hr_8.trans (by decide)
              refine lv_istore_n (lv' := [(2, .int 0), (4, .int v_3), (3, .int l4_3), (0, .int a0), (1, .int a1)]) hx hb dX7_bodyFrom_51 rfl hl (by decide) rfl ?_
              clear hl
              intro ls hl
              obtain ⟨v_20, ev_20⟩ : ∃ y : Int32, y = l4_3 + 1 := ⟨_, rfl⟩
              have tv_20 : v_20.toInt = l4_3.toInt + 1 := by rw [ev_20]; exact k_addv rfl zl_1 (by omega) (by omega)
              refine lv_iinc (v := v_20) (lv' := [(3, .int v_20), (2, .int 0), (4, .int v_3), (0, .int a0), (1, .int a1)]) hx hb dX7_bodyFrom_52 hl (k := 2) rfl (by rw [ev_20]; rfl) (by decide) rfl ?_
              clear hl
              intro ls hl
              refine lv_goto (tgt := 4) hx hb dX7_bodyFrom_55 (by decide) ?_
              exact ih4 0 v_20 (by first | omega | (simp only [zl_0]; first | done | omega) | decide | assumption | rfl) (by first | omega | (simp only [zl_0]; first | done | omega) | decide | assumption | rfl) (by first | omega | (simp only [zl_0]; first | done | omega) | decide | assumption | rfl) (by first | omega | (simp only [zl_0]; first | done | omega) | decide | assumption | rfl) (by rw [hg_up (a := l4_2) (p := 0) (by have hn : l4_2.toInt ≠ 0 := (fun z => bk_0 (c := a1) (by omega) (by omega) z (by rw [← bod_at (a := l4_2) (c := a1) ev_6 (by omega) (by omega) (by omega) (by omega) (by rw [k_clamp]; omega)]; omega)); have := zl_0; omega)]; omega) (Eq.trans (bd_up (a := l4_2) (p := 0) (by rw [← bod_at (a := l4_2) (c := a1) ev_6 (by omega) (by omega) (by omega) (by omega) (by rw [k_clamp]; omega)]; omega) (by have hn : l4_2.toInt ≠ 0 := (fun z => bk_0 (c := a1) (by omega) (by omega) z (by rw [← bod_at (a := l4_2) (c := a1) ev_6 (by omega) (by omega) (by omega) (by omega) (by rw [k_clamp]; omega)]; omega)); have := zl_0; omega) (by omega) (by omega)) i4_5) (by omega) ls _ _ (lv_sub hl [0, 1, 3, 4] rfl) (hP.sub [] rfl) (hD.sub [] (by decide) rfl) hS
          · refine va_gets hx hb hZB hS hown (hT _ mw_1058) (fun _ h9 => h9) dX7_bodyFrom_40 ?_
            refine lv_iload hx hb dX7_bodyFrom_43 (lv_at hl 0 rfl) ?_
            refine va_ti (v := .int v_6) hx hb hTB hS (k_in (by omega) (by omega)) (by rw [ev_6]) dX7_bodyFrom_45 ?_
            exact hRet () [] ⟨(bd_ret (a := l4_2) (c := a1) ev_6 (by omega) (by omega) (by omega) (by omega) (by rw [k_clamp]; omega) (by omega) i4_5), (bd_in2 (bd_ret (a := l4_2) (c := a1) ev_6 (by omega) (by omega) (by omega) (by omega) (by rw [k_clamp]; omega) (by omega) i4_5) (by omega) (by omega) (by omega) (by omega))⟩ hP hD (by decide) rfl hS rfl dX7_bodyFrom_46
  exact hloop_4 _ a0 0 (by first | omega | (simp only [zl_0]; first | done | omega) | decide | assumption | rfl) (by first | omega | (simp only [zl_0]; first | done | omega) | decide | assumption | rfl) (by first | omega | (simp only [zl_0]; first | done | omega) | decide | assumption | rfl) (by first | omega | (simp only [zl_0]; first | done | omega) | decide | assumption | rfl) (by have := hg_le a0; have := zl_0; omega) rfl (Nat.lt_succ_self _) ls _ _ (lv_sub hl [0, 1, 2, 3] rfl) hP hD hS

def SAYD (dd : Nat) : Prop := ∀ (l : Launch) (D : va_G) (cI : ClassId) (aK aV : Nat → Nat) (k k0 : Nat) (sz : Nat) (c1 : Int32) (c2 : Int32) (c3 : Int32) (c4 : Int32) (c0 : Nat → Int32) (a0 : Int32) (a1 : Int32) (a2 : Int32) (a3 : Int32) (pre0 : (6 * a1.toInt + a0.toInt).toNat < dd) (pre1 : 0 ≤ a0.toInt) (pre2 : a0.toInt ≤ 5) (pre3 : 0 ≤ a1.toInt) (pre4 : a1.toInt ≤ 3) (pre5 : 0 ≤ a3.toInt) (pre6 : a3.toInt + 6 * a1.toInt + a0.toInt ≤ 40) (pre7 : 0 ≤ c2.toInt) (pre8 : c2.toInt ≤ 5) (pre9 : 0 ≤ c1.toInt) (pre10 : c1.toInt ≤ 40) , Met l yX7_say (gW yX7_say cX7_say 7 (some .int)) ({ frames := 4 * dd, cells := 0, slots := 0, locals := 128 * dd } : Room) (kPreX D cI aK aV [.ref k, .int a0, .int a1, .int a2, .int a3] [(k, .inr (7, [.ref k0, .int c1, .int c2, .int c3, .int c4])), (k0, .inl (cI, 40, .inl c0))] sz) (va_Qi (fun (r : Int32) (u : Int32 × (Nat → Int32)) => voB c3 c4 c2 dd a0 a1 a2 c1 c0 = (r, u.1, u.2) ∧ 0 ≤ u.1.toInt ∧ u.1.toInt ≤ 40) (fun u t => kWd D cI (va_A [(k, .inr (7, [.ref k0, .int c1, .int c2, .int c3, .int c4])), (k0, .inl (cI, 40, .inl c0))] sz) [(k, .inr (7, [.ref k0, .int u.1, .int c2, .int c3, .int c4])), (k0, .inl (cI, 40, .inl u.2))] t) (va_A [(k, .inr (7, [.ref k0, .int c1, .int c2, .int c3, .int c4])), (k0, .inl (cI, 40, .inl c0))] sz)) 0 0 (va_A [(k, .inr (7, [.ref k0, .int c1, .int c2, .int c3, .int c4])), (k0, .inl (cI, 40, .inl c0))] sz)
set_option maxHeartbeats 4000000 in
set_option maxRecDepth 100000 in
theorem c_X7_ownD_of (dd : Nat) (ih : SAYD dd) (l : Launch) (D : va_G) (cI : ClassId) (aK aV : Nat → Nat) (k k0 : Nat) (sz : Nat) (c1 : Int32) (c2 : Int32) (c3 : Int32) (c4 : Int32) (c0 : Nat → Int32) (a0 : Int32) (a1 : Int32) (a2 : Int32) (pre0 : (6 * a0.toInt + c2.toInt).toNat < dd) (pre1 : 0 ≤ a0.toInt) (pre2 : a0.toInt ≤ 3) (pre3 : 0 ≤ a2.toInt) (pre4 : a2.toInt + 6 * a0.toInt + c2.toInt ≤ 40) (pre5 : 0 ≤ c2.toInt) (pre6 : c2.toInt ≤ 5) (pre7 : 0 ≤ c1.toInt) (pre8 : c1.toInt ≤ 40)  : Met l yX7_own (gW yX7_own cX7_own 4 (some .int)) ({ frames := 4 * dd + 2, cells := 0, slots := 0, locals := 128 * dd + 64 } : Room) (kPreX D cI aK aV [.ref k, .int a0, .int a1, .int a2] [(k, .inr (7, [.ref k0, .int c1, .int c2, .int c3, .int c4])), (k0, .inl (cI, 40, .inl c0))] sz) (va_Qi (fun (r : Int32) (u : Int32 × (Nat → Int32)) => voB c3 c4 c2 dd c2 a0 a1 c1 c0 = (r, u.1, u.2) ∧ 0 ≤ u.1.toInt ∧ u.1.toInt ≤ 40) (fun u t => kWd D cI (va_A [(k, .inr (7, [.ref k0, .int c1, .int c2, .int c3, .int c4])), (k0, .inl (cI, 40, .inl c0))] sz) [(k, .inr (7, [.ref k0, .int u.1, .int c2, .int c3, .int c4])), (k0, .inl (cI, 40, .inl u.2))] t) (va_A [(k, .inr (7, [.ref k0, .int c1, .int c2, .int c3, .int c4])), (k0, .inl (cI, 40, .inl c0))] sz)) 0 0 (va_A [(k, .inr (7, [.ref k0, .int c1, .int c2, .int c3, .int c4])), (k0, .inl (cI, 40, .inl c0))] sz) := by
  refine kMetIX (own := RX7) (by decide) rfl (Nat.le_of_ble_eq_true rfl) ?_
  intro p e s m args below meth c hx hb hT hown hname hml A Q hK hP hD hS hA hN hXS hRet ls hl
  have hl : lv_has ls 4 [(0, .ref k), (1, .int a0), (2, .int a1), (3, .int a2)] := hl
  have lo_a0 := k_lo a0
  have hi_a0 := k_hi a0
  have lo_a1 := k_lo a1
  have hi_a1 := k_hi a1
  have lo_a2 := k_lo a2
  have hi_a2 := k_hi a2
  have lo_c1 := k_lo c1
  have hi_c1 := k_hi c1
  have lo_c2 := k_lo c2
  have hi_c2 := k_hi c2
  have lo_c3 := k_lo c3
  have hi_c3 := k_hi c3
  have lo_c4 := k_lo c4
  have hi_c4 := k_hi c4
  refine lv_aload_n hx hb dX7_own_0 rfl (lv_at hl 0 rfl) ?_
  refine lv_aload_n hx hb dX7_own_1 rfl (lv_at hl 0 rfl) ?_
  refine va_get (D := D) (ci := 7) (v := .int c2) (C := RX7) (T := TX7) (N := 5) hx hb hT giX7 hown hK hP 0 rfl rfl 2 (by decide) (hT (Cond.fieldLink RX7 19 "DesertWire$Voices" "kind" "I") mw_261) (fun _ h9 => h9) rfl dX7_own_2 ?_
  refine lv_iload_n hx hb dX7_own_5 rfl (lv_at hl 1 rfl) ?_
  refine lv_iload_n hx hb dX7_own_6 rfl (lv_at hl 2 rfl) ?_
  refine lv_iload_n hx hb dX7_own_7 rfl (lv_at hl 3 rfl) ?_
  refine kJi (wr := []) (va_runV (As := [.int c2, .int a0, .int a1, .int a2]) (rest := []) ⟨hx, hb, hml, hown, hT⟩ (ih l D cI aK aV k k0 s.heap.size c1 c2 c3 c4 c0 c2 a0 a1 a2 (by first | omega | decide | assumption | rfl) (by first | omega | decide | assumption | rfl) (by first | omega | decide | assumption | rfl) (by first | omega | decide | assumption | rfl) (by first | omega | decide | assumption | rfl) (by first | omega | decide | assumption | rfl) (by first | omega | decide | assumption | rfl) (by first | omega | decide | assumption | rfl) (by first | omega | decide | assumption | rfl) (by first | omega | decide | assumption | rfl) (by first | omega | decide | assumption | rfl)) (cwV 4 hT (gV_in mw_1054 mw_1051 mw_1053 mw_p3_7 mw_10) rfl rfl rfl (by decide +kernel) ⟨(by dsimp only; omega), (by dsimp only; omega)⟩) (kRecvX (q0 := 0) (ci := 7) hK hP hD hN hXS hS hA rfl rfl [0, 1] rfl (by decide)) rfl rfl hl.1 rfl (lv_room (Nat.le_of_ble_eq_true rfl)) dX7_own_8 ⟨Nat.le_of_ble_eq_true rfl, Nat.le_of_ble_eq_true rfl⟩) hP hD hS hA [0, 1] [] rfl rfl (by decide) (by decide) ?_
  clear hP hD hS
  intro r_1 u_5 H locs w_2 hP hD hS
  obtain ⟨sc1_3, sc0_4⟩ := u_5
  replace hP : va_P D vwCl [(k, .inr (7, [.ref k0, .int sc1_3, .int c2, .int c3, .int c4])), (k0, .inl (cI, 40, .inl sc0_4))] H := hP
  replace hD : va_D A [(k, .inr (7, [.ref k0, .int sc1_3, .int c2, .int c3, .int c4])), (k0, .inl (cI, 40, .inl sc0_4))] := hD
  have lo_sc1_3 := k_lo sc1_3
  have hi_sc1_3 := k_hi sc1_3
  obtain ⟨h_6, h_7, h_8⟩ := w_2
  have h_6 : voB c3 c4 c2 dd c2 a0 a1 c1 c0 = (r_1, sc1_3, sc0_4) := h_6
  have h_7 : 0 ≤ sc1_3.toInt := h_7
  have h_8 : sc1_3.toInt ≤ 40 := h_8
  have lo_r_1 := k_lo r_1
  have hi_r_1 := k_hi r_1
  exact hRet (sc1_3, sc0_4) [0, 1] ⟨h_6, (by first | omega | decide | assumption | rfl | (dsimp only; first | omega)), (by first | omega | decide | assumption | rfl | (dsimp only; first | omega))⟩ hP hD (by decide) rfl hS rfl dX7_own_11
set_option maxHeartbeats 4000000 in
set_option maxRecDepth 100000 in
theorem c_X7_sayDR : ∀ dd : Nat, SAYD dd := by
  intro dd
  induction dd with
  | zero => intro l D cI aK aV k k0 sz c1 c2 c3 c4 c0 a0 a1 a2 a3 pre0 pre1 pre2 pre3 pre4 pre5 pre6 pre7 pre8 pre9 pre10; exact absurd pre0 (by omega)
  | succ dd ih =>
    intro l D cI aK aV k k0 sz c1 c2 c3 c4 c0 a0 a1 a2 a3 pre0 pre1 pre2 pre3 pre4 pre5 pre6 pre7 pre8 pre9 pre10
    refine kMetIX (own := RX7) (by decide) rfl (Nat.le_of_ble_eq_true rfl) ?_
    intro p e s m args below meth c hx hb hT hown hname hml A Q hK hP hD hS hA hN hXS hRet ls hl
    have hl : lv_has ls 7 [(0, .ref k), (1, .int a0), (2, .int a1), (3, .int a2), (4, .int a3)] := hl
    have lo_a0 := k_lo a0
    have hi_a0 := k_hi a0
    have lo_a1 := k_lo a1
    have hi_a1 := k_hi a1
    have lo_a2 := k_lo a2
    have hi_a2 := k_hi a2
    have lo_a3 := k_lo a3
    have hi_a3 := k_hi a3
    have lo_c1 := k_lo c1
    have hi_c1 := k_hi c1
    have lo_c2 := k_lo c2
    have hi_c2 := k_hi c2
    have lo_c3 := k_lo c3
    have hi_c3 := k_hi c3
    have lo_c4 := k_lo c4
    have hi_c4 := k_hi c4
    refine lv_iload hx hb dX7_say_0 (lv_at hl 4 rfl) ?_
    refine lv_bipush (v := 40) hx hb dX7_say_2 (by decide) ?_
    refine b_icmp_le hx hb rfl zl_40 (tgt := 9) dX7_say_4 (by decide) (fun c_1 => ?_) (fun c_1 => by exfalso; omega)
    refine lv_iload_n hx hb dX7_say_9 rfl (lv_at hl 1 rfl) ?_
    refine lv_iload_n hx hb dX7_say_10 rfl (lv_at hl 2 rfl) ?_
    refine kJi (wr := [(k, .inr (7, [.ref k0, .int c1, .int c2, .int c3, .int c4])), (k0, .inl (cI, 40, .inl c0))]) (va_runS (As := [.int a0, .int a1]) (rest := []) ⟨hx, hb, hml, hown, hT⟩ (c_X7_bodyFromD l D cI aK aV s.heap.size a0 a1 (by first | omega | decide | assumption | rfl) (by first | omega | decide | assumption | rfl) (by first | omega | decide | assumption | rfl) (by first | omega | decide | assumption | rfl)) (cwS 2 hT (gS_in mw_1057 mw_1055 mw_1056 mw_10) rfl rfl rfl (by decide +kernel) ⟨(by dsimp only; omega), (by dsimp only; omega)⟩) (kStatX hK hP hD hN hXS hS hA [] rfl (by decide)) rfl rfl hl.1 rfl (lv_room (Nat.le_of_ble_eq_true rfl)) dX7_say_11 ⟨Nat.le_of_ble_eq_true rfl, Nat.le_of_ble_eq_true rfl⟩) hP hD hS hA [] [0, 1] rfl rfl (by decide) (by decide) ?_
    clear hP hD hS
    intro r_2 u_4 H locs w_3 hP hD hS
    replace hP : va_P D vwCl [(k, .inr (7, [.ref k0, .int c1, .int c2, .int c3, .int c4])), (k0, .inl (cI, 40, .inl c0))] H := hP
    replace hD : va_D A [(k, .inr (7, [.ref k0, .int c1, .int c2, .int c3, .int c4])), (k0, .inl (cI, 40, .inl c0))] := hD
    obtain ⟨h_5, h_6⟩ := w_3
    have h_5 : r_2 = bdV a0 a1 := h_5
    have h_6 : (r_2.toInt = 10 ∧ a1.toInt = 0) ∨ (r_2.toInt = 11 ∧ a1.toInt = 1) ∨ (r_2.toInt = 12 ∧ a1.toInt = 2) ∨ (r_2.toInt = 13 ∧ a1.toInt = 3) ∨ (r_2.toInt = 20 ∧ a1.toInt = 1 ∧ 1 ≤ a0.toInt) ∨ (r_2.toInt = 21 ∧ a1.toInt = 3 ∧ 1 ≤ a0.toInt) ∨ (r_2.toInt = 30 ∧ a1.toInt = 0 ∧ 2 ≤ a0.toInt) ∨ (r_2.toInt = 31 ∧ a1.toInt = 2 ∧ 2 ≤ a0.toInt) ∨ (r_2.toInt = 40 ∧ a1.toInt = 2 ∧ a0.toInt = 3) ∨ (r_2.toInt = 41 ∧ a1.toInt = 3 ∧ a0.toInt = 3) ∨ (r_2.toInt = 50 ∧ a1.toInt = 0 ∧ 4 ≤ a0.toInt) ∨ (r_2.toInt = 51 ∧ a1.toInt = 2 ∧ 4 ≤ a0.toInt) ∨ (r_2.toInt = 60 ∧ a1.toInt = 1 ∧ a0.toInt = 5) ∨ (r_2.toInt = 61 ∧ a1.toInt = 3 ∧ a0.toInt = 5) := h_6
    have lo_r_2 := k_lo r_2
    have hi_r_2 := k_hi r_2
    refine lv_istore (lv' := [(5, .int r_2), (0, .ref k), (1, .int a0), (2, .int a1), (3, .int a2), (4, .int a3)]) hx hb dX7_say_14 hl (by decide) rfl ?_
    clear hl
    intro ls hl
    refine lv_aload_n hx hb dX7_say_16 rfl (lv_at hl 1 rfl) ?_
    refine va_get (D := D) (ci := 7) (v := .int c1) (C := RX7) (T := TX7) (N := 5) hx hb hT giX7 hown hK hP 0 rfl rfl 1 (by decide) (hT (Cond.fieldLink RX7 15 "DesertWire$Voices" "begun" "I") mw_259) (fun _ h9 => h9) rfl dX7_say_17 ?_
    refine b_if_lt hx hb rfl (tgt := 53) dX7_say_20 (by decide) (fun c_7 => by exfalso; omega) (fun c_7 => ?_)
    refine lv_aload_n hx hb dX7_say_23 rfl (lv_at hl 1 rfl) ?_
    refine va_get (D := D) (ci := 7) (v := .int c1) (C := RX7) (T := TX7) (N := 5) hx hb hT giX7 hown hK hP 0 rfl rfl 1 (by decide) (hT (Cond.fieldLink RX7 15 "DesertWire$Voices" "begun" "I") mw_259) (fun _ h9 => h9) rfl dX7_say_24 ?_
    refine lv_bipush (v := 40) hx hb dX7_say_27 (by decide) ?_
    refine b_icmp_ge hx hb rfl zl_40 (tgt := 53) dX7_say_29 (by decide) (fun c_8 => ?_) (fun c_8 => ?_)
    · refine lv_iload hx hb dX7_say_53 (lv_at hl 5 rfl) ?_
      refine lv_iconst (v := 1) hx hb dX7_say_55 (by decide) ?_
      refine lv_iadd hx hb dX7_say_56 ?_
      refine lv_topi (fun v_9 ev_9 => ?_)
      have tv_9 : v_9.toInt = a3.toInt + 1 := by rw [ev_9]; exact k_addv rfl zl_1 (by omega) (by omega)
      refine lv_istore (lv' := [(6, .int v_9), (5, .int r_2), (0, .ref k), (1, .int a0), (2, .int a1), (3, .int a2), (4, .int a3)]) hx hb dX7_say_57 hl (by decide) rfl ?_
      clear hl
      intro ls hl
      refine lv_iload hx hb dX7_say_59 (lv_at hl 1 rfl) ?_
      by_cases c_10 : r_2.toInt = 10
      · refine lv_tableIn (off := 219) (tgt := 280) hx hb dX7_say_61 (by omega) (by omega) (by rw [c_10]; decide) (by decide) ?_
        refine lv_iload_n hx hb dX7_say_280 rfl (lv_at hl 5 rfl) ?_
        refine lv_aload_n hx hb dX7_say_281 rfl (lv_at hl 2 rfl) ?_
        refine va_get (D := D) (ci := 7) (v := .int c3) (C := RX7) (T := TX7) (N := 5) hx hb hT giX7 hown hK hP 0 rfl rfl 3 (by decide) (hT (Cond.fieldLink RX7 22 "DesertWire$Voices" "n" "I") mw_262) (fun _ h9 => h9) rfl dX7_say_282 ?_
        refine lv_isub hx hb dX7_say_285 ?_
        refine lv_topi (fun v_11 ev_11 => ?_)
        have lo_v_11 := k_lo v_11
        have hi_v_11 := k_hi v_11
        exact hRet (c1, c0) [0, 1] ⟨(vo_10 (m1 := c1) (g1 := c0) h_5 (by omega) (by unfold mSV; rw [if_neg (by omega)]) (by unfold gSV; rw [if_neg (by omega)])  ev_11), (by first | omega | decide | assumption | rfl | (dsimp only; first | omega)), (by first | omega | decide | assumption | rfl | (dsimp only; first | omega))⟩ hP hD (by decide) rfl hS rfl dX7_say_286
      by_cases c_12 : r_2.toInt = 11
      · refine lv_tableIn (off := 226) (tgt := 287) hx hb dX7_say_61 (by omega) (by omega) (by rw [c_12]; decide) (by decide) ?_
        refine lv_aload_n hx hb dX7_say_287 rfl (lv_at hl 2 rfl) ?_
        refine lv_iconst (v := 0) hx hb dX7_say_288 (by decide) ?_
        refine lv_iload_n hx hb dX7_say_289 rfl (lv_at hl 5 rfl) ?_
        refine lv_iload hx hb dX7_say_290 (lv_at hl 0 rfl) ?_
        refine kJi (wr := []) (va_runV (As := [.int 0, .int a2, .int v_9]) (rest := []) ⟨hx, hb, hml, hown, hT⟩ (c_X7_ownD_of dd ih l D cI aK aV k k0 H.size c1 c2 c3 c4 c0 0 a2 v_9 (by first | omega | (simp only [zl_0]; first | done | omega) | decide | assumption | rfl) (by first | omega | (simp only [zl_0]; first | done | omega) | decide | assumption | rfl) (by first | omega | (simp only [zl_0]; first | done | omega) | decide | assumption | rfl) (by first | omega | (simp only [zl_0]; first | done | omega) | decide | assumption | rfl) (by first | omega | (simp only [zl_0]; first | done | omega) | decide | assumption | rfl) (by first | omega | (simp only [zl_0]; first | done | omega) | decide | assumption | rfl) (by first | omega | (simp only [zl_0]; first | done | omega) | decide | assumption | rfl) (by first | omega | (simp only [zl_0]; first | done | omega) | decide | assumption | rfl) (by first | omega | (simp only [zl_0]; first | done | omega) | decide | assumption | rfl)) (cwV 3 hT (gV_in mw_1050 mw_1047 mw_1049 mw_p3_6 mw_10) rfl rfl rfl (by decide +kernel) ⟨(by dsimp only; omega), (by dsimp only; omega)⟩) (kRecvX (q0 := 0) (ci := 7) hK hP hD hN hXS hS hA rfl rfl [0, 1] rfl (by decide)) rfl rfl hl.1 rfl (lv_room (Nat.le_of_ble_eq_true rfl)) dX7_say_292 ⟨Nat.le_of_ble_eq_true rfl, Nat.le_of_ble_eq_true rfl⟩) hP hD hS hA [0, 1] [] rfl rfl (by decide) (by decide) ?_
        clear hP hD hS
        intro r_13 u_17 H locs w_14 hP hD hS
        obtain ⟨sc1_15, sc0_16⟩ := u_17
        replace hP : va_P D vwCl [(k, .inr (7, [.ref k0, .int sc1_15, .int c2, .int c3, .int c4])), (k0, .inl (cI, 40, .inl sc0_16))] H := hP
        replace hD : va_D A [(k, .inr (7, [.ref k0, .int sc1_15, .int c2, .int c3, .int c4])), (k0, .inl (cI, 40, .inl sc0_16))] := hD
        have lo_sc1_15 := k_lo sc1_15
        have hi_sc1_15 := k_hi sc1_15
        obtain ⟨h_18, h_19, h_20⟩ := w_14
        try simp only [zl_0] at h_18
        have h_18 : voB c3 c4 c2 dd c2 0 a2 c1 c0 = (r_13, sc1_15, sc0_16) := h_18
        try simp only [zl_0] at h_19
        have h_19 : 0 ≤ sc1_15.toInt := h_19
        try simp only [zl_0] at h_20
        have h_20 : sc1_15.toInt ≤ 40 := h_20
        have lo_r_13 := k_lo r_13
        have hi_r_13 := k_hi r_13
        refine lv_aload_n hx hb dX7_say_295 rfl (lv_at hl 2 rfl) ?_
        refine va_get (D := D) (ci := 7) (v := .int c4) (C := RX7) (T := TX7) (N := 5) hx hb hT giX7 hown hK hP 0 rfl rfl 4 (by decide) (hT (Cond.fieldLink RX7 25 "DesertWire$Voices" "w" "I") mw_263) (fun _ h9 => h9) rfl dX7_say_296 ?_
        refine lv_iadd hx hb dX7_say_299 ?_
        refine lv_topi (fun v_21 ev_21 => ?_)
        have lo_v_21 := k_lo v_21
        have hi_v_21 := k_hi v_21
        exact hRet (sc1_15, sc0_16) [0, 1] ⟨(vo_11 (m1 := c1) (g1 := c0) h_5 (by omega) (by unfold mSV; rw [if_neg (by omega)]) (by unfold gSV; rw [if_neg (by omega)]) h_18 ev_21), (by first | omega | decide | assumption | rfl | (dsimp only; first | omega)), (by first | omega | decide | assumption | rfl | (dsimp only; first | omega))⟩ hP hD (by decide) rfl hS rfl dX7_say_300
      by_cases c_22 : r_2.toInt = 12
      · refine lv_tableIn (off := 240) (tgt := 301) hx hb dX7_say_61 (by omega) (by omega) (by rw [c_22]; decide) (by decide) ?_
        refine lv_aload_n hx hb dX7_say_301 rfl (lv_at hl 2 rfl) ?_
        refine lv_iconst (v := 1) hx hb dX7_say_302 (by decide) ?_
        refine lv_iload_n hx hb dX7_say_303 rfl (lv_at hl 5 rfl) ?_
        refine lv_iload hx hb dX7_say_304 (lv_at hl 0 rfl) ?_
        refine kJi (wr := []) (va_runV (As := [.int 1, .int a2, .int v_9]) (rest := []) ⟨hx, hb, hml, hown, hT⟩ (c_X7_ownD_of dd ih l D cI aK aV k k0 H.size c1 c2 c3 c4 c0 1 a2 v_9 (by first | omega | (simp only [zl_1]; first | done | omega) | decide | assumption | rfl) (by first | omega | (simp only [zl_1]; first | done | omega) | decide | assumption | rfl) (by first | omega | (simp only [zl_1]; first | done | omega) | decide | assumption | rfl) (by first | omega | (simp only [zl_1]; first | done | omega) | decide | assumption | rfl) (by first | omega | (simp only [zl_1]; first | done | omega) | decide | assumption | rfl) (by first | omega | (simp only [zl_1]; first | done | omega) | decide | assumption | rfl) (by first | omega | (simp only [zl_1]; first | done | omega) | decide | assumption | rfl) (by first | omega | (simp only [zl_1]; first | done | omega) | decide | assumption | rfl) (by first | omega | (simp only [zl_1]; first | done | omega) | decide | assumption | rfl)) (cwV 3 hT (gV_in mw_1050 mw_1047 mw_1049 mw_p3_6 mw_10) rfl rfl rfl (by decide +kernel) ⟨(by dsimp only; omega), (by dsimp only; omega)⟩) (kRecvX (q0 := 0) (ci := 7) hK hP hD hN hXS hS hA rfl rfl [0, 1] rfl (by decide)) rfl rfl hl.1 rfl (lv_room (Nat.le_of_ble_eq_true rfl)) dX7_say_306 ⟨Nat.le_of_ble_eq_true rfl, Nat.le_of_ble_eq_true rfl⟩) hP hD hS hA [0, 1] [] rfl rfl (by decide) (by decide) ?_
        clear hP hD hS
        intro r_23 u_27 H locs w_24 hP hD hS
        obtain ⟨sc1_25, sc0_26⟩ := u_27
        replace hP : va_P D vwCl [(k, .inr (7, [.ref k0, .int sc1_25, .int c2, .int c3, .int c4])), (k0, .inl (cI, 40, .inl sc0_26))] H := hP
        replace hD : va_D A [(k, .inr (7, [.ref k0, .int sc1_25, .int c2, .int c3, .int c4])), (k0, .inl (cI, 40, .inl sc0_26))] := hD
        have lo_sc1_25 := k_lo sc1_25
        have hi_sc1_25 := k_hi sc1_25
        obtain ⟨h_28, h_29, h_30⟩ := w_24
        try simp only [zl_1] at h_28
        have h_28 : voB c3 c4 c2 dd c2 1 a2 c1 c0 = (r_23, sc1_25, sc0_26) := h_28
        try simp only [zl_1] at h_29
        have h_29 : 0 ≤ sc1_25.toInt := h_29
        try simp only [zl_1] at h_30
        have h_30 : sc1_25.toInt ≤ 40 := h_30
        have lo_r_23 := k_lo r_23
        have hi_r_23 := k_hi r_23
        refine lv_iconst (v := 2) hx hb dX7_say_309 (by decide) ?_
        refine lv_imul hx hb dX7_say_310 ?_
        refine lv_topi (fun v_31 ev_31 => ?_)
        have lo_v_31 := k_lo v_31
        have hi_v_31 := k_hi v_31
        exact hRet (sc1_25, sc0_26) [0, 1] ⟨(vo_12 (m1 := c1) (g1 := c0) h_5 (by omega) (by unfold mSV; rw [if_neg (by omega)]) (by unfold gSV; rw [if_neg (by omega)]) h_28 ev_31), (by first | omega | decide | assumption | rfl | (dsimp only; first | omega)), (by first | omega | decide | assumption | rfl | (dsimp only; first | omega))⟩ hP hD (by decide) rfl hS rfl dX7_say_311
      by_cases c_32 : r_2.toInt = 13
      · refine lv_tableIn (off := 251) (tgt := 312) hx hb dX7_say_61 (by omega) (by omega) (by rw [c_32]; decide) (by decide) ?_
        refine lv_aload_n hx hb dX7_say_312 rfl (lv_at hl 2 rfl) ?_
        refine lv_iconst (v := 2) hx hb dX7_say_313 (by decide) ?_
        refine lv_iload_n hx hb dX7_say_314 rfl (lv_at hl 5 rfl) ?_
        refine lv_iload hx hb dX7_say_315 (lv_at hl 0 rfl) ?_
        refine kJi (wr := []) (va_runV (As := [.int 2, .int a2, .int v_9]) (rest := []) ⟨hx, hb, hml, hown, hT⟩ (c_X7_ownD_of dd ih l D cI aK aV k k0 H.size c1 c2 c3 c4 c0 2 a2 v_9 (by first | omega | (simp only [zl_2]; first | done | omega) | decide | assumption | rfl) (by first | omega | (simp only [zl_2]; first | done | omega) | decide | assumption | rfl) (by first | omega | (simp only [zl_2]; first | done | omega) | decide | assumption | rfl) (by first | omega | (simp only [zl_2]; first | done | omega) | decide | assumption | rfl) (by first | omega | (simp only [zl_2]; first | done | omega) | decide | assumption | rfl) (by first | omega | (simp only [zl_2]; first | done | omega) | decide | assumption | rfl) (by first | omega | (simp only [zl_2]; first | done | omega) | decide | assumption | rfl) (by first | omega | (simp only [zl_2]; first | done | omega) | decide | assumption | rfl) (by first | omega | (simp only [zl_2]; first | done | omega) | decide | assumption | rfl)) (cwV 3 hT (gV_in mw_1050 mw_1047 mw_1049 mw_p3_6 mw_10) rfl rfl rfl (by decide +kernel) ⟨(by dsimp only; omega), (by dsimp only; omega)⟩) (kRecvX (q0 := 0) (ci := 7) hK hP hD hN hXS hS hA rfl rfl [0, 1] rfl (by decide)) rfl rfl hl.1 rfl (lv_room (Nat.le_of_ble_eq_true rfl)) dX7_say_317 ⟨Nat.le_of_ble_eq_true rfl, Nat.le_of_ble_eq_true rfl⟩) hP hD hS hA [0, 1] [] rfl rfl (by decide) (by decide) ?_
        clear hP hD hS
        intro r_33 u_37 H locs w_34 hP hD hS
        obtain ⟨sc1_35, sc0_36⟩ := u_37
        replace hP : va_P D vwCl [(k, .inr (7, [.ref k0, .int sc1_35, .int c2, .int c3, .int c4])), (k0, .inl (cI, 40, .inl sc0_36))] H := hP
        replace hD : va_D A [(k, .inr (7, [.ref k0, .int sc1_35, .int c2, .int c3, .int c4])), (k0, .inl (cI, 40, .inl sc0_36))] := hD
        have lo_sc1_35 := k_lo sc1_35
        have hi_sc1_35 := k_hi sc1_35
        obtain ⟨h_38, h_39, h_40⟩ := w_34
        try simp only [zl_2] at h_38
        have h_38 : voB c3 c4 c2 dd c2 2 a2 c1 c0 = (r_33, sc1_35, sc0_36) := h_38
        try simp only [zl_2] at h_39
        have h_39 : 0 ≤ sc1_35.toInt := h_39
        try simp only [zl_2] at h_40
        have h_40 : sc1_35.toInt ≤ 40 := h_40
        have lo_r_33 := k_lo r_33
        have hi_r_33 := k_hi r_33
        refine lv_aload_n hx hb dX7_say_320 rfl (lv_at hl 2 rfl) ?_
        refine lv_iconst (v := 0) hx hb dX7_say_321 (by decide) ?_
        refine lv_iload_n hx hb dX7_say_322 rfl (lv_at hl 5 rfl) ?_
        refine lv_iload hx hb dX7_say_323 (lv_at hl 0 rfl) ?_
        refine kJi (wr := []) (va_runV (As := [.int 0, .int a2, .int v_9]) (rest := [.int r_33]) ⟨hx, hb, hml, hown, hT⟩ (c_X7_ownD_of dd ih l D cI aK aV k k0 H.size sc1_35 c2 c3 c4 sc0_36 0 a2 v_9 (by first | omega | (simp only [zl_0]; first | done | omega) | decide | assumption | rfl) (by first | omega | (simp only [zl_0]; first | done | omega) | decide | assumption | rfl) (by first | omega | (simp only [zl_0]; first | done | omega) | decide | assumption | rfl) (by first | omega | (simp only [zl_0]; first | done | omega) | decide | assumption | rfl) (by first | omega | (simp only [zl_0]; first | done | omega) | decide | assumption | rfl) (by first | omega | (simp only [zl_0]; first | done | omega) | decide | assumption | rfl) (by first | omega | (simp only [zl_0]; first | done | omega) | decide | assumption | rfl) (by first | omega | (simp only [zl_0]; first | done | omega) | decide | assumption | rfl) (by first | omega | (simp only [zl_0]; first | done | omega) | decide | assumption | rfl)) (cwV 3 hT (gV_in mw_1050 mw_1047 mw_1049 mw_p3_6 mw_10) rfl rfl rfl (by decide +kernel) ⟨(by dsimp only; omega), (by dsimp only; omega)⟩) (kRecvX (q0 := 0) (ci := 7) hK hP hD hN hXS hS hA rfl rfl [0, 1] rfl (by decide)) rfl rfl hl.1 rfl (lv_room (Nat.le_of_ble_eq_true rfl)) dX7_say_325 ⟨Nat.le_of_ble_eq_true rfl, Nat.le_of_ble_eq_true rfl⟩) hP hD hS hA [0, 1] [] rfl rfl (by decide) (by decide) ?_
        clear hP hD hS
        intro r_41 u_45 H locs w_42 hP hD hS
        obtain ⟨sc1_43, sc0_44⟩ := u_45
        replace hP : va_P D vwCl [(k, .inr (7, [.ref k0, .int sc1_43, .int c2, .int c3, .int c4])), (k0, .inl (cI, 40, .inl sc0_44))] H := hP
        replace hD : va_D A [(k, .inr (7, [.ref k0, .int sc1_43, .int c2, .int c3, .int c4])), (k0, .inl (cI, 40, .inl sc0_44))] := hD
        have lo_sc1_43 := k_lo sc1_43
        have hi_sc1_43 := k_hi sc1_43
        obtain ⟨h_46, h_47, h_48⟩ := w_42
        try simp only [zl_0] at h_46
        have h_46 : voB c3 c4 c2 dd c2 0 a2 sc1_35 sc0_36 = (r_41, sc1_43, sc0_44) := h_46
        try simp only [zl_0] at h_47
        have h_47 : 0 ≤ sc1_43.toInt := h_47
        try simp only [zl_0] at h_48
        have h_48 : sc1_43.toInt ≤ 40 := h_48
        have lo_r_41 := k_lo r_41
        have hi_r_41 := k_hi r_41
        refine lv_ixor hx hb dX7_say_328 ?_
        refine lv_topi (fun v_49 ev_49 => ?_)
        have lo_v_49 := k_lo v_49
        have hi_v_49 := k_hi v_49
        exact hRet (sc1_43, sc0_44) [0, 1] ⟨(vo_13 (m1 := c1) (g1 := c0) h_5 (by omega) (by unfold mSV; rw [if_neg (by omega)]) (by unfold gSV; rw [if_neg (by omega)]) h_38 h_46 ev_49), (by first | omega | decide | assumption | rfl | (dsimp only; first | omega)), (by first | omega | decide | assumption | rfl | (dsimp only; first | omega))⟩ hP hD (by decide) rfl hS rfl dX7_say_329
      by_cases c_50 : r_2.toInt = 20
      · refine lv_tableIn (off := 269) (tgt := 330) hx hb dX7_say_61 (by omega) (by omega) (by rw [c_50]; decide) (by decide) ?_
        refine lv_aload_n hx hb dX7_say_330 rfl (lv_at hl 2 rfl) ?_
        refine lv_iconst (v := 0) hx hb dX7_say_331 (by decide) ?_
        refine lv_iconst (v := 1) hx hb dX7_say_332 (by decide) ?_
        refine lv_iload_n hx hb dX7_say_333 rfl (lv_at hl 5 rfl) ?_
        refine lv_iconst (v := 1) hx hb dX7_say_334 (by decide) ?_
        refine lv_iadd hx hb dX7_say_335 ?_
        refine lv_topi (fun v_51 ev_51 => ?_)
        have lo_v_51 := k_lo v_51
        have hi_v_51 := k_hi v_51
        refine lv_iload hx hb dX7_say_336 (lv_at hl 0 rfl) ?_
        refine kJi (wr := []) (va_runV (As := [.int 0, .int 1, .int v_51, .int v_9]) (rest := []) ⟨hx, hb, hml, hown, hT⟩ (ih l D cI aK aV k k0 H.size c1 c2 c3 c4 c0 0 1 v_51 v_9 (by first | omega | (simp only [zl_0, zl_1]; first | done | omega) | decide | assumption | rfl) (by first | omega | (simp only [zl_0, zl_1]; first | done | omega) | decide | assumption | rfl) (by first | omega | (simp only [zl_0, zl_1]; first | done | omega) | decide | assumption | rfl) (by first | omega | (simp only [zl_0, zl_1]; first | done | omega) | decide | assumption | rfl) (by first | omega | (simp only [zl_0, zl_1]; first | done | omega) | decide | assumption | rfl) (by first | omega | (simp only [zl_0, zl_1]; first | done | omega) | decide | assumption | rfl) (by first | omega | (simp only [zl_0, zl_1]; first | done | omega) | decide | assumption | rfl) (by first | omega | (simp only [zl_0, zl_1]; first | done | omega) | decide | assumption | rfl) (by first | omega | (simp only [zl_0, zl_1]; first | done | omega) | decide | assumption | rfl) (by first | omega | (simp only [zl_0, zl_1]; first | done | omega) | decide | assumption | rfl) (by first | omega | (simp only [zl_0, zl_1]; first | done | omega) | decide | assumption | rfl)) (cwV 4 hT (gV_in mw_1054 mw_1051 mw_1053 mw_p3_7 mw_10) rfl rfl rfl (by decide +kernel) ⟨(by dsimp only; omega), (by dsimp only; omega)⟩) (kRecvX (q0 := 0) (ci := 7) hK hP hD hN hXS hS hA rfl rfl [0, 1] rfl (by decide)) rfl rfl hl.1 rfl (lv_room (Nat.le_of_ble_eq_true rfl)) dX7_say_338 ⟨Nat.le_of_ble_eq_true rfl, Nat.le_of_ble_eq_true rfl⟩) hP hD hS hA [0, 1] [] rfl rfl (by decide) (by decide) ?_
        clear hP hD hS
        intro r_52 u_56 H locs w_53 hP hD hS
        obtain ⟨sc1_54, sc0_55⟩ := u_56
        replace hP : va_P D vwCl [(k, .inr (7, [.ref k0, .int sc1_54, .int c2, .int c3, .int c4])), (k0, .inl (cI, 40, .inl sc0_55))] H := hP
        replace hD : va_D A [(k, .inr (7, [.ref k0, .int sc1_54, .int c2, .int c3, .int c4])), (k0, .inl (cI, 40, .inl sc0_55))] := hD
        have lo_sc1_54 := k_lo sc1_54
        have hi_sc1_54 := k_hi sc1_54
        obtain ⟨h_57, h_58, h_59⟩ := w_53
        try simp only [zl_0, zl_1] at h_57
        have h_57 : voB c3 c4 c2 dd 0 1 v_51 c1 c0 = (r_52, sc1_54, sc0_55) := h_57
        try simp only [zl_0, zl_1] at h_58
        have h_58 : 0 ≤ sc1_54.toInt := h_58
        try simp only [zl_0, zl_1] at h_59
        have h_59 : sc1_54.toInt ≤ 40 := h_59
        have lo_r_52 := k_lo r_52
        have hi_r_52 := k_hi r_52
        exact hRet (sc1_54, sc0_55) [0, 1] ⟨(vo_20 (m1 := c1) (g1 := c0) h_5 (by omega) (by unfold mSV; rw [if_neg (by omega)]) (by unfold gSV; rw [if_neg (by omega)]) (by rw [← ev_51]; exact h_57) rfl), (by first | omega | decide | assumption | rfl | (dsimp only; first | omega)), (by first | omega | decide | assumption | rfl | (dsimp only; first | omega))⟩ hP hD (by decide) rfl hS rfl dX7_say_341
      by_cases c_60 : r_2.toInt = 21
      · refine lv_tableIn (off := 281) (tgt := 342) hx hb dX7_say_61 (by omega) (by omega) (by rw [c_60]; decide) (by decide) ?_
        refine lv_aload_n hx hb dX7_say_342 rfl (lv_at hl 2 rfl) ?_
        refine lv_iconst (v := 0) hx hb dX7_say_343 (by decide) ?_
        refine lv_iconst (v := 3) hx hb dX7_say_344 (by decide) ?_
        refine lv_iload_n hx hb dX7_say_345 rfl (lv_at hl 5 rfl) ?_
        refine lv_iload hx hb dX7_say_346 (lv_at hl 0 rfl) ?_
        refine kJi (wr := []) (va_runV (As := [.int 0, .int 3, .int a2, .int v_9]) (rest := []) ⟨hx, hb, hml, hown, hT⟩ (ih l D cI aK aV k k0 H.size c1 c2 c3 c4 c0 0 3 a2 v_9 (by first | omega | (simp only [zl_0, zl_3]; first | done | omega) | decide | assumption | rfl) (by first | omega | (simp only [zl_0, zl_3]; first | done | omega) | decide | assumption | rfl) (by first | omega | (simp only [zl_0, zl_3]; first | done | omega) | decide | assumption | rfl) (by first | omega | (simp only [zl_0, zl_3]; first | done | omega) | decide | assumption | rfl) (by first | omega | (simp only [zl_0, zl_3]; first | done | omega) | decide | assumption | rfl) (by first | omega | (simp only [zl_0, zl_3]; first | done | omega) | decide | assumption | rfl) (by first | omega | (simp only [zl_0, zl_3]; first | done | omega) | decide | assumption | rfl) (by first | omega | (simp only [zl_0, zl_3]; first | done | omega) | decide | assumption | rfl) (by first | omega | (simp only [zl_0, zl_3]; first | done | omega) | decide | assumption | rfl) (by first | omega | (simp only [zl_0, zl_3]; first | done | omega) | decide | assumption | rfl) (by first | omega | (simp only [zl_0, zl_3]; first | done | omega) | decide | assumption | rfl)) (cwV 4 hT (gV_in mw_1054 mw_1051 mw_1053 mw_p3_7 mw_10) rfl rfl rfl (by decide +kernel) ⟨(by dsimp only; omega), (by dsimp only; omega)⟩) (kRecvX (q0 := 0) (ci := 7) hK hP hD hN hXS hS hA rfl rfl [0, 1] rfl (by decide)) rfl rfl hl.1 rfl (lv_room (Nat.le_of_ble_eq_true rfl)) dX7_say_348 ⟨Nat.le_of_ble_eq_true rfl, Nat.le_of_ble_eq_true rfl⟩) hP hD hS hA [0, 1] [] rfl rfl (by decide) (by decide) ?_
        clear hP hD hS
        intro r_61 u_65 H locs w_62 hP hD hS
        obtain ⟨sc1_63, sc0_64⟩ := u_65
        replace hP : va_P D vwCl [(k, .inr (7, [.ref k0, .int sc1_63, .int c2, .int c3, .int c4])), (k0, .inl (cI, 40, .inl sc0_64))] H := hP
        replace hD : va_D A [(k, .inr (7, [.ref k0, .int sc1_63, .int c2, .int c3, .int c4])), (k0, .inl (cI, 40, .inl sc0_64))] := hD
        have lo_sc1_63 := k_lo sc1_63
        have hi_sc1_63 := k_hi sc1_63
        obtain ⟨h_66, h_67, h_68⟩ := w_62
        try simp only [zl_0, zl_3] at h_66
        have h_66 : voB c3 c4 c2 dd 0 3 a2 c1 c0 = (r_61, sc1_63, sc0_64) := h_66
        try simp only [zl_0, zl_3] at h_67
        have h_67 : 0 ≤ sc1_63.toInt := h_67
        try simp only [zl_0, zl_3] at h_68
        have h_68 : sc1_63.toInt ≤ 40 := h_68
        have lo_r_61 := k_lo r_61
        have hi_r_61 := k_hi r_61
        refine lv_aload_n hx hb dX7_say_351 rfl (lv_at hl 2 rfl) ?_
        refine va_get (D := D) (ci := 7) (v := .int c3) (C := RX7) (T := TX7) (N := 5) hx hb hT giX7 hown hK hP 0 rfl rfl 3 (by decide) (hT (Cond.fieldLink RX7 22 "DesertWire$Voices" "n" "I") mw_262) (fun _ h9 => h9) rfl dX7_say_352 ?_
        refine lv_isub hx hb dX7_say_355 ?_
        refine lv_topi (fun v_69 ev_69 => ?_)
        have lo_v_69 := k_lo v_69
        have hi_v_69 := k_hi v_69
        exact hRet (sc1_63, sc0_64) [0, 1] ⟨(vo_21 (m1 := c1) (g1 := c0) h_5 (by omega) (by unfold mSV; rw [if_neg (by omega)]) (by unfold gSV; rw [if_neg (by omega)]) h_66 ev_69), (by first | omega | decide | assumption | rfl | (dsimp only; first | omega)), (by first | omega | decide | assumption | rfl | (dsimp only; first | omega))⟩ hP hD (by decide) rfl hS rfl dX7_say_356
      by_cases c_70 : r_2.toInt = 30
      · refine lv_tableIn (off := 296) (tgt := 357) hx hb dX7_say_61 (by omega) (by omega) (by rw [c_70]; decide) (by decide) ?_
        refine lv_aload_n hx hb dX7_say_357 rfl (lv_at hl 2 rfl) ?_
        refine lv_iconst (v := 1) hx hb dX7_say_358 (by decide) ?_
        refine lv_iconst (v := 0) hx hb dX7_say_359 (by decide) ?_
        refine lv_iload_n hx hb dX7_say_360 rfl (lv_at hl 5 rfl) ?_
        refine lv_iload hx hb dX7_say_361 (lv_at hl 0 rfl) ?_
        refine kJi (wr := []) (va_runV (As := [.int 1, .int 0, .int a2, .int v_9]) (rest := []) ⟨hx, hb, hml, hown, hT⟩ (ih l D cI aK aV k k0 H.size c1 c2 c3 c4 c0 1 0 a2 v_9 (by first | omega | (simp only [zl_0, zl_1]; first | done | omega) | decide | assumption | rfl) (by first | omega | (simp only [zl_0, zl_1]; first | done | omega) | decide | assumption | rfl) (by first | omega | (simp only [zl_0, zl_1]; first | done | omega) | decide | assumption | rfl) (by first | omega | (simp only [zl_0, zl_1]; first | done | omega) | decide | assumption | rfl) (by first | omega | (simp only [zl_0, zl_1]; first | done | omega) | decide | assumption | rfl) (by first | omega | (simp only [zl_0, zl_1]; first | done | omega) | decide | assumption | rfl) (by first | omega | (simp only [zl_0, zl_1]; first | done | omega) | decide | assumption | rfl) (by first | omega | (simp only [zl_0, zl_1]; first | done | omega) | decide | assumption | rfl) (by first | omega | (simp only [zl_0, zl_1]; first | done | omega) | decide | assumption | rfl) (by first | omega | (simp only [zl_0, zl_1]; first | done | omega) | decide | assumption | rfl) (by first | omega | (simp only [zl_0, zl_1]; first | done | omega) | decide | assumption | rfl)) (cwV 4 hT (gV_in mw_1054 mw_1051 mw_1053 mw_p3_7 mw_10) rfl rfl rfl (by decide +kernel) ⟨(by dsimp only; omega), (by dsimp only; omega)⟩) (kRecvX (q0 := 0) (ci := 7) hK hP hD hN hXS hS hA rfl rfl [0, 1] rfl (by decide)) rfl rfl hl.1 rfl (lv_room (Nat.le_of_ble_eq_true rfl)) dX7_say_363 ⟨Nat.le_of_ble_eq_true rfl, Nat.le_of_ble_eq_true rfl⟩) hP hD hS hA [0, 1] [] rfl rfl (by decide) (by decide) ?_
        clear hP hD hS
        intro r_71 u_75 H locs w_72 hP hD hS
        obtain ⟨sc1_73, sc0_74⟩ := u_75
        replace hP : va_P D vwCl [(k, .inr (7, [.ref k0, .int sc1_73, .int c2, .int c3, .int c4])), (k0, .inl (cI, 40, .inl sc0_74))] H := hP
        replace hD : va_D A [(k, .inr (7, [.ref k0, .int sc1_73, .int c2, .int c3, .int c4])), (k0, .inl (cI, 40, .inl sc0_74))] := hD
        have lo_sc1_73 := k_lo sc1_73
        have hi_sc1_73 := k_hi sc1_73
        obtain ⟨h_76, h_77, h_78⟩ := w_72
        try simp only [zl_0, zl_1] at h_76
        have h_76 : voB c3 c4 c2 dd 1 0 a2 c1 c0 = (r_71, sc1_73, sc0_74) := h_76
        try simp only [zl_0, zl_1] at h_77
        have h_77 : 0 ≤ sc1_73.toInt := h_77
        try simp only [zl_0, zl_1] at h_78
        have h_78 : sc1_73.toInt ≤ 40 := h_78
        have lo_r_71 := k_lo r_71
        have hi_r_71 := k_hi r_71
        refine lv_iconst (v := 3) hx hb dX7_say_366 (by decide) ?_
        refine lv_imul hx hb dX7_say_367 ?_
        refine lv_topi (fun v_79 ev_79 => ?_)
        have lo_v_79 := k_lo v_79
        have hi_v_79 := k_hi v_79
        exact hRet (sc1_73, sc0_74) [0, 1] ⟨(vo_30 (m1 := c1) (g1 := c0) h_5 (by omega) (by unfold mSV; rw [if_neg (by omega)]) (by unfold gSV; rw [if_neg (by omega)]) h_76 ev_79), (by first | omega | decide | assumption | rfl | (dsimp only; first | omega)), (by first | omega | decide | assumption | rfl | (dsimp only; first | omega))⟩ hP hD (by decide) rfl hS rfl dX7_say_368
      by_cases c_80 : r_2.toInt = 31
      · refine lv_tableIn (off := 308) (tgt := 369) hx hb dX7_say_61 (by omega) (by omega) (by rw [c_80]; decide) (by decide) ?_
        refine lv_iconst (v := 0) hx hb dX7_say_369 (by decide) ?_
        refine lv_aload_n hx hb dX7_say_370 rfl (lv_at hl 2 rfl) ?_
        refine lv_iconst (v := 1) hx hb dX7_say_371 (by decide) ?_
        refine lv_iconst (v := 2) hx hb dX7_say_372 (by decide) ?_
        refine lv_iload_n hx hb dX7_say_373 rfl (lv_at hl 5 rfl) ?_
        refine lv_iload hx hb dX7_say_374 (lv_at hl 0 rfl) ?_
        refine kJi (wr := []) (va_runV (As := [.int 1, .int 2, .int a2, .int v_9]) (rest := [.int 0]) ⟨hx, hb, hml, hown, hT⟩ (ih l D cI aK aV k k0 H.size c1 c2 c3 c4 c0 1 2 a2 v_9 (by first | omega | (simp only [zl_1, zl_2]; first | done | omega) | decide | assumption | rfl) (by first | omega | (simp only [zl_1, zl_2]; first | done | omega) | decide | assumption | rfl) (by first | omega | (simp only [zl_1, zl_2]; first | done | omega) | decide | assumption | rfl) (by first | omega | (simp only [zl_1, zl_2]; first | done | omega) | decide | assumption | rfl) (by first | omega | (simp only [zl_1, zl_2]; first | done | omega) | decide | assumption | rfl) (by first | omega | (simp only [zl_1, zl_2]; first | done | omega) | decide | assumption | rfl) (by first | omega | (simp only [zl_1, zl_2]; first | done | omega) | decide | assumption | rfl) (by first | omega | (simp only [zl_1, zl_2]; first | done | omega) | decide | assumption | rfl) (by first | omega | (simp only [zl_1, zl_2]; first | done | omega) | decide | assumption | rfl) (by first | omega | (simp only [zl_1, zl_2]; first | done | omega) | decide | assumption | rfl) (by first | omega | (simp only [zl_1, zl_2]; first | done | omega) | decide | assumption | rfl)) (cwV 4 hT (gV_in mw_1054 mw_1051 mw_1053 mw_p3_7 mw_10) rfl rfl rfl (by decide +kernel) ⟨(by dsimp only; omega), (by dsimp only; omega)⟩) (kRecvX (q0 := 0) (ci := 7) hK hP hD hN hXS hS hA rfl rfl [0, 1] rfl (by decide)) rfl rfl hl.1 rfl (lv_room (Nat.le_of_ble_eq_true rfl)) dX7_say_376 ⟨Nat.le_of_ble_eq_true rfl, Nat.le_of_ble_eq_true rfl⟩) hP hD hS hA [0, 1] [] rfl rfl (by decide) (by decide) ?_
        clear hP hD hS
        intro r_81 u_85 H locs w_82 hP hD hS
        obtain ⟨sc1_83, sc0_84⟩ := u_85
        replace hP : va_P D vwCl [(k, .inr (7, [.ref k0, .int sc1_83, .int c2, .int c3, .int c4])), (k0, .inl (cI, 40, .inl sc0_84))] H := hP
        replace hD : va_D A [(k, .inr (7, [.ref k0, .int sc1_83, .int c2, .int c3, .int c4])), (k0, .inl (cI, 40, .inl sc0_84))] := hD
        have lo_sc1_83 := k_lo sc1_83
        have hi_sc1_83 := k_hi sc1_83
        obtain ⟨h_86, h_87, h_88⟩ := w_82
        try simp only [zl_1, zl_2] at h_86
        have h_86 : voB c3 c4 c2 dd 1 2 a2 c1 c0 = (r_81, sc1_83, sc0_84) := h_86
        try simp only [zl_1, zl_2] at h_87
        have h_87 : 0 ≤ sc1_83.toInt := h_87
        try simp only [zl_1, zl_2] at h_88
        have h_88 : sc1_83.toInt ≤ 40 := h_88
        have lo_r_81 := k_lo r_81
        have hi_r_81 := k_hi r_81
        refine lv_isub hx hb dX7_say_379 ?_
        refine lv_topi (fun v_89 ev_89 => ?_)
        have lo_v_89 := k_lo v_89
        have hi_v_89 := k_hi v_89
        exact hRet (sc1_83, sc0_84) [0, 1] ⟨(vo_31 (m1 := c1) (g1 := c0) h_5 (by omega) (by unfold mSV; rw [if_neg (by omega)]) (by unfold gSV; rw [if_neg (by omega)]) h_86 ev_89), (by first | omega | decide | assumption | rfl | (dsimp only; first | omega)), (by first | omega | decide | assumption | rfl | (dsimp only; first | omega))⟩ hP hD (by decide) rfl hS rfl dX7_say_380
      by_cases c_90 : r_2.toInt = 40
      · refine lv_tableIn (off := 320) (tgt := 381) hx hb dX7_say_61 (by omega) (by omega) (by rw [c_90]; decide) (by decide) ?_
        refine lv_aload_n hx hb dX7_say_381 rfl (lv_at hl 2 rfl) ?_
        refine lv_iconst (v := 2) hx hb dX7_say_382 (by decide) ?_
        refine lv_iconst (v := 2) hx hb dX7_say_383 (by decide) ?_
        refine lv_iload_n hx hb dX7_say_384 rfl (lv_at hl 5 rfl) ?_
        refine lv_iload hx hb dX7_say_385 (lv_at hl 0 rfl) ?_
        refine kJi (wr := []) (va_runV (As := [.int 2, .int 2, .int a2, .int v_9]) (rest := []) ⟨hx, hb, hml, hown, hT⟩ (ih l D cI aK aV k k0 H.size c1 c2 c3 c4 c0 2 2 a2 v_9 (by first | omega | (simp only [zl_2]; first | done | omega) | decide | assumption | rfl) (by first | omega | (simp only [zl_2]; first | done | omega) | decide | assumption | rfl) (by first | omega | (simp only [zl_2]; first | done | omega) | decide | assumption | rfl) (by first | omega | (simp only [zl_2]; first | done | omega) | decide | assumption | rfl) (by first | omega | (simp only [zl_2]; first | done | omega) | decide | assumption | rfl) (by first | omega | (simp only [zl_2]; first | done | omega) | decide | assumption | rfl) (by first | omega | (simp only [zl_2]; first | done | omega) | decide | assumption | rfl) (by first | omega | (simp only [zl_2]; first | done | omega) | decide | assumption | rfl) (by first | omega | (simp only [zl_2]; first | done | omega) | decide | assumption | rfl) (by first | omega | (simp only [zl_2]; first | done | omega) | decide | assumption | rfl) (by first | omega | (simp only [zl_2]; first | done | omega) | decide | assumption | rfl)) (cwV 4 hT (gV_in mw_1054 mw_1051 mw_1053 mw_p3_7 mw_10) rfl rfl rfl (by decide +kernel) ⟨(by dsimp only; omega), (by dsimp only; omega)⟩) (kRecvX (q0 := 0) (ci := 7) hK hP hD hN hXS hS hA rfl rfl [0, 1] rfl (by decide)) rfl rfl hl.1 rfl (lv_room (Nat.le_of_ble_eq_true rfl)) dX7_say_387 ⟨Nat.le_of_ble_eq_true rfl, Nat.le_of_ble_eq_true rfl⟩) hP hD hS hA [0, 1] [] rfl rfl (by decide) (by decide) ?_
        clear hP hD hS
        intro r_91 u_95 H locs w_92 hP hD hS
        obtain ⟨sc1_93, sc0_94⟩ := u_95
        replace hP : va_P D vwCl [(k, .inr (7, [.ref k0, .int sc1_93, .int c2, .int c3, .int c4])), (k0, .inl (cI, 40, .inl sc0_94))] H := hP
        replace hD : va_D A [(k, .inr (7, [.ref k0, .int sc1_93, .int c2, .int c3, .int c4])), (k0, .inl (cI, 40, .inl sc0_94))] := hD
        have lo_sc1_93 := k_lo sc1_93
        have hi_sc1_93 := k_hi sc1_93
        obtain ⟨h_96, h_97, h_98⟩ := w_92
        try simp only [zl_2] at h_96
        have h_96 : voB c3 c4 c2 dd 2 2 a2 c1 c0 = (r_91, sc1_93, sc0_94) := h_96
        try simp only [zl_2] at h_97
        have h_97 : 0 ≤ sc1_93.toInt := h_97
        try simp only [zl_2] at h_98
        have h_98 : sc1_93.toInt ≤ 40 := h_98
        have lo_r_91 := k_lo r_91
        have hi_r_91 := k_hi r_91
        refine lv_aload_n hx hb dX7_say_390 rfl (lv_at hl 2 rfl) ?_
        refine lv_iconst (v := 0) hx hb dX7_say_391 (by decide) ?_
        refine lv_aload_n hx hb dX7_say_392 rfl (lv_at hl 2 rfl) ?_
        refine va_get (D := D) (ci := 7) (v := .int c4) (C := RX7) (T := TX7) (N := 5) hx hb hT giX7 hown hK hP 0 rfl rfl 4 (by decide) (hT (Cond.fieldLink RX7 25 "DesertWire$Voices" "w" "I") mw_263) (fun _ h9 => h9) rfl dX7_say_393 ?_
        refine lv_iload hx hb dX7_say_396 (lv_at hl 0 rfl) ?_
        refine kJi (wr := []) (va_runV (As := [.int 0, .int c4, .int v_9]) (rest := [.int r_91]) ⟨hx, hb, hml, hown, hT⟩ (c_X7_ownD_of dd ih l D cI aK aV k k0 H.size sc1_93 c2 c3 c4 sc0_94 0 c4 v_9 (by first | omega | (simp only [zl_0]; first | done | omega) | decide | assumption | rfl) (by first | omega | (simp only [zl_0]; first | done | omega) | decide | assumption | rfl) (by first | omega | (simp only [zl_0]; first | done | omega) | decide | assumption | rfl) (by first | omega | (simp only [zl_0]; first | done | omega) | decide | assumption | rfl) (by first | omega | (simp only [zl_0]; first | done | omega) | decide | assumption | rfl) (by first | omega | (simp only [zl_0]; first | done | omega) | decide | assumption | rfl) (by first | omega | (simp only [zl_0]; first | done | omega) | decide | assumption | rfl) (by first | omega | (simp only [zl_0]; first | done | omega) | decide | assumption | rfl) (by first | omega | (simp only [zl_0]; first | done | omega) | decide | assumption | rfl)) (cwV 3 hT (gV_in mw_1050 mw_1047 mw_1049 mw_p3_6 mw_10) rfl rfl rfl (by decide +kernel) ⟨(by dsimp only; omega), (by dsimp only; omega)⟩) (kRecvX (q0 := 0) (ci := 7) hK hP hD hN hXS hS hA rfl rfl [0, 1] rfl (by decide)) rfl rfl hl.1 rfl (lv_room (Nat.le_of_ble_eq_true rfl)) dX7_say_398 ⟨Nat.le_of_ble_eq_true rfl, Nat.le_of_ble_eq_true rfl⟩) hP hD hS hA [0, 1] [] rfl rfl (by decide) (by decide) ?_
        clear hP hD hS
        intro r_99 u_103 H locs w_100 hP hD hS
        obtain ⟨sc1_101, sc0_102⟩ := u_103
        replace hP : va_P D vwCl [(k, .inr (7, [.ref k0, .int sc1_101, .int c2, .int c3, .int c4])), (k0, .inl (cI, 40, .inl sc0_102))] H := hP
        replace hD : va_D A [(k, .inr (7, [.ref k0, .int sc1_101, .int c2, .int c3, .int c4])), (k0, .inl (cI, 40, .inl sc0_102))] := hD
        have lo_sc1_101 := k_lo sc1_101
        have hi_sc1_101 := k_hi sc1_101
        obtain ⟨h_104, h_105, h_106⟩ := w_100
        try simp only [zl_0] at h_104
        have h_104 : voB c3 c4 c2 dd c2 0 c4 sc1_93 sc0_94 = (r_99, sc1_101, sc0_102) := h_104
        try simp only [zl_0] at h_105
        have h_105 : 0 ≤ sc1_101.toInt := h_105
        try simp only [zl_0] at h_106
        have h_106 : sc1_101.toInt ≤ 40 := h_106
        have lo_r_99 := k_lo r_99
        have hi_r_99 := k_hi r_99
        refine lv_iadd hx hb dX7_say_401 ?_
        refine lv_topi (fun v_107 ev_107 => ?_)
        have lo_v_107 := k_lo v_107
        have hi_v_107 := k_hi v_107
        exact hRet (sc1_101, sc0_102) [0, 1] ⟨(vo_40 (m1 := c1) (g1 := c0) h_5 (by omega) (by unfold mSV; rw [if_neg (by omega)]) (by unfold gSV; rw [if_neg (by omega)]) h_96 h_104 ev_107), (by first | omega | decide | assumption | rfl | (dsimp only; first | omega)), (by first | omega | decide | assumption | rfl | (dsimp only; first | omega))⟩ hP hD (by decide) rfl hS rfl dX7_say_402
      by_cases c_108 : r_2.toInt = 41
      · refine lv_tableIn (off := 342) (tgt := 403) hx hb dX7_say_61 (by omega) (by omega) (by rw [c_108]; decide) (by decide) ?_
        refine lv_aload_n hx hb dX7_say_403 rfl (lv_at hl 2 rfl) ?_
        refine lv_iconst (v := 2) hx hb dX7_say_404 (by decide) ?_
        refine lv_iconst (v := 3) hx hb dX7_say_405 (by decide) ?_
        refine lv_iload_n hx hb dX7_say_406 rfl (lv_at hl 5 rfl) ?_
        refine lv_iload hx hb dX7_say_407 (lv_at hl 0 rfl) ?_
        refine kJi (wr := []) (va_runV (As := [.int 2, .int 3, .int a2, .int v_9]) (rest := []) ⟨hx, hb, hml, hown, hT⟩ (ih l D cI aK aV k k0 H.size c1 c2 c3 c4 c0 2 3 a2 v_9 (by first | omega | (simp only [zl_2, zl_3]; first | done | omega) | decide | assumption | rfl) (by first | omega | (simp only [zl_2, zl_3]; first | done | omega) | decide | assumption | rfl) (by first | omega | (simp only [zl_2, zl_3]; first | done | omega) | decide | assumption | rfl) (by first | omega | (simp only [zl_2, zl_3]; first | done | omega) | decide | assumption | rfl) (by first | omega | (simp only [zl_2, zl_3]; first | done | omega) | decide | assumption | rfl) (by first | omega | (simp only [zl_2, zl_3]; first | done | omega) | decide | assumption | rfl) (by first | omega | (simp only [zl_2, zl_3]; first | done | omega) | decide | assumption | rfl) (by first | omega | (simp only [zl_2, zl_3]; first | done | omega) | decide | assumption | rfl) (by first | omega | (simp only [zl_2, zl_3]; first | done | omega) | decide | assumption | rfl) (by first | omega | (simp only [zl_2, zl_3]; first | done | omega) | decide | assumption | rfl) (by first | omega | (simp only [zl_2, zl_3]; first | done | omega) | decide | assumption | rfl)) (cwV 4 hT (gV_in mw_1054 mw_1051 mw_1053 mw_p3_7 mw_10) rfl rfl rfl (by decide +kernel) ⟨(by dsimp only; omega), (by dsimp only; omega)⟩) (kRecvX (q0 := 0) (ci := 7) hK hP hD hN hXS hS hA rfl rfl [0, 1] rfl (by decide)) rfl rfl hl.1 rfl (lv_room (Nat.le_of_ble_eq_true rfl)) dX7_say_409 ⟨Nat.le_of_ble_eq_true rfl, Nat.le_of_ble_eq_true rfl⟩) hP hD hS hA [0, 1] [] rfl rfl (by decide) (by decide) ?_
        clear hP hD hS
        intro r_109 u_113 H locs w_110 hP hD hS
        obtain ⟨sc1_111, sc0_112⟩ := u_113
        replace hP : va_P D vwCl [(k, .inr (7, [.ref k0, .int sc1_111, .int c2, .int c3, .int c4])), (k0, .inl (cI, 40, .inl sc0_112))] H := hP
        replace hD : va_D A [(k, .inr (7, [.ref k0, .int sc1_111, .int c2, .int c3, .int c4])), (k0, .inl (cI, 40, .inl sc0_112))] := hD
        have lo_sc1_111 := k_lo sc1_111
        have hi_sc1_111 := k_hi sc1_111
        obtain ⟨h_114, h_115, h_116⟩ := w_110
        try simp only [zl_2, zl_3] at h_114
        have h_114 : voB c3 c4 c2 dd 2 3 a2 c1 c0 = (r_109, sc1_111, sc0_112) := h_114
        try simp only [zl_2, zl_3] at h_115
        have h_115 : 0 ≤ sc1_111.toInt := h_115
        try simp only [zl_2, zl_3] at h_116
        have h_116 : sc1_111.toInt ≤ 40 := h_116
        have lo_r_109 := k_lo r_109
        have hi_r_109 := k_hi r_109
        refine lv_aload_n hx hb dX7_say_412 rfl (lv_at hl 2 rfl) ?_
        refine lv_iconst (v := 1) hx hb dX7_say_413 (by decide) ?_
        refine lv_aload_n hx hb dX7_say_414 rfl (lv_at hl 2 rfl) ?_
        refine va_get (D := D) (ci := 7) (v := .int c3) (C := RX7) (T := TX7) (N := 5) hx hb hT giX7 hown hK hP 0 rfl rfl 3 (by decide) (hT (Cond.fieldLink RX7 22 "DesertWire$Voices" "n" "I") mw_262) (fun _ h9 => h9) rfl dX7_say_415 ?_
        refine lv_iload hx hb dX7_say_418 (lv_at hl 0 rfl) ?_
        refine kJi (wr := []) (va_runV (As := [.int 1, .int c3, .int v_9]) (rest := [.int r_109]) ⟨hx, hb, hml, hown, hT⟩ (c_X7_ownD_of dd ih l D cI aK aV k k0 H.size sc1_111 c2 c3 c4 sc0_112 1 c3 v_9 (by first | omega | (simp only [zl_1]; first | done | omega) | decide | assumption | rfl) (by first | omega | (simp only [zl_1]; first | done | omega) | decide | assumption | rfl) (by first | omega | (simp only [zl_1]; first | done | omega) | decide | assumption | rfl) (by first | omega | (simp only [zl_1]; first | done | omega) | decide | assumption | rfl) (by first | omega | (simp only [zl_1]; first | done | omega) | decide | assumption | rfl) (by first | omega | (simp only [zl_1]; first | done | omega) | decide | assumption | rfl) (by first | omega | (simp only [zl_1]; first | done | omega) | decide | assumption | rfl) (by first | omega | (simp only [zl_1]; first | done | omega) | decide | assumption | rfl) (by first | omega | (simp only [zl_1]; first | done | omega) | decide | assumption | rfl)) (cwV 3 hT (gV_in mw_1050 mw_1047 mw_1049 mw_p3_6 mw_10) rfl rfl rfl (by decide +kernel) ⟨(by dsimp only; omega), (by dsimp only; omega)⟩) (kRecvX (q0 := 0) (ci := 7) hK hP hD hN hXS hS hA rfl rfl [0, 1] rfl (by decide)) rfl rfl hl.1 rfl (lv_room (Nat.le_of_ble_eq_true rfl)) dX7_say_420 ⟨Nat.le_of_ble_eq_true rfl, Nat.le_of_ble_eq_true rfl⟩) hP hD hS hA [0, 1] [] rfl rfl (by decide) (by decide) ?_
        clear hP hD hS
        intro r_117 u_121 H locs w_118 hP hD hS
        obtain ⟨sc1_119, sc0_120⟩ := u_121
        replace hP : va_P D vwCl [(k, .inr (7, [.ref k0, .int sc1_119, .int c2, .int c3, .int c4])), (k0, .inl (cI, 40, .inl sc0_120))] H := hP
        replace hD : va_D A [(k, .inr (7, [.ref k0, .int sc1_119, .int c2, .int c3, .int c4])), (k0, .inl (cI, 40, .inl sc0_120))] := hD
        have lo_sc1_119 := k_lo sc1_119
        have hi_sc1_119 := k_hi sc1_119
        obtain ⟨h_122, h_123, h_124⟩ := w_118
        try simp only [zl_1] at h_122
        have h_122 : voB c3 c4 c2 dd c2 1 c3 sc1_111 sc0_112 = (r_117, sc1_119, sc0_120) := h_122
        try simp only [zl_1] at h_123
        have h_123 : 0 ≤ sc1_119.toInt := h_123
        try simp only [zl_1] at h_124
        have h_124 : sc1_119.toInt ≤ 40 := h_124
        have lo_r_117 := k_lo r_117
        have hi_r_117 := k_hi r_117
        refine lv_ixor hx hb dX7_say_423 ?_
        refine lv_topi (fun v_125 ev_125 => ?_)
        have lo_v_125 := k_lo v_125
        have hi_v_125 := k_hi v_125
        exact hRet (sc1_119, sc0_120) [0, 1] ⟨(vo_41 (m1 := c1) (g1 := c0) h_5 (by omega) (by unfold mSV; rw [if_neg (by omega)]) (by unfold gSV; rw [if_neg (by omega)]) h_114 h_122 ev_125), (by first | omega | decide | assumption | rfl | (dsimp only; first | omega)), (by first | omega | decide | assumption | rfl | (dsimp only; first | omega))⟩ hP hD (by decide) rfl hS rfl dX7_say_424
      by_cases c_126 : r_2.toInt = 50
      · refine lv_tableIn (off := 364) (tgt := 425) hx hb dX7_say_61 (by omega) (by omega) (by rw [c_126]; decide) (by decide) ?_
        refine lv_aload_n hx hb dX7_say_425 rfl (lv_at hl 2 rfl) ?_
        refine lv_iconst (v := 0) hx hb dX7_say_426 (by decide) ?_
        refine lv_iconst (v := 0) hx hb dX7_say_427 (by decide) ?_
        refine lv_iload_n hx hb dX7_say_428 rfl (lv_at hl 5 rfl) ?_
        refine lv_iload hx hb dX7_say_429 (lv_at hl 0 rfl) ?_
        refine kJi (wr := []) (va_runV (As := [.int 0, .int 0, .int a2, .int v_9]) (rest := []) ⟨hx, hb, hml, hown, hT⟩ (ih l D cI aK aV k k0 H.size c1 c2 c3 c4 c0 0 0 a2 v_9 (by first | omega | (simp only [zl_0]; first | done | omega) | decide | assumption | rfl) (by first | omega | (simp only [zl_0]; first | done | omega) | decide | assumption | rfl) (by first | omega | (simp only [zl_0]; first | done | omega) | decide | assumption | rfl) (by first | omega | (simp only [zl_0]; first | done | omega) | decide | assumption | rfl) (by first | omega | (simp only [zl_0]; first | done | omega) | decide | assumption | rfl) (by first | omega | (simp only [zl_0]; first | done | omega) | decide | assumption | rfl) (by first | omega | (simp only [zl_0]; first | done | omega) | decide | assumption | rfl) (by first | omega | (simp only [zl_0]; first | done | omega) | decide | assumption | rfl) (by first | omega | (simp only [zl_0]; first | done | omega) | decide | assumption | rfl) (by first | omega | (simp only [zl_0]; first | done | omega) | decide | assumption | rfl) (by first | omega | (simp only [zl_0]; first | done | omega) | decide | assumption | rfl)) (cwV 4 hT (gV_in mw_1054 mw_1051 mw_1053 mw_p3_7 mw_10) rfl rfl rfl (by decide +kernel) ⟨(by dsimp only; omega), (by dsimp only; omega)⟩) (kRecvX (q0 := 0) (ci := 7) hK hP hD hN hXS hS hA rfl rfl [0, 1] rfl (by decide)) rfl rfl hl.1 rfl (lv_room (Nat.le_of_ble_eq_true rfl)) dX7_say_431 ⟨Nat.le_of_ble_eq_true rfl, Nat.le_of_ble_eq_true rfl⟩) hP hD hS hA [0, 1] [] rfl rfl (by decide) (by decide) ?_
        clear hP hD hS
        intro r_127 u_131 H locs w_128 hP hD hS
        obtain ⟨sc1_129, sc0_130⟩ := u_131
        replace hP : va_P D vwCl [(k, .inr (7, [.ref k0, .int sc1_129, .int c2, .int c3, .int c4])), (k0, .inl (cI, 40, .inl sc0_130))] H := hP
        replace hD : va_D A [(k, .inr (7, [.ref k0, .int sc1_129, .int c2, .int c3, .int c4])), (k0, .inl (cI, 40, .inl sc0_130))] := hD
        have lo_sc1_129 := k_lo sc1_129
        have hi_sc1_129 := k_hi sc1_129
        obtain ⟨h_132, h_133, h_134⟩ := w_128
        try simp only [zl_0] at h_132
        have h_132 : voB c3 c4 c2 dd 0 0 a2 c1 c0 = (r_127, sc1_129, sc0_130) := h_132
        try simp only [zl_0] at h_133
        have h_133 : 0 ≤ sc1_129.toInt := h_133
        try simp only [zl_0] at h_134
        have h_134 : sc1_129.toInt ≤ 40 := h_134
        have lo_r_127 := k_lo r_127
        have hi_r_127 := k_hi r_127
        refine lv_aload_n hx hb dX7_say_434 rfl (lv_at hl 2 rfl) ?_
        refine va_get (D := D) (ci := 7) (v := .int c4) (C := RX7) (T := TX7) (N := 5) hx hb hT giX7 hown hK hP 0 rfl rfl 4 (by decide) (hT (Cond.fieldLink RX7 25 "DesertWire$Voices" "w" "I") mw_263) (fun _ h9 => h9) rfl dX7_say_435 ?_
        refine lv_iadd hx hb dX7_say_438 ?_
        refine lv_topi (fun v_135 ev_135 => ?_)
        have lo_v_135 := k_lo v_135
        have hi_v_135 := k_hi v_135
        exact hRet (sc1_129, sc0_130) [0, 1] ⟨(vo_50 (m1 := c1) (g1 := c0) h_5 (by omega) (by unfold mSV; rw [if_neg (by omega)]) (by unfold gSV; rw [if_neg (by omega)]) h_132 ev_135), (by first | omega | decide | assumption | rfl | (dsimp only; first | omega)), (by first | omega | decide | assumption | rfl | (dsimp only; first | omega))⟩ hP hD (by decide) rfl hS rfl dX7_say_439
      by_cases c_136 : r_2.toInt = 51
      · refine lv_tableIn (off := 379) (tgt := 440) hx hb dX7_say_61 (by omega) (by omega) (by rw [c_136]; decide) (by decide) ?_
        refine lv_aload_n hx hb dX7_say_440 rfl (lv_at hl 2 rfl) ?_
        refine lv_iconst (v := 0) hx hb dX7_say_441 (by decide) ?_
        refine lv_iconst (v := 2) hx hb dX7_say_442 (by decide) ?_
        refine lv_iload_n hx hb dX7_say_443 rfl (lv_at hl 5 rfl) ?_
        refine lv_iload hx hb dX7_say_444 (lv_at hl 0 rfl) ?_
        refine kJi (wr := []) (va_runV (As := [.int 0, .int 2, .int a2, .int v_9]) (rest := []) ⟨hx, hb, hml, hown, hT⟩ (ih l D cI aK aV k k0 H.size c1 c2 c3 c4 c0 0 2 a2 v_9 (by first | omega | (simp only [zl_0, zl_2]; first | done | omega) | decide | assumption | rfl) (by first | omega | (simp only [zl_0, zl_2]; first | done | omega) | decide | assumption | rfl) (by first | omega | (simp only [zl_0, zl_2]; first | done | omega) | decide | assumption | rfl) (by first | omega | (simp only [zl_0, zl_2]; first | done | omega) | decide | assumption | rfl) (by first | omega | (simp only [zl_0, zl_2]; first | done | omega) | decide | assumption | rfl) (by first | omega | (simp only [zl_0, zl_2]; first | done | omega) | decide | assumption | rfl) (by first | omega | (simp only [zl_0, zl_2]; first | done | omega) | decide | assumption | rfl) (by first | omega | (simp only [zl_0, zl_2]; first | done | omega) | decide | assumption | rfl) (by first | omega | (simp only [zl_0, zl_2]; first | done | omega) | decide | assumption | rfl) (by first | omega | (simp only [zl_0, zl_2]; first | done | omega) | decide | assumption | rfl) (by first | omega | (simp only [zl_0, zl_2]; first | done | omega) | decide | assumption | rfl)) (cwV 4 hT (gV_in mw_1054 mw_1051 mw_1053 mw_p3_7 mw_10) rfl rfl rfl (by decide +kernel) ⟨(by dsimp only; omega), (by dsimp only; omega)⟩) (kRecvX (q0 := 0) (ci := 7) hK hP hD hN hXS hS hA rfl rfl [0, 1] rfl (by decide)) rfl rfl hl.1 rfl (lv_room (Nat.le_of_ble_eq_true rfl)) dX7_say_446 ⟨Nat.le_of_ble_eq_true rfl, Nat.le_of_ble_eq_true rfl⟩) hP hD hS hA [0, 1] [] rfl rfl (by decide) (by decide) ?_
        clear hP hD hS
        intro r_137 u_141 H locs w_138 hP hD hS
        obtain ⟨sc1_139, sc0_140⟩ := u_141
        replace hP : va_P D vwCl [(k, .inr (7, [.ref k0, .int sc1_139, .int c2, .int c3, .int c4])), (k0, .inl (cI, 40, .inl sc0_140))] H := hP
        replace hD : va_D A [(k, .inr (7, [.ref k0, .int sc1_139, .int c2, .int c3, .int c4])), (k0, .inl (cI, 40, .inl sc0_140))] := hD
        have lo_sc1_139 := k_lo sc1_139
        have hi_sc1_139 := k_hi sc1_139
        obtain ⟨h_142, h_143, h_144⟩ := w_138
        try simp only [zl_0, zl_2] at h_142
        have h_142 : voB c3 c4 c2 dd 0 2 a2 c1 c0 = (r_137, sc1_139, sc0_140) := h_142
        try simp only [zl_0, zl_2] at h_143
        have h_143 : 0 ≤ sc1_139.toInt := h_143
        try simp only [zl_0, zl_2] at h_144
        have h_144 : sc1_139.toInt ≤ 40 := h_144
        have lo_r_137 := k_lo r_137
        have hi_r_137 := k_hi r_137
        refine lv_aload_n hx hb dX7_say_449 rfl (lv_at hl 2 rfl) ?_
        refine lv_iconst (v := 0) hx hb dX7_say_450 (by decide) ?_
        refine lv_iconst (v := 1) hx hb dX7_say_451 (by decide) ?_
        refine lv_iload hx hb dX7_say_452 (lv_at hl 0 rfl) ?_
        refine kJi (wr := []) (va_runV (As := [.int 0, .int 1, .int v_9]) (rest := [.int r_137]) ⟨hx, hb, hml, hown, hT⟩ (c_X7_ownD_of dd ih l D cI aK aV k k0 H.size sc1_139 c2 c3 c4 sc0_140 0 1 v_9 (by first | omega | (simp only [zl_0, zl_1]; first | done | omega) | decide | assumption | rfl) (by first | omega | (simp only [zl_0, zl_1]; first | done | omega) | decide | assumption | rfl) (by first | omega | (simp only [zl_0, zl_1]; first | done | omega) | decide | assumption | rfl) (by first | omega | (simp only [zl_0, zl_1]; first | done | omega) | decide | assumption | rfl) (by first | omega | (simp only [zl_0, zl_1]; first | done | omega) | decide | assumption | rfl) (by first | omega | (simp only [zl_0, zl_1]; first | done | omega) | decide | assumption | rfl) (by first | omega | (simp only [zl_0, zl_1]; first | done | omega) | decide | assumption | rfl) (by first | omega | (simp only [zl_0, zl_1]; first | done | omega) | decide | assumption | rfl) (by first | omega | (simp only [zl_0, zl_1]; first | done | omega) | decide | assumption | rfl)) (cwV 3 hT (gV_in mw_1050 mw_1047 mw_1049 mw_p3_6 mw_10) rfl rfl rfl (by decide +kernel) ⟨(by dsimp only; omega), (by dsimp only; omega)⟩) (kRecvX (q0 := 0) (ci := 7) hK hP hD hN hXS hS hA rfl rfl [0, 1] rfl (by decide)) rfl rfl hl.1 rfl (lv_room (Nat.le_of_ble_eq_true rfl)) dX7_say_454 ⟨Nat.le_of_ble_eq_true rfl, Nat.le_of_ble_eq_true rfl⟩) hP hD hS hA [0, 1] [] rfl rfl (by decide) (by decide) ?_
        clear hP hD hS
        intro r_145 u_149 H locs w_146 hP hD hS
        obtain ⟨sc1_147, sc0_148⟩ := u_149
        replace hP : va_P D vwCl [(k, .inr (7, [.ref k0, .int sc1_147, .int c2, .int c3, .int c4])), (k0, .inl (cI, 40, .inl sc0_148))] H := hP
        replace hD : va_D A [(k, .inr (7, [.ref k0, .int sc1_147, .int c2, .int c3, .int c4])), (k0, .inl (cI, 40, .inl sc0_148))] := hD
        have lo_sc1_147 := k_lo sc1_147
        have hi_sc1_147 := k_hi sc1_147
        obtain ⟨h_150, h_151, h_152⟩ := w_146
        try simp only [zl_0, zl_1] at h_150
        have h_150 : voB c3 c4 c2 dd c2 0 1 sc1_139 sc0_140 = (r_145, sc1_147, sc0_148) := h_150
        try simp only [zl_0, zl_1] at h_151
        have h_151 : 0 ≤ sc1_147.toInt := h_151
        try simp only [zl_0, zl_1] at h_152
        have h_152 : sc1_147.toInt ≤ 40 := h_152
        have lo_r_145 := k_lo r_145
        have hi_r_145 := k_hi r_145
        refine lv_isub hx hb dX7_say_457 ?_
        refine lv_topi (fun v_153 ev_153 => ?_)
        have lo_v_153 := k_lo v_153
        have hi_v_153 := k_hi v_153
        exact hRet (sc1_147, sc0_148) [0, 1] ⟨(vo_51 (m1 := c1) (g1 := c0) h_5 (by omega) (by unfold mSV; rw [if_neg (by omega)]) (by unfold gSV; rw [if_neg (by omega)]) h_142 h_150 ev_153), (by first | omega | decide | assumption | rfl | (dsimp only; first | omega)), (by first | omega | decide | assumption | rfl | (dsimp only; first | omega))⟩ hP hD (by decide) rfl hS rfl dX7_say_458
      by_cases c_154 : r_2.toInt = 60
      · refine lv_tableIn (off := 398) (tgt := 459) hx hb dX7_say_61 (by omega) (by omega) (by rw [c_154]; decide) (by decide) ?_
        refine lv_aload_n hx hb dX7_say_459 rfl (lv_at hl 2 rfl) ?_
        refine lv_iconst (v := 4) hx hb dX7_say_460 (by decide) ?_
        refine lv_iconst (v := 1) hx hb dX7_say_461 (by decide) ?_
        refine lv_iload_n hx hb dX7_say_462 rfl (lv_at hl 5 rfl) ?_
        refine lv_iload hx hb dX7_say_463 (lv_at hl 0 rfl) ?_
        refine kJi (wr := []) (va_runV (As := [.int 4, .int 1, .int a2, .int v_9]) (rest := []) ⟨hx, hb, hml, hown, hT⟩ (ih l D cI aK aV k k0 H.size c1 c2 c3 c4 c0 4 1 a2 v_9 (by first | omega | (simp only [zl_1, zl_4]; first | done | omega) | decide | assumption | rfl) (by first | omega | (simp only [zl_1, zl_4]; first | done | omega) | decide | assumption | rfl) (by first | omega | (simp only [zl_1, zl_4]; first | done | omega) | decide | assumption | rfl) (by first | omega | (simp only [zl_1, zl_4]; first | done | omega) | decide | assumption | rfl) (by first | omega | (simp only [zl_1, zl_4]; first | done | omega) | decide | assumption | rfl) (by first | omega | (simp only [zl_1, zl_4]; first | done | omega) | decide | assumption | rfl) (by first | omega | (simp only [zl_1, zl_4]; first | done | omega) | decide | assumption | rfl) (by first | omega | (simp only [zl_1, zl_4]; first | done | omega) | decide | assumption | rfl) (by first | omega | (simp only [zl_1, zl_4]; first | done | omega) | decide | assumption | rfl) (by first | omega | (simp only [zl_1, zl_4]; first | done | omega) | decide | assumption | rfl) (by first | omega | (simp only [zl_1, zl_4]; first | done | omega) | decide | assumption | rfl)) (cwV 4 hT (gV_in mw_1054 mw_1051 mw_1053 mw_p3_7 mw_10) rfl rfl rfl (by decide +kernel) ⟨(by dsimp only; omega), (by dsimp only; omega)⟩) (kRecvX (q0 := 0) (ci := 7) hK hP hD hN hXS hS hA rfl rfl [0, 1] rfl (by decide)) rfl rfl hl.1 rfl (lv_room (Nat.le_of_ble_eq_true rfl)) dX7_say_465 ⟨Nat.le_of_ble_eq_true rfl, Nat.le_of_ble_eq_true rfl⟩) hP hD hS hA [0, 1] [] rfl rfl (by decide) (by decide) ?_
        clear hP hD hS
        intro r_155 u_159 H locs w_156 hP hD hS
        obtain ⟨sc1_157, sc0_158⟩ := u_159
        replace hP : va_P D vwCl [(k, .inr (7, [.ref k0, .int sc1_157, .int c2, .int c3, .int c4])), (k0, .inl (cI, 40, .inl sc0_158))] H := hP
        replace hD : va_D A [(k, .inr (7, [.ref k0, .int sc1_157, .int c2, .int c3, .int c4])), (k0, .inl (cI, 40, .inl sc0_158))] := hD
        have lo_sc1_157 := k_lo sc1_157
        have hi_sc1_157 := k_hi sc1_157
        obtain ⟨h_160, h_161, h_162⟩ := w_156
        try simp only [zl_1, zl_4] at h_160
        have h_160 : voB c3 c4 c2 dd 4 1 a2 c1 c0 = (r_155, sc1_157, sc0_158) := h_160
        try simp only [zl_1, zl_4] at h_161
        have h_161 : 0 ≤ sc1_157.toInt := h_161
        try simp only [zl_1, zl_4] at h_162
        have h_162 : sc1_157.toInt ≤ 40 := h_162
        have lo_r_155 := k_lo r_155
        have hi_r_155 := k_hi r_155
        refine lv_aload_n hx hb dX7_say_468 rfl (lv_at hl 2 rfl) ?_
        refine va_get (D := D) (ci := 7) (v := .int c4) (C := RX7) (T := TX7) (N := 5) hx hb hT giX7 hown hK hP 0 rfl rfl 4 (by decide) (hT (Cond.fieldLink RX7 25 "DesertWire$Voices" "w" "I") mw_263) (fun _ h9 => h9) rfl dX7_say_469 ?_
        refine lv_imul hx hb dX7_say_472 ?_
        refine lv_topi (fun v_163 ev_163 => ?_)
        have lo_v_163 := k_lo v_163
        have hi_v_163 := k_hi v_163
        exact hRet (sc1_157, sc0_158) [0, 1] ⟨(vo_60 (m1 := c1) (g1 := c0) h_5 (by omega) (by unfold mSV; rw [if_neg (by omega)]) (by unfold gSV; rw [if_neg (by omega)]) h_160 ev_163), (by first | omega | decide | assumption | rfl | (dsimp only; first | omega)), (by first | omega | decide | assumption | rfl | (dsimp only; first | omega))⟩ hP hD (by decide) rfl hS rfl dX7_say_473
      refine lv_tableOut (tgt := 474) hx hb dX7_say_61 (by omega) (by decide) ?_
      refine lv_iconst (v := 0) hx hb dX7_say_474 (by decide) ?_
      refine lv_aload_n hx hb dX7_say_475 rfl (lv_at hl 2 rfl) ?_
      refine lv_iconst (v := 4) hx hb dX7_say_476 (by decide) ?_
      refine lv_iconst (v := 3) hx hb dX7_say_477 (by decide) ?_
      refine lv_iload_n hx hb dX7_say_478 rfl (lv_at hl 5 rfl) ?_
      refine lv_iload hx hb dX7_say_479 (lv_at hl 0 rfl) ?_
      refine kJi (wr := []) (va_runV (As := [.int 4, .int 3, .int a2, .int v_9]) (rest := [.int 0]) ⟨hx, hb, hml, hown, hT⟩ (ih l D cI aK aV k k0 H.size c1 c2 c3 c4 c0 4 3 a2 v_9 (by first | omega | (simp only [zl_3, zl_4]; first | done | omega) | decide | assumption | rfl) (by first | omega | (simp only [zl_3, zl_4]; first | done | omega) | decide | assumption | rfl) (by first | omega | (simp only [zl_3, zl_4]; first | done | omega) | decide | assumption | rfl) (by first | omega | (simp only [zl_3, zl_4]; first | done | omega) | decide | assumption | rfl) (by first | omega | (simp only [zl_3, zl_4]; first | done | omega) | decide | assumption | rfl) (by first | omega | (simp only [zl_3, zl_4]; first | done | omega) | decide | assumption | rfl) (by first | omega | (simp only [zl_3, zl_4]; first | done | omega) | decide | assumption | rfl) (by first | omega | (simp only [zl_3, zl_4]; first | done | omega) | decide | assumption | rfl) (by first | omega | (simp only [zl_3, zl_4]; first | done | omega) | decide | assumption | rfl) (by first | omega | (simp only [zl_3, zl_4]; first | done | omega) | decide | assumption | rfl) (by first | omega | (simp only [zl_3, zl_4]; first | done | omega) | decide | assumption | rfl)) (cwV 4 hT (gV_in mw_1054 mw_1051 mw_1053 mw_p3_7 mw_10) rfl rfl rfl (by decide +kernel) ⟨(by dsimp only; omega), (by dsimp only; omega)⟩) (kRecvX (q0 := 0) (ci := 7) hK hP hD hN hXS hS hA rfl rfl [0, 1] rfl (by decide)) rfl rfl hl.1 rfl (lv_room (Nat.le_of_ble_eq_true rfl)) dX7_say_481 ⟨Nat.le_of_ble_eq_true rfl, Nat.le_of_ble_eq_true rfl⟩) hP hD hS hA [0, 1] [] rfl rfl (by decide) (by decide) ?_
      clear hP hD hS
      intro r_164 u_168 H locs w_165 hP hD hS
      obtain ⟨sc1_166, sc0_167⟩ := u_168
      replace hP : va_P D vwCl [(k, .inr (7, [.ref k0, .int sc1_166, .int c2, .int c3, .int c4])), (k0, .inl (cI, 40, .inl sc0_167))] H := hP
      replace hD : va_D A [(k, .inr (7, [.ref k0, .int sc1_166, .int c2, .int c3, .int c4])), (k0, .inl (cI, 40, .inl sc0_167))] := hD
      have lo_sc1_166 := k_lo sc1_166
      have hi_sc1_166 := k_hi sc1_166
      obtain ⟨h_169, h_170, h_171⟩ := w_165
      try simp only [zl_3, zl_4] at h_169
      have h_169 : voB c3 c4 c2 dd 4 3 a2 c1 c0 = (r_164, sc1_166, sc0_167) := h_169
      try simp only [zl_3, zl_4] at h_170
      have h_170 : 0 ≤ sc1_166.toInt := h_170
      try simp only [zl_3, zl_4] at h_171
      have h_171 : sc1_166.toInt ≤ 40 := h_171
      have lo_r_164 := k_lo r_164
      have hi_r_164 := k_hi r_164
      refine lv_isub hx hb dX7_say_484 ?_
      refine lv_topi (fun v_172 ev_172 => ?_)
      have lo_v_172 := k_lo v_172
      have hi_v_172 := k_hi v_172
      exact hRet (sc1_166, sc0_167) [0, 1] ⟨(vo_61 (m1 := c1) (g1 := c0) h_5 (by omega) (by unfold mSV; rw [if_neg (by omega)]) (by unfold gSV; rw [if_neg (by omega)]) h_169 ev_172), (by first | omega | decide | assumption | rfl | (dsimp only; first | omega)), (by first | omega | decide | assumption | rfl | (dsimp only; first | omega))⟩ hP hD (by decide) rfl hS rfl dX7_say_485
    · refine lv_aload_n hx hb dX7_say_32 rfl (lv_at hl 1 rfl) ?_
      refine va_get (D := D) (ci := 7) (v := .ref k0) (C := RX7) (T := TX7) (N := 5) hx hb hT giX7 hown hK hP 0 rfl rfl 0 (by decide) (hT (Cond.fieldLink RX7 9 "DesertWire$Voices" "bodies" "[I") mw_258) (fun _ h9 => h9) rfl dX7_say_33 ?_
      refine lv_aload_n hx hb dX7_say_36 rfl (lv_at hl 1 rfl) ?_
      refine va_get (D := D) (ci := 7) (v := .int c1) (C := RX7) (T := TX7) (N := 5) hx hb hT giX7 hown hK hP 0 rfl rfl 1 (by decide) (hT (Cond.fieldLink RX7 15 "DesertWire$Voices" "begun" "I") mw_259) (fun _ h9 => h9) rfl dX7_say_37 ?_
      refine lv_iload hx hb dX7_say_40 (lv_at hl 0 rfl) ?_
      refine va_iast hx hb hK hP hD hS 1 0 rfl rfl (k_in (by omega) (by omega)) dX7_say_42 ?_
      clear hP hD hS
      intro H locs hP hD hS
      replace hP : va_P D vwCl [(k, .inr (7, [.ref k0, .int c1, .int c2, .int c3, .int c4])), (k0, .inl (cI, 40, .inl (upd c0 c1.toNatClampNeg r_2)))] H := hP
      replace hD : va_D A [(k, .inr (7, [.ref k0, .int c1, .int c2, .int c3, .int c4])), (k0, .inl (cI, 40, .inl (upd c0 c1.toNatClampNeg r_2)))] := hD
      obtain ⟨f_173, ef_173⟩ : ∃ g : Nat → Int32, g = upd c0 c1.toNatClampNeg r_2 := ⟨_, rfl⟩
      rw [← ef_173] at hP hD
      refine lv_aload_n hx hb dX7_say_43 rfl (lv_at hl 1 rfl) ?_
      refine lv_dup hx hb dX7_say_44 rfl ?_
      refine va_get (D := D) (ci := 7) (v := .int c1) (C := RX7) (T := TX7) (N := 5) hx hb hT giX7 hown hK hP 0 rfl rfl 1 (by decide) (hT (Cond.fieldLink RX7 15 "DesertWire$Voices" "begun" "I") mw_259) (fun _ h9 => h9) rfl dX7_say_45 ?_
      refine lv_iconst (v := 1) hx hb dX7_say_48 (by decide) ?_
      refine lv_iadd hx hb dX7_say_49 ?_
      refine lv_topi (fun v_174 ev_174 => ?_)
      have tv_174 : v_174.toInt = c1.toInt + 1 := by rw [ev_174]; exact k_addv rfl zl_1 (by omega) (by omega)
      refine va_put (D := D) (ci := 7) (v := .int v_174) (ty := .int) (C := RX7) (T := TX7) (N := 5) hx hb hT giX7 tyX7 tyX7_ok nmX7 hown hK hP hD hS 0 rfl rfl 1 (by decide) (hT (Cond.fieldLink RX7 15 "DesertWire$Voices" "begun" "I") mw_259) (fun _ h9 => h9) rfl (by decide +kernel) rfl rfl (Nat.le_of_ble_eq_true rfl) dX7_say_50 ?_
      clear hP hD hS
      intro H locs hP hD hS
      replace hP : va_P D vwCl [(k, .inr (7, [.ref k0, .int v_174, .int c2, .int c3, .int c4])), (k0, .inl (cI, 40, .inl f_173))] H := hP
      replace hD : va_D A [(k, .inr (7, [.ref k0, .int v_174, .int c2, .int c3, .int c4])), (k0, .inl (cI, 40, .inl f_173))] := hD
      refine lv_iload hx hb dX7_say_53 (lv_at hl 5 rfl) ?_
      refine lv_iconst (v := 1) hx hb dX7_say_55 (by decide) ?_
      refine lv_iadd hx hb dX7_say_56 ?_
      refine lv_topi (fun v_175 ev_175 => ?_)
      have tv_175 : v_175.toInt = a3.toInt + 1 := by rw [ev_175]; exact k_addv rfl zl_1 (by omega) (by omega)
      refine lv_istore (lv' := [(6, .int v_175), (5, .int r_2), (0, .ref k), (1, .int a0), (2, .int a1), (3, .int a2), (4, .int a3)]) hx hb dX7_say_57 hl (by decide) rfl ?_
      clear hl
      intro ls hl
      refine lv_iload hx hb dX7_say_59 (lv_at hl 1 rfl) ?_
      by_cases c_176 : r_2.toInt = 10
      · refine lv_tableIn (off := 219) (tgt := 280) hx hb dX7_say_61 (by omega) (by omega) (by rw [c_176]; decide) (by decide) ?_
        refine lv_iload_n hx hb dX7_say_280 rfl (lv_at hl 5 rfl) ?_
        refine lv_aload_n hx hb dX7_say_281 rfl (lv_at hl 2 rfl) ?_
        refine va_get (D := D) (ci := 7) (v := .int c3) (C := RX7) (T := TX7) (N := 5) hx hb hT giX7 hown hK hP 0 rfl rfl 3 (by decide) (hT (Cond.fieldLink RX7 22 "DesertWire$Voices" "n" "I") mw_262) (fun _ h9 => h9) rfl dX7_say_282 ?_
        refine lv_isub hx hb dX7_say_285 ?_
        refine lv_topi (fun v_177 ev_177 => ?_)
        have lo_v_177 := k_lo v_177
        have hi_v_177 := k_hi v_177
        exact hRet (v_174, f_173) [0, 1] ⟨(vo_10 (m1 := v_174) (g1 := f_173) h_5 (by omega) (by unfold mSV; rw [if_pos (by omega), ev_174]) (by unfold gSV; rw [if_pos (by omega)]; exact up_in ef_173 rfl)  ev_177), (by first | omega | decide | assumption | rfl | (dsimp only; first | omega)), (by first | omega | decide | assumption | rfl | (dsimp only; first | omega))⟩ hP hD (by decide) rfl hS rfl dX7_say_286
      by_cases c_178 : r_2.toInt = 11
      · refine lv_tableIn (off := 226) (tgt := 287) hx hb dX7_say_61 (by omega) (by omega) (by rw [c_178]; decide) (by decide) ?_
        refine lv_aload_n hx hb dX7_say_287 rfl (lv_at hl 2 rfl) ?_
        refine lv_iconst (v := 0) hx hb dX7_say_288 (by decide) ?_
        refine lv_iload_n hx hb dX7_say_289 rfl (lv_at hl 5 rfl) ?_
        refine lv_iload hx hb dX7_say_290 (lv_at hl 0 rfl) ?_
        refine kJi (wr := []) (va_runV (As := [.int 0, .int a2, .int v_175]) (rest := []) ⟨hx, hb, hml, hown, hT⟩ (c_X7_ownD_of dd ih l D cI aK aV k k0 H.size v_174 c2 c3 c4 f_173 0 a2 v_175 (by first | omega | (simp only [zl_0]; first | done | omega) | decide | assumption | rfl) (by first | omega | (simp only [zl_0]; first | done | omega) | decide | assumption | rfl) (by first | omega | (simp only [zl_0]; first | done | omega) | decide | assumption | rfl) (by first | omega | (simp only [zl_0]; first | done | omega) | decide | assumption | rfl) (by first | omega | (simp only [zl_0]; first | done | omega) | decide | assumption | rfl) (by first | omega | (simp only [zl_0]; first | done | omega) | decide | assumption | rfl) (by first | omega | (simp only [zl_0]; first | done | omega) | decide | assumption | rfl) (by first | omega | (simp only [zl_0]; first | done | omega) | decide | assumption | rfl) (by first | omega | (simp only [zl_0]; first | done | omega) | decide | assumption | rfl)) (cwV 3 hT (gV_in mw_1050 mw_1047 mw_1049 mw_p3_6 mw_10) rfl rfl rfl (by decide +kernel) ⟨(by dsimp only; omega), (by dsimp only; omega)⟩) (kRecvX (q0 := 0) (ci := 7) hK hP hD hN hXS hS hA rfl rfl [0, 1] rfl (by decide)) rfl rfl hl.1 rfl (lv_room (Nat.le_of_ble_eq_true rfl)) dX7_say_292 ⟨Nat.le_of_ble_eq_true rfl, Nat.le_of_ble_eq_true rfl⟩) hP hD hS hA [0, 1] [] rfl rfl (by decide) (by decide) ?_
        clear hP hD hS
        intro r_179 u_183 H locs w_180 hP hD hS
        obtain ⟨sc1_181, sc0_182⟩ := u_183
        replace hP : va_P D vwCl [(k, .inr (7, [.ref k0, .int sc1_181, .int c2, .int c3, .int c4])), (k0, .inl (cI, 40, .inl sc0_182))] H := hP
        replace hD : va_D A [(k, .inr (7, [.ref k0, .int sc1_181, .int c2, .int c3, .int c4])), (k0, .inl (cI, 40, .inl sc0_182))] := hD
        have lo_sc1_181 := k_lo sc1_181
        have hi_sc1_181 := k_hi sc1_181
        obtain ⟨h_184, h_185, h_186⟩ := w_180
        try simp only [zl_0] at h_184
        have h_184 : voB c3 c4 c2 dd c2 0 a2 v_174 f_173 = (r_179, sc1_181, sc0_182) := h_184
        try simp only [zl_0] at h_185
        have h_185 : 0 ≤ sc1_181.toInt := h_185
        try simp only [zl_0] at h_186
        have h_186 : sc1_181.toInt ≤ 40 := h_186
        have lo_r_179 := k_lo r_179
        have hi_r_179 := k_hi r_179
        refine lv_aload_n hx hb dX7_say_295 rfl (lv_at hl 2 rfl) ?_
        refine va_get (D := D) (ci := 7) (v := .int c4) (C := RX7) (T := TX7) (N := 5) hx hb hT giX7 hown hK hP 0 rfl rfl 4 (by decide) (hT (Cond.fieldLink RX7 25 "DesertWire$Voices" "w" "I") mw_263) (fun _ h9 => h9) rfl dX7_say_296 ?_
        refine lv_iadd hx hb dX7_say_299 ?_
        refine lv_topi (fun v_187 ev_187 => ?_)
        have lo_v_187 := k_lo v_187
        have hi_v_187 := k_hi v_187
        exact hRet (sc1_181, sc0_182) [0, 1] ⟨(vo_11 (m1 := v_174) (g1 := f_173) h_5 (by omega) (by unfold mSV; rw [if_pos (by omega), ev_174]) (by unfold gSV; rw [if_pos (by omega)]; exact up_in ef_173 rfl) h_184 ev_187), (by first | omega | decide | assumption | rfl | (dsimp only; first | omega)), (by first | omega | decide | assumption | rfl | (dsimp only; first | omega))⟩ hP hD (by decide) rfl hS rfl dX7_say_300
      by_cases c_188 : r_2.toInt = 12
      · refine lv_tableIn (off := 240) (tgt := 301) hx hb dX7_say_61 (by omega) (by omega) (by rw [c_188]; decide) (by decide) ?_
        refine lv_aload_n hx hb dX7_say_301 rfl (lv_at hl 2 rfl) ?_
        refine lv_iconst (v := 1) hx hb dX7_say_302 (by decide) ?_
        refine lv_iload_n hx hb dX7_say_303 rfl (lv_at hl 5 rfl) ?_
        refine lv_iload hx hb dX7_say_304 (lv_at hl 0 rfl) ?_
        refine kJi (wr := []) (va_runV (As := [.int 1, .int a2, .int v_175]) (rest := []) ⟨hx, hb, hml, hown, hT⟩ (c_X7_ownD_of dd ih l D cI aK aV k k0 H.size v_174 c2 c3 c4 f_173 1 a2 v_175 (by first | omega | (simp only [zl_1]; first | done | omega) | decide | assumption | rfl) (by first | omega | (simp only [zl_1]; first | done | omega) | decide | assumption | rfl) (by first | omega | (simp only [zl_1]; first | done | omega) | decide | assumption | rfl) (by first | omega | (simp only [zl_1]; first | done | omega) | decide | assumption | rfl) (by first | omega | (simp only [zl_1]; first | done | omega) | decide | assumption | rfl) (by first | omega | (simp only [zl_1]; first | done | omega) | decide | assumption | rfl) (by first | omega | (simp only [zl_1]; first | done | omega) | decide | assumption | rfl) (by first | omega | (simp only [zl_1]; first | done | omega) | decide | assumption | rfl) (by first | omega | (simp only [zl_1]; first | done | omega) | decide | assumption | rfl)) (cwV 3 hT (gV_in mw_1050 mw_1047 mw_1049 mw_p3_6 mw_10) rfl rfl rfl (by decide +kernel) ⟨(by dsimp only; omega), (by dsimp only; omega)⟩) (kRecvX (q0 := 0) (ci := 7) hK hP hD hN hXS hS hA rfl rfl [0, 1] rfl (by decide)) rfl rfl hl.1 rfl (lv_room (Nat.le_of_ble_eq_true rfl)) dX7_say_306 ⟨Nat.le_of_ble_eq_true rfl, Nat.le_of_ble_eq_true rfl⟩) hP hD hS hA [0, 1] [] rfl rfl (by decide) (by decide) ?_
        clear hP hD hS
        intro r_189 u_193 H locs w_190 hP hD hS
        obtain ⟨sc1_191, sc0_192⟩ := u_193
        replace hP : va_P D vwCl [(k, .inr (7, [.ref k0, .int sc1_191, .int c2, .int c3, .int c4])), (k0, .inl (cI, 40, .inl sc0_192))] H := hP
        replace hD : va_D A [(k, .inr (7, [.ref k0, .int sc1_191, .int c2, .int c3, .int c4])), (k0, .inl (cI, 40, .inl sc0_192))] := hD
        have lo_sc1_191 := k_lo sc1_191
        have hi_sc1_191 := k_hi sc1_191
        obtain ⟨h_194, h_195, h_196⟩ := w_190
        try simp only [zl_1] at h_194
        have h_194 : voB c3 c4 c2 dd c2 1 a2 v_174 f_173 = (r_189, sc1_191, sc0_192) := h_194
        try simp only [zl_1] at h_195
        have h_195 : 0 ≤ sc1_191.toInt := h_195
        try simp only [zl_1] at h_196
        have h_196 : sc1_191.toInt ≤ 40 := h_196
        have lo_r_189 := k_lo r_189
        have hi_r_189 := k_hi r_189
        refine lv_iconst (v := 2) hx hb dX7_say_309 (by decide) ?_
        refine lv_imul hx hb dX7_say_310 ?_
        refine lv_topi (fun v_197 ev_197 => ?_)
        have lo_v_197 := k_lo v_197
        have hi_v_197 := k_hi v_197
        exact hRet (sc1_191, sc0_192) [0, 1] ⟨(vo_12 (m1 := v_174) (g1 := f_173) h_5 (by omega) (by unfold mSV; rw [if_pos (by omega), ev_174]) (by unfold gSV; rw [if_pos (by omega)]; exact up_in ef_173 rfl) h_194 ev_197), (by first | omega | decide | assumption | rfl | (dsimp only; first | omega)), (by first | omega | decide | assumption | rfl | (dsimp only; first | omega))⟩ hP hD (by decide) rfl hS rfl dX7_say_311
      by_cases c_198 : r_2.toInt = 13
      · refine lv_tableIn (off := 251) (tgt := 312) hx hb dX7_say_61 (by omega) (by omega) (by rw [c_198]; decide) (by decide) ?_
        refine lv_aload_n hx hb dX7_say_312 rfl (lv_at hl 2 rfl) ?_
        refine lv_iconst (v := 2) hx hb dX7_say_313 (by decide) ?_
        refine lv_iload_n hx hb dX7_say_314 rfl (lv_at hl 5 rfl) ?_
        refine lv_iload hx hb dX7_say_315 (lv_at hl 0 rfl) ?_
        refine kJi (wr := []) (va_runV (As := [.int 2, .int a2, .int v_175]) (rest := []) ⟨hx, hb, hml, hown, hT⟩ (c_X7_ownD_of dd ih l D cI aK aV k k0 H.size v_174 c2 c3 c4 f_173 2 a2 v_175 (by first | omega | (simp only [zl_2]; first | done | omega) | decide | assumption | rfl) (by first | omega | (simp only [zl_2]; first | done | omega) | decide | assumption | rfl) (by first | omega | (simp only [zl_2]; first | done | omega) | decide | assumption | rfl) (by first | omega | (simp only [zl_2]; first | done | omega) | decide | assumption | rfl) (by first | omega | (simp only [zl_2]; first | done | omega) | decide | assumption | rfl) (by first | omega | (simp only [zl_2]; first | done | omega) | decide | assumption | rfl) (by first | omega | (simp only [zl_2]; first | done | omega) | decide | assumption | rfl) (by first | omega | (simp only [zl_2]; first | done | omega) | decide | assumption | rfl) (by first | omega | (simp only [zl_2]; first | done | omega) | decide | assumption | rfl)) (cwV 3 hT (gV_in mw_1050 mw_1047 mw_1049 mw_p3_6 mw_10) rfl rfl rfl (by decide +kernel) ⟨(by dsimp only; omega), (by dsimp only; omega)⟩) (kRecvX (q0 := 0) (ci := 7) hK hP hD hN hXS hS hA rfl rfl [0, 1] rfl (by decide)) rfl rfl hl.1 rfl (lv_room (Nat.le_of_ble_eq_true rfl)) dX7_say_317 ⟨Nat.le_of_ble_eq_true rfl, Nat.le_of_ble_eq_true rfl⟩) hP hD hS hA [0, 1] [] rfl rfl (by decide) (by decide) ?_
        clear hP hD hS
        intro r_199 u_203 H locs w_200 hP hD hS
        obtain ⟨sc1_201, sc0_202⟩ := u_203
        replace hP : va_P D vwCl [(k, .inr (7, [.ref k0, .int sc1_201, .int c2, .int c3, .int c4])), (k0, .inl (cI, 40, .inl sc0_202))] H := hP
        replace hD : va_D A [(k, .inr (7, [.ref k0, .int sc1_201, .int c2, .int c3, .int c4])), (k0, .inl (cI, 40, .inl sc0_202))] := hD
        have lo_sc1_201 := k_lo sc1_201
        have hi_sc1_201 := k_hi sc1_201
        obtain ⟨h_204, h_205, h_206⟩ := w_200
        try simp only [zl_2] at h_204
        have h_204 : voB c3 c4 c2 dd c2 2 a2 v_174 f_173 = (r_199, sc1_201, sc0_202) := h_204
        try simp only [zl_2] at h_205
        have h_205 : 0 ≤ sc1_201.toInt := h_205
        try simp only [zl_2] at h_206
        have h_206 : sc1_201.toInt ≤ 40 := h_206
        have lo_r_199 := k_lo r_199
        have hi_r_199 := k_hi r_199
        refine lv_aload_n hx hb dX7_say_320 rfl (lv_at hl 2 rfl) ?_
        refine lv_iconst (v := 0) hx hb dX7_say_321 (by decide) ?_
        refine lv_iload_n hx hb dX7_say_322 rfl (lv_at hl 5 rfl) ?_
        refine lv_iload hx hb dX7_say_323 (lv_at hl 0 rfl) ?_
        refine kJi (wr := []) (va_runV (As := [.int 0, .int a2, .int v_175]) (rest := [.int r_199]) ⟨hx, hb, hml, hown, hT⟩ (c_X7_ownD_of dd ih l D cI aK aV k k0 H.size sc1_201 c2 c3 c4 sc0_202 0 a2 v_175 (by first | omega | (simp only [zl_0]; first | done | omega) | decide | assumption | rfl) (by first | omega | (simp only [zl_0]; first | done | omega) | decide | assumption | rfl) (by first | omega | (simp only [zl_0]; first | done | omega) | decide | assumption | rfl) (by first | omega | (simp only [zl_0]; first | done | omega) | decide | assumption | rfl) (by first | omega | (simp only [zl_0]; first | done | omega) | decide | assumption | rfl) (by first | omega | (simp only [zl_0]; first | done | omega) | decide | assumption | rfl) (by first | omega | (simp only [zl_0]; first | done | omega) | decide | assumption | rfl) (by first | omega | (simp only [zl_0]; first | done | omega) | decide | assumption | rfl) (by first | omega | (simp only [zl_0]; first | done | omega) | decide | assumption | rfl)) (cwV 3 hT (gV_in mw_1050 mw_1047 mw_1049 mw_p3_6 mw_10) rfl rfl rfl (by decide +kernel) ⟨(by dsimp only; omega), (by dsimp only; omega)⟩) (kRecvX (q0 := 0) (ci := 7) hK hP hD hN hXS hS hA rfl rfl [0, 1] rfl (by decide)) rfl rfl hl.1 rfl (lv_room (Nat.le_of_ble_eq_true rfl)) dX7_say_325 ⟨Nat.le_of_ble_eq_true rfl, Nat.le_of_ble_eq_true rfl⟩) hP hD hS hA [0, 1] [] rfl rfl (by decide) (by decide) ?_
        clear hP hD hS
        intro r_207 u_211 H locs w_208 hP hD hS
        obtain ⟨sc1_209, sc0_210⟩ := u_211
        replace hP : va_P D vwCl [(k, .inr (7, [.ref k0, .int sc1_209, .int c2, .int c3, .int c4])), (k0, .inl (cI, 40, .inl sc0_210))] H := hP
        replace hD : va_D A [(k, .inr (7, [.ref k0, .int sc1_209, .int c2, .int c3, .int c4])), (k0, .inl (cI, 40, .inl sc0_210))] := hD
        have lo_sc1_209 := k_lo sc1_209
        have hi_sc1_209 := k_hi sc1_209
        obtain ⟨h_212, h_213, h_214⟩ := w_208
        try simp only [zl_0] at h_212
        have h_212 : voB c3 c4 c2 dd c2 0 a2 sc1_201 sc0_202 = (r_207, sc1_209, sc0_210) := h_212
        try simp only [zl_0] at h_213
        have h_213 : 0 ≤ sc1_209.toInt := h_213
        try simp only [zl_0] at h_214
        have h_214 : sc1_209.toInt ≤ 40 := h_214
        have lo_r_207 := k_lo r_207
        have hi_r_207 := k_hi r_207
        refine lv_ixor hx hb dX7_say_328 ?_
        refine lv_topi (fun v_215 ev_215 => ?_)
        have lo_v_215 := k_lo v_215
        have hi_v_215 := k_hi v_215
        exact hRet (sc1_209, sc0_210) [0, 1] ⟨(vo_13 (m1 := v_174) (g1 := f_173) h_5 (by omega) (by unfold mSV; rw [if_pos (by omega), ev_174]) (by unfold gSV; rw [if_pos (by omega)]; exact up_in ef_173 rfl) h_204 h_212 ev_215), (by first | omega | decide | assumption | rfl | (dsimp only; first | omega)), (by first | omega | decide | assumption | rfl | (dsimp only; first | omega))⟩ hP hD (by decide) rfl hS rfl dX7_say_329
      by_cases c_216 : r_2.toInt = 20
      · refine lv_tableIn (off := 269) (tgt := 330) hx hb dX7_say_61 (by omega) (by omega) (by rw [c_216]; decide) (by decide) ?_
        refine lv_aload_n hx hb dX7_say_330 rfl (lv_at hl 2 rfl) ?_
        refine lv_iconst (v := 0) hx hb dX7_say_331 (by decide) ?_
        refine lv_iconst (v := 1) hx hb dX7_say_332 (by decide) ?_
        refine lv_iload_n hx hb dX7_say_333 rfl (lv_at hl 5 rfl) ?_
        refine lv_iconst (v := 1) hx hb dX7_say_334 (by decide) ?_
        refine lv_iadd hx hb dX7_say_335 ?_
        refine lv_topi (fun v_217 ev_217 => ?_)
        have lo_v_217 := k_lo v_217
        have hi_v_217 := k_hi v_217
        refine lv_iload hx hb dX7_say_336 (lv_at hl 0 rfl) ?_
        refine kJi (wr := []) (va_runV (As := [.int 0, .int 1, .int v_217, .int v_175]) (rest := []) ⟨hx, hb, hml, hown, hT⟩ (ih l D cI aK aV k k0 H.size v_174 c2 c3 c4 f_173 0 1 v_217 v_175 (by first | omega | (simp only [zl_0, zl_1]; first | done | omega) | decide | assumption | rfl) (by first | omega | (simp only [zl_0, zl_1]; first | done | omega) | decide | assumption | rfl) (by first | omega | (simp only [zl_0, zl_1]; first | done | omega) | decide | assumption | rfl) (by first | omega | (simp only [zl_0, zl_1]; first | done | omega) | decide | assumption | rfl) (by first | omega | (simp only [zl_0, zl_1]; first | done | omega) | decide | assumption | rfl) (by first | omega | (simp only [zl_0, zl_1]; first | done | omega) | decide | assumption | rfl) (by first | omega | (simp only [zl_0, zl_1]; first | done | omega) | decide | assumption | rfl) (by first | omega | (simp only [zl_0, zl_1]; first | done | omega) | decide | assumption | rfl) (by first | omega | (simp only [zl_0, zl_1]; first | done | omega) | decide | assumption | rfl) (by first | omega | (simp only [zl_0, zl_1]; first | done | omega) | decide | assumption | rfl) (by first | omega | (simp only [zl_0, zl_1]; first | done | omega) | decide | assumption | rfl)) (cwV 4 hT (gV_in mw_1054 mw_1051 mw_1053 mw_p3_7 mw_10) rfl rfl rfl (by decide +kernel) ⟨(by dsimp only; omega), (by dsimp only; omega)⟩) (kRecvX (q0 := 0) (ci := 7) hK hP hD hN hXS hS hA rfl rfl [0, 1] rfl (by decide)) rfl rfl hl.1 rfl (lv_room (Nat.le_of_ble_eq_true rfl)) dX7_say_338 ⟨Nat.le_of_ble_eq_true rfl, Nat.le_of_ble_eq_true rfl⟩) hP hD hS hA [0, 1] [] rfl rfl (by decide) (by decide) ?_
        clear hP hD hS
        intro r_218 u_222 H locs w_219 hP hD hS
        obtain ⟨sc1_220, sc0_221⟩ := u_222
        replace hP : va_P D vwCl [(k, .inr (7, [.ref k0, .int sc1_220, .int c2, .int c3, .int c4])), (k0, .inl (cI, 40, .inl sc0_221))] H := hP
        replace hD : va_D A [(k, .inr (7, [.ref k0, .int sc1_220, .int c2, .int c3, .int c4])), (k0, .inl (cI, 40, .inl sc0_221))] := hD
        have lo_sc1_220 := k_lo sc1_220
        have hi_sc1_220 := k_hi sc1_220
        obtain ⟨h_223, h_224, h_225⟩ := w_219
        try simp only [zl_0, zl_1] at h_223
        have h_223 : voB c3 c4 c2 dd 0 1 v_217 v_174 f_173 = (r_218, sc1_220, sc0_221) := h_223
        try simp only [zl_0, zl_1] at h_224
        have h_224 : 0 ≤ sc1_220.toInt := h_224
        try simp only [zl_0, zl_1] at h_225
        have h_225 : sc1_220.toInt ≤ 40 := h_225
        have lo_r_218 := k_lo r_218
        have hi_r_218 := k_hi r_218
        exact hRet (sc1_220, sc0_221) [0, 1] ⟨(vo_20 (m1 := v_174) (g1 := f_173) h_5 (by omega) (by unfold mSV; rw [if_pos (by omega), ev_174]) (by unfold gSV; rw [if_pos (by omega)]; exact up_in ef_173 rfl) (by rw [← ev_217]; exact h_223) rfl), (by first | omega | decide | assumption | rfl | (dsimp only; first | omega)), (by first | omega | decide | assumption | rfl | (dsimp only; first | omega))⟩ hP hD (by decide) rfl hS rfl dX7_say_341
      by_cases c_226 : r_2.toInt = 21
      · refine lv_tableIn (off := 281) (tgt := 342) hx hb dX7_say_61 (by omega) (by omega) (by rw [c_226]; decide) (by decide) ?_
        refine lv_aload_n hx hb dX7_say_342 rfl (lv_at hl 2 rfl) ?_
        refine lv_iconst (v := 0) hx hb dX7_say_343 (by decide) ?_
        refine lv_iconst (v := 3) hx hb dX7_say_344 (by decide) ?_
        refine lv_iload_n hx hb dX7_say_345 rfl (lv_at hl 5 rfl) ?_
        refine lv_iload hx hb dX7_say_346 (lv_at hl 0 rfl) ?_
        refine kJi (wr := []) (va_runV (As := [.int 0, .int 3, .int a2, .int v_175]) (rest := []) ⟨hx, hb, hml, hown, hT⟩ (ih l D cI aK aV k k0 H.size v_174 c2 c3 c4 f_173 0 3 a2 v_175 (by first | omega | (simp only [zl_0, zl_3]; first | done | omega) | decide | assumption | rfl) (by first | omega | (simp only [zl_0, zl_3]; first | done | omega) | decide | assumption | rfl) (by first | omega | (simp only [zl_0, zl_3]; first | done | omega) | decide | assumption | rfl) (by first | omega | (simp only [zl_0, zl_3]; first | done | omega) | decide | assumption | rfl) (by first | omega | (simp only [zl_0, zl_3]; first | done | omega) | decide | assumption | rfl) (by first | omega | (simp only [zl_0, zl_3]; first | done | omega) | decide | assumption | rfl) (by first | omega | (simp only [zl_0, zl_3]; first | done | omega) | decide | assumption | rfl) (by first | omega | (simp only [zl_0, zl_3]; first | done | omega) | decide | assumption | rfl) (by first | omega | (simp only [zl_0, zl_3]; first | done | omega) | decide | assumption | rfl) (by first | omega | (simp only [zl_0, zl_3]; first | done | omega) | decide | assumption | rfl) (by first | omega | (simp only [zl_0, zl_3]; first | done | omega) | decide | assumption | rfl)) (cwV 4 hT (gV_in mw_1054 mw_1051 mw_1053 mw_p3_7 mw_10) rfl rfl rfl (by decide +kernel) ⟨(by dsimp only; omega), (by dsimp only; omega)⟩) (kRecvX (q0 := 0) (ci := 7) hK hP hD hN hXS hS hA rfl rfl [0, 1] rfl (by decide)) rfl rfl hl.1 rfl (lv_room (Nat.le_of_ble_eq_true rfl)) dX7_say_348 ⟨Nat.le_of_ble_eq_true rfl, Nat.le_of_ble_eq_true rfl⟩) hP hD hS hA [0, 1] [] rfl rfl (by decide) (by decide) ?_
        clear hP hD hS
        intro r_227 u_231 H locs w_228 hP hD hS
        obtain ⟨sc1_229, sc0_230⟩ := u_231
        replace hP : va_P D vwCl [(k, .inr (7, [.ref k0, .int sc1_229, .int c2, .int c3, .int c4])), (k0, .inl (cI, 40, .inl sc0_230))] H := hP
        replace hD : va_D A [(k, .inr (7, [.ref k0, .int sc1_229, .int c2, .int c3, .int c4])), (k0, .inl (cI, 40, .inl sc0_230))] := hD
        have lo_sc1_229 := k_lo sc1_229
        have hi_sc1_229 := k_hi sc1_229
        obtain ⟨h_232, h_233, h_234⟩ := w_228
        try simp only [zl_0, zl_3] at h_232
        have h_232 : voB c3 c4 c2 dd 0 3 a2 v_174 f_173 = (r_227, sc1_229, sc0_230) := h_232
        try simp only [zl_0, zl_3] at h_233
        have h_233 : 0 ≤ sc1_229.toInt := h_233
        try simp only [zl_0, zl_3] at h_234
        have h_234 : sc1_229.toInt ≤ 40 := h_234
        have lo_r_227 := k_lo r_227
        have hi_r_227 := k_hi r_227
        refine lv_aload_n hx hb dX7_say_351 rfl (lv_at hl 2 rfl) ?_
        refine va_get (D := D) (ci := 7) (v := .int c3) (C := RX7) (T := TX7) (N := 5) hx hb hT giX7 hown hK hP 0 rfl rfl 3 (by decide) (hT (Cond.fieldLink RX7 22 "DesertWire$Voices" "n" "I") mw_262) (fun _ h9 => h9) rfl dX7_say_352 ?_
        refine lv_isub hx hb dX7_say_355 ?_
        refine lv_topi (fun v_235 ev_235 => ?_)
        have lo_v_235 := k_lo v_235
        have hi_v_235 := k_hi v_235
        exact hRet (sc1_229, sc0_230) [0, 1] ⟨(vo_21 (m1 := v_174) (g1 := f_173) h_5 (by omega) (by unfold mSV; rw [if_pos (by omega), ev_174]) (by unfold gSV; rw [if_pos (by omega)]; exact up_in ef_173 rfl) h_232 ev_235), (by first | omega | decide | assumption | rfl | (dsimp only; first | omega)), (by first | omega | decide | assumption | rfl | (dsimp only; first | omega))⟩ hP hD (by decide) rfl hS rfl dX7_say_356
      by_cases c_236 : r_2.toInt = 30
      · refine lv_tableIn (off := 296) (tgt := 357) hx hb dX7_say_61 (by omega) (by omega) (by rw [c_236]; decide) (by decide) ?_
        refine lv_aload_n hx hb dX7_say_357 rfl (lv_at hl 2 rfl) ?_
        refine lv_iconst (v := 1) hx hb dX7_say_358 (by decide) ?_
        refine lv_iconst (v := 0) hx hb dX7_say_359 (by decide) ?_
        refine lv_iload_n hx hb dX7_say_360 rfl (lv_at hl 5 rfl) ?_
        refine lv_iload hx hb dX7_say_361 (lv_at hl 0 rfl) ?_
        refine kJi (wr := []) (va_runV (As := [.int 1, .int 0, .int a2, .int v_175]) (rest := []) ⟨hx, hb, hml, hown, hT⟩ (ih l D cI aK aV k k0 H.size v_174 c2 c3 c4 f_173 1 0 a2 v_175 (by first | omega | (simp only [zl_0, zl_1]; first | done | omega) | decide | assumption | rfl) (by first | omega | (simp only [zl_0, zl_1]; first | done | omega) | decide | assumption | rfl) (by first | omega | (simp only [zl_0, zl_1]; first | done | omega) | decide | assumption | rfl) (by first | omega | (simp only [zl_0, zl_1]; first | done | omega) | decide | assumption | rfl) (by first | omega | (simp only [zl_0, zl_1]; first | done | omega) | decide | assumption | rfl) (by first | omega | (simp only [zl_0, zl_1]; first | done | omega) | decide | assumption | rfl) (by first | omega | (simp only [zl_0, zl_1]; first | done | omega) | decide | assumption | rfl) (by first | omega | (simp only [zl_0, zl_1]; first | done | omega) | decide | assumption | rfl) (by first | omega | (simp only [zl_0, zl_1]; first | done | omega) | decide | assumption | rfl) (by first | omega | (simp only [zl_0, zl_1]; first | done | omega) | decide | assumption | rfl) (by first | omega | (simp only [zl_0, zl_1]; first | done | omega) | decide | assumption | rfl)) (cwV 4 hT (gV_in mw_1054 mw_1051 mw_1053 mw_p3_7 mw_10) rfl rfl rfl (by decide +kernel) ⟨(by dsimp only; omega), (by dsimp only; omega)⟩) (kRecvX (q0 := 0) (ci := 7) hK hP hD hN hXS hS hA rfl rfl [0, 1] rfl (by decide)) rfl rfl hl.1 rfl (lv_room (Nat.le_of_ble_eq_true rfl)) dX7_say_363 ⟨Nat.le_of_ble_eq_true rfl, Nat.le_of_ble_eq_true rfl⟩) hP hD hS hA [0, 1] [] rfl rfl (by decide) (by decide) ?_
        clear hP hD hS
        intro r_237 u_241 H locs w_238 hP hD hS
        obtain ⟨sc1_239, sc0_240⟩ := u_241
        replace hP : va_P D vwCl [(k, .inr (7, [.ref k0, .int sc1_239, .int c2, .int c3, .int c4])), (k0, .inl (cI, 40, .inl sc0_240))] H := hP
        replace hD : va_D A [(k, .inr (7, [.ref k0, .int sc1_239, .int c2, .int c3, .int c4])), (k0, .inl (cI, 40, .inl sc0_240))] := hD
        have lo_sc1_239 := k_lo sc1_239
        have hi_sc1_239 := k_hi sc1_239
        obtain ⟨h_242, h_243, h_244⟩ := w_238
        try simp only [zl_0, zl_1] at h_242
        have h_242 : voB c3 c4 c2 dd 1 0 a2 v_174 f_173 = (r_237, sc1_239, sc0_240) := h_242
        try simp only [zl_0, zl_1] at h_243
        have h_243 : 0 ≤ sc1_239.toInt := h_243
        try simp only [zl_0, zl_1] at h_244
        have h_244 : sc1_239.toInt ≤ 40 := h_244
        have lo_r_237 := k_lo r_237
        have hi_r_237 := k_hi r_237
        refine lv_iconst (v := 3) hx hb dX7_say_366 (by decide) ?_
        refine lv_imul hx hb dX7_say_367 ?_
        refine lv_topi (fun v_245 ev_245 => ?_)
        have lo_v_245 := k_lo v_245
        have hi_v_245 := k_hi v_245
        exact hRet (sc1_239, sc0_240) [0, 1] ⟨(vo_30 (m1 := v_174) (g1 := f_173) h_5 (by omega) (by unfold mSV; rw [if_pos (by omega), ev_174]) (by unfold gSV; rw [if_pos (by omega)]; exact up_in ef_173 rfl) h_242 ev_245), (by first | omega | decide | assumption | rfl | (dsimp only; first | omega)), (by first | omega | decide | assumption | rfl | (dsimp only; first | omega))⟩ hP hD (by decide) rfl hS rfl dX7_say_368
      by_cases c_246 : r_2.toInt = 31
      · refine lv_tableIn (off := 308) (tgt := 369) hx hb dX7_say_61 (by omega) (by omega) (by rw [c_246]; decide) (by decide) ?_
        refine lv_iconst (v := 0) hx hb dX7_say_369 (by decide) ?_
        refine lv_aload_n hx hb dX7_say_370 rfl (lv_at hl 2 rfl) ?_
        refine lv_iconst (v := 1) hx hb dX7_say_371 (by decide) ?_
        refine lv_iconst (v := 2) hx hb dX7_say_372 (by decide) ?_
        refine lv_iload_n hx hb dX7_say_373 rfl (lv_at hl 5 rfl) ?_
        refine lv_iload hx hb dX7_say_374 (lv_at hl 0 rfl) ?_
        refine kJi (wr := []) (va_runV (As := [.int 1, .int 2, .int a2, .int v_175]) (rest := [.int 0]) ⟨hx, hb, hml, hown, hT⟩ (ih l D cI aK aV k k0 H.size v_174 c2 c3 c4 f_173 1 2 a2 v_175 (by first | omega | (simp only [zl_1, zl_2]; first | done | omega) | decide | assumption | rfl) (by first | omega | (simp only [zl_1, zl_2]; first | done | omega) | decide | assumption | rfl) (by first | omega | (simp only [zl_1, zl_2]; first | done | omega) | decide | assumption | rfl) (by first | omega | (simp only [zl_1, zl_2]; first | done | omega) | decide | assumption | rfl) (by first | omega | (simp only [zl_1, zl_2]; first | done | omega) | decide | assumption | rfl) (by first | omega | (simp only [zl_1, zl_2]; first | done | omega) | decide | assumption | rfl) (by first | omega | (simp only [zl_1, zl_2]; first | done | omega) | decide | assumption | rfl) (by first | omega | (simp only [zl_1, zl_2]; first | done | omega) | decide | assumption | rfl) (by first | omega | (simp only [zl_1, zl_2]; first | done | omega) | decide | assumption | rfl) (by first | omega | (simp only [zl_1, zl_2]; first | done | omega) | decide | assumption | rfl) (by first | omega | (simp only [zl_1, zl_2]; first | done | omega) | decide | assumption | rfl)) (cwV 4 hT (gV_in mw_1054 mw_1051 mw_1053 mw_p3_7 mw_10) rfl rfl rfl (by decide +kernel) ⟨(by dsimp only; omega), (by dsimp only; omega)⟩) (kRecvX (q0 := 0) (ci := 7) hK hP hD hN hXS hS hA rfl rfl [0, 1] rfl (by decide)) rfl rfl hl.1 rfl (lv_room (Nat.le_of_ble_eq_true rfl)) dX7_say_376 ⟨Nat.le_of_ble_eq_true rfl, Nat.le_of_ble_eq_true rfl⟩) hP hD hS hA [0, 1] [] rfl rfl (by decide) (by decide) ?_
        clear hP hD hS
        intro r_247 u_251 H locs w_248 hP hD hS
        obtain ⟨sc1_249, sc0_250⟩ := u_251
        replace hP : va_P D vwCl [(k, .inr (7, [.ref k0, .int sc1_249, .int c2, .int c3, .int c4])), (k0, .inl (cI, 40, .inl sc0_250))] H := hP
        replace hD : va_D A [(k, .inr (7, [.ref k0, .int sc1_249, .int c2, .int c3, .int c4])), (k0, .inl (cI, 40, .inl sc0_250))] := hD
        have lo_sc1_249 := k_lo sc1_249
        have hi_sc1_249 := k_hi sc1_249
        obtain ⟨h_252, h_253, h_254⟩ := w_248
        try simp only [zl_1, zl_2] at h_252
        have h_252 : voB c3 c4 c2 dd 1 2 a2 v_174 f_173 = (r_247, sc1_249, sc0_250) := h_252
        try simp only [zl_1, zl_2] at h_253
        have h_253 : 0 ≤ sc1_249.toInt := h_253
        try simp only [zl_1, zl_2] at h_254
        have h_254 : sc1_249.toInt ≤ 40 := h_254
        have lo_r_247 := k_lo r_247
        have hi_r_247 := k_hi r_247
        refine lv_isub hx hb dX7_say_379 ?_
        refine lv_topi (fun v_255 ev_255 => ?_)
        have lo_v_255 := k_lo v_255
        have hi_v_255 := k_hi v_255
        exact hRet (sc1_249, sc0_250) [0, 1] ⟨(vo_31 (m1 := v_174) (g1 := f_173) h_5 (by omega) (by unfold mSV; rw [if_pos (by omega), ev_174]) (by unfold gSV; rw [if_pos (by omega)]; exact up_in ef_173 rfl) h_252 ev_255), (by first | omega | decide | assumption | rfl | (dsimp only; first | omega)), (by first | omega | decide | assumption | rfl | (dsimp only; first | omega))⟩ hP hD (by decide) rfl hS rfl dX7_say_380
      by_cases c_256 : r_2.toInt = 40
      · refine lv_tableIn (off := 320) (tgt := 381) hx hb dX7_say_61 (by omega) (by omega) (by rw [c_256]; decide) (by decide) ?_
        refine lv_aload_n hx hb dX7_say_381 rfl (lv_at hl 2 rfl) ?_
        refine lv_iconst (v := 2) hx hb dX7_say_382 (by decide) ?_
        refine lv_iconst (v := 2) hx hb dX7_say_383 (by decide) ?_
        refine lv_iload_n hx hb dX7_say_384 rfl (lv_at hl 5 rfl) ?_
        refine lv_iload hx hb dX7_say_385 (lv_at hl 0 rfl) ?_
        refine kJi (wr := []) (va_runV (As := [.int 2, .int 2, .int a2, .int v_175]) (rest := []) ⟨hx, hb, hml, hown, hT⟩ (ih l D cI aK aV k k0 H.size v_174 c2 c3 c4 f_173 2 2 a2 v_175 (by first | omega | (simp only [zl_2]; first | done | omega) | decide | assumption | rfl) (by first | omega | (simp only [zl_2]; first | done | omega) | decide | assumption | rfl) (by first | omega | (simp only [zl_2]; first | done | omega) | decide | assumption | rfl) (by first | omega | (simp only [zl_2]; first | done | omega) | decide | assumption | rfl) (by first | omega | (simp only [zl_2]; first | done | omega) | decide | assumption | rfl) (by first | omega | (simp only [zl_2]; first | done | omega) | decide | assumption | rfl) (by first | omega | (simp only [zl_2]; first | done | omega) | decide | assumption | rfl) (by first | omega | (simp only [zl_2]; first | done | omega) | decide | assumption | rfl) (by first | omega | (simp only [zl_2]; first | done | omega) | decide | assumption | rfl) (by first | omega | (simp only [zl_2]; first | done | omega) | decide | assumption | rfl) (by first | omega | (simp only [zl_2]; first | done | omega) | decide | assumption | rfl)) (cwV 4 hT (gV_in mw_1054 mw_1051 mw_1053 mw_p3_7 mw_10) rfl rfl rfl (by decide +kernel) ⟨(by dsimp only; omega), (by dsimp only; omega)⟩) (kRecvX (q0 := 0) (ci := 7) hK hP hD hN hXS hS hA rfl rfl [0, 1] rfl (by decide)) rfl rfl hl.1 rfl (lv_room (Nat.le_of_ble_eq_true rfl)) dX7_say_387 ⟨Nat.le_of_ble_eq_true rfl, Nat.le_of_ble_eq_true rfl⟩) hP hD hS hA [0, 1] [] rfl rfl (by decide) (by decide) ?_
        clear hP hD hS
        intro r_257 u_261 H locs w_258 hP hD hS
        obtain ⟨sc1_259, sc0_260⟩ := u_261
        replace hP : va_P D vwCl [(k, .inr (7, [.ref k0, .int sc1_259, .int c2, .int c3, .int c4])), (k0, .inl (cI, 40, .inl sc0_260))] H := hP
        replace hD : va_D A [(k, .inr (7, [.ref k0, .int sc1_259, .int c2, .int c3, .int c4])), (k0, .inl (cI, 40, .inl sc0_260))] := hD
        have lo_sc1_259 := k_lo sc1_259
        have hi_sc1_259 := k_hi sc1_259
        obtain ⟨h_262, h_263, h_264⟩ := w_258
        try simp only [zl_2] at h_262
        have h_262 : voB c3 c4 c2 dd 2 2 a2 v_174 f_173 = (r_257, sc1_259, sc0_260) := h_262
        try simp only [zl_2] at h_263
        have h_263 : 0 ≤ sc1_259.toInt := h_263
        try simp only [zl_2] at h_264
        have h_264 : sc1_259.toInt ≤ 40 := h_264
        have lo_r_257 := k_lo r_257
        have hi_r_257 := k_hi r_257
        refine lv_aload_n hx hb dX7_say_390 rfl (lv_at hl 2 rfl) ?_
        refine lv_iconst (v := 0) hx hb dX7_say_391 (by decide) ?_
        refine lv_aload_n hx hb dX7_say_392 rfl (lv_at hl 2 rfl) ?_
        refine va_get (D := D) (ci := 7) (v := .int c4) (C := RX7) (T := TX7) (N := 5) hx hb hT giX7 hown hK hP 0 rfl rfl 4 (by decide) (hT (Cond.fieldLink RX7 25 "DesertWire$Voices" "w" "I") mw_263) (fun _ h9 => h9) rfl dX7_say_393 ?_
        refine lv_iload hx hb dX7_say_396 (lv_at hl 0 rfl) ?_
        refine kJi (wr := []) (va_runV (As := [.int 0, .int c4, .int v_175]) (rest := [.int r_257]) ⟨hx, hb, hml, hown, hT⟩ (c_X7_ownD_of dd ih l D cI aK aV k k0 H.size sc1_259 c2 c3 c4 sc0_260 0 c4 v_175 (by first | omega | (simp only [zl_0]; first | done | omega) | decide | assumption | rfl) (by first | omega | (simp only [zl_0]; first | done | omega) | decide | assumption | rfl) (by first | omega | (simp only [zl_0]; first | done | omega) | decide | assumption | rfl) (by first | omega | (simp only [zl_0]; first | done | omega) | decide | assumption | rfl) (by first | omega | (simp only [zl_0]; first | done | omega) | decide | assumption | rfl) (by first | omega | (simp only [zl_0]; first | done | omega) | decide | assumption | rfl) (by first | omega | (simp only [zl_0]; first | done | omega) | decide | assumption | rfl) (by first | omega | (simp only [zl_0]; first | done | omega) | decide | assumption | rfl) (by first | omega | (simp only [zl_0]; first | done | omega) | decide | assumption | rfl)) (cwV 3 hT (gV_in mw_1050 mw_1047 mw_1049 mw_p3_6 mw_10) rfl rfl rfl (by decide +kernel) ⟨(by dsimp only; omega), (by dsimp only; omega)⟩) (kRecvX (q0 := 0) (ci := 7) hK hP hD hN hXS hS hA rfl rfl [0, 1] rfl (by decide)) rfl rfl hl.1 rfl (lv_room (Nat.le_of_ble_eq_true rfl)) dX7_say_398 ⟨Nat.le_of_ble_eq_true rfl, Nat.le_of_ble_eq_true rfl⟩) hP hD hS hA [0, 1] [] rfl rfl (by decide) (by decide) ?_
        clear hP hD hS
        intro r_265 u_269 H locs w_266 hP hD hS
        obtain ⟨sc1_267, sc0_268⟩ := u_269
        replace hP : va_P D vwCl [(k, .inr (7, [.ref k0, .int sc1_267, .int c2, .int c3, .int c4])), (k0, .inl (cI, 40, .inl sc0_268))] H := hP
        replace hD : va_D A [(k, .inr (7, [.ref k0, .int sc1_267, .int c2, .int c3, .int c4])), (k0, .inl (cI, 40, .inl sc0_268))] := hD
        have lo_sc1_267 := k_lo sc1_267
        have hi_sc1_267 := k_hi sc1_267
        obtain ⟨h_270, h_271, h_272⟩ := w_266
        try simp only [zl_0] at h_270
        have h_270 : voB c3 c4 c2 dd c2 0 c4 sc1_259 sc0_260 = (r_265, sc1_267, sc0_268) := h_270
        try simp only [zl_0] at h_271
        have h_271 : 0 ≤ sc1_267.toInt := h_271
        try simp only [zl_0] at h_272
        have h_272 : sc1_267.toInt ≤ 40 := h_272
        have lo_r_265 := k_lo r_265
        have hi_r_265 := k_hi r_265
        refine lv_iadd hx hb dX7_say_401 ?_
        refine lv_topi (fun v_273 ev_273 => ?_)
        have lo_v_273 := k_lo v_273
        have hi_v_273 := k_hi v_273
        exact hRet (sc1_267, sc0_268) [0, 1] ⟨(vo_40 (m1 := v_174) (g1 := f_173) h_5 (by omega) (by unfold mSV; rw [if_pos (by omega), ev_174]) (by unfold gSV; rw [if_pos (by omega)]; exact up_in ef_173 rfl) h_262 h_270 ev_273), (by first | omega | decide | assumption | rfl | (dsimp only; first | omega)), (by first | omega | decide | assumption | rfl | (dsimp only; first | omega))⟩ hP hD (by decide) rfl hS rfl dX7_say_402
      by_cases c_274 : r_2.toInt = 41
      · refine lv_tableIn (off := 342) (tgt := 403) hx hb dX7_say_61 (by omega) (by omega) (by rw [c_274]; decide) (by decide) ?_
        refine lv_aload_n hx hb dX7_say_403 rfl (lv_at hl 2 rfl) ?_
        refine lv_iconst (v := 2) hx hb dX7_say_404 (by decide) ?_
        refine lv_iconst (v := 3) hx hb dX7_say_405 (by decide) ?_
        refine lv_iload_n hx hb dX7_say_406 rfl (lv_at hl 5 rfl) ?_
        refine lv_iload hx hb dX7_say_407 (lv_at hl 0 rfl) ?_
        refine kJi (wr := []) (va_runV (As := [.int 2, .int 3, .int a2, .int v_175]) (rest := []) ⟨hx, hb, hml, hown, hT⟩ (ih l D cI aK aV k k0 H.size v_174 c2 c3 c4 f_173 2 3 a2 v_175 (by first | omega | (simp only [zl_2, zl_3]; first | done | omega) | decide | assumption | rfl) (by first | omega | (simp only [zl_2, zl_3]; first | done | omega) | decide | assumption | rfl) (by first | omega | (simp only [zl_2, zl_3]; first | done | omega) | decide | assumption | rfl) (by first | omega | (simp only [zl_2, zl_3]; first | done | omega) | decide | assumption | rfl) (by first | omega | (simp only [zl_2, zl_3]; first | done | omega) | decide | assumption | rfl) (by first | omega | (simp only [zl_2, zl_3]; first | done | omega) | decide | assumption | rfl) (by first | omega | (simp only [zl_2, zl_3]; first | done | omega) | decide | assumption | rfl) (by first | omega | (simp only [zl_2, zl_3]; first | done | omega) | decide | assumption | rfl) (by first | omega | (simp only [zl_2, zl_3]; first | done | omega) | decide | assumption | rfl) (by first | omega | (simp only [zl_2, zl_3]; first | done | omega) | decide | assumption | rfl) (by first | omega | (simp only [zl_2, zl_3]; first | done | omega) | decide | assumption | rfl)) (cwV 4 hT (gV_in mw_1054 mw_1051 mw_1053 mw_p3_7 mw_10) rfl rfl rfl (by decide +kernel) ⟨(by dsimp only; omega), (by dsimp only; omega)⟩) (kRecvX (q0 := 0) (ci := 7) hK hP hD hN hXS hS hA rfl rfl [0, 1] rfl (by decide)) rfl rfl hl.1 rfl (lv_room (Nat.le_of_ble_eq_true rfl)) dX7_say_409 ⟨Nat.le_of_ble_eq_true rfl, Nat.le_of_ble_eq_true rfl⟩) hP hD hS hA [0, 1] [] rfl rfl (by decide) (by decide) ?_
        clear hP hD hS
        intro r_275 u_279 H locs w_276 hP hD hS
        obtain ⟨sc1_277, sc0_278⟩ := u_279
        replace hP : va_P D vwCl [(k, .inr (7, [.ref k0, .int sc1_277, .int c2, .int c3, .int c4])), (k0, .inl (cI, 40, .inl sc0_278))] H := hP
        replace hD : va_D A [(k, .inr (7, [.ref k0, .int sc1_277, .int c2, .int c3, .int c4])), (k0, .inl (cI, 40, .inl sc0_278))] := hD
        have lo_sc1_277 := k_lo sc1_277
        have hi_sc1_277 := k_hi sc1_277
        obtain ⟨h_280, h_281, h_282⟩ := w_276
        try simp only [zl_2, zl_3] at h_280
        have h_280 : voB c3 c4 c2 dd 2 3 a2 v_174 f_173 = (r_275, sc1_277, sc0_278) := h_280
        try simp only [zl_2, zl_3] at h_281
        have h_281 : 0 ≤ sc1_277.toInt := h_281
        try simp only [zl_2, zl_3] at h_282
        have h_282 : sc1_277.toInt ≤ 40 := h_282
        have lo_r_275 := k_lo r_275
        have hi_r_275 := k_hi r_275
        refine lv_aload_n hx hb dX7_say_412 rfl (lv_at hl 2 rfl) ?_
        refine lv_iconst (v := 1) hx hb dX7_say_413 (by decide) ?_
        refine lv_aload_n hx hb dX7_say_414 rfl (lv_at hl 2 rfl) ?_
        refine va_get (D := D) (ci := 7) (v := .int c3) (C := RX7) (T := TX7) (N := 5) hx hb hT giX7 hown hK hP 0 rfl rfl 3 (by decide) (hT (Cond.fieldLink RX7 22 "DesertWire$Voices" "n" "I") mw_262) (fun _ h9 => h9) rfl dX7_say_415 ?_
        refine lv_iload hx hb dX7_say_418 (lv_at hl 0 rfl) ?_
        refine kJi (wr := []) (va_runV (As := [.int 1, .int c3, .int v_175]) (rest := [.int r_275]) ⟨hx, hb, hml, hown, hT⟩ (c_X7_ownD_of dd ih l D cI aK aV k k0 H.size sc1_277 c2 c3 c4 sc0_278 1 c3 v_175 (by first | omega | (simp only [zl_1]; first | done | omega) | decide | assumption | rfl) (by first | omega | (simp only [zl_1]; first | done | omega) | decide | assumption | rfl) (by first | omega | (simp only [zl_1]; first | done | omega) | decide | assumption | rfl) (by first | omega | (simp only [zl_1]; first | done | omega) | decide | assumption | rfl) (by first | omega | (simp only [zl_1]; first | done | omega) | decide | assumption | rfl) (by first | omega | (simp only [zl_1]; first | done | omega) | decide | assumption | rfl) (by first | omega | (simp only [zl_1]; first | done | omega) | decide | assumption | rfl) (by first | omega | (simp only [zl_1]; first | done | omega) | decide | assumption | rfl) (by first | omega | (simp only [zl_1]; first | done | omega) | decide | assumption | rfl)) (cwV 3 hT (gV_in mw_1050 mw_1047 mw_1049 mw_p3_6 mw_10) rfl rfl rfl (by decide +kernel) ⟨(by dsimp only; omega), (by dsimp only; omega)⟩) (kRecvX (q0 := 0) (ci := 7) hK hP hD hN hXS hS hA rfl rfl [0, 1] rfl (by decide)) rfl rfl hl.1 rfl (lv_room (Nat.le_of_ble_eq_true rfl)) dX7_say_420 ⟨Nat.le_of_ble_eq_true rfl, Nat.le_of_ble_eq_true rfl⟩) hP hD hS hA [0, 1] [] rfl rfl (by decide) (by decide) ?_
        clear hP hD hS
        intro r_283 u_287 H locs w_284 hP hD hS
        obtain ⟨sc1_285, sc0_286⟩ := u_287
        replace hP : va_P D vwCl [(k, .inr (7, [.ref k0, .int sc1_285, .int c2, .int c3, .int c4])), (k0, .inl (cI, 40, .inl sc0_286))] H := hP
        replace hD : va_D A [(k, .inr (7, [.ref k0, .int sc1_285, .int c2, .int c3, .int c4])), (k0, .inl (cI, 40, .inl sc0_286))] := hD
        have lo_sc1_285 := k_lo sc1_285
        have hi_sc1_285 := k_hi sc1_285
        obtain ⟨h_288, h_289, h_290⟩ := w_284
        try simp only [zl_1] at h_288
        have h_288 : voB c3 c4 c2 dd c2 1 c3 sc1_277 sc0_278 = (r_283, sc1_285, sc0_286) := h_288
        try simp only [zl_1] at h_289
        have h_289 : 0 ≤ sc1_285.toInt := h_289
        try simp only [zl_1] at h_290
        have h_290 : sc1_285.toInt ≤ 40 := h_290
        have lo_r_283 := k_lo r_283
        have hi_r_283 := k_hi r_283
        refine lv_ixor hx hb dX7_say_423 ?_
        refine lv_topi (fun v_291 ev_291 => ?_)
        have lo_v_291 := k_lo v_291
        have hi_v_291 := k_hi v_291
        exact hRet (sc1_285, sc0_286) [0, 1] ⟨(vo_41 (m1 := v_174) (g1 := f_173) h_5 (by omega) (by unfold mSV; rw [if_pos (by omega), ev_174]) (by unfold gSV; rw [if_pos (by omega)]; exact up_in ef_173 rfl) h_280 h_288 ev_291), (by first | omega | decide | assumption | rfl | (dsimp only; first | omega)), (by first | omega | decide | assumption | rfl | (dsimp only; first | omega))⟩ hP hD (by decide) rfl hS rfl dX7_say_424
      by_cases c_292 : r_2.toInt = 50
      · refine lv_tableIn (off := 364) (tgt := 425) hx hb dX7_say_61 (by omega) (by omega) (by rw [c_292]; decide) (by decide) ?_
        refine lv_aload_n hx hb dX7_say_425 rfl (lv_at hl 2 rfl) ?_
        refine lv_iconst (v := 0) hx hb dX7_say_426 (by decide) ?_
        refine lv_iconst (v := 0) hx hb dX7_say_427 (by decide) ?_
        refine lv_iload_n hx hb dX7_say_428 rfl (lv_at hl 5 rfl) ?_
        refine lv_iload hx hb dX7_say_429 (lv_at hl 0 rfl) ?_
        refine kJi (wr := []) (va_runV (As := [.int 0, .int 0, .int a2, .int v_175]) (rest := []) ⟨hx, hb, hml, hown, hT⟩ (ih l D cI aK aV k k0 H.size v_174 c2 c3 c4 f_173 0 0 a2 v_175 (by first | omega | (simp only [zl_0]; first | done | omega) | decide | assumption | rfl) (by first | omega | (simp only [zl_0]; first | done | omega) | decide | assumption | rfl) (by first | omega | (simp only [zl_0]; first | done | omega) | decide | assumption | rfl) (by first | omega | (simp only [zl_0]; first | done | omega) | decide | assumption | rfl) (by first | omega | (simp only [zl_0]; first | done | omega) | decide | assumption | rfl) (by first | omega | (simp only [zl_0]; first | done | omega) | decide | assumption | rfl) (by first | omega | (simp only [zl_0]; first | done | omega) | decide | assumption | rfl) (by first | omega | (simp only [zl_0]; first | done | omega) | decide | assumption | rfl) (by first | omega | (simp only [zl_0]; first | done | omega) | decide | assumption | rfl) (by first | omega | (simp only [zl_0]; first | done | omega) | decide | assumption | rfl) (by first | omega | (simp only [zl_0]; first | done | omega) | decide | assumption | rfl)) (cwV 4 hT (gV_in mw_1054 mw_1051 mw_1053 mw_p3_7 mw_10) rfl rfl rfl (by decide +kernel) ⟨(by dsimp only; omega), (by dsimp only; omega)⟩) (kRecvX (q0 := 0) (ci := 7) hK hP hD hN hXS hS hA rfl rfl [0, 1] rfl (by decide)) rfl rfl hl.1 rfl (lv_room (Nat.le_of_ble_eq_true rfl)) dX7_say_431 ⟨Nat.le_of_ble_eq_true rfl, Nat.le_of_ble_eq_true rfl⟩) hP hD hS hA [0, 1] [] rfl rfl (by decide) (by decide) ?_
        clear hP hD hS
        intro r_293 u_297 H locs w_294 hP hD hS
        obtain ⟨sc1_295, sc0_296⟩ := u_297
        replace hP : va_P D vwCl [(k, .inr (7, [.ref k0, .int sc1_295, .int c2, .int c3, .int c4])), (k0, .inl (cI, 40, .inl sc0_296))] H := hP
        replace hD : va_D A [(k, .inr (7, [.ref k0, .int sc1_295, .int c2, .int c3, .int c4])), (k0, .inl (cI, 40, .inl sc0_296))] := hD
        have lo_sc1_295 := k_lo sc1_295
        have hi_sc1_295 := k_hi sc1_295
        obtain ⟨h_298, h_299, h_300⟩ := w_294
        try simp only [zl_0] at h_298
        have h_298 : voB c3 c4 c2 dd 0 0 a2 v_174 f_173 = (r_293, sc1_295, sc0_296) := h_298
        try simp only [zl_0] at h_299
        have h_299 : 0 ≤ sc1_295.toInt := h_299
        try simp only [zl_0] at h_300
        have h_300 : sc1_295.toInt ≤ 40 := h_300
        have lo_r_293 := k_lo r_293
        have hi_r_293 := k_hi r_293
        refine lv_aload_n hx hb dX7_say_434 rfl (lv_at hl 2 rfl) ?_
        refine va_get (D := D) (ci := 7) (v := .int c4) (C := RX7) (T := TX7) (N := 5) hx hb hT giX7 hown hK hP 0 rfl rfl 4 (by decide) (hT (Cond.fieldLink RX7 25 "DesertWire$Voices" "w" "I") mw_263) (fun _ h9 => h9) rfl dX7_say_435 ?_
        refine lv_iadd hx hb dX7_say_438 ?_
        refine lv_topi (fun v_301 ev_301 => ?_)
        have lo_v_301 := k_lo v_301
        have hi_v_301 := k_hi v_301
        exact hRet (sc1_295, sc0_296) [0, 1] ⟨(vo_50 (m1 := v_174) (g1 := f_173) h_5 (by omega) (by unfold mSV; rw [if_pos (by omega), ev_174]) (by unfold gSV; rw [if_pos (by omega)]; exact up_in ef_173 rfl) h_298 ev_301), (by first | omega | decide | assumption | rfl | (dsimp only; first | omega)), (by first | omega | decide | assumption | rfl | (dsimp only; first | omega))⟩ hP hD (by decide) rfl hS rfl dX7_say_439
      by_cases c_302 : r_2.toInt = 51
      · refine lv_tableIn (off := 379) (tgt := 440) hx hb dX7_say_61 (by omega) (by omega) (by rw [c_302]; decide) (by decide) ?_
        refine lv_aload_n hx hb dX7_say_440 rfl (lv_at hl 2 rfl) ?_
        refine lv_iconst (v := 0) hx hb dX7_say_441 (by decide) ?_
        refine lv_iconst (v := 2) hx hb dX7_say_442 (by decide) ?_
        refine lv_iload_n hx hb dX7_say_443 rfl (lv_at hl 5 rfl) ?_
        refine lv_iload hx hb dX7_say_444 (lv_at hl 0 rfl) ?_
        refine kJi (wr := []) (va_runV (As := [.int 0, .int 2, .int a2, .int v_175]) (rest := []) ⟨hx, hb, hml, hown, hT⟩ (ih l D cI aK aV k k0 H.size v_174 c2 c3 c4 f_173 0 2 a2 v_175 (by first | omega | (simp only [zl_0, zl_2]; first | done | omega) | decide | assumption | rfl) (by first | omega | (simp only [zl_0, zl_2]; first | done | omega) | decide | assumption | rfl) (by first | omega | (simp only [zl_0, zl_2]; first | done | omega) | decide | assumption | rfl) (by first | omega | (simp only [zl_0, zl_2]; first | done | omega) | decide | assumption | rfl) (by first | omega | (simp only [zl_0, zl_2]; first | done | omega) | decide | assumption | rfl) (by first | omega | (simp only [zl_0, zl_2]; first | done | omega) | decide | assumption | rfl) (by first | omega | (simp only [zl_0, zl_2]; first | done | omega) | decide | assumption | rfl) (by first | omega | (simp only [zl_0, zl_2]; first | done | omega) | decide | assumption | rfl) (by first | omega | (simp only [zl_0, zl_2]; first | done | omega) | decide | assumption | rfl) (by first | omega | (simp only [zl_0, zl_2]; first | done | omega) | decide | assumption | rfl) (by first | omega | (simp only [zl_0, zl_2]; first | done | omega) | decide | assumption | rfl)) (cwV 4 hT (gV_in mw_1054 mw_1051 mw_1053 mw_p3_7 mw_10) rfl rfl rfl (by decide +kernel) ⟨(by dsimp only; omega), (by dsimp only; omega)⟩) (kRecvX (q0 := 0) (ci := 7) hK hP hD hN hXS hS hA rfl rfl [0, 1] rfl (by decide)) rfl rfl hl.1 rfl (lv_room (Nat.le_of_ble_eq_true rfl)) dX7_say_446 ⟨Nat.le_of_ble_eq_true rfl, Nat.le_of_ble_eq_true rfl⟩) hP hD hS hA [0, 1] [] rfl rfl (by decide) (by decide) ?_
        clear hP hD hS
        intro r_303 u_307 H locs w_304 hP hD hS
        obtain ⟨sc1_305, sc0_306⟩ := u_307
        replace hP : va_P D vwCl [(k, .inr (7, [.ref k0, .int sc1_305, .int c2, .int c3, .int c4])), (k0, .inl (cI, 40, .inl sc0_306))] H := hP
        replace hD : va_D A [(k, .inr (7, [.ref k0, .int sc1_305, .int c2, .int c3, .int c4])), (k0, .inl (cI, 40, .inl sc0_306))] := hD
        have lo_sc1_305 := k_lo sc1_305
        have hi_sc1_305 := k_hi sc1_305
        obtain ⟨h_308, h_309, h_310⟩ := w_304
        try simp only [zl_0, zl_2] at h_308
        have h_308 : voB c3 c4 c2 dd 0 2 a2 v_174 f_173 = (r_303, sc1_305, sc0_306) := h_308
        try simp only [zl_0, zl_2] at h_309
        have h_309 : 0 ≤ sc1_305.toInt := h_309
        try simp only [zl_0, zl_2] at h_310
        have h_310 : sc1_305.toInt ≤ 40 := h_310
        have lo_r_303 := k_lo r_303
        have hi_r_303 := k_hi r_303
        refine lv_aload_n hx hb dX7_say_449 rfl (lv_at hl 2 rfl) ?_
        refine lv_iconst (v := 0) hx hb dX7_say_450 (by decide) ?_
        refine lv_iconst (v := 1) hx hb dX7_say_451 (by decide) ?_
        refine lv_iload hx hb dX7_say_452 (lv_at hl 0 rfl) ?_
        refine kJi (wr := []) (va_runV (As := [.int 0, .int 1, .int v_175]) (rest := [.int r_303]) ⟨hx, hb, hml, hown, hT⟩ (c_X7_ownD_of dd ih l D cI aK aV k k0 H.size sc1_305 c2 c3 c4 sc0_306 0 1 v_175 (by first | omega | (simp only [zl_0, zl_1]; first | done | omega) | decide | assumption | rfl) (by first | omega | (simp only [zl_0, zl_1]; first | done | omega) | decide | assumption | rfl) (by first | omega | (simp only [zl_0, zl_1]; first | done | omega) | decide | assumption | rfl) (by first | omega | (simp only [zl_0, zl_1]; first | done | omega) | decide | assumption | rfl) (by first | omega | (simp only [zl_0, zl_1]; first | done | omega) | decide | assumption | rfl) (by first | omega | (simp only [zl_0, zl_1]; first | done | omega) | decide | assumption | rfl) (by first | omega | (simp only [zl_0, zl_1]; first | done | omega) | decide | assumption | rfl) (by first | omega | (simp only [zl_0, zl_1]; first | done | omega) | decide | assumption | rfl) (by first | omega | (simp only [zl_0, zl_1]; first | done | omega) | decide | assumption | rfl)) (cwV 3 hT (gV_in mw_1050 mw_1047 mw_1049 mw_p3_6 mw_10) rfl rfl rfl (by decide +kernel) ⟨(by dsimp only; omega), (by dsimp only; omega)⟩) (kRecvX (q0 := 0) (ci := 7) hK hP hD hN hXS hS hA rfl rfl [0, 1] rfl (by decide)) rfl rfl hl.1 rfl (lv_room (Nat.le_of_ble_eq_true rfl)) dX7_say_454 ⟨Nat.le_of_ble_eq_true rfl, Nat.le_of_ble_eq_true rfl⟩) hP hD hS hA [0, 1] [] rfl rfl (by decide) (by decide) ?_
        clear hP hD hS
        intro r_311 u_315 H locs w_312 hP hD hS
        obtain ⟨sc1_313, sc0_314⟩ := u_315
        replace hP : va_P D vwCl [(k, .inr (7, [.ref k0, .int sc1_313, .int c2, .int c3, .int c4])), (k0, .inl (cI, 40, .inl sc0_314))] H := hP
        replace hD : va_D A [(k, .inr (7, [.ref k0, .int sc1_313, .int c2, .int c3, .int c4])), (k0, .inl (cI, 40, .inl sc0_314))] := hD
        have lo_sc1_313 := k_lo sc1_313
        have hi_sc1_313 := k_hi sc1_313
        obtain ⟨h_316, h_317, h_318⟩ := w_312
        try simp only [zl_0, zl_1] at h_316
        have h_316 : voB c3 c4 c2 dd c2 0 1 sc1_305 sc0_306 = (r_311, sc1_313, sc0_314) := h_316
        try simp only [zl_0, zl_1] at h_317
        have h_317 : 0 ≤ sc1_313.toInt := h_317
        try simp only [zl_0, zl_1] at h_318
        have h_318 : sc1_313.toInt ≤ 40 := h_318
        have lo_r_311 := k_lo r_311
        have hi_r_311 := k_hi r_311
        refine lv_isub hx hb dX7_say_457 ?_
        refine lv_topi (fun v_319 ev_319 => ?_)
        have lo_v_319 := k_lo v_319
        have hi_v_319 := k_hi v_319
        exact hRet (sc1_313, sc0_314) [0, 1] ⟨(vo_51 (m1 := v_174) (g1 := f_173) h_5 (by omega) (by unfold mSV; rw [if_pos (by omega), ev_174]) (by unfold gSV; rw [if_pos (by omega)]; exact up_in ef_173 rfl) h_308 h_316 ev_319), (by first | omega | decide | assumption | rfl | (dsimp only; first | omega)), (by first | omega | decide | assumption | rfl | (dsimp only; first | omega))⟩ hP hD (by decide) rfl hS rfl dX7_say_458
      by_cases c_320 : r_2.toInt = 60
      · refine lv_tableIn (off := 398) (tgt := 459) hx hb dX7_say_61 (by omega) (by omega) (by rw [c_320]; decide) (by decide) ?_
        refine lv_aload_n hx hb dX7_say_459 rfl (lv_at hl 2 rfl) ?_
        refine lv_iconst (v := 4) hx hb dX7_say_460 (by decide) ?_
        refine lv_iconst (v := 1) hx hb dX7_say_461 (by decide) ?_
        refine lv_iload_n hx hb dX7_say_462 rfl (lv_at hl 5 rfl) ?_
        refine lv_iload hx hb dX7_say_463 (lv_at hl 0 rfl) ?_
        refine kJi (wr := []) (va_runV (As := [.int 4, .int 1, .int a2, .int v_175]) (rest := []) ⟨hx, hb, hml, hown, hT⟩ (ih l D cI aK aV k k0 H.size v_174 c2 c3 c4 f_173 4 1 a2 v_175 (by first | omega | (simp only [zl_1, zl_4]; first | done | omega) | decide | assumption | rfl) (by first | omega | (simp only [zl_1, zl_4]; first | done | omega) | decide | assumption | rfl) (by first | omega | (simp only [zl_1, zl_4]; first | done | omega) | decide | assumption | rfl) (by first | omega | (simp only [zl_1, zl_4]; first | done | omega) | decide | assumption | rfl) (by first | omega | (simp only [zl_1, zl_4]; first | done | omega) | decide | assumption | rfl) (by first | omega | (simp only [zl_1, zl_4]; first | done | omega) | decide | assumption | rfl) (by first | omega | (simp only [zl_1, zl_4]; first | done | omega) | decide | assumption | rfl) (by first | omega | (simp only [zl_1, zl_4]; first | done | omega) | decide | assumption | rfl) (by first | omega | (simp only [zl_1, zl_4]; first | done | omega) | decide | assumption | rfl) (by first | omega | (simp only [zl_1, zl_4]; first | done | omega) | decide | assumption | rfl) (by first | omega | (simp only [zl_1, zl_4]; first | done | omega) | decide | assumption | rfl)) (cwV 4 hT (gV_in mw_1054 mw_1051 mw_1053 mw_p3_7 mw_10) rfl rfl rfl (by decide +kernel) ⟨(by dsimp only; omega), (by dsimp only; omega)⟩) (kRecvX (q0 := 0) (ci := 7) hK hP hD hN hXS hS hA rfl rfl [0, 1] rfl (by decide)) rfl rfl hl.1 rfl (lv_room (Nat.le_of_ble_eq_true rfl)) dX7_say_465 ⟨Nat.le_of_ble_eq_true rfl, Nat.le_of_ble_eq_true rfl⟩) hP hD hS hA [0, 1] [] rfl rfl (by decide) (by decide) ?_
        clear hP hD hS
        intro r_321 u_325 H locs w_322 hP hD hS
        obtain ⟨sc1_323, sc0_324⟩ := u_325
        replace hP : va_P D vwCl [(k, .inr (7, [.ref k0, .int sc1_323, .int c2, .int c3, .int c4])), (k0, .inl (cI, 40, .inl sc0_324))] H := hP
        replace hD : va_D A [(k, .inr (7, [.ref k0, .int sc1_323, .int c2, .int c3, .int c4])), (k0, .inl (cI, 40, .inl sc0_324))] := hD
        have lo_sc1_323 := k_lo sc1_323
        have hi_sc1_323 := k_hi sc1_323
        obtain ⟨h_326, h_327, h_328⟩ := w_322
        try simp only [zl_1, zl_4] at h_326
        have h_326 : voB c3 c4 c2 dd 4 1 a2 v_174 f_173 = (r_321, sc1_323, sc0_324) := h_326
        try simp only [zl_1, zl_4] at h_327
        have h_327 : 0 ≤ sc1_323.toInt := h_327
        try simp only [zl_1, zl_4] at h_328
        have h_328 : sc1_323.toInt ≤ 40 := h_328
        have lo_r_321 := k_lo r_321
        have hi_r_321 := k_hi r_321
        refine lv_aload_n hx hb dX7_say_468 rfl (lv_at hl 2 rfl) ?_
        refine va_get (D := D) (ci := 7) (v := .int c4) (C := RX7) (T := TX7) (N := 5) hx hb hT giX7 hown hK hP 0 rfl rfl 4 (by decide) (hT (Cond.fieldLink RX7 25 "DesertWire$Voices" "w" "I") mw_263) (fun _ h9 => h9) rfl dX7_say_469 ?_
        refine lv_imul hx hb dX7_say_472 ?_
        refine lv_topi (fun v_329 ev_329 => ?_)
        have lo_v_329 := k_lo v_329
        have hi_v_329 := k_hi v_329
        exact hRet (sc1_323, sc0_324) [0, 1] ⟨(vo_60 (m1 := v_174) (g1 := f_173) h_5 (by omega) (by unfold mSV; rw [if_pos (by omega), ev_174]) (by unfold gSV; rw [if_pos (by omega)]; exact up_in ef_173 rfl) h_326 ev_329), (by first | omega | decide | assumption | rfl | (dsimp only; first | omega)), (by first | omega | decide | assumption | rfl | (dsimp only; first | omega))⟩ hP hD (by decide) rfl hS rfl dX7_say_473
      refine lv_tableOut (tgt := 474) hx hb dX7_say_61 (by omega) (by decide) ?_
      refine lv_iconst (v := 0) hx hb dX7_say_474 (by decide) ?_
      refine lv_aload_n hx hb dX7_say_475 rfl (lv_at hl 2 rfl) ?_
      refine lv_iconst (v := 4) hx hb dX7_say_476 (by decide) ?_
      refine lv_iconst (v := 3) hx hb dX7_say_477 (by decide) ?_
      refine lv_iload_n hx hb dX7_say_478 rfl (lv_at hl 5 rfl) ?_
      refine lv_iload hx hb dX7_say_479 (lv_at hl 0 rfl) ?_
      refine kJi (wr := []) (va_runV (As := [.int 4, .int 3, .int a2, .int v_175]) (rest := [.int 0]) ⟨hx, hb, hml, hown, hT⟩ (ih l D cI aK aV k k0 H.size v_174 c2 c3 c4 f_173 4 3 a2 v_175 (by first | omega | (simp only [zl_3, zl_4]; first | done | omega) | decide | assumption | rfl) (by first | omega | (simp only [zl_3, zl_4]; first | done | omega) | decide | assumption | rfl) (by first | omega | (simp only [zl_3, zl_4]; first | done | omega) | decide | assumption | rfl) (by first | omega | (simp only [zl_3, zl_4]; first | done | omega) | decide | assumption | rfl) (by first | omega | (simp only [zl_3, zl_4]; first | done | omega) | decide | assumption | rfl) (by first | omega | (simp only [zl_3, zl_4]; first | done | omega) | decide | assumption | rfl) (by first | omega | (simp only [zl_3, zl_4]; first | done | omega) | decide | assumption | rfl) (by first | omega | (simp only [zl_3, zl_4]; first | done | omega) | decide | assumption | rfl) (by first | omega | (simp only [zl_3, zl_4]; first | done | omega) | decide | assumption | rfl) (by first | omega | (simp only [zl_3, zl_4]; first | done | omega) | decide | assumption | rfl) (by first | omega | (simp only [zl_3, zl_4]; first | done | omega) | decide | assumption | rfl)) (cwV 4 hT (gV_in mw_1054 mw_1051 mw_1053 mw_p3_7 mw_10) rfl rfl rfl (by decide +kernel) ⟨(by dsimp only; omega), (by dsimp only; omega)⟩) (kRecvX (q0 := 0) (ci := 7) hK hP hD hN hXS hS hA rfl rfl [0, 1] rfl (by decide)) rfl rfl hl.1 rfl (lv_room (Nat.le_of_ble_eq_true rfl)) dX7_say_481 ⟨Nat.le_of_ble_eq_true rfl, Nat.le_of_ble_eq_true rfl⟩) hP hD hS hA [0, 1] [] rfl rfl (by decide) (by decide) ?_
      clear hP hD hS
      intro r_330 u_334 H locs w_331 hP hD hS
      obtain ⟨sc1_332, sc0_333⟩ := u_334
      replace hP : va_P D vwCl [(k, .inr (7, [.ref k0, .int sc1_332, .int c2, .int c3, .int c4])), (k0, .inl (cI, 40, .inl sc0_333))] H := hP
      replace hD : va_D A [(k, .inr (7, [.ref k0, .int sc1_332, .int c2, .int c3, .int c4])), (k0, .inl (cI, 40, .inl sc0_333))] := hD
      have lo_sc1_332 := k_lo sc1_332
      have hi_sc1_332 := k_hi sc1_332
      obtain ⟨h_335, h_336, h_337⟩ := w_331
      try simp only [zl_3, zl_4] at h_335
      have h_335 : voB c3 c4 c2 dd 4 3 a2 v_174 f_173 = (r_330, sc1_332, sc0_333) := h_335
      try simp only [zl_3, zl_4] at h_336
      have h_336 : 0 ≤ sc1_332.toInt := h_336
      try simp only [zl_3, zl_4] at h_337
      have h_337 : sc1_332.toInt ≤ 40 := h_337
      have lo_r_330 := k_lo r_330
      have hi_r_330 := k_hi r_330
      refine lv_isub hx hb dX7_say_484 ?_
      refine lv_topi (fun v_338 ev_338 => ?_)
      have lo_v_338 := k_lo v_338
      have hi_v_338 := k_hi v_338
      exact hRet (sc1_332, sc0_333) [0, 1] ⟨(vo_61 (m1 := v_174) (g1 := f_173) h_5 (by omega) (by unfold mSV; rw [if_pos (by omega), ev_174]) (by unfold gSV; rw [if_pos (by omega)]; exact up_in ef_173 rfl) h_335 ev_338), (by first | omega | decide | assumption | rfl | (dsimp only; first | omega)), (by first | omega | decide | assumption | rfl | (dsimp only; first | omega))⟩ hP hD (by decide) rfl hS rfl dX7_say_485

set_option maxHeartbeats 4000000 in
set_option maxRecDepth 100000 in
theorem c_X7_hearD (l : Launch) (D : va_G) (cI : ClassId) (aK aV : Nat → Nat) (k k0 : Nat) (sz : Nat) (c1 : Int32) (c2 : Int32) (c3 : Int32) (c4 : Int32) (c0 : Nat → Int32) (a0 : Int32) (a1 : Int32) (a2 : Int32) (a3 : Int32) (a4 : Int32) (pre0 : 0 ≤ a0.toInt) (pre1 : a0.toInt ≤ 5) (pre2 : 0 ≤ a3.toInt) (pre3 : a3.toInt ≤ 3) : Met l yX7_hear (gW yX7_hear cX7_hear 6 (some .int)) ({ frames := 99, cells := 0, slots := 0, locals := 3159 } : Room) (kPreX D cI aK aV [.ref k, .int a0, .int a1, .int a2, .int a3, .int a4] [(k, .inr (7, [.ref k0, .int c1, .int c2, .int c3, .int c4])), (k0, .inl (cI, 40, .inl c0))] sz) (va_Qi (fun (r : Int32) (u : Int32 × Int32 × Int32 × Int32 × (Nat → Int32)) => voB a1 a2 a0 24 a0 a3 a4 0 c0 = (r, u.1, u.2.2.2.2) ∧ 0 ≤ u.1.toInt ∧ u.1.toInt ≤ 40) (fun u t => kWd D cI (va_A [(k, .inr (7, [.ref k0, .int c1, .int c2, .int c3, .int c4])), (k0, .inl (cI, 40, .inl c0))] sz) [(k, .inr (7, [.ref k0, .int u.1, .int u.2.1, .int u.2.2.1, .int u.2.2.2.1])), (k0, .inl (cI, 40, .inl u.2.2.2.2))] t) (va_A [(k, .inr (7, [.ref k0, .int c1, .int c2, .int c3, .int c4])), (k0, .inl (cI, 40, .inl c0))] sz)) 0 0 (va_A [(k, .inr (7, [.ref k0, .int c1, .int c2, .int c3, .int c4])), (k0, .inl (cI, 40, .inl c0))] sz) := by
  refine kMetIX (own := RX7) (by decide) rfl (Nat.le_of_ble_eq_true rfl) ?_
  intro p e s m args below meth c hx hb hT hown hname hml A Q hK hP hD hS hA hN hXS hRet ls hl
  have hl : lv_has ls 6 [(0, .ref k), (1, .int a0), (2, .int a1), (3, .int a2), (4, .int a3), (5, .int a4)] := hl
  have lo_a0 := k_lo a0
  have hi_a0 := k_hi a0
  have lo_a1 := k_lo a1
  have hi_a1 := k_hi a1
  have lo_a2 := k_lo a2
  have hi_a2 := k_hi a2
  have lo_a3 := k_lo a3
  have hi_a3 := k_hi a3
  have lo_a4 := k_lo a4
  have hi_a4 := k_hi a4
  refine lv_aload_n hx hb dX7_hear_0 rfl (lv_at hl 0 rfl) ?_
  refine lv_iconst (v := 0) hx hb dX7_hear_1 (by decide) ?_
  refine va_put (D := D) (ci := 7) (v := .int 0) (ty := .int) (C := RX7) (T := TX7) (N := 5) hx hb hT giX7 tyX7 tyX7_ok nmX7 hown hK hP hD hS 0 rfl rfl 1 (by decide) (hT (Cond.fieldLink RX7 15 "DesertWire$Voices" "begun" "I") mw_259) (fun _ h9 => h9) rfl (by decide +kernel) rfl rfl (Nat.le_of_ble_eq_true rfl) dX7_hear_2 ?_
  clear hP hD hS
  intro H locs hP hD hS
  replace hP : va_P D vwCl [(k, .inr (7, [.ref k0, .int 0, .int c2, .int c3, .int c4])), (k0, .inl (cI, 40, .inl c0))] H := hP
  replace hD : va_D A [(k, .inr (7, [.ref k0, .int 0, .int c2, .int c3, .int c4])), (k0, .inl (cI, 40, .inl c0))] := hD
  refine lv_aload_n hx hb dX7_hear_5 rfl (lv_at hl 0 rfl) ?_
  refine lv_iload_n hx hb dX7_hear_6 rfl (lv_at hl 1 rfl) ?_
  refine va_put (D := D) (ci := 7) (v := .int a0) (ty := .int) (C := RX7) (T := TX7) (N := 5) hx hb hT giX7 tyX7 tyX7_ok nmX7 hown hK hP hD hS 0 rfl rfl 2 (by decide) (hT (Cond.fieldLink RX7 19 "DesertWire$Voices" "kind" "I") mw_261) (fun _ h9 => h9) rfl (by decide +kernel) rfl rfl (Nat.le_of_ble_eq_true rfl) dX7_hear_7 ?_
  clear hP hD hS
  intro H locs hP hD hS
  replace hP : va_P D vwCl [(k, .inr (7, [.ref k0, .int 0, .int a0, .int c3, .int c4])), (k0, .inl (cI, 40, .inl c0))] H := hP
  replace hD : va_D A [(k, .inr (7, [.ref k0, .int 0, .int a0, .int c3, .int c4])), (k0, .inl (cI, 40, .inl c0))] := hD
  refine lv_aload_n hx hb dX7_hear_10 rfl (lv_at hl 0 rfl) ?_
  refine lv_iload_n hx hb dX7_hear_11 rfl (lv_at hl 2 rfl) ?_
  refine va_put (D := D) (ci := 7) (v := .int a1) (ty := .int) (C := RX7) (T := TX7) (N := 5) hx hb hT giX7 tyX7 tyX7_ok nmX7 hown hK hP hD hS 0 rfl rfl 3 (by decide) (hT (Cond.fieldLink RX7 22 "DesertWire$Voices" "n" "I") mw_262) (fun _ h9 => h9) rfl (by decide +kernel) rfl rfl (Nat.le_of_ble_eq_true rfl) dX7_hear_12 ?_
  clear hP hD hS
  intro H locs hP hD hS
  replace hP : va_P D vwCl [(k, .inr (7, [.ref k0, .int 0, .int a0, .int a1, .int c4])), (k0, .inl (cI, 40, .inl c0))] H := hP
  replace hD : va_D A [(k, .inr (7, [.ref k0, .int 0, .int a0, .int a1, .int c4])), (k0, .inl (cI, 40, .inl c0))] := hD
  refine lv_aload_n hx hb dX7_hear_15 rfl (lv_at hl 0 rfl) ?_
  refine lv_iload_n hx hb dX7_hear_16 rfl (lv_at hl 3 rfl) ?_
  refine va_put (D := D) (ci := 7) (v := .int a2) (ty := .int) (C := RX7) (T := TX7) (N := 5) hx hb hT giX7 tyX7 tyX7_ok nmX7 hown hK hP hD hS 0 rfl rfl 4 (by decide) (hT (Cond.fieldLink RX7 25 "DesertWire$Voices" "w" "I") mw_263) (fun _ h9 => h9) rfl (by decide +kernel) rfl rfl (Nat.le_of_ble_eq_true rfl) dX7_hear_17 ?_
  clear hP hD hS
  intro H locs hP hD hS
  replace hP : va_P D vwCl [(k, .inr (7, [.ref k0, .int 0, .int a0, .int a1, .int a2])), (k0, .inl (cI, 40, .inl c0))] H := hP
  replace hD : va_D A [(k, .inr (7, [.ref k0, .int 0, .int a0, .int a1, .int a2])), (k0, .inl (cI, 40, .inl c0))] := hD
  refine lv_aload_n hx hb dX7_hear_20 rfl (lv_at hl 0 rfl) ?_
  refine lv_iload hx hb dX7_hear_21 (lv_at hl 4 rfl) ?_
  refine lv_iload hx hb dX7_hear_23 (lv_at hl 5 rfl) ?_
  refine lv_iconst (v := 0) hx hb dX7_hear_25 (by decide) ?_
  refine kJi (wr := []) (va_runV (As := [.int a3, .int a4, .int 0]) (rest := []) ⟨hx, hb, hml, hown, hT⟩ (c_X7_ownD_of 24 (c_X7_sayDR 24) l D cI aK aV k k0 H.size 0 a0 a1 a2 c0 a3 a4 0 (by first | omega | (simp only [zl_0]; first | done | omega) | decide | assumption | rfl) (by first | omega | (simp only [zl_0]; first | done | omega) | decide | assumption | rfl) (by first | omega | (simp only [zl_0]; first | done | omega) | decide | assumption | rfl) (by first | omega | (simp only [zl_0]; first | done | omega) | decide | assumption | rfl) (by first | omega | (simp only [zl_0]; first | done | omega) | decide | assumption | rfl) (by first | omega | (simp only [zl_0]; first | done | omega) | decide | assumption | rfl) (by first | omega | (simp only [zl_0]; first | done | omega) | decide | assumption | rfl) (by first | omega | (simp only [zl_0]; first | done | omega) | decide | assumption | rfl) (by first | omega | (simp only [zl_0]; first | done | omega) | decide | assumption | rfl)) (cwV 3 hT (gV_in mw_1050 mw_1047 mw_1049 mw_p3_6 mw_10) rfl rfl rfl (by decide +kernel) ⟨Nat.le_of_ble_eq_true rfl, Nat.le_of_ble_eq_true rfl⟩) (kRecvX (q0 := 0) (ci := 7) hK hP hD hN hXS hS hA rfl rfl [0, 1] rfl (by decide)) rfl rfl hl.1 rfl (lv_room (Nat.le_of_ble_eq_true rfl)) dX7_hear_26 ⟨Nat.le_of_ble_eq_true rfl, Nat.le_of_ble_eq_true rfl⟩) hP hD hS hA [0, 1] [] rfl rfl (by decide) (by decide) ?_
  clear hP hD hS
  intro r_1 u_5 H locs w_2 hP hD hS
  obtain ⟨sc1_3, sc0_4⟩ := u_5
  replace hP : va_P D vwCl [(k, .inr (7, [.ref k0, .int sc1_3, .int a0, .int a1, .int a2])), (k0, .inl (cI, 40, .inl sc0_4))] H := hP
  replace hD : va_D A [(k, .inr (7, [.ref k0, .int sc1_3, .int a0, .int a1, .int a2])), (k0, .inl (cI, 40, .inl sc0_4))] := hD
  have lo_sc1_3 := k_lo sc1_3
  have hi_sc1_3 := k_hi sc1_3
  obtain ⟨h_6, h_7, h_8⟩ := w_2
  try simp only [zl_0] at h_6
  have h_6 : voB a1 a2 a0 24 a0 a3 a4 0 c0 = (r_1, sc1_3, sc0_4) := h_6
  try simp only [zl_0] at h_7
  have h_7 : 0 ≤ sc1_3.toInt := h_7
  try simp only [zl_0] at h_8
  have h_8 : sc1_3.toInt ≤ 40 := h_8
  have lo_r_1 := k_lo r_1
  have hi_r_1 := k_hi r_1
  exact hRet (sc1_3, a0, a1, a2, sc0_4) [0, 1] ⟨h_6, (by first | omega | decide | assumption | rfl | (dsimp only; first | omega)), (by first | omega | decide | assumption | rfl | (dsimp only; first | omega))⟩ hP hD (by decide) rfl hS rfl dX7_hear_29

set_option maxHeartbeats 4000000 in
set_option maxRecDepth 100000 in
theorem c_X10_voiceD (l : Launch) (D : va_G) (cI : ClassId) (aK aV : Nat → Nat) (k k0 k1 k2 k3 k4 k5 k6 k7 k8 k9 ka kb k00 k01 k02 k03 k04 k05 k90 k040 k041 k042 k043 k044 k045 k046 k047 k048 : Nat) (sz : Nat) (cc : Int32) (c06 : Int32) (c07 : Int32) (c08 : Int32) (c91 : Int32) (c92 : Int32) (c93 : Int32) (c94 : Int32) (cb : Nat → Int32) (c049 : Int32) (c90 : Nat → Int32) (c040 : Nat → Int32) (c042 : Nat → Int32) (c00 : Nat → Int32) (c01 : Nat → Int32) (c02 : Nat → Int32) (c03 : Nat → Int32) (c041 : Nat → Int32) (c043 : Nat → Int32) (c044 : Nat → Int32) (c045 : Nat → Int32) (c046 : Nat → Int32) (c047 : Nat → Int32) (c048 : Nat → Int32) (c050 : Nat → Int32) (c051 : Int32) (gx : Nat → Int32) (a0 : Int32) (a1 : Int32) (a2 : Int32) (pre0 : WR c00 c01 c02 c03 c040 c041 c042 c043 c044 c045 c046 c047 c048 c049 c050 c051 c06 c07 c08 gx) (pre1 : SB gx) (pre2 : 0 ≤ c91.toInt) (pre3 : c91.toInt ≤ 40) : Met l yX10_voice (gW yX10_voice cX10_voice 4 (some .int)) ({ frames := 100, cells := 0, slots := 0, locals := 3184 } : Room) (kPreX D cI aK aV [.ref k, .int a0, .int a1, .int a2] [(k, .inr (10, [.ref k0, .ref k1, .ref k2, .ref k3, .ref k4, .ref k5, .ref k6, .ref k7, .ref k8, .ref k9, .ref ka, .ref kb, .int cc])), (k0, .inr (9, [.ref k00, .ref k01, .ref k02, .ref k03, .ref k04, .ref k05, .int c06, .int c07, .int c08])), (k9, .inr (7, [.ref k90, .int c91, .int c92, .int c93, .int c94])), (kb, .inl (cI, 6, .inl cb)), (k04, .inr (8, [.ref k040, .ref k041, .ref k042, .ref k043, .ref k044, .ref k045, .ref k046, .ref k047, .ref k048, .int c049])), (k90, .inl (cI, 40, .inl c90)), (k040, .inl (cI, 60, .inl c040)), (k042, .inl (cI, 60, .inl c042))] sz) (va_Qi (fun (r : Int32) (u : Int32 × Int32 × Int32 × Int32 × (Nat → Int32) × (Nat → Int32)) => (((0 ≤ a0.toInt ∧ a0.toInt < (gx 1).toInt ∧ 0 ≤ a1.toInt ∧ a1.toInt ≤ 3) ∧ voB a0 (wW gx a0 2) (wW gx a0 0) 24 (wW gx a0 0) a1 a2 0 c90 = (r, u.1, u.2.2.2.2.2)) ∨ (¬ (0 ≤ a0.toInt ∧ a0.toInt < (gx 1).toInt ∧ 0 ≤ a1.toInt ∧ a1.toInt ≤ 3) ∧ r = -1000001 ∧ u.1 = c91 ∧ u.2.2.2.2.2 = c90)) ∧ 0 ≤ u.1.toInt ∧ u.1.toInt ≤ 40) (fun u t => kWd D cI (va_A [(k, .inr (10, [.ref k0, .ref k1, .ref k2, .ref k3, .ref k4, .ref k5, .ref k6, .ref k7, .ref k8, .ref k9, .ref ka, .ref kb, .int cc])), (k0, .inr (9, [.ref k00, .ref k01, .ref k02, .ref k03, .ref k04, .ref k05, .int c06, .int c07, .int c08])), (k9, .inr (7, [.ref k90, .int c91, .int c92, .int c93, .int c94])), (kb, .inl (cI, 6, .inl cb)), (k04, .inr (8, [.ref k040, .ref k041, .ref k042, .ref k043, .ref k044, .ref k045, .ref k046, .ref k047, .ref k048, .int c049])), (k90, .inl (cI, 40, .inl c90)), (k040, .inl (cI, 60, .inl c040)), (k042, .inl (cI, 60, .inl c042))] sz) [(k, .inr (10, [.ref k0, .ref k1, .ref k2, .ref k3, .ref k4, .ref k5, .ref k6, .ref k7, .ref k8, .ref k9, .ref ka, .ref kb, .int cc])), (k0, .inr (9, [.ref k00, .ref k01, .ref k02, .ref k03, .ref k04, .ref k05, .int c06, .int c07, .int c08])), (k9, .inr (7, [.ref k90, .int u.1, .int u.2.1, .int u.2.2.1, .int u.2.2.2.1])), (kb, .inl (cI, 6, .inl u.2.2.2.2.1)), (k04, .inr (8, [.ref k040, .ref k041, .ref k042, .ref k043, .ref k044, .ref k045, .ref k046, .ref k047, .ref k048, .int c049])), (k90, .inl (cI, 40, .inl u.2.2.2.2.2)), (k040, .inl (cI, 60, .inl c040)), (k042, .inl (cI, 60, .inl c042))] t) (va_A [(k, .inr (10, [.ref k0, .ref k1, .ref k2, .ref k3, .ref k4, .ref k5, .ref k6, .ref k7, .ref k8, .ref k9, .ref ka, .ref kb, .int cc])), (k0, .inr (9, [.ref k00, .ref k01, .ref k02, .ref k03, .ref k04, .ref k05, .int c06, .int c07, .int c08])), (k9, .inr (7, [.ref k90, .int c91, .int c92, .int c93, .int c94])), (kb, .inl (cI, 6, .inl cb)), (k04, .inr (8, [.ref k040, .ref k041, .ref k042, .ref k043, .ref k044, .ref k045, .ref k046, .ref k047, .ref k048, .int c049])), (k90, .inl (cI, 40, .inl c90)), (k040, .inl (cI, 60, .inl c040)), (k042, .inl (cI, 60, .inl c042))] sz)) 0 0 (va_A [(k, .inr (10, [.ref k0, .ref k1, .ref k2, .ref k3, .ref k4, .ref k5, .ref k6, .ref k7, .ref k8, .ref k9, .ref ka, .ref kb, .int cc])), (k0, .inr (9, [.ref k00, .ref k01, .ref k02, .ref k03, .ref k04, .ref k05, .int c06, .int c07, .int c08])), (k9, .inr (7, [.ref k90, .int c91, .int c92, .int c93, .int c94])), (kb, .inl (cI, 6, .inl cb)), (k04, .inr (8, [.ref k040, .ref k041, .ref k042, .ref k043, .ref k044, .ref k045, .ref k046, .ref k047, .ref k048, .int c049])), (k90, .inl (cI, 40, .inl c90)), (k040, .inl (cI, 60, .inl c040)), (k042, .inl (cI, 60, .inl c042))] sz) := by
  refine kMetIX (own := RX10) (by decide) rfl (Nat.le_of_ble_eq_true rfl) ?_
  intro p e s m args below meth c hx hb hT hown hname hml A Q hK hP hD hS hA hN hXS hRet ls hl
  have hl : lv_has ls 4 [(0, .ref k), (1, .int a0), (2, .int a1), (3, .int a2)] := hl
  have lo_a0 := k_lo a0
  have hi_a0 := k_hi a0
  have lo_a1 := k_lo a1
  have hi_a1 := k_hi a1
  have lo_a2 := k_lo a2
  have hi_a2 := k_hi a2
  have lo_c06 := k_lo c06
  have hi_c06 := k_hi c06
  have lo_c07 := k_lo c07
  have hi_c07 := k_hi c07
  have lo_c08 := k_lo c08
  have hi_c08 := k_hi c08
  have lo_c049 := k_lo c049
  have hi_c049 := k_hi c049
  have lo_c051 := k_lo c051
  have hi_c051 := k_hi c051
  have pre0 : WR c00 c01 c02 c03 c040 c041 c042 c043 c044 c045 c046 c047 c048 c049 c050 c051 c06 c07 c08 gx := pre0
  have b_1 : 0 ≤ c049.toInt ∧ c049.toInt ≤ 60 := WKR.n0 (WR.kw pre0)
  have t_2 : c049.toInt = (gx 1).toInt := WKR.nt (WR.kw pre0)
  have b_3 : 0 ≤ c051.toInt ∧ c051.toInt ≤ 4 := ((WR.kp pre0)).2.1
  have t_4 : c051.toInt = (gx 2).toInt := PTR.nt (WR.kp pre0)
  have t_5 : c08.toInt = (gx 0).toInt := by rw [WR.dd pre0]
  have pre1 : SB gx := pre1
  refine lv_aload_n hx hb dX10_voice_0 rfl (lv_at hl 0 rfl) ?_
  refine va_get (D := D) (ci := 10) (v := .ref k0) (C := RX10) (T := TX10) (N := 13) hx hb hT giX10 hown hK hP 0 rfl rfl 0 (by decide) (hT (Cond.fieldLink RX10 12 "DesertWire" "now" "LDesertWire$World;") mw_291) (fun _ h9 => h9) rfl dX10_voice_1 ?_
  refine va_get (D := D) (ci := 9) (v := .ref k04) (C := RX9) (T := TX9) (N := 9) hx hb hT giX9 hown hK hP 1 rfl rfl 4 (by decide) (hT (Cond.fieldLink RX10 99 "DesertWire$World" "works" "LDesertWire$Works;") mw_99) (fun _ h9 => h9) rfl dX10_voice_4 ?_
  refine lv_iload_n hx hb dX10_voice_7 rfl (lv_at hl 1 rfl) ?_
  refine kJi (wr := [(k, .inr (10, [.ref k0, .ref k1, .ref k2, .ref k3, .ref k4, .ref k5, .ref k6, .ref k7, .ref k8, .ref k9, .ref ka, .ref kb, .int cc])), (k0, .inr (9, [.ref k00, .ref k01, .ref k02, .ref k03, .ref k04, .ref k05, .int c06, .int c07, .int c08])), (k9, .inr (7, [.ref k90, .int c91, .int c92, .int c93, .int c94])), (kb, .inl (cI, 6, .inl cb)), (k90, .inl (cI, 40, .inl c90)), (k040, .inl (cI, 60, .inl c040)), (k042, .inl (cI, 60, .inl c042))]) (va_runV (As := [.int a0]) (rest := []) ⟨hx, hb, hml, hown, hT⟩ (c_X8_hasG l D cI aK aV k04 k040 k041 k042 k043 k044 k045 k046 k047 k048 s.heap.size c049 a0) (cwV 1 hT (gV_in mw_371 mw_380 mw_369 mw_370 mw_3) rfl rfl rfl (by decide +kernel) ⟨Nat.le_of_ble_eq_true rfl, Nat.le_of_ble_eq_true rfl⟩) (kRecvX (q0 := 4) (ci := 8) hK hP hD hN hXS hS hA rfl rfl [4] rfl (by decide)) rfl rfl hl.1 rfl (lv_room (Nat.le_of_ble_eq_true rfl)) dX10_voice_8 ⟨Nat.le_of_ble_eq_true rfl, Nat.le_of_ble_eq_true rfl⟩) hP hD hS hA [4] [0, 1, 2, 3, 5, 6, 7] rfl rfl (by decide) (by decide) ?_
  clear hP hD hS
  intro r_6 u_8 H locs w_7 hP hD hS
  replace hP : va_P D vwCl [(k, .inr (10, [.ref k0, .ref k1, .ref k2, .ref k3, .ref k4, .ref k5, .ref k6, .ref k7, .ref k8, .ref k9, .ref ka, .ref kb, .int cc])), (k0, .inr (9, [.ref k00, .ref k01, .ref k02, .ref k03, .ref k04, .ref k05, .int c06, .int c07, .int c08])), (k9, .inr (7, [.ref k90, .int c91, .int c92, .int c93, .int c94])), (kb, .inl (cI, 6, .inl cb)), (k90, .inl (cI, 40, .inl c90)), (k040, .inl (cI, 60, .inl c040)), (k042, .inl (cI, 60, .inl c042)), (k04, .inr (8, [.ref k040, .ref k041, .ref k042, .ref k043, .ref k044, .ref k045, .ref k046, .ref k047, .ref k048, .int c049]))] H := hP
  replace hD : va_D A [(k, .inr (10, [.ref k0, .ref k1, .ref k2, .ref k3, .ref k4, .ref k5, .ref k6, .ref k7, .ref k8, .ref k9, .ref ka, .ref kb, .int cc])), (k0, .inr (9, [.ref k00, .ref k01, .ref k02, .ref k03, .ref k04, .ref k05, .int c06, .int c07, .int c08])), (k9, .inr (7, [.ref k90, .int c91, .int c92, .int c93, .int c94])), (kb, .inl (cI, 6, .inl cb)), (k90, .inl (cI, 40, .inl c90)), (k040, .inl (cI, 60, .inl c040)), (k042, .inl (cI, 60, .inl c042)), (k04, .inr (8, [.ref k040, .ref k041, .ref k042, .ref k043, .ref k044, .ref k045, .ref k046, .ref k047, .ref k048, .int c049]))] := hD
  rcases w_7 with ⟨hr_6, h_9, h_10, h_11⟩ | ⟨hr_6, h_12⟩
  · have h_9 : 0 ≤ a0.toInt := h_9
    have h_10 : a0.toInt < c049.toInt := h_10
    have h_11 : a0.toInt < 60 := h_11
    obtain rfl : r_6 = 1 := hr_6.trans (by decide)
    refine b_if_eq hx hb zl_1 (tgt := 23) dX10_voice_11 (by decide) (fun c_13 => by exfalso; omega) (fun c_13 => ?_)
    refine lv_iload_n hx hb dX10_voice_14 rfl (lv_at hl 2 rfl) ?_
    refine b_if_lt hx hb rfl (tgt := 23) dX10_voice_15 (by decide) (fun c_14 => ?_) (fun c_14 => ?_)
    · refine lv_aload_n hx hb dX10_voice_23 rfl (lv_at hl 0 rfl) ?_
      refine lv_iconst (v := 1) hx hb dX10_voice_24 (by decide) ?_
      refine kJi (wr := [(k0, .inr (9, [.ref k00, .ref k01, .ref k02, .ref k03, .ref k04, .ref k05, .int c06, .int c07, .int c08])), (k9, .inr (7, [.ref k90, .int c91, .int c92, .int c93, .int c94])), (k90, .inl (cI, 40, .inl c90)), (k040, .inl (cI, 60, .inl c040)), (k042, .inl (cI, 60, .inl c042)), (k04, .inr (8, [.ref k040, .ref k041, .ref k042, .ref k043, .ref k044, .ref k045, .ref k046, .ref k047, .ref k048, .int c049]))]) (va_runV (As := [.int 1]) (rest := []) ⟨hx, hb, hml, hown, hT⟩ (c_X10_findingG l D cI aK aV k k0 k1 k2 k3 k4 k5 k6 k7 k8 k9 ka kb H.size cc cb 1) (cwV 1 hT (gV_in mw_338 mw_335 mw_337 mw_p1_0 mw_1) rfl rfl rfl (by decide +kernel) ⟨Nat.le_of_ble_eq_true rfl, Nat.le_of_ble_eq_true rfl⟩) (kRecvX (q0 := 0) (ci := 10) hK hP hD hN hXS hS hA rfl rfl [0, 3] rfl (by decide)) rfl rfl hl.1 rfl (lv_room (Nat.le_of_ble_eq_true rfl)) dX10_voice_25 ⟨Nat.le_of_ble_eq_true rfl, Nat.le_of_ble_eq_true rfl⟩) hP hD hS hA [0, 3] [1, 2, 4, 5, 6, 7] rfl rfl (by decide) (by decide) ?_
      clear hP hD hS
      intro r_15 scb_17 H locs w_16 hP hD hS
      replace hP : va_P D vwCl [(k0, .inr (9, [.ref k00, .ref k01, .ref k02, .ref k03, .ref k04, .ref k05, .int c06, .int c07, .int c08])), (k9, .inr (7, [.ref k90, .int c91, .int c92, .int c93, .int c94])), (k90, .inl (cI, 40, .inl c90)), (k040, .inl (cI, 60, .inl c040)), (k042, .inl (cI, 60, .inl c042)), (k04, .inr (8, [.ref k040, .ref k041, .ref k042, .ref k043, .ref k044, .ref k045, .ref k046, .ref k047, .ref k048, .int c049])), (k, .inr (10, [.ref k0, .ref k1, .ref k2, .ref k3, .ref k4, .ref k5, .ref k6, .ref k7, .ref k8, .ref k9, .ref ka, .ref kb, .int cc])), (kb, .inl (cI, 6, .inl scb_17))] H := hP
      replace hD : va_D A [(k0, .inr (9, [.ref k00, .ref k01, .ref k02, .ref k03, .ref k04, .ref k05, .int c06, .int c07, .int c08])), (k9, .inr (7, [.ref k90, .int c91, .int c92, .int c93, .int c94])), (k90, .inl (cI, 40, .inl c90)), (k040, .inl (cI, 60, .inl c040)), (k042, .inl (cI, 60, .inl c042)), (k04, .inr (8, [.ref k040, .ref k041, .ref k042, .ref k043, .ref k044, .ref k045, .ref k046, .ref k047, .ref k048, .int c049])), (k, .inr (10, [.ref k0, .ref k1, .ref k2, .ref k3, .ref k4, .ref k5, .ref k6, .ref k7, .ref k8, .ref k9, .ref ka, .ref kb, .int cc])), (kb, .inl (cI, 6, .inl scb_17))] := hD
      have hr_15 := w_16
      obtain rfl : r_15 = (-1000001) := hr_15.trans (by decide)
      exact hRet (c91, c92, c93, c94, scb_17, c90) [6, 0, 1, 7, 5, 2, 3, 4] ⟨(Or.inr ⟨(fun z => by omega), rfl, rfl, rfl⟩), (by first | omega | (simp only [zl_m1000001]; first | done | omega) | decide | assumption | rfl | (dsimp only; first | omega | (simp only [zl_m1000001]; first | done | omega))), (by first | omega | (simp only [zl_m1000001]; first | done | omega) | decide | assumption | rfl | (dsimp only; first | omega | (simp only [zl_m1000001]; first | done | omega)))⟩ hP hD (by decide) rfl hS rfl dX10_voice_28
    · refine lv_iload_n hx hb dX10_voice_18 rfl (lv_at hl 2 rfl) ?_
      refine lv_iconst (v := 3) hx hb dX10_voice_19 (by decide) ?_
      refine b_icmp_le hx hb rfl zl_3 (tgt := 29) dX10_voice_20 (by decide) (fun c_18 => ?_) (fun c_18 => ?_)
      · refine lv_aload_n hx hb dX10_voice_29 rfl (lv_at hl 0 rfl) ?_
        refine va_get (D := D) (ci := 10) (v := .ref k9) (C := RX10) (T := TX10) (N := 13) hx hb hT giX10 hown hK hP 0 rfl rfl 9 (by decide) (hT (Cond.fieldLink RX10 63 "DesertWire" "voices" "LDesertWire$Voices;") mw_300) (fun _ h9 => h9) rfl dX10_voice_30 ?_
        refine lv_aload_n hx hb dX10_voice_33 rfl (lv_at hl 0 rfl) ?_
        refine va_get (D := D) (ci := 10) (v := .ref k0) (C := RX10) (T := TX10) (N := 13) hx hb hT giX10 hown hK hP 0 rfl rfl 0 (by decide) (hT (Cond.fieldLink RX10 12 "DesertWire" "now" "LDesertWire$World;") mw_291) (fun _ h9 => h9) rfl dX10_voice_34 ?_
        refine va_get (D := D) (ci := 9) (v := .ref k04) (C := RX9) (T := TX9) (N := 9) hx hb hT giX9 hown hK hP 1 rfl rfl 4 (by decide) (hT (Cond.fieldLink RX10 99 "DesertWire$World" "works" "LDesertWire$Works;") mw_99) (fun _ h9 => h9) rfl dX10_voice_37 ?_
        refine lv_iload_n hx hb dX10_voice_40 rfl (lv_at hl 1 rfl) ?_
        refine kJi (wr := [(k, .inr (10, [.ref k0, .ref k1, .ref k2, .ref k3, .ref k4, .ref k5, .ref k6, .ref k7, .ref k8, .ref k9, .ref ka, .ref kb, .int cc])), (k0, .inr (9, [.ref k00, .ref k01, .ref k02, .ref k03, .ref k04, .ref k05, .int c06, .int c07, .int c08])), (k9, .inr (7, [.ref k90, .int c91, .int c92, .int c93, .int c94])), (kb, .inl (cI, 6, .inl cb)), (k90, .inl (cI, 40, .inl c90)), (k042, .inl (cI, 60, .inl c042))]) (va_runV (As := [.int a0]) (rest := [.ref k9]) ⟨hx, hb, hml, hown, hT⟩ (c_X8_kindOfD l D cI aK aV k04 k040 k041 k042 k043 k044 k045 k046 k047 k048 H.size c049 c040 a0) (cwV 1 hT (gV_in mw_384 mw_381 mw_382 mw_383 mw_3) rfl rfl rfl (by decide +kernel) ⟨Nat.le_of_ble_eq_true rfl, Nat.le_of_ble_eq_true rfl⟩) (kRecvX (q0 := 7) (ci := 8) hK hP hD hN hXS hS hA rfl rfl [7, 5] rfl (by decide)) rfl rfl hl.1 rfl (lv_room (Nat.le_of_ble_eq_true rfl)) dX10_voice_41 ⟨Nat.le_of_ble_eq_true rfl, Nat.le_of_ble_eq_true rfl⟩) hP hD hS hA [7, 5] [0, 1, 2, 3, 4, 6] rfl rfl (by decide) (by decide) ?_
        clear hP hD hS
        intro r_19 u_21 H locs w_20 hP hD hS
        replace hP : va_P D vwCl [(k, .inr (10, [.ref k0, .ref k1, .ref k2, .ref k3, .ref k4, .ref k5, .ref k6, .ref k7, .ref k8, .ref k9, .ref ka, .ref kb, .int cc])), (k0, .inr (9, [.ref k00, .ref k01, .ref k02, .ref k03, .ref k04, .ref k05, .int c06, .int c07, .int c08])), (k9, .inr (7, [.ref k90, .int c91, .int c92, .int c93, .int c94])), (kb, .inl (cI, 6, .inl cb)), (k90, .inl (cI, 40, .inl c90)), (k042, .inl (cI, 60, .inl c042)), (k04, .inr (8, [.ref k040, .ref k041, .ref k042, .ref k043, .ref k044, .ref k045, .ref k046, .ref k047, .ref k048, .int c049])), (k040, .inl (cI, 60, .inl c040))] H := hP
        replace hD : va_D A [(k, .inr (10, [.ref k0, .ref k1, .ref k2, .ref k3, .ref k4, .ref k5, .ref k6, .ref k7, .ref k8, .ref k9, .ref ka, .ref kb, .int cc])), (k0, .inr (9, [.ref k00, .ref k01, .ref k02, .ref k03, .ref k04, .ref k05, .int c06, .int c07, .int c08])), (k9, .inr (7, [.ref k90, .int c91, .int c92, .int c93, .int c94])), (kb, .inl (cI, 6, .inl cb)), (k90, .inl (cI, 40, .inl c90)), (k042, .inl (cI, 60, .inl c042)), (k04, .inr (8, [.ref k040, .ref k041, .ref k042, .ref k043, .ref k044, .ref k045, .ref k046, .ref k047, .ref k048, .int c049])), (k040, .inl (cI, 60, .inl c040))] := hD
        rcases w_20 with ⟨h_22, h_23, h_24, h_25⟩ | ⟨hr_19, h_26⟩
        · have h_22 : 0 ≤ a0.toInt := h_22
          have h_23 : a0.toInt < c049.toInt := h_23
          have h_24 : a0.toInt ≤ 59 := h_24
          have h_25 : r_19 = c040 a0.toNatClampNeg := h_25
          have h_27 : r_19 = wW gx a0 0 := Eq.trans h_25 (WKR.r0 (WR.kw pre0) (by omega) (by omega))
          have t_28 : r_19.toInt = (wW gx a0 0).toInt := by rw [h_27]
          have b_29 : 0 ≤ r_19.toInt ∧ r_19.toInt ≤ 5 := by rw [h_27]; exact SB.w0 pre1 (by omega) (by omega)
          have lo_r_19 := k_lo r_19
          have hi_r_19 := k_hi r_19
          refine lv_iload_n hx hb dX10_voice_44 rfl (lv_at hl 1 rfl) ?_
          refine lv_aload_n hx hb dX10_voice_45 rfl (lv_at hl 0 rfl) ?_
          refine va_get (D := D) (ci := 10) (v := .ref k0) (C := RX10) (T := TX10) (N := 13) hx hb hT giX10 hown hK hP 0 rfl rfl 0 (by decide) (hT (Cond.fieldLink RX10 12 "DesertWire" "now" "LDesertWire$World;") mw_291) (fun _ h9 => h9) rfl dX10_voice_46 ?_
          refine va_get (D := D) (ci := 9) (v := .ref k04) (C := RX9) (T := TX9) (N := 9) hx hb hT giX9 hown hK hP 1 rfl rfl 4 (by decide) (hT (Cond.fieldLink RX10 99 "DesertWire$World" "works" "LDesertWire$Works;") mw_99) (fun _ h9 => h9) rfl dX10_voice_49 ?_
          refine lv_iload_n hx hb dX10_voice_52 rfl (lv_at hl 1 rfl) ?_
          refine kJi (wr := [(k, .inr (10, [.ref k0, .ref k1, .ref k2, .ref k3, .ref k4, .ref k5, .ref k6, .ref k7, .ref k8, .ref k9, .ref ka, .ref kb, .int cc])), (k0, .inr (9, [.ref k00, .ref k01, .ref k02, .ref k03, .ref k04, .ref k05, .int c06, .int c07, .int c08])), (k9, .inr (7, [.ref k90, .int c91, .int c92, .int c93, .int c94])), (kb, .inl (cI, 6, .inl cb)), (k90, .inl (cI, 40, .inl c90)), (k040, .inl (cI, 60, .inl c040))]) (va_runV (As := [.int a0]) (rest := [.int a0, .int r_19, .ref k9]) ⟨hx, hb, hml, hown, hT⟩ (c_X8_sizeOfD l D cI aK aV k04 k040 k041 k042 k043 k044 k045 k046 k047 k048 H.size c049 c042 a0) (cwV 1 hT (gV_in mw_394 mw_391 mw_392 mw_393 mw_3) rfl rfl rfl (by decide +kernel) ⟨Nat.le_of_ble_eq_true rfl, Nat.le_of_ble_eq_true rfl⟩) (kRecvX (q0 := 6) (ci := 8) hK hP hD hN hXS hS hA rfl rfl [6, 5] rfl (by decide)) rfl rfl hl.1 rfl (lv_room (Nat.le_of_ble_eq_true rfl)) dX10_voice_53 ⟨Nat.le_of_ble_eq_true rfl, Nat.le_of_ble_eq_true rfl⟩) hP hD hS hA [6, 5] [0, 1, 2, 3, 4, 7] rfl rfl (by decide) (by decide) ?_
          clear hP hD hS
          intro r_30 u_32 H locs w_31 hP hD hS
          replace hP : va_P D vwCl [(k, .inr (10, [.ref k0, .ref k1, .ref k2, .ref k3, .ref k4, .ref k5, .ref k6, .ref k7, .ref k8, .ref k9, .ref ka, .ref kb, .int cc])), (k0, .inr (9, [.ref k00, .ref k01, .ref k02, .ref k03, .ref k04, .ref k05, .int c06, .int c07, .int c08])), (k9, .inr (7, [.ref k90, .int c91, .int c92, .int c93, .int c94])), (kb, .inl (cI, 6, .inl cb)), (k90, .inl (cI, 40, .inl c90)), (k040, .inl (cI, 60, .inl c040)), (k04, .inr (8, [.ref k040, .ref k041, .ref k042, .ref k043, .ref k044, .ref k045, .ref k046, .ref k047, .ref k048, .int c049])), (k042, .inl (cI, 60, .inl c042))] H := hP
          replace hD : va_D A [(k, .inr (10, [.ref k0, .ref k1, .ref k2, .ref k3, .ref k4, .ref k5, .ref k6, .ref k7, .ref k8, .ref k9, .ref ka, .ref kb, .int cc])), (k0, .inr (9, [.ref k00, .ref k01, .ref k02, .ref k03, .ref k04, .ref k05, .int c06, .int c07, .int c08])), (k9, .inr (7, [.ref k90, .int c91, .int c92, .int c93, .int c94])), (kb, .inl (cI, 6, .inl cb)), (k90, .inl (cI, 40, .inl c90)), (k040, .inl (cI, 60, .inl c040)), (k04, .inr (8, [.ref k040, .ref k041, .ref k042, .ref k043, .ref k044, .ref k045, .ref k046, .ref k047, .ref k048, .int c049])), (k042, .inl (cI, 60, .inl c042))] := hD
          rcases w_31 with ⟨h_33, h_34, h_35, h_36⟩ | ⟨hr_30, h_37⟩
          · have h_33 : 0 ≤ a0.toInt := h_33
            have h_34 : a0.toInt < c049.toInt := h_34
            have h_35 : a0.toInt ≤ 59 := h_35
            have h_36 : r_30 = c042 a0.toNatClampNeg := h_36
            have h_38 : r_30 = wW gx a0 2 := Eq.trans h_36 (WKR.r2 (WR.kw pre0) (by omega) (by omega))
            have t_39 : r_30.toInt = (wW gx a0 2).toInt := by rw [h_38]
            have lo_r_30 := k_lo r_30
            have hi_r_30 := k_hi r_30
            refine lv_iload_n hx hb dX10_voice_56 rfl (lv_at hl 2 rfl) ?_
            refine lv_iload_n hx hb dX10_voice_57 rfl (lv_at hl 3 rfl) ?_
            refine kJi (wr := [(k, .inr (10, [.ref k0, .ref k1, .ref k2, .ref k3, .ref k4, .ref k5, .ref k6, .ref k7, .ref k8, .ref k9, .ref ka, .ref kb, .int cc])), (k0, .inr (9, [.ref k00, .ref k01, .ref k02, .ref k03, .ref k04, .ref k05, .int c06, .int c07, .int c08])), (kb, .inl (cI, 6, .inl cb)), (k040, .inl (cI, 60, .inl c040)), (k04, .inr (8, [.ref k040, .ref k041, .ref k042, .ref k043, .ref k044, .ref k045, .ref k046, .ref k047, .ref k048, .int c049])), (k042, .inl (cI, 60, .inl c042))]) (va_runV (As := [.int r_19, .int a0, .int r_30, .int a1, .int a2]) (rest := []) ⟨hx, hb, hml, hown, hT⟩ (c_X7_hearD l D cI aK aV k9 k90 H.size c91 c92 c93 c94 c90 r_19 a0 r_30 a1 a2 (by first | omega | decide | assumption | rfl) (by first | omega | decide | assumption | rfl) (by first | omega | decide | assumption | rfl) (by first | omega | decide | assumption | rfl)) (cwV 5 hT (gV_in mw_1046 mw_1043 mw_1044 mw_1045 mw_10) rfl rfl rfl (by decide +kernel) ⟨Nat.le_of_ble_eq_true rfl, Nat.le_of_ble_eq_true rfl⟩) (kRecvX (q0 := 2) (ci := 7) hK hP hD hN hXS hS hA rfl rfl [2, 4] rfl (by decide)) rfl rfl hl.1 rfl (lv_room (Nat.le_of_ble_eq_true rfl)) dX10_voice_58 ⟨Nat.le_of_ble_eq_true rfl, Nat.le_of_ble_eq_true rfl⟩) hP hD hS hA [2, 4] [0, 1, 3, 5, 6, 7] rfl rfl (by decide) (by decide) ?_
            clear hP hD hS
            intro r_40 u_47 H locs w_41 hP hD hS
            obtain ⟨sc1_42, sc2_43, sc3_44, sc4_45, sc0_46⟩ := u_47
            replace hP : va_P D vwCl [(k, .inr (10, [.ref k0, .ref k1, .ref k2, .ref k3, .ref k4, .ref k5, .ref k6, .ref k7, .ref k8, .ref k9, .ref ka, .ref kb, .int cc])), (k0, .inr (9, [.ref k00, .ref k01, .ref k02, .ref k03, .ref k04, .ref k05, .int c06, .int c07, .int c08])), (kb, .inl (cI, 6, .inl cb)), (k040, .inl (cI, 60, .inl c040)), (k04, .inr (8, [.ref k040, .ref k041, .ref k042, .ref k043, .ref k044, .ref k045, .ref k046, .ref k047, .ref k048, .int c049])), (k042, .inl (cI, 60, .inl c042)), (k9, .inr (7, [.ref k90, .int sc1_42, .int sc2_43, .int sc3_44, .int sc4_45])), (k90, .inl (cI, 40, .inl sc0_46))] H := hP
            replace hD : va_D A [(k, .inr (10, [.ref k0, .ref k1, .ref k2, .ref k3, .ref k4, .ref k5, .ref k6, .ref k7, .ref k8, .ref k9, .ref ka, .ref kb, .int cc])), (k0, .inr (9, [.ref k00, .ref k01, .ref k02, .ref k03, .ref k04, .ref k05, .int c06, .int c07, .int c08])), (kb, .inl (cI, 6, .inl cb)), (k040, .inl (cI, 60, .inl c040)), (k04, .inr (8, [.ref k040, .ref k041, .ref k042, .ref k043, .ref k044, .ref k045, .ref k046, .ref k047, .ref k048, .int c049])), (k042, .inl (cI, 60, .inl c042)), (k9, .inr (7, [.ref k90, .int sc1_42, .int sc2_43, .int sc3_44, .int sc4_45])), (k90, .inl (cI, 40, .inl sc0_46))] := hD
            have lo_sc1_42 := k_lo sc1_42
            have hi_sc1_42 := k_hi sc1_42
            obtain ⟨h_48, h_49, h_50⟩ := w_41
            have h_48 : voB a0 r_30 r_19 24 r_19 a1 a2 0 c90 = (r_40, sc1_42, sc0_46) := h_48
            have h_49 : 0 ≤ sc1_42.toInt := h_49
            have h_50 : sc1_42.toInt ≤ 40 := h_50
            have lo_r_40 := k_lo r_40
            have hi_r_40 := k_hi r_40
            exact hRet (sc1_42, sc2_43, sc3_44, sc4_45, cb, sc0_46) [0, 1, 6, 2, 4, 7, 3, 5] ⟨(Or.inl ⟨⟨by omega, by omega, by omega, by omega⟩, by rw [← h_38, ← h_27]; exact h_48⟩), (by first | omega | decide | assumption | rfl | (dsimp only; first | omega)), (by first | omega | decide | assumption | rfl | (dsimp only; first | omega))⟩ hP hD (by decide) rfl hS rfl dX10_voice_61
          · exfalso; omega
        · exfalso; omega
      · refine lv_aload_n hx hb dX10_voice_23 rfl (lv_at hl 0 rfl) ?_
        refine lv_iconst (v := 1) hx hb dX10_voice_24 (by decide) ?_
        refine kJi (wr := [(k0, .inr (9, [.ref k00, .ref k01, .ref k02, .ref k03, .ref k04, .ref k05, .int c06, .int c07, .int c08])), (k9, .inr (7, [.ref k90, .int c91, .int c92, .int c93, .int c94])), (k90, .inl (cI, 40, .inl c90)), (k040, .inl (cI, 60, .inl c040)), (k042, .inl (cI, 60, .inl c042)), (k04, .inr (8, [.ref k040, .ref k041, .ref k042, .ref k043, .ref k044, .ref k045, .ref k046, .ref k047, .ref k048, .int c049]))]) (va_runV (As := [.int 1]) (rest := []) ⟨hx, hb, hml, hown, hT⟩ (c_X10_findingG l D cI aK aV k k0 k1 k2 k3 k4 k5 k6 k7 k8 k9 ka kb H.size cc cb 1) (cwV 1 hT (gV_in mw_338 mw_335 mw_337 mw_p1_0 mw_1) rfl rfl rfl (by decide +kernel) ⟨Nat.le_of_ble_eq_true rfl, Nat.le_of_ble_eq_true rfl⟩) (kRecvX (q0 := 0) (ci := 10) hK hP hD hN hXS hS hA rfl rfl [0, 3] rfl (by decide)) rfl rfl hl.1 rfl (lv_room (Nat.le_of_ble_eq_true rfl)) dX10_voice_25 ⟨Nat.le_of_ble_eq_true rfl, Nat.le_of_ble_eq_true rfl⟩) hP hD hS hA [0, 3] [1, 2, 4, 5, 6, 7] rfl rfl (by decide) (by decide) ?_
        clear hP hD hS
        intro r_51 scb_53 H locs w_52 hP hD hS
        replace hP : va_P D vwCl [(k0, .inr (9, [.ref k00, .ref k01, .ref k02, .ref k03, .ref k04, .ref k05, .int c06, .int c07, .int c08])), (k9, .inr (7, [.ref k90, .int c91, .int c92, .int c93, .int c94])), (k90, .inl (cI, 40, .inl c90)), (k040, .inl (cI, 60, .inl c040)), (k042, .inl (cI, 60, .inl c042)), (k04, .inr (8, [.ref k040, .ref k041, .ref k042, .ref k043, .ref k044, .ref k045, .ref k046, .ref k047, .ref k048, .int c049])), (k, .inr (10, [.ref k0, .ref k1, .ref k2, .ref k3, .ref k4, .ref k5, .ref k6, .ref k7, .ref k8, .ref k9, .ref ka, .ref kb, .int cc])), (kb, .inl (cI, 6, .inl scb_53))] H := hP
        replace hD : va_D A [(k0, .inr (9, [.ref k00, .ref k01, .ref k02, .ref k03, .ref k04, .ref k05, .int c06, .int c07, .int c08])), (k9, .inr (7, [.ref k90, .int c91, .int c92, .int c93, .int c94])), (k90, .inl (cI, 40, .inl c90)), (k040, .inl (cI, 60, .inl c040)), (k042, .inl (cI, 60, .inl c042)), (k04, .inr (8, [.ref k040, .ref k041, .ref k042, .ref k043, .ref k044, .ref k045, .ref k046, .ref k047, .ref k048, .int c049])), (k, .inr (10, [.ref k0, .ref k1, .ref k2, .ref k3, .ref k4, .ref k5, .ref k6, .ref k7, .ref k8, .ref k9, .ref ka, .ref kb, .int cc])), (kb, .inl (cI, 6, .inl scb_53))] := hD
        have hr_51 := w_52
        obtain rfl : r_51 = (-1000001) := hr_51.trans (by decide)
        exact hRet (c91, c92, c93, c94, scb_53, c90) [6, 0, 1, 7, 5, 2, 3, 4] ⟨(Or.inr ⟨(fun z => by omega), rfl, rfl, rfl⟩), (by first | omega | (simp only [zl_m1000001]; first | done | omega) | decide | assumption | rfl | (dsimp only; first | omega | (simp only [zl_m1000001]; first | done | omega))), (by first | omega | (simp only [zl_m1000001]; first | done | omega) | decide | assumption | rfl | (dsimp only; first | omega | (simp only [zl_m1000001]; first | done | omega)))⟩ hP hD (by decide) rfl hS rfl dX10_voice_28
  · have h_12 : a0.toInt < 0 ∨ c049.toInt ≤ a0.toInt ∨ 60 ≤ a0.toInt := h_12
    obtain rfl : r_6 = 0 := hr_6.trans (by decide)
    refine b_if_eq hx hb zl_0 (tgt := 23) dX10_voice_11 (by decide) (fun c_54 => ?_) (fun c_54 => by exfalso; omega)
    refine lv_aload_n hx hb dX10_voice_23 rfl (lv_at hl 0 rfl) ?_
    refine lv_iconst (v := 1) hx hb dX10_voice_24 (by decide) ?_
    refine kJi (wr := [(k0, .inr (9, [.ref k00, .ref k01, .ref k02, .ref k03, .ref k04, .ref k05, .int c06, .int c07, .int c08])), (k9, .inr (7, [.ref k90, .int c91, .int c92, .int c93, .int c94])), (k90, .inl (cI, 40, .inl c90)), (k040, .inl (cI, 60, .inl c040)), (k042, .inl (cI, 60, .inl c042)), (k04, .inr (8, [.ref k040, .ref k041, .ref k042, .ref k043, .ref k044, .ref k045, .ref k046, .ref k047, .ref k048, .int c049]))]) (va_runV (As := [.int 1]) (rest := []) ⟨hx, hb, hml, hown, hT⟩ (c_X10_findingG l D cI aK aV k k0 k1 k2 k3 k4 k5 k6 k7 k8 k9 ka kb H.size cc cb 1) (cwV 1 hT (gV_in mw_338 mw_335 mw_337 mw_p1_0 mw_1) rfl rfl rfl (by decide +kernel) ⟨Nat.le_of_ble_eq_true rfl, Nat.le_of_ble_eq_true rfl⟩) (kRecvX (q0 := 0) (ci := 10) hK hP hD hN hXS hS hA rfl rfl [0, 3] rfl (by decide)) rfl rfl hl.1 rfl (lv_room (Nat.le_of_ble_eq_true rfl)) dX10_voice_25 ⟨Nat.le_of_ble_eq_true rfl, Nat.le_of_ble_eq_true rfl⟩) hP hD hS hA [0, 3] [1, 2, 4, 5, 6, 7] rfl rfl (by decide) (by decide) ?_
    clear hP hD hS
    intro r_55 scb_57 H locs w_56 hP hD hS
    replace hP : va_P D vwCl [(k0, .inr (9, [.ref k00, .ref k01, .ref k02, .ref k03, .ref k04, .ref k05, .int c06, .int c07, .int c08])), (k9, .inr (7, [.ref k90, .int c91, .int c92, .int c93, .int c94])), (k90, .inl (cI, 40, .inl c90)), (k040, .inl (cI, 60, .inl c040)), (k042, .inl (cI, 60, .inl c042)), (k04, .inr (8, [.ref k040, .ref k041, .ref k042, .ref k043, .ref k044, .ref k045, .ref k046, .ref k047, .ref k048, .int c049])), (k, .inr (10, [.ref k0, .ref k1, .ref k2, .ref k3, .ref k4, .ref k5, .ref k6, .ref k7, .ref k8, .ref k9, .ref ka, .ref kb, .int cc])), (kb, .inl (cI, 6, .inl scb_57))] H := hP
    replace hD : va_D A [(k0, .inr (9, [.ref k00, .ref k01, .ref k02, .ref k03, .ref k04, .ref k05, .int c06, .int c07, .int c08])), (k9, .inr (7, [.ref k90, .int c91, .int c92, .int c93, .int c94])), (k90, .inl (cI, 40, .inl c90)), (k040, .inl (cI, 60, .inl c040)), (k042, .inl (cI, 60, .inl c042)), (k04, .inr (8, [.ref k040, .ref k041, .ref k042, .ref k043, .ref k044, .ref k045, .ref k046, .ref k047, .ref k048, .int c049])), (k, .inr (10, [.ref k0, .ref k1, .ref k2, .ref k3, .ref k4, .ref k5, .ref k6, .ref k7, .ref k8, .ref k9, .ref ka, .ref kb, .int cc])), (kb, .inl (cI, 6, .inl scb_57))] := hD
    have hr_55 := w_56
    obtain rfl : r_55 = (-1000001) := hr_55.trans (by decide)
    exact hRet (c91, c92, c93, c94, scb_57, c90) [6, 0, 1, 7, 5, 2, 3, 4] ⟨(Or.inr ⟨(fun z => by omega), rfl, rfl, rfl⟩), (by first | omega | (simp only [zl_m1000001]; first | done | omega) | decide | assumption | rfl | (dsimp only; first | omega | (simp only [zl_m1000001]; first | done | omega))), (by first | omega | (simp only [zl_m1000001]; first | done | omega) | decide | assumption | rfl | (dsimp only; first | omega | (simp only [zl_m1000001]; first | done | omega)))⟩ hP hD (by decide) rfl hS rfl dX10_voice_28

set_option maxHeartbeats 4000000 in
set_option maxRecDepth 100000 in
theorem c_X7_bodyAtD (l : Launch) (D : va_G) (cI : ClassId) (aK aV : Nat → Nat) (k k0 : Nat) (sz : Nat) (c1 : Int32) (c2 : Int32) (c3 : Int32) (c4 : Int32) (c0 : Nat → Int32) (a0 : Int32) (pre0 : 0 ≤ c1.toInt) (pre1 : c1.toInt ≤ 40) : Met l yX7_bodyAt (gW yX7_bodyAt cX7_bodyAt 2 (some .int)) ({ frames := 0, cells := 0, slots := 0, locals := 0 } : Room) (kPreX D cI aK aV [.ref k, .int a0] [(k, .inr (7, [.ref k0, .int c1, .int c2, .int c3, .int c4])), (k0, .inl (cI, 40, .inl c0))] sz) (va_Qi (fun (r : Int32) (u : Unit) => (0 ≤ a0.toInt ∧ a0.toInt < c1.toInt ∧ r = c0 a0.toInt.toNat) ∨ (r = 0 ∧ (a0.toInt < 0 ∨ c1.toInt ≤ a0.toInt))) (fun u t => kWd D cI (va_A [(k, .inr (7, [.ref k0, .int c1, .int c2, .int c3, .int c4])), (k0, .inl (cI, 40, .inl c0))] sz) [(k, .inr (7, [.ref k0, .int c1, .int c2, .int c3, .int c4])), (k0, .inl (cI, 40, .inl c0))] t) (va_A [(k, .inr (7, [.ref k0, .int c1, .int c2, .int c3, .int c4])), (k0, .inl (cI, 40, .inl c0))] sz)) 0 0 (va_A [(k, .inr (7, [.ref k0, .int c1, .int c2, .int c3, .int c4])), (k0, .inl (cI, 40, .inl c0))] sz) := by
  refine kMetIX (own := RX7) (by decide) rfl (Nat.le_of_ble_eq_true rfl) ?_
  intro p e s m args below meth c hx hb hT hown hname hml A Q hK hP hD hS hA hN hXS hRet ls hl
  have hl : lv_has ls 2 [(0, .ref k), (1, .int a0)] := hl
  have lo_a0 := k_lo a0
  have hi_a0 := k_hi a0
  have lo_c1 := k_lo c1
  have hi_c1 := k_hi c1
  refine lv_iload_n hx hb dX7_bodyAt_0 rfl (lv_at hl 1 rfl) ?_
  refine b_if_lt hx hb rfl (tgt := 27) dX7_bodyAt_1 (by decide) (fun c_1 => ?_) (fun c_1 => ?_)
  · refine lv_iconst (v := 0) hx hb dX7_bodyAt_27 (by decide) ?_
    exact hRet () [0, 1] (by first | exact Or.inl ⟨(by omega), (by omega), (by rw [e0, k_clamp])⟩ | exact Or.inr (⟨rfl, (by omega)⟩)) hP hD (by decide) rfl hS rfl dX7_bodyAt_28
  · refine lv_iload_n hx hb dX7_bodyAt_4 rfl (lv_at hl 1 rfl) ?_
    refine lv_aload_n hx hb dX7_bodyAt_5 rfl (lv_at hl 0 rfl) ?_
    refine va_get (D := D) (ci := 7) (v := .int c1) (C := RX7) (T := TX7) (N := 5) hx hb hT giX7 hown hK hP 0 rfl rfl 1 (by decide) (hT (Cond.fieldLink RX7 15 "DesertWire$Voices" "begun" "I") mw_259) (fun _ h9 => h9) rfl dX7_bodyAt_6 ?_
    refine b_icmp_ge hx hb rfl rfl (tgt := 27) dX7_bodyAt_9 (by decide) (fun c_2 => ?_) (fun c_2 => ?_)
    · refine lv_iconst (v := 0) hx hb dX7_bodyAt_27 (by decide) ?_
      exact hRet () [0, 1] (by first | exact Or.inl ⟨(by omega), (by omega), (by rw [e0, k_clamp])⟩ | exact Or.inr (⟨rfl, (by omega)⟩)) hP hD (by decide) rfl hS rfl dX7_bodyAt_28
    · refine lv_iload_n hx hb dX7_bodyAt_12 rfl (lv_at hl 1 rfl) ?_
      refine lv_bipush (v := 40) hx hb dX7_bodyAt_13 (by decide) ?_
      refine b_icmp_ge hx hb rfl zl_40 (tgt := 27) dX7_bodyAt_15 (by decide) (fun c_3 => by exfalso; omega) (fun c_3 => ?_)
      refine lv_aload_n hx hb dX7_bodyAt_18 rfl (lv_at hl 0 rfl) ?_
      refine va_get (D := D) (ci := 7) (v := .ref k0) (C := RX7) (T := TX7) (N := 5) hx hb hT giX7 hown hK hP 0 rfl rfl 0 (by decide) (hT (Cond.fieldLink RX7 9 "DesertWire$Voices" "bodies" "[I") mw_258) (fun _ h9 => h9) rfl dX7_bodyAt_19 ?_
      refine lv_iload_n hx hb dX7_bodyAt_22 rfl (lv_at hl 1 rfl) ?_
      refine k_iald (v := (c0 a0.toNatClampNeg)) hx hb hK hP 1 0 rfl rfl (k_in (by omega) (by omega)) rfl dX7_bodyAt_23 ?_
      refine lv_topi (fun v_4 ev_4 => ?_)
      have lo_v_4 := k_lo v_4
      have hi_v_4 := k_hi v_4
      have tv_4 : v_4.toInt = (c0 a0.toNatClampNeg).toInt := by rw [ev_4]
      refine lv_goto (tgt := 28) hx hb dX7_bodyAt_24 (by decide) ?_
      exact hRet () [0, 1] (by first | exact Or.inl ⟨(by omega), (by omega), (by rw [ev_4, k_clamp])⟩ | exact Or.inr (⟨ev_4, (by omega)⟩)) hP hD (by decide) rfl hS rfl dX7_bodyAt_28

set_option maxHeartbeats 4000000 in
set_option maxRecDepth 100000 in
theorem c_X10_traceD (l : Launch) (D : va_G) (cI : ClassId) (aK aV : Nat → Nat) (k k0 k1 k2 k3 k4 k5 k6 k7 k8 k9 ka kb k90 : Nat) (sz : Nat) (cc : Int32) (c91 : Int32) (c92 : Int32) (c93 : Int32) (c94 : Int32) (cb : Nat → Int32) (c90 : Nat → Int32) (a0 : Int32) (pre0 : 0 ≤ c91.toInt) (pre1 : c91.toInt ≤ 40) : Met l yX10_trace (gW yX10_trace cX10_trace 2 (some .int)) ({ frames := 1, cells := 0, slots := 0, locals := 21 } : Room) (kPreX D cI aK aV [.ref k, .int a0] [(k, .inr (10, [.ref k0, .ref k1, .ref k2, .ref k3, .ref k4, .ref k5, .ref k6, .ref k7, .ref k8, .ref k9, .ref ka, .ref kb, .int cc])), (k9, .inr (7, [.ref k90, .int c91, .int c92, .int c93, .int c94])), (kb, .inl (cI, 6, .inl cb)), (k90, .inl (cI, 40, .inl c90))] sz) (va_Qi (fun (r : Int32) (u : (Nat → Int32)) => ((0 ≤ a0.toInt ∧ a0.toInt < c91.toInt ∧ r = c90 a0.toInt.toNat) ∨ ((a0.toInt < 0 ∨ c91.toInt ≤ a0.toInt) ∧ r = -1000002))) (fun u t => kWd D cI (va_A [(k, .inr (10, [.ref k0, .ref k1, .ref k2, .ref k3, .ref k4, .ref k5, .ref k6, .ref k7, .ref k8, .ref k9, .ref ka, .ref kb, .int cc])), (k9, .inr (7, [.ref k90, .int c91, .int c92, .int c93, .int c94])), (kb, .inl (cI, 6, .inl cb)), (k90, .inl (cI, 40, .inl c90))] sz) [(k, .inr (10, [.ref k0, .ref k1, .ref k2, .ref k3, .ref k4, .ref k5, .ref k6, .ref k7, .ref k8, .ref k9, .ref ka, .ref kb, .int cc])), (k9, .inr (7, [.ref k90, .int c91, .int c92, .int c93, .int c94])), (kb, .inl (cI, 6, .inl u)), (k90, .inl (cI, 40, .inl c90))] t) (va_A [(k, .inr (10, [.ref k0, .ref k1, .ref k2, .ref k3, .ref k4, .ref k5, .ref k6, .ref k7, .ref k8, .ref k9, .ref ka, .ref kb, .int cc])), (k9, .inr (7, [.ref k90, .int c91, .int c92, .int c93, .int c94])), (kb, .inl (cI, 6, .inl cb)), (k90, .inl (cI, 40, .inl c90))] sz)) 0 0 (va_A [(k, .inr (10, [.ref k0, .ref k1, .ref k2, .ref k3, .ref k4, .ref k5, .ref k6, .ref k7, .ref k8, .ref k9, .ref ka, .ref kb, .int cc])), (k9, .inr (7, [.ref k90, .int c91, .int c92, .int c93, .int c94])), (kb, .inl (cI, 6, .inl cb)), (k90, .inl (cI, 40, .inl c90))] sz) := by
  refine kMetIX (own := RX10) (by decide) rfl (Nat.le_of_ble_eq_true rfl) ?_
  intro p e s m args below meth c hx hb hT hown hname hml A Q hK hP hD hS hA hN hXS hRet ls hl
  have hl : lv_has ls 2 [(0, .ref k), (1, .int a0)] := hl
  have lo_a0 := k_lo a0
  have hi_a0 := k_hi a0
  have lo_c91 := k_lo c91
  have hi_c91 := k_hi c91
  refine lv_iload_n hx hb dX10_trace_0 rfl (lv_at hl 1 rfl) ?_
  refine b_if_lt hx hb rfl (tgt := 15) dX10_trace_1 (by decide) (fun c_1 => ?_) (fun c_1 => ?_)
  · refine lv_aload_n hx hb dX10_trace_15 rfl (lv_at hl 0 rfl) ?_
    refine lv_iconst (v := 2) hx hb dX10_trace_16 (by decide) ?_
    refine kJi (wr := [(k9, .inr (7, [.ref k90, .int c91, .int c92, .int c93, .int c94])), (k90, .inl (cI, 40, .inl c90))]) (va_runV (As := [.int 2]) (rest := []) ⟨hx, hb, hml, hown, hT⟩ (c_X10_findingG l D cI aK aV k k0 k1 k2 k3 k4 k5 k6 k7 k8 k9 ka kb s.heap.size cc cb 2) (cwV 1 hT (gV_in mw_338 mw_335 mw_337 mw_p1_0 mw_1) rfl rfl rfl (by decide +kernel) ⟨Nat.le_of_ble_eq_true rfl, Nat.le_of_ble_eq_true rfl⟩) (kRecvX (q0 := 0) (ci := 10) hK hP hD hN hXS hS hA rfl rfl [0, 2] rfl (by decide)) rfl rfl hl.1 rfl (lv_room (Nat.le_of_ble_eq_true rfl)) dX10_trace_17 ⟨Nat.le_of_ble_eq_true rfl, Nat.le_of_ble_eq_true rfl⟩) hP hD hS hA [0, 2] [1, 3] rfl rfl (by decide) (by decide) ?_
    clear hP hD hS
    intro r_2 scb_4 H locs w_3 hP hD hS
    replace hP : va_P D vwCl [(k9, .inr (7, [.ref k90, .int c91, .int c92, .int c93, .int c94])), (k90, .inl (cI, 40, .inl c90)), (k, .inr (10, [.ref k0, .ref k1, .ref k2, .ref k3, .ref k4, .ref k5, .ref k6, .ref k7, .ref k8, .ref k9, .ref ka, .ref kb, .int cc])), (kb, .inl (cI, 6, .inl scb_4))] H := hP
    replace hD : va_D A [(k9, .inr (7, [.ref k90, .int c91, .int c92, .int c93, .int c94])), (k90, .inl (cI, 40, .inl c90)), (k, .inr (10, [.ref k0, .ref k1, .ref k2, .ref k3, .ref k4, .ref k5, .ref k6, .ref k7, .ref k8, .ref k9, .ref ka, .ref kb, .int cc])), (kb, .inl (cI, 6, .inl scb_4))] := hD
    have hr_2 := w_3
    obtain rfl : r_2 = (-1000002) := hr_2.trans (by decide)
    exact hRet scb_4 [2, 0, 3, 1] (Or.inr ⟨by omega, rfl⟩) hP hD (by decide) rfl hS rfl dX10_trace_20
  · refine lv_iload_n hx hb dX10_trace_4 rfl (lv_at hl 1 rfl) ?_
    refine lv_aload_n hx hb dX10_trace_5 rfl (lv_at hl 0 rfl) ?_
    refine va_get (D := D) (ci := 10) (v := .ref k9) (C := RX10) (T := TX10) (N := 13) hx hb hT giX10 hown hK hP 0 rfl rfl 9 (by decide) (hT (Cond.fieldLink RX10 63 "DesertWire" "voices" "LDesertWire$Voices;") mw_300) (fun _ h9 => h9) rfl dX10_trace_6 ?_
    refine va_get (D := D) (ci := 7) (v := .int c91) (C := RX7) (T := TX7) (N := 5) hx hb hT giX7 hown hK hP 1 rfl rfl 1 (by decide) (hT (Cond.fieldLink RX10 353 "DesertWire$Voices" "begun" "I") mw_260) (fun _ h9 => h9) rfl dX10_trace_9 ?_
    refine b_icmp_lt hx hb rfl rfl (tgt := 21) dX10_trace_12 (by decide) (fun c_5 => ?_) (fun c_5 => ?_)
    · refine lv_aload_n hx hb dX10_trace_21 rfl (lv_at hl 0 rfl) ?_
      refine va_get (D := D) (ci := 10) (v := .ref k9) (C := RX10) (T := TX10) (N := 13) hx hb hT giX10 hown hK hP 0 rfl rfl 9 (by decide) (hT (Cond.fieldLink RX10 63 "DesertWire" "voices" "LDesertWire$Voices;") mw_300) (fun _ h9 => h9) rfl dX10_trace_22 ?_
      refine lv_iload_n hx hb dX10_trace_25 rfl (lv_at hl 1 rfl) ?_
      refine kJi (wr := [(k, .inr (10, [.ref k0, .ref k1, .ref k2, .ref k3, .ref k4, .ref k5, .ref k6, .ref k7, .ref k8, .ref k9, .ref ka, .ref kb, .int cc])), (kb, .inl (cI, 6, .inl cb))]) (va_runV (As := [.int a0]) (rest := []) ⟨hx, hb, hml, hown, hT⟩ (c_X7_bodyAtD l D cI aK aV k9 k90 s.heap.size c91 c92 c93 c94 c90 a0 (by first | omega | decide | assumption | rfl) (by first | omega | decide | assumption | rfl)) (cwV 1 hT (gV_in mw_1068 mw_1065 mw_1066 mw_1067 mw_10) rfl rfl rfl (by decide +kernel) ⟨Nat.le_of_ble_eq_true rfl, Nat.le_of_ble_eq_true rfl⟩) (kRecvX (q0 := 1) (ci := 7) hK hP hD hN hXS hS hA rfl rfl [1, 3] rfl (by decide)) rfl rfl hl.1 rfl (lv_room (Nat.le_of_ble_eq_true rfl)) dX10_trace_26 ⟨Nat.le_of_ble_eq_true rfl, Nat.le_of_ble_eq_true rfl⟩) hP hD hS hA [1, 3] [0, 2] rfl rfl (by decide) (by decide) ?_
      clear hP hD hS
      intro r_6 u_8 H locs w_7 hP hD hS
      replace hP : va_P D vwCl [(k, .inr (10, [.ref k0, .ref k1, .ref k2, .ref k3, .ref k4, .ref k5, .ref k6, .ref k7, .ref k8, .ref k9, .ref ka, .ref kb, .int cc])), (kb, .inl (cI, 6, .inl cb)), (k9, .inr (7, [.ref k90, .int c91, .int c92, .int c93, .int c94])), (k90, .inl (cI, 40, .inl c90))] H := hP
      replace hD : va_D A [(k, .inr (10, [.ref k0, .ref k1, .ref k2, .ref k3, .ref k4, .ref k5, .ref k6, .ref k7, .ref k8, .ref k9, .ref ka, .ref kb, .int cc])), (kb, .inl (cI, 6, .inl cb)), (k9, .inr (7, [.ref k90, .int c91, .int c92, .int c93, .int c94])), (k90, .inl (cI, 40, .inl c90))] := hD
      rcases w_7 with ⟨h_9, h_10, h_11⟩ | ⟨hr_6, h_12⟩
      · have h_9 : 0 ≤ a0.toInt := h_9
        have h_10 : a0.toInt < c91.toInt := h_10
        have h_11 : r_6 = c90 a0.toInt.toNat := h_11
        have h_11 : r_6 = c90 a0.toInt.toNat := h_11
        have lo_r_6 := k_lo r_6
        have hi_r_6 := k_hi r_6
        exact hRet cb [0, 2, 1, 3] (Or.inl ⟨by omega, by omega, h_11⟩) hP hD (by decide) rfl hS rfl dX10_trace_29
      · exfalso; omega
    · refine lv_aload_n hx hb dX10_trace_15 rfl (lv_at hl 0 rfl) ?_
      refine lv_iconst (v := 2) hx hb dX10_trace_16 (by decide) ?_
      refine kJi (wr := [(k9, .inr (7, [.ref k90, .int c91, .int c92, .int c93, .int c94])), (k90, .inl (cI, 40, .inl c90))]) (va_runV (As := [.int 2]) (rest := []) ⟨hx, hb, hml, hown, hT⟩ (c_X10_findingG l D cI aK aV k k0 k1 k2 k3 k4 k5 k6 k7 k8 k9 ka kb s.heap.size cc cb 2) (cwV 1 hT (gV_in mw_338 mw_335 mw_337 mw_p1_0 mw_1) rfl rfl rfl (by decide +kernel) ⟨Nat.le_of_ble_eq_true rfl, Nat.le_of_ble_eq_true rfl⟩) (kRecvX (q0 := 0) (ci := 10) hK hP hD hN hXS hS hA rfl rfl [0, 2] rfl (by decide)) rfl rfl hl.1 rfl (lv_room (Nat.le_of_ble_eq_true rfl)) dX10_trace_17 ⟨Nat.le_of_ble_eq_true rfl, Nat.le_of_ble_eq_true rfl⟩) hP hD hS hA [0, 2] [1, 3] rfl rfl (by decide) (by decide) ?_
      clear hP hD hS
      intro r_13 scb_15 H locs w_14 hP hD hS
      replace hP : va_P D vwCl [(k9, .inr (7, [.ref k90, .int c91, .int c92, .int c93, .int c94])), (k90, .inl (cI, 40, .inl c90)), (k, .inr (10, [.ref k0, .ref k1, .ref k2, .ref k3, .ref k4, .ref k5, .ref k6, .ref k7, .ref k8, .ref k9, .ref ka, .ref kb, .int cc])), (kb, .inl (cI, 6, .inl scb_15))] H := hP
      replace hD : va_D A [(k9, .inr (7, [.ref k90, .int c91, .int c92, .int c93, .int c94])), (k90, .inl (cI, 40, .inl c90)), (k, .inr (10, [.ref k0, .ref k1, .ref k2, .ref k3, .ref k4, .ref k5, .ref k6, .ref k7, .ref k8, .ref k9, .ref ka, .ref kb, .int cc])), (kb, .inl (cI, 6, .inl scb_15))] := hD
      have hr_13 := w_14
      obtain rfl : r_13 = (-1000002) := hr_13.trans (by decide)
      exact hRet scb_15 [2, 0, 3, 1] (Or.inr ⟨by omega, rfl⟩) hP hD (by decide) rfl hS rfl dX10_trace_20

set_option maxHeartbeats 4000000 in
set_option maxRecDepth 100000 in
theorem c_X8_fallenD (l : Launch) (D : va_G) (cI : ClassId) (aK aV : Nat → Nat) (k k0 k1 k2 k3 k4 k5 k6 k7 k8 : Nat) (sz : Nat) (c9 : Int32) (c5 : Nat → Int32) (c0 : Nat → Int32) (c1 : Nat → Int32) (c2 : Nat → Int32) (c3 : Nat → Int32) (c4 : Nat → Int32) (c6 : Nat → Int32) (c7 : Nat → Int32) (c8 : Nat → Int32) (gx : Nat → Int32) (pre0 : WKR c0 c1 c2 c3 c4 c5 c6 c7 c8 c9 gx) : Met l yX8_fallen (gW yX8_fallen cX8_fallen 3 (some .int)) ({ frames := 0, cells := 0, slots := 0, locals := 0 } : Room) (kPreX D cI aK aV [.ref k] [(k, .inr (8, [.ref k0, .ref k1, .ref k2, .ref k3, .ref k4, .ref k5, .ref k6, .ref k7, .ref k8, .int c9])), (k5, .inl (cI, 60, .inl c5))] sz) (va_Qi (fun (r : Int32) (u : Unit) => r = sumN (dnT gx) (gx 1).toInt.toNat) (fun u t => kWd D cI (va_A [(k, .inr (8, [.ref k0, .ref k1, .ref k2, .ref k3, .ref k4, .ref k5, .ref k6, .ref k7, .ref k8, .int c9])), (k5, .inl (cI, 60, .inl c5))] sz) [(k, .inr (8, [.ref k0, .ref k1, .ref k2, .ref k3, .ref k4, .ref k5, .ref k6, .ref k7, .ref k8, .int c9])), (k5, .inl (cI, 60, .inl c5))] t) (va_A [(k, .inr (8, [.ref k0, .ref k1, .ref k2, .ref k3, .ref k4, .ref k5, .ref k6, .ref k7, .ref k8, .int c9])), (k5, .inl (cI, 60, .inl c5))] sz)) 0 0 (va_A [(k, .inr (8, [.ref k0, .ref k1, .ref k2, .ref k3, .ref k4, .ref k5, .ref k6, .ref k7, .ref k8, .int c9])), (k5, .inl (cI, 60, .inl c5))] sz) := by
  refine kMetIX (own := RX8) (by decide) rfl (Nat.le_of_ble_eq_true rfl) ?_
  intro p e s m args below meth c hx hb hT hown hname hml A Q hK hP hD hS hA hN hXS hRet ls hl
  have hl : lv_has ls 3 [(0, .ref k)] := hl
  have lo_c9 := k_lo c9
  have hi_c9 := k_hi c9
  have pre0 : WKR c0 c1 c2 c3 c4 c5 c6 c7 c8 c9 gx := pre0
  have b_1 : 0 ≤ c9.toInt ∧ c9.toInt ≤ 60 := WKR.n0 pre0
  have t_2 : c9.toInt = (gx 1).toInt := WKR.nt pre0
  refine lv_iconst (v := 0) hx hb dX8_fallen_0 (by decide) ?_
  refine lv_istore_n (lv' := [(1, .int 0), (0, .ref k)]) hx hb dX8_fallen_1 rfl hl (by decide) rfl ?_
  clear hl
  intro ls hl
  refine lv_iconst (v := 0) hx hb dX8_fallen_2 (by decide) ?_
  refine lv_istore_n (lv' := [(2, .int 0), (1, .int 0), (0, .ref k)]) hx hb dX8_fallen_3 rfl hl (by decide) rfl ?_
  clear hl
  intro ls hl
  have hloop_4 : ∀ (fu_ : Nat) (l4_1 : Int32) (l4_2 : Int32), 0 ≤ l4_2.toInt → 0 ≤ l4_2.toInt → l4_2.toInt ≤ c9.toInt → l4_1 = sumN (dnT gx) l4_2.toInt.toNat → (c9.toInt - l4_2.toInt).toNat < fu_ → ∀ (ls : Array Slot) (H : Heap) (locs : List Loc), lv_has ls 3 [(2, .int l4_2), (1, .int l4_1), (0, .ref k)] → va_P D vwCl [(k, .inr (8, [.ref k0, .ref k1, .ref k2, .ref k3, .ref k4, .ref k5, .ref k6, .ref k7, .ref k8, .int c9])), (k5, .inl (cI, 60, .inl c5))] H → va_D A [(k, .inr (8, [.ref k0, .ref k1, .ref k2, .ref k3, .ref k4, .ref k5, .ref k6, .ref k7, .ref k8, .int c9])), (k5, .inl (cI, 60, .inl c5))] → va_S A s.heap H locs → W p l e ({ frames := 0, cells := 0, slots := 0, locals := 0 } : Room) s m args below meth c H locs 0 0 Q (F0 m 4 ls []) := by
    intro fu_; induction fu_ with
    | zero => intro l4_1 l4_2 i4_0 i4_1 i4_2 i4_3 hm; exact absurd hm (by omega)
    | succ fu_ ih4 =>
        intro l4_1 l4_2 i4_0 i4_1 i4_2 i4_3 hm ls H locs hl hP hD hS
        have lo_l4_1 := k_lo l4_1
        have hi_l4_1 := k_hi l4_1
        have lo_l4_2 := k_lo l4_2
        have hi_l4_2 := k_hi l4_2
        have i4_3 : l4_1 = sumN (dnT gx) l4_2.toInt.toNat := i4_3
        refine lv_iload_n hx hb dX8_fallen_4 rfl (lv_at hl 0 rfl) ?_
        refine lv_aload_n hx hb dX8_fallen_5 rfl (lv_at hl 2 rfl) ?_
        refine va_get (D := D) (ci := 8) (v := .int c9) (C := RX8) (T := TX8) (N := 10) hx hb hT giX8 hown hK hP 0 rfl rfl 9 (by decide) (hT (Cond.fieldLink RX8 39 "DesertWire$Works" "number" "I") mw_49) (fun _ h9 => h9) rfl dX8_fallen_6 ?_
        refine b_icmp_ge hx hb rfl rfl (tgt := 33) dX8_fallen_9 (by decide) (fun c_3 => ?_) (fun c_3 => ?_)
        · refine lv_iload_n hx hb dX8_fallen_33 rfl (lv_at hl 1 rfl) ?_
          exact hRet () [0, 1] (by rw [show (gx 1).toInt.toNat = l4_2.toInt.toNat from by omega]; exact i4_3) hP hD (by decide) rfl hS rfl dX8_fallen_34
        · refine lv_iload_n hx hb dX8_fallen_12 rfl (lv_at hl 0 rfl) ?_
          refine lv_bipush (v := 60) hx hb dX8_fallen_13 (by decide) ?_
          refine b_icmp_ge hx hb rfl zl_60 (tgt := 33) dX8_fallen_15 (by decide) (fun c_4 => by exfalso; omega) (fun c_4 => ?_)
          refine lv_iload_n hx hb dX8_fallen_18 rfl (lv_at hl 1 rfl) ?_
          refine lv_aload_n hx hb dX8_fallen_19 rfl (lv_at hl 2 rfl) ?_
          refine va_get (D := D) (ci := 8) (v := .ref k5) (C := RX8) (T := TX8) (N := 10) hx hb hT giX8 hown hK hP 0 rfl rfl 5 (by decide) (hT (Cond.fieldLink RX8 27 "DesertWire$Works" "downs" "[I") mw_45) (fun _ h9 => h9) rfl dX8_fallen_20 ?_
          refine lv_iload_n hx hb dX8_fallen_23 rfl (lv_at hl 0 rfl) ?_
          refine k_iald (v := (c5 l4_2.toNatClampNeg)) hx hb hK hP 1 0 rfl rfl (k_in (by omega) (by omega)) rfl dX8_fallen_24 ?_
          refine lv_topi (fun v_5 ev_5 => ?_)
          have lo_v_5 := k_lo v_5
          have hi_v_5 := k_hi v_5
          have tv_5 : v_5.toInt = (c5 l4_2.toNatClampNeg).toInt := by rw [ev_5]
          have h_6 : v_5 = wW gx l4_2 4 := Eq.trans ev_5 (WKR.r4 pre0 (by omega) (by omega))
          have t_7 : v_5.toInt = (wW gx l4_2 4).toInt := by rw [h_6]
          refine lv_iadd hx hb dX8_fallen_25 ?_
          refine lv_topi (fun v_8 ev_8 => ?_)
          have lo_v_8 := k_lo v_8
          have hi_v_8 := k_hi v_8
          refine lv_istore_n (lv' := [(1, .int v_8), (2, .int l4_2), (0, .ref k)]) hx hb dX8_fallen_26 rfl hl (by decide) rfl ?_
          clear hl
          intro ls hl
          obtain ⟨v_9, ev_9⟩ : ∃ y : Int32, y = l4_2 + 1 := ⟨_, rfl⟩
          have tv_9 : v_9.toInt = l4_2.toInt + 1 := by rw [ev_9]; exact k_addv rfl zl_1 (by omega) (by omega)
          refine lv_iinc (v := v_9) (lv' := [(2, .int v_9), (1, .int v_8), (0, .ref k)]) hx hb dX8_fallen_27 hl (k := 1) rfl (by rw [ev_9]; rfl) (by decide) rfl ?_
          clear hl
          intro ls hl
          refine lv_goto (tgt := 4) hx hb dX8_fallen_30 (by decide) ?_
          exact ih4 v_8 v_9 (by first | omega | decide | assumption | rfl) (by first | omega | decide | assumption | rfl) (by first | omega | decide | assumption | rfl) (su_s i4_3 (by omega) (by omega) h_6 ev_8) (by omega) ls _ _ (lv_sub hl [0, 1, 2] rfl) (hP.sub [0, 1] rfl) (hD.sub [0, 1] (by decide) rfl) hS
  exact hloop_4 _ 0 0 (by first | omega | (simp only [zl_0]; first | done | omega) | decide | assumption | rfl) (by first | omega | (simp only [zl_0]; first | done | omega) | decide | assumption | rfl) (by first | omega | (simp only [zl_0]; first | done | omega) | decide | assumption | rfl) (by rw [zl_0]; rfl) (Nat.lt_succ_self _) ls _ _ (lv_sub hl [0, 1, 2] rfl) hP hD hS

set_option maxHeartbeats 4000000 in
set_option maxRecDepth 100000 in
theorem c_X8_stationsD (l : Launch) (D : va_G) (cI : ClassId) (aK aV : Nat → Nat) (k k0 k1 k2 k3 k4 k5 k6 k7 k8 : Nat) (sz : Nat) (c9 : Int32) (c0 : Nat → Int32) (c5 : Nat → Int32) (c1 : Nat → Int32) (c2 : Nat → Int32) (c3 : Nat → Int32) (c4 : Nat → Int32) (c6 : Nat → Int32) (c7 : Nat → Int32) (c8 : Nat → Int32) (gx : Nat → Int32) (pre0 : WKR c0 c1 c2 c3 c4 c5 c6 c7 c8 c9 gx) : Met l yX8_stations (gW yX8_stations cX8_stations 3 (some .int)) ({ frames := 0, cells := 0, slots := 0, locals := 0 } : Room) (kPreX D cI aK aV [.ref k] [(k, .inr (8, [.ref k0, .ref k1, .ref k2, .ref k3, .ref k4, .ref k5, .ref k6, .ref k7, .ref k8, .int c9])), (k0, .inl (cI, 60, .inl c0)), (k5, .inl (cI, 60, .inl c5))] sz) (va_Qi (fun (r : Int32) (u : Unit) => r = sumN (saT gx) (gx 1).toInt.toNat) (fun u t => kWd D cI (va_A [(k, .inr (8, [.ref k0, .ref k1, .ref k2, .ref k3, .ref k4, .ref k5, .ref k6, .ref k7, .ref k8, .int c9])), (k0, .inl (cI, 60, .inl c0)), (k5, .inl (cI, 60, .inl c5))] sz) [(k, .inr (8, [.ref k0, .ref k1, .ref k2, .ref k3, .ref k4, .ref k5, .ref k6, .ref k7, .ref k8, .int c9])), (k0, .inl (cI, 60, .inl c0)), (k5, .inl (cI, 60, .inl c5))] t) (va_A [(k, .inr (8, [.ref k0, .ref k1, .ref k2, .ref k3, .ref k4, .ref k5, .ref k6, .ref k7, .ref k8, .int c9])), (k0, .inl (cI, 60, .inl c0)), (k5, .inl (cI, 60, .inl c5))] sz)) 0 0 (va_A [(k, .inr (8, [.ref k0, .ref k1, .ref k2, .ref k3, .ref k4, .ref k5, .ref k6, .ref k7, .ref k8, .int c9])), (k0, .inl (cI, 60, .inl c0)), (k5, .inl (cI, 60, .inl c5))] sz) := by
  refine kMetIX (own := RX8) (by decide) rfl (Nat.le_of_ble_eq_true rfl) ?_
  intro p e s m args below meth c hx hb hT hown hname hml A Q hK hP hD hS hA hN hXS hRet ls hl
  have hl : lv_has ls 3 [(0, .ref k)] := hl
  have lo_c9 := k_lo c9
  have hi_c9 := k_hi c9
  have pre0 : WKR c0 c1 c2 c3 c4 c5 c6 c7 c8 c9 gx := pre0
  have b_1 : 0 ≤ c9.toInt ∧ c9.toInt ≤ 60 := WKR.n0 pre0
  have t_2 : c9.toInt = (gx 1).toInt := WKR.nt pre0
  refine lv_iconst (v := 0) hx hb dX8_stations_0 (by decide) ?_
  refine lv_istore_n (lv' := [(1, .int 0), (0, .ref k)]) hx hb dX8_stations_1 rfl hl (by decide) rfl ?_
  clear hl
  intro ls hl
  refine lv_iconst (v := 0) hx hb dX8_stations_2 (by decide) ?_
  refine lv_istore_n (lv' := [(2, .int 0), (1, .int 0), (0, .ref k)]) hx hb dX8_stations_3 rfl hl (by decide) rfl ?_
  clear hl
  intro ls hl
  have hloop_4 : ∀ (fu_ : Nat) (l4_1 : Int32) (l4_2 : Int32), 0 ≤ l4_2.toInt → 0 ≤ l4_2.toInt → l4_2.toInt ≤ c9.toInt → l4_1 = sumN (saT gx) l4_2.toInt.toNat → (c9.toInt - l4_2.toInt).toNat < fu_ → ∀ (ls : Array Slot) (H : Heap) (locs : List Loc), lv_has ls 3 [(2, .int l4_2), (1, .int l4_1), (0, .ref k)] → va_P D vwCl [(k, .inr (8, [.ref k0, .ref k1, .ref k2, .ref k3, .ref k4, .ref k5, .ref k6, .ref k7, .ref k8, .int c9])), (k0, .inl (cI, 60, .inl c0)), (k5, .inl (cI, 60, .inl c5))] H → va_D A [(k, .inr (8, [.ref k0, .ref k1, .ref k2, .ref k3, .ref k4, .ref k5, .ref k6, .ref k7, .ref k8, .int c9])), (k0, .inl (cI, 60, .inl c0)), (k5, .inl (cI, 60, .inl c5))] → va_S A s.heap H locs → W p l e ({ frames := 0, cells := 0, slots := 0, locals := 0 } : Room) s m args below meth c H locs 0 0 Q (F0 m 4 ls []) := by
    intro fu_; induction fu_ with
    | zero => intro l4_1 l4_2 i4_0 i4_1 i4_2 i4_3 hm; exact absurd hm (by omega)
    | succ fu_ ih4 =>
        intro l4_1 l4_2 i4_0 i4_1 i4_2 i4_3 hm ls H locs hl hP hD hS
        have lo_l4_1 := k_lo l4_1
        have hi_l4_1 := k_hi l4_1
        have lo_l4_2 := k_lo l4_2
        have hi_l4_2 := k_hi l4_2
        have i4_3 : l4_1 = sumN (saT gx) l4_2.toInt.toNat := i4_3
        refine lv_iload_n hx hb dX8_stations_4 rfl (lv_at hl 0 rfl) ?_
        refine lv_aload_n hx hb dX8_stations_5 rfl (lv_at hl 2 rfl) ?_
        refine va_get (D := D) (ci := 8) (v := .int c9) (C := RX8) (T := TX8) (N := 10) hx hb hT giX8 hown hK hP 0 rfl rfl 9 (by decide) (hT (Cond.fieldLink RX8 39 "DesertWire$Works" "number" "I") mw_49) (fun _ h9 => h9) rfl dX8_stations_6 ?_
        refine b_icmp_ge hx hb rfl rfl (tgt := 46) dX8_stations_9 (by decide) (fun c_3 => ?_) (fun c_3 => ?_)
        · refine lv_iload_n hx hb dX8_stations_46 rfl (lv_at hl 1 rfl) ?_
          exact hRet () [0, 1, 2] (by rw [show (gx 1).toInt.toNat = l4_2.toInt.toNat from by omega]; exact i4_3) hP hD (by decide) rfl hS rfl dX8_stations_47
        · refine lv_iload_n hx hb dX8_stations_12 rfl (lv_at hl 0 rfl) ?_
          refine lv_bipush (v := 60) hx hb dX8_stations_13 (by decide) ?_
          refine b_icmp_ge hx hb rfl zl_60 (tgt := 46) dX8_stations_15 (by decide) (fun c_4 => by exfalso; omega) (fun c_4 => ?_)
          refine lv_aload_n hx hb dX8_stations_18 rfl (lv_at hl 2 rfl) ?_
          refine va_get (D := D) (ci := 8) (v := .ref k0) (C := RX8) (T := TX8) (N := 10) hx hb hT giX8 hown hK hP 0 rfl rfl 0 (by decide) (hT (Cond.fieldLink RX8 9 "DesertWire$Works" "kinds" "[I") mw_40) (fun _ h9 => h9) rfl dX8_stations_19 ?_
          refine lv_iload_n hx hb dX8_stations_22 rfl (lv_at hl 0 rfl) ?_
          refine k_iald (v := (c0 l4_2.toNatClampNeg)) hx hb hK hP 1 0 rfl rfl (k_in (by omega) (by omega)) rfl dX8_stations_23 ?_
          refine lv_topi (fun v_5 ev_5 => ?_)
          have lo_v_5 := k_lo v_5
          have hi_v_5 := k_hi v_5
          have tv_5 : v_5.toInt = (c0 l4_2.toNatClampNeg).toInt := by rw [ev_5]
          have h_6 : v_5 = wW gx l4_2 0 := Eq.trans ev_5 (WKR.r0 pre0 (by omega) (by omega))
          have t_7 : v_5.toInt = (wW gx l4_2 0).toInt := by rw [h_6]
          refine lv_iconst (v := 3) hx hb dX8_stations_24 (by decide) ?_
          refine b_icmp_ne hx hb rfl zl_3 (tgt := 40) dX8_stations_25 (by decide) (fun c_8 => ?_) (fun c_8 => ?_)
          · obtain ⟨v_9, ev_9⟩ : ∃ y : Int32, y = l4_2 + 1 := ⟨_, rfl⟩
            have tv_9 : v_9.toInt = l4_2.toInt + 1 := by rw [ev_9]; exact k_addv rfl zl_1 (by omega) (by omega)
            refine lv_iinc (v := v_9) (lv' := [(2, .int v_9), (1, .int l4_1), (0, .ref k)]) hx hb dX8_stations_40 hl (k := 0) rfl (by rw [ev_9]; rfl) (by decide) rfl ?_
            clear hl
            intro ls hl
            refine lv_goto (tgt := 4) hx hb dX8_stations_43 (by decide) ?_
            exact ih4 l4_1 v_9 (by first | omega | decide | assumption | rfl) (by first | omega | decide | assumption | rfl) (by first | omega | decide | assumption | rfl) (su_n i4_3 (by omega) (by omega) (sa_n (fun z1 z2 => by omega))) (by omega) ls _ _ (lv_sub hl [0, 1, 2] rfl) (hP.sub [0, 1, 2] rfl) (hD.sub [0, 1, 2] (by decide) rfl) hS
          · refine lv_aload_n hx hb dX8_stations_28 rfl (lv_at hl 2 rfl) ?_
            refine va_get (D := D) (ci := 8) (v := .ref k5) (C := RX8) (T := TX8) (N := 10) hx hb hT giX8 hown hK hP 0 rfl rfl 5 (by decide) (hT (Cond.fieldLink RX8 27 "DesertWire$Works" "downs" "[I") mw_45) (fun _ h9 => h9) rfl dX8_stations_29 ?_
            refine lv_iload_n hx hb dX8_stations_32 rfl (lv_at hl 0 rfl) ?_
            refine k_iald (v := (c5 l4_2.toNatClampNeg)) hx hb hK hP 2 0 rfl rfl (k_in (by omega) (by omega)) rfl dX8_stations_33 ?_
            refine lv_topi (fun v_10 ev_10 => ?_)
            have lo_v_10 := k_lo v_10
            have hi_v_10 := k_hi v_10
            have tv_10 : v_10.toInt = (c5 l4_2.toNatClampNeg).toInt := by rw [ev_10]
            have h_11 : v_10 = wW gx l4_2 4 := Eq.trans ev_10 (WKR.r4 pre0 (by omega) (by omega))
            have t_12 : v_10.toInt = (wW gx l4_2 4).toInt := by rw [h_11]
            refine b_if_ne hx hb rfl (tgt := 40) dX8_stations_34 (by decide) (fun c_13 => ?_) (fun c_13 => ?_)
            · obtain ⟨v_14, ev_14⟩ : ∃ y : Int32, y = l4_2 + 1 := ⟨_, rfl⟩
              have tv_14 : v_14.toInt = l4_2.toInt + 1 := by rw [ev_14]; exact k_addv rfl zl_1 (by omega) (by omega)
              refine lv_iinc (v := v_14) (lv' := [(2, .int v_14), (1, .int l4_1), (0, .ref k)]) hx hb dX8_stations_40 hl (k := 0) rfl (by rw [ev_14]; rfl) (by decide) rfl ?_
              clear hl
              intro ls hl
              refine lv_goto (tgt := 4) hx hb dX8_stations_43 (by decide) ?_
              exact ih4 l4_1 v_14 (by first | omega | decide | assumption | rfl) (by first | omega | decide | assumption | rfl) (by first | omega | decide | assumption | rfl) (su_n i4_3 (by omega) (by omega) (sa_n (fun z1 z2 => by omega))) (by omega) ls _ _ (lv_sub hl [0, 1, 2] rfl) (hP.sub [0, 1, 2] rfl) (hD.sub [0, 1, 2] (by decide) rfl) hS
            · obtain ⟨v_15, ev_15⟩ : ∃ y : Int32, y = l4_1 + 1 := ⟨_, rfl⟩
              have lo_v_15 := k_lo v_15
              have hi_v_15 := k_hi v_15
              refine lv_iinc (v := v_15) (lv' := [(1, .int v_15), (2, .int l4_2), (0, .ref k)]) hx hb dX8_stations_37 hl (k := 1) rfl (by rw [ev_15]; rfl) (by decide) rfl ?_
              clear hl
              intro ls hl
              obtain ⟨v_16, ev_16⟩ : ∃ y : Int32, y = l4_2 + 1 := ⟨_, rfl⟩
              have tv_16 : v_16.toInt = l4_2.toInt + 1 := by rw [ev_16]; exact k_addv rfl zl_1 (by omega) (by omega)
              refine lv_iinc (v := v_16) (lv' := [(2, .int v_16), (1, .int v_15), (0, .ref k)]) hx hb dX8_stations_40 hl (k := 1) rfl (by rw [ev_16]; rfl) (by decide) rfl ?_
              clear hl
              intro ls hl
              refine lv_goto (tgt := 4) hx hb dX8_stations_43 (by decide) ?_
              exact ih4 v_15 v_16 (by first | omega | decide | assumption | rfl) (by first | omega | decide | assumption | rfl) (by first | omega | decide | assumption | rfl) (su_s i4_3 (by omega) (by omega) (sa_y (f := gx) (w := l4_2) (by omega) (by omega)) ev_15) (by omega) ls _ _ (lv_sub hl [0, 1, 2] rfl) (hP.sub [0, 1, 2] rfl) (hD.sub [0, 1, 2] (by decide) rfl) hS
  exact hloop_4 _ 0 0 (by first | omega | (simp only [zl_0]; first | done | omega) | decide | assumption | rfl) (by first | omega | (simp only [zl_0]; first | done | omega) | decide | assumption | rfl) (by first | omega | (simp only [zl_0]; first | done | omega) | decide | assumption | rfl) (by rw [zl_0]; rfl) (Nat.lt_succ_self _) ls _ _ (lv_sub hl [0, 1, 2] rfl) hP hD hS
