/-! what a SHEET tells at a place -/
def kNum (len num : Nat → Int32) (h i : Int32) : Int32 := if 0 ≤ h.toInt ∧ h.toInt ≤ 3 ∧ 0 ≤ i.toInt ∧ i.toInt ≤ 35 ∧ i.toInt < (len h.toNatClampNeg).toInt then num (36 * h.toInt.toNat + i.toInt.toNat) else 0
theorem kNum_in {len num : Nat → Int32} {h i v x : Int32} (h0 : 0 ≤ h.toInt) (h1 : h.toInt ≤ 3) (h2 : 0 ≤ i.toInt) (h3 : i.toInt ≤ 35) (h4 : i.toInt < (len h.toNatClampNeg).toInt) (e : v = num x.toNatClampNeg) (t : x.toInt = 36 * h.toInt + i.toInt) : v = kNum len num h i := by
  unfold kNum
  rw [if_pos ⟨h0, h1, h2, h3, h4⟩, e, k_clamp, show x.toInt.toNat = 36 * h.toInt.toNat + i.toInt.toNat from by omega]
theorem kNum_out {len num : Nat → Int32} {h i : Int32} (hz : h.toInt < 0 ∨ 3 < h.toInt ∨ i.toInt < 0 ∨ 35 < i.toInt ∨ (len h.toNatClampNeg).toInt ≤ i.toInt) : 0 = kNum len num h i := by
  unfold kNum
  rw [if_neg (by omega)]
theorem kJ3_zero {len num : Nat → Int32} {h z : Int32} (hz : z.toInt ≤ 0) : ∀ j : Int32, j.toInt % 3 = 2 → j.toInt < z.toInt → (kNum len num h j).toInt ≤ 3 := by
  intro j hj hlt
  rw [← kNum_out (by omega)]; decide
theorem kJ3_step {len num : Nat → Int32} {h i i1 v r : Int32} (hi : ∀ j : Int32, j.toInt % 3 = 2 → j.toInt < i.toInt → (kNum len num h j).toInt ≤ 3) (h3 : i.toInt % 3 = 0) (h1 : i1.toInt = i.toInt + 3) (hv : v.toInt = i.toInt + 2) (hr : r = kNum len num h v) (hr3 : r.toInt ≤ 3) : ∀ j : Int32, j.toInt % 3 = 2 → j.toInt < i1.toInt → (kNum len num h j).toInt ≤ 3 := by
  intro j hj hlt
  by_cases hq : j.toInt < i.toInt
  · exact hi j hj hq
  · have e : j = v := k_inj (by omega)
    rw [e, ← hr]; exact hr3
theorem kJ3_end {len num : Nat → Int32} {h i : Int32} (hi : ∀ j : Int32, j.toInt % 3 = 2 → j.toInt < i.toInt → (kNum len num h j).toInt ≤ 3) (he : (len h.toNatClampNeg).toInt ≤ i.toInt) : ∀ j : Int32, j.toInt % 3 = 2 → (kNum len num h j).toInt ≤ 3 := by
  intro j hj
  by_cases hq : j.toInt < i.toInt
  · exact hi j hj hq
  · rw [← kNum_out (by omega)]; decide
