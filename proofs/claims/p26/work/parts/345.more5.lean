theorem kJ3_zero {len num : Nat → Int32} {h z : Int32} (hz : z.toInt ≤ 0) : ∀ j : Int32, j.toInt % 3 = 2 → j.toInt < z.toInt → (kNum len num h j).toInt ≤ 3 := by
  intro j hj hlt
  rw [← kNum_out (by omega)]; decide
theorem kJ3_step {len num : Nat → Int32} {h i i1 v r : Int32} (hi : ∀ j : Int32, j.toInt % 3 = 2 → j.toInt < i.toInt → (kNum len num h j).toInt ≤ 3) (h3 : i.toInt % 3 = 0) (h1 : i1.toInt = i.toInt + 3) (hv : v.toInt = i.toInt + 2) (hr : r = kNum len num h v) (hr3 : r.toInt ≤ 3) : ∀ j : Int32, j.toInt % 3 = 2 → j.toInt < i1.toInt → (kNum len num h j).toInt ≤ 3 := by
  intro j hj hlt
  by_cases hq : j.toInt < i.toInt
  · exact hi j hj hq
  · have e : j = v := k_inj (by omega)
    rw [e, ← hr]; exact hr3
theorem kJ3_end {len num : Nat → Int32} {h i : Int32} (hi : ∀ j : Int32, j.toInt % 3 = 2 → j.toInt < i.toInt → (kNum len num h j).toInt ≤ 3) (he : (len h.toNatClampNeg).toInt ≤ i.toInt) : ∀ j : Int32, j.toInt % 3 = 2 → (kNum len num h j).toInt ≤ 3 := by
  intro j hj
  by_cases hq : j.toInt < i.toInt
  · exact hi j hj hq
  · rw [← kNum_out (by omega)]; decide
