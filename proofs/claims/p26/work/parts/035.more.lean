theorem k_fillc {q f : Nat → Int32} {i i1 y : Int32} (h : ∀ j : Nat, j < i.toInt.toNat → q j = f j) (h0 : 0 ≤ i.toInt) (hi : i1.toInt = i.toInt + 1) (hy : y = f i.toNatClampNeg) : ∀ j : Nat, j < i1.toInt.toNat → upd q i.toNatClampNeg y j = f j := by
  intro j hj
  unfold upd
  by_cases hq : j = i.toNatClampNeg
  · rw [if_pos hq, hy, hq]
  · rw [if_neg hq]
    rw [k_clamp] at hq
    exact h j (by omega)
theorem k_mx {v : Int32} (h : v.toInt < 0) : (0 : Int32) = if (0 : Int32) < v then v else 0 := by
  rw [if_neg]
  intro z
  have := Int32.lt_iff_toInt_lt.mp z
  have z0 : (0 : Int32).toInt = 0 := by decide
  omega
theorem k_mx0 {v : Int32} (h : 0 ≤ v.toInt) : v = if (0 : Int32) < v then v else 0 := by
  have z0 : (0 : Int32).toInt = 0 := by decide
  by_cases hv : (0 : Int32) < v
  · rw [if_pos hv]
  · rw [if_neg hv]
    have h2 : ¬ (0 : Int32).toInt < v.toInt := fun z => hv (Int32.lt_iff_toInt_lt.mpr z)
    exact k_inj (by omega)
theorem k_max_spec (a b : Int) : a ≤ k_max a b ∧ b ≤ k_max a b ∧ (k_max a b = a ∨ k_max a b = b) := by
  unfold k_max; split <;> omega
theorem k_min_spec (a b : Int) : k_min a b ≤ a ∧ k_min a b ≤ b ∧ (k_min a b = a ∨ k_min a b = b) := by
  unfold k_min; split <;> omega
theorem k_arr {args : Array Value} {s : State} (h : (Cond.arrayClass .int).before args s = true) : ∃ cI : ClassId, ∀ (D : va_G), (∀ (c : Nat) (q : vw_C), vwCl[c]? = some q → u_Kn s q.1 q.2.1 q.2.2 (D.1 c) (D.2 c)) → va_K D vwCl [(cI, .int)] s := by
  obtain ⟨cA, kA, comp, hfind, hk, hkind⟩ := Cond.arrayClass_spec h
  refine ⟨cA, fun D hD => ⟨hD, fun k q hq => ?_⟩⟩
  match k, hq with
  | 0, hq =>
    cases hq
    exact ⟨fun n z => ⟨fun k h => (by cases h), kA, hk, comp, hkind⟩, hfind⟩
  | k + 1, hq => simp at hq
theorem k_fillS {q : Nat → Int32} {i i1 x : Int32} (h : ∀ j : Nat, q j = if j = 6 then 40 else if 7 ≤ j ∧ j < 7 + i.toInt.toNat then 2 else 0) (h0 : 0 ≤ i.toInt) (hi : i1.toInt = i.toInt + 1) (hx : x.toInt = 7 + i.toInt) : ∀ j : Nat, upd q x.toNatClampNeg 2 j = if j = 6 then 40 else if 7 ≤ j ∧ j < 7 + i1.toInt.toNat then 2 else 0 := by
  intro j
  unfold upd
  rw [k_clamp]
  by_cases hq : j = x.toInt.toNat
  · rw [if_pos hq, if_neg (by omega), if_pos (by omega)]
  · rw [if_neg hq, h j]
    by_cases h6 : j = 6
    · rw [if_pos h6, if_pos h6]
    · rw [if_neg h6, if_neg h6]
      by_cases h7 : 7 ≤ j ∧ j < 7 + i.toInt.toNat
      · rw [if_pos h7, if_pos (by omega)]
      · rw [if_neg h7, if_neg (by omega)]
