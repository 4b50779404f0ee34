def wiR (f : Nat → Int32) (w k : Int32) : Int32 := if 0 ≤ w.toInt ∧ w.toInt < (f 1).toInt ∧ 0 ≤ k.toInt ∧ k.toInt ≤ 7 then (if k.toInt = 5 then eoN f w.toInt.toNat else if k.toInt = 6 then (if (wW f w 0).toInt = 5 then wW f w 5 else (-1)) else if k.toInt = 7 then 0 else f (99 + 6 * w.toInt.toNat + k.toInt.toNat)) else (-1000001)
theorem RRL.wi {tp tx ln us fr : Nat → Int32} {n k : Int32} {x : Nat → Int32} {d a w r s A B : Int32} (h : RRL tp tx ln us fr n k x) (hk0 : 0 ≤ k.toInt) (hk : k.toInt ≤ 12) (hd : d = x 0) {C : Prop} {z : Int32} (p : (w.toInt = 7 ∧ (0 ≤ a.toInt ∧ a.toInt < (x 1).toInt) ∧ C ∧ PRV us fr (fun j => tG tx (50 * j) (ln j)) ln k.toInt.toNat d 2 A B 0 r) ∨ (¬ (w.toInt = 7 ∧ (0 ≤ a.toInt ∧ a.toInt < (x 1).toInt) ∧ C) ∧ r = z))
    (q : (w.toInt = 7 ∧ (0 ≤ a.toInt ∧ a.toInt < (x 1).toInt) ∧ C ∧ PRV (fun j => x (495 + 53 * j)) (fun j => x (496 + 53 * j)) (fun j => tG x (498 + 53 * j) (x (497 + 53 * j))) (fun j => x (497 + 53 * j)) (x 3).toInt.toNat (x 0) 2 A B 0 s) ∨ (¬ (w.toInt = 7 ∧ (0 ≤ a.toInt ∧ a.toInt < (x 1).toInt) ∧ C) ∧ s = z)) : r = s := by
  rcases p with ⟨p1, p2, p3, p4⟩ | ⟨p1, p2⟩
  · rcases q with ⟨q1, q2, q3, q4⟩ | ⟨q1, q2⟩
    · rw [hd] at p4; exact h.prv hk0 hk p4 q4
    · exact absurd ⟨p1, p2, p3⟩ q1
  · rcases q with ⟨q1, q2, q3, q4⟩ | ⟨q1, q2⟩
    · exact absurd ⟨q1, q2, q3⟩ p1
    · rw [p2, q2]
