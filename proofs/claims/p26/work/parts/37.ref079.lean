section TXV
variable {g : Int → Int32} {u A B C : Int32}
/-- the same of numbers that are alike -/
theorem TXQ.cv {k : Nat} {o o1 : Int} {b0 b1 v : Int32} {p p1 : Int} {r : Int32} {q q1 : Int} {b d : Int32} (h : TXQ g u A B C k o b0 v p r q b) (ho : o = o1) (hp : p = p1) (hq : q = q1) (h0 : b0.toInt = 0 ↔ b1.toInt = 0) (h1 : b.toInt = 0 ↔ d.toInt = 0) : TXQ g u A B C k o1 b1 v p1 r q1 d := by
  subst ho; subst hp; subst hq
  rcases h with ⟨z0, z1, z2⟩ | ⟨z0, ⟨z1, z2⟩ | ⟨z1, z2⟩⟩
  · exact Or.inl ⟨fun y => z0 (h0.mpr y), z1, fun y => z2 (h1.mpr y)⟩
  · exact Or.inr ⟨h0.mp z0, Or.inl ⟨h1.mp z1, z2⟩⟩
  · exact Or.inr ⟨h0.mp z0, Or.inr ⟨fun y => z1 (h1.mpr y), z2⟩⟩
theorem TXQ.badE {k : Nat} {o : Int} {b0 v r : Int32} {p q : Int} {b : Int32} (h : b0.toInt ≠ 0) (hb : b.toInt ≠ 0) (hq : q = p) : TXQ g u A B C k o b0 v p r q b := Or.inl ⟨h, hq, hb⟩
theorem TXQ.stopE {k : Nat} {o : Int} {b0 b v : Int32} {p q : Int} (hk : ∀ f : Nat, tx g u A B C (f + 1) k o v p = (v, p, false)) (hq : q = p) (hb : b0.toInt = 0 ↔ b.toInt = 0) : TXQ g u A B C k o b0 v p v q b :=
  (TXQ.stop hk).cv rfl rfl hq.symm Iff.rfl hb
end TXV
