/- what count() adds up -/
def dnT (f : Nat → Int32) (n : Nat) : Int32 := wN f n 4
def loT (f : Nat → Int32) (n : Nat) : Int32 := if (pN f n 8).toInt = 2 then 1 else 0
def saT (f : Nat → Int32) (n : Nat) : Int32 := if (wN f n 4).toInt = 0 ∧ (wN f n 0).toInt = 3 then 1 else 0
def meT (f : Nat → Int32) (n : Nat) : Int32 := pN f n 2
def foT (f : Nat → Int32) (n : Nat) : Int32 := if (wN f n 4).toInt = 0 ∧ (wN f n 0).toInt = 5 then wN f n 5 else 0
theorem su_s {t : Nat → Int32} {i i1 a b x : Int32} (h : a = sumN t i.toInt.toNat) (h0 : 0 ≤ i.toInt) (h1 : i1.toInt = i.toInt + 1) (hx : x = t i.toInt.toNat) (e : b = a + x) : b = sumN t i1.toInt.toNat := by
  rw [show i1.toInt.toNat = i.toInt.toNat + 1 from by omega, e, h, hx]; rfl
theorem su_n {t : Nat → Int32} {i i1 a : Int32} (h : a = sumN t i.toInt.toNat) (h0 : 0 ≤ i.toInt) (h1 : i1.toInt = i.toInt + 1) (hx : t i.toInt.toNat = 0) : a = sumN t i1.toInt.toNat := by
  rw [show i1.toInt.toNat = i.toInt.toNat + 1 from by omega]
  show a = sumN t i.toInt.toNat + t i.toInt.toNat
  rw [hx, Int32.add_zero]; exact h
theorem lo_y {f : Nat → Int32} {p : Int32} (h : (pW f p 8).toInt = 2) : (1 : Int32) = loT f p.toInt.toNat := (if_pos h).symm
theorem lo_n {f : Nat → Int32} {p : Int32} (h : (pW f p 8).toInt ≠ 2) : loT f p.toInt.toNat = 0 := if_neg h
theorem sa_y {f : Nat → Int32} {w : Int32} (h : (wW f w 4).toInt = 0) (h2 : (wW f w 0).toInt = 3) : (1 : Int32) = saT f w.toInt.toNat := (if_pos ⟨h, h2⟩).symm
theorem sa_n {f : Nat → Int32} {w : Int32} (h : (wW f w 4).toInt = 0 → (wW f w 0).toInt = 3 → False) : saT f w.toInt.toNat = 0 := if_neg (fun z => h z.1 z.2)
theorem fo_y {f : Nat → Int32} {w x : Int32} (e : x = wW f w 5) (h : (wW f w 4).toInt = 0) (h2 : (wW f w 0).toInt = 5) : x = foT f w.toInt.toNat := e.trans (if_pos (show (wN f w.toInt.toNat 4).toInt = 0 ∧ (wN f w.toInt.toNat 0).toInt = 5 from ⟨h, h2⟩)).symm
theorem fo_n {f : Nat → Int32} {w : Int32} (h : (wW f w 4).toInt = 0 → (wW f w 0).toInt = 5 → False) : foT f w.toInt.toNat = 0 := if_neg (fun z => h z.1 z.2)
theorem mU_35 {k o : Int} (ho : o = 3 ∨ o = 5) : mU k o = if k = o then 1 else 0 := by
  unfold mU
  by_cases h : k = o
  · rw [if_pos (Or.inl h), if_pos h]
  · rw [if_neg (by omega), if_neg h]
theorem st_1 {f : Nat → Int32} {w : Int32} {o : Int} (ho : o = 3 ∨ o = 5) (h : stF f w o = 1) : (wW f w 4).toInt = 0 ∧ (wW f w 0).toInt = o := by
  unfold stF at h; rw [mU_35 ho] at h
  by_cases c : (wW f w 4).toInt = 0
  · rw [if_pos c] at h
    by_cases d : (wW f w 0).toInt = o
    · exact ⟨c, d⟩
    · rw [if_neg d] at h; exact absurd h (by decide)
  · rw [if_neg c] at h; exact absurd h (by decide)
theorem st_0 {f : Nat → Int32} {w : Int32} {o : Int} (ho : o = 3 ∨ o = 5) (h : stF f w o = 0) : (wW f w 4).toInt = 0 → (wW f w 0).toInt = o → False := by
  intro c d
  unfold stF at h; rw [mU_35 ho, if_pos c, if_pos d] at h; exact absurd h (by decide)
def cntR (f : Nat → Int32) (k ra ta tr : Int32) : Int32 := if k.toInt = 0 then f 1 else if k.toInt = 1 then sumN (dnT f) (f 1).toInt.toNat else if k.toInt = 2 then f 2 else if k.toInt = 3 then sumN (loT f) (f 2).toInt.toNat else if k.toInt = 4 then ra else if k.toInt = 5 then f 0 else if k.toInt = 6 then ta else if k.toInt = 7 then tr else if k.toInt = 8 then f 5 else if k.toInt = 9 then wmN f 40 else if k.toInt = 10 then sumN (saT f) (f 1).toInt.toNat else if k.toInt = 11 then sumN (meT f) (f 2).toInt.toNat else if k.toInt = 12 then sumN (foT f) (f 1).toInt.toNat else (-1000001)
