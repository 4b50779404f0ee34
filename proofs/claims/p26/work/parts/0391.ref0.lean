/-! the reference's row: what its places hold -/
def sLo (i : Nat) : Int :=
  if i < 6 then 0 else if i < 99 then (if 19 ≤ i ∧ i ≤ 58 then 0 else -2147483648)
  else if i < 459 then (if (i - 99) % 6 = 2 then -2147483648 else 0)
  else if i < 495 then (if (i - 459) % 9 = 0 ∨ (i - 459) % 9 = 2 ∨ (i - 459) % 9 = 3 ∨ (i - 459) % 9 = 5 then 0 else -2147483648)
  else if i < 1131 then (if (i - 495) % 53 = 2 then 0 else -2147483648)
  else -2147483648
def sHi (i : Nat) : Int :=
  if i < 6 then (if i = 0 then 2000 else if i = 1 then 60 else if i = 2 then 4 else if i = 3 then 12 else if i = 4 then 50 else 20)
  else if i < 99 then (if 19 ≤ i ∧ i ≤ 58 then 2 else 2147483647)
  else if i < 459 then (if (i - 99) % 6 = 0 then 5 else if (i - 99) % 6 = 1 then 39 else if (i - 99) % 6 = 3 then 2001 else if (i - 99) % 6 = 4 then 1 else if (i - 99) % 6 = 5 then 9999 else 2147483647)
  else if i < 495 then (if (i - 459) % 9 = 0 then 39 else if (i - 459) % 9 = 2 then 50 else if (i - 459) % 9 = 3 then 50 else if (i - 459) % 9 = 5 then 9999 else 2147483647)
  else if i < 1131 then (if (i - 495) % 53 = 2 then 50 else 2147483647)
  else 2147483647
def SB (f : Nat → Int32) : Prop := ∀ i : Nat, i < 1201 → sLo i ≤ (f i).toInt ∧ (f i).toInt ≤ sHi i
/-- PARTIES but q that aren't LOST have MEN -/
def MX (f : Nat → Int32) (q : Int) : Prop := ∀ j : Nat, j < 4 → (j : Int) < (f 2).toInt → (j : Int) ≠ q → (f (459 + 9 * j + 8)).toInt = 2 ∨ 1 ≤ (f (459 + 9 * j + 2)).toInt
def SIX (f : Nat → Int32) (q : Int) : Prop := SB f ∧ MX f q
def wW (f : Nat → Int32) (w : Int32) (k : Nat) : Int32 := f (99 + 6 * w.toInt.toNat + k)
def pW (f : Nat → Int32) (p : Int32) (k : Nat) : Int32 := f (459 + 9 * p.toInt.toNat + k)
theorem wW_in {f : Nat → Int32} {w v x : Int32} {k : Nat} (e : v = f x.toNatClampNeg) (h0 : 0 ≤ w.toInt) (t : x.toInt = 99 + 6 * w.toInt + k) : v = wW f w k := by
  rw [e, k_clamp]; unfold wW; rw [show x.toInt.toNat = 99 + 6 * w.toInt.toNat + k from by omega]
theorem pW_in {f : Nat → Int32} {w v x : Int32} {k : Nat} (e : v = f x.toNatClampNeg) (h0 : 0 ≤ w.toInt) (t : x.toInt = 459 + 9 * w.toInt + k) : v = pW f w k := by
  rw [e, k_clamp]; unfold pW; rw [show x.toInt.toNat = 459 + 9 * w.toInt.toNat + k from by omega]
theorem SB.rd {f : Nat → Int32} (h : SB f) {i : Nat} (hi : i < 1201) {a b : Int} (ha : a ≤ sLo i) (hb : sHi i ≤ b) : a ≤ (f i).toInt ∧ (f i).toInt ≤ b :=
  ⟨Int.le_trans ha (h i hi).1, Int.le_trans (h i hi).2 hb⟩
theorem SB.n0 {f : Nat → Int32} (h : SB f) : 0 ≤ (f 0).toInt ∧ (f 0).toInt ≤ 2000 := h.rd (by omega) (by decide) (by decide)
theorem SB.n1 {f : Nat → Int32} (h : SB f) : 0 ≤ (f 1).toInt ∧ (f 1).toInt ≤ 60 := h.rd (by omega) (by decide) (by decide)
theorem SB.n2 {f : Nat → Int32} (h : SB f) : 0 ≤ (f 2).toInt ∧ (f 2).toInt ≤ 4 := h.rd (by omega) (by decide) (by decide)
theorem SB.n3 {f : Nat → Int32} (h : SB f) : 0 ≤ (f 3).toInt ∧ (f 3).toInt ≤ 12 := h.rd (by omega) (by decide) (by decide)
theorem SB.n4 {f : Nat → Int32} (h : SB f) : 0 ≤ (f 4).toInt ∧ (f 4).toInt ≤ 50 := h.rd (by omega) (by decide) (by decide)
theorem SB.n5 {f : Nat → Int32} (h : SB f) : 0 ≤ (f 5).toInt ∧ (f 5).toInt ≤ 20 := h.rd (by omega) (by decide) (by decide)
theorem sL_w {w k : Nat} (hw : w < 60) (hk : k < 6) : sLo (99 + 6 * w + k) = if k = 2 then -2147483648 else 0 := by
  unfold sLo
  rw [if_neg (by omega), if_neg (by omega), if_pos (by omega), show (99 + 6 * w + k - 99) % 6 = k from by omega]
theorem sH_w {w k : Nat} (hw : w < 60) (hk : k < 6) : sHi (99 + 6 * w + k) = if k = 0 then 5 else if k = 1 then 39 else if k = 3 then 2001 else if k = 4 then 1 else if k = 5 then 9999 else 2147483647 := by
  unfold sHi
  rw [if_neg (by omega), if_neg (by omega), if_pos (by omega), show (99 + 6 * w + k - 99) % 6 = k from by omega]
theorem sL_p {w k : Nat} (hw : w < 4) (hk : k < 9) : sLo (459 + 9 * w + k) = if k = 0 ∨ k = 2 ∨ k = 3 ∨ k = 5 then 0 else -2147483648 := by
  unfold sLo
  rw [if_neg (by omega), if_neg (by omega), if_neg (by omega), if_pos (by omega), show (459 + 9 * w + k - 459) % 9 = k from by omega]
theorem sH_p {w k : Nat} (hw : w < 4) (hk : k < 9) : sHi (459 + 9 * w + k) = if k = 0 then 39 else if k = 2 then 50 else if k = 3 then 50 else if k = 5 then 9999 else 2147483647 := by
  unfold sHi
  rw [if_neg (by omega), if_neg (by omega), if_neg (by omega), if_pos (by omega), show (459 + 9 * w + k - 459) % 9 = k from by omega]
theorem SB.w0 {f : Nat → Int32} (h : SB f) {w : Int32} (h0 : 0 ≤ w.toInt) (h1 : w.toInt ≤ 59) : 0 ≤ (wW f w 0).toInt ∧ (wW f w 0).toInt ≤ 5 :=
  h.rd (by omega) (by rw [sL_w (by omega) (by omega)]; decide) (by rw [sH_w (by omega) (by omega)]; decide)
theorem SB.w1 {f : Nat → Int32} (h : SB f) {w : Int32} (h0 : 0 ≤ w.toInt) (h1 : w.toInt ≤ 59) : 0 ≤ (wW f w 1).toInt ∧ (wW f w 1).toInt ≤ 39 :=
  h.rd (by omega) (by rw [sL_w (by omega) (by omega)]; decide) (by rw [sH_w (by omega) (by omega)]; decide)
theorem SB.w3 {f : Nat → Int32} (h : SB f) {w : Int32} (h0 : 0 ≤ w.toInt) (h1 : w.toInt ≤ 59) : 0 ≤ (wW f w 3).toInt ∧ (wW f w 3).toInt ≤ 2001 :=
  h.rd (by omega) (by rw [sL_w (by omega) (by omega)]; decide) (by rw [sH_w (by omega) (by omega)]; decide)
theorem SB.w4 {f : Nat → Int32} (h : SB f) {w : Int32} (h0 : 0 ≤ w.toInt) (h1 : w.toInt ≤ 59) : 0 ≤ (wW f w 4).toInt ∧ (wW f w 4).toInt ≤ 1 :=
  h.rd (by omega) (by rw [sL_w (by omega) (by omega)]; decide) (by rw [sH_w (by omega) (by omega)]; decide)
theorem SB.w5 {f : Nat → Int32} (h : SB f) {w : Int32} (h0 : 0 ≤ w.toInt) (h1 : w.toInt ≤ 59) : 0 ≤ (wW f w 5).toInt ∧ (wW f w 5).toInt ≤ 9999 :=
  h.rd (by omega) (by rw [sL_w (by omega) (by omega)]; decide) (by rw [sH_w (by omega) (by omega)]; decide)
theorem SB.p0 {f : Nat → Int32} (h : SB f) {p : Int32} (h0 : 0 ≤ p.toInt) (h1 : p.toInt ≤ 3) : 0 ≤ (pW f p 0).toInt ∧ (pW f p 0).toInt ≤ 39 :=
  h.rd (by omega) (by rw [sL_p (by omega) (by omega)]; decide) (by rw [sH_p (by omega) (by omega)]; decide)
theorem SB.p2 {f : Nat → Int32} (h : SB f) {p : Int32} (h0 : 0 ≤ p.toInt) (h1 : p.toInt ≤ 3) : 0 ≤ (pW f p 2).toInt ∧ (pW f p 2).toInt ≤ 50 :=
  h.rd (by omega) (by rw [sL_p (by omega) (by omega)]; decide) (by rw [sH_p (by omega) (by omega)]; decide)
theorem SB.p3 {f : Nat → Int32} (h : SB f) {p : Int32} (h0 : 0 ≤ p.toInt) (h1 : p.toInt ≤ 3) : 0 ≤ (pW f p 3).toInt ∧ (pW f p 3).toInt ≤ 50 :=
  h.rd (by omega) (by rw [sL_p (by omega) (by omega)]; decide) (by rw [sH_p (by omega) (by omega)]; decide)
theorem SB.so {f : Nat → Int32} (h : SB f) {m : Nat} (h1 : m < 40) : 0 ≤ (f (19 + m)).toInt ∧ (f (19 + m)).toInt ≤ 2 := by
  have h2 : 19 ≤ 19 + m ∧ 19 + m ≤ 58 := by omega
  refine h.rd (by omega) ?_ ?_
  · unfold sLo; rw [if_neg (by omega), if_pos (by omega), if_pos h2]; decide
  · unfold sHi; rw [if_neg (by omega), if_pos (by omega), if_pos h2]; decide
theorem SB.p5 {f : Nat → Int32} (h : SB f) {p : Int32} (h0 : 0 ≤ p.toInt) (h1 : p.toInt ≤ 3) : 0 ≤ (pW f p 5).toInt ∧ (pW f p 5).toInt ≤ 9999 :=
  h.rd (by omega) (by rw [sL_p (by omega) (by omega)]; decide) (by rw [sH_p (by omega) (by omega)]; decide)
theorem SIX.men {f : Nat → Int32} (h : SIX f (-1)) {p : Int32} (h0 : 0 ≤ p.toInt) (h1 : p.toInt ≤ 3) (h2 : p.toInt < (f 2).toInt) (h3 : (pW f p 8).toInt ≠ 2) : 1 ≤ (pW f p 2).toInt := by
  have z := h.2 p.toInt.toNat (by omega) (by omega) (by omega)
  unfold pW at h3 ⊢
  omega
theorem SB.rs {f : Nat → Int32} (h : SB f) {r x v : Int32} (h0 : 0 ≤ r.toInt) (h1 : r.toInt ≤ 11) (e : v = f x.toNatClampNeg) (t : x.toInt = 497 + 53 * r.toInt) : 0 ≤ v.toInt ∧ v.toInt ≤ 50 := by
  rw [e, k_clamp, show x.toInt.toNat = 495 + 53 * r.toInt.toNat + 2 from by omega]
  have hm : (495 + 53 * r.toInt.toNat + 2 - 495) % 53 = 2 := by omega
  refine h.rd (by omega) ?_ ?_
  · unfold sLo
    rw [if_neg (by omega), if_neg (by omega), if_neg (by omega), if_neg (by omega), if_pos (by omega), if_pos hm]; decide
  · unfold sHi
    rw [if_neg (by omega), if_neg (by omega), if_neg (by omega), if_neg (by omega), if_pos (by omega), if_pos hm]; decide
theorem upd_at {f : Nat → Int32} {i : Nat} {x : Int32} : upd f i x i = x := by unfold upd; rw [if_pos rfl]
theorem upd_ne {f : Nat → Int32} {i j : Nat} {x : Int32} (h : j ≠ i) : upd f i x j = f j := by unfold upd; rw [if_neg h]
theorem SB.put {f g : Nat → Int32} {i : Nat} {x : Int32} {xi : Int} (h : SB f) (e : g = upd f i x) (hx : x.toInt = xi) (b : i < 1201 → sLo i ≤ xi ∧ xi ≤ sHi i) : SB g := by
  intro j hj
  rw [e]
  by_cases hq : j = i
  · rw [hq, upd_at, hx]; exact b (hq ▸ hj)
  · rw [upd_ne hq]; exact h j hj
theorem MX.put {f g : Nat → Int32} {i : Nat} {x : Int32} {q : Int} (h : MX f q) (e : g = upd f i x) (h2 : i ≠ 2) (hm : ∀ j : Nat, j < 4 → i ≠ 459 + 9 * j + 8 ∧ i ≠ 459 + 9 * j + 2) : MX g q := by
  intro j hj hn hq
  rw [e] at hn ⊢
  rw [upd_ne (Ne.symm h2)] at hn
  rw [upd_ne (Ne.symm (hm j hj).1), upd_ne (Ne.symm (hm j hj).2)]
  exact h j hj hn hq
theorem sL_f {i : Nat} (h : (6 ≤ i ∧ i < 19) ∨ (59 ≤ i ∧ i < 99) ∨ 1131 ≤ i) : sLo i = -2147483648 := by
  unfold sLo
  rcases h with h | h | h
  · rw [if_neg (by omega), if_pos (by omega), if_neg (by omega)]
  · rw [if_neg (by omega), if_pos (by omega), if_neg (by omega)]
  · rw [if_neg (by omega), if_neg (by omega), if_neg (by omega), if_neg (by omega), if_neg (by omega)]
theorem sH_f {i : Nat} (h : (6 ≤ i ∧ i < 19) ∨ (59 ≤ i ∧ i < 99) ∨ 1131 ≤ i) : sHi i = 2147483647 := by
  unfold sHi
  rcases h with h | h | h
  · rw [if_neg (by omega), if_pos (by omega), if_neg (by omega)]
  · rw [if_neg (by omega), if_pos (by omega), if_neg (by omega)]
  · rw [if_neg (by omega), if_neg (by omega), if_neg (by omega), if_neg (by omega), if_neg (by omega)]
/-- a place of which nothing is told -/
theorem SIX.free {f g : Nat → Int32} {i : Nat} {x : Int32} {q : Int} (h : SIX f q) (e : g = upd f i x) (hi : (6 ≤ i ∧ i < 19) ∨ (59 ≤ i ∧ i < 99) ∨ 1131 ≤ i) : SIX g q :=
  ⟨h.1.put e rfl (fun _ => by rw [sL_f hi, sH_f hi]; exact ⟨k_lo x, k_hi x⟩), h.2.put e (by omega) (fun j hj => by omega)⟩
theorem SIX.so {f g : Nat → Int32} {i : Nat} {x : Int32} {q : Int} (h : SIX f q) (e : g = upd f i x) (hi : 19 ≤ i ∧ i ≤ 58) (b : 0 ≤ x.toInt ∧ x.toInt ≤ 2) : SIX g q :=
  ⟨h.1.put e rfl (fun _ => by unfold sLo sHi; rw [if_neg (by omega), if_pos (by omega), if_pos hi, if_neg (by omega), if_pos (by omega), if_pos hi]; exact b), h.2.put e (by omega) (fun j hj => by omega)⟩
theorem SIX.n {f g : Nat → Int32} {i : Nat} {x : Int32} {xi q : Int} (h : SIX f q) (e : g = upd f i x) (hx : x.toInt = xi) (hi : i < 6) (h2 : i ≠ 2) (b : 0 ≤ xi ∧ (i = 0 → xi ≤ 2000) ∧ (i = 1 → xi ≤ 60) ∧ (i = 3 → xi ≤ 12) ∧ (i = 4 → xi ≤ 50) ∧ (i = 5 → xi ≤ 20)) : SIX g q := by
  refine ⟨h.1.put e hx (fun _ => ?_), h.2.put e h2 (fun j hj => by omega)⟩
  obtain ⟨b0, b1, b2, b3, b4, b5⟩ := b
  unfold sLo sHi
  rw [if_pos hi, if_pos hi]
  refine ⟨b0, ?_⟩
  rcases (show i = 0 ∨ i = 1 ∨ i = 3 ∨ i = 4 ∨ i = 5 by omega) with z | z | z | z | z
  · rw [if_pos z]; exact b1 z
  · rw [if_neg (by omega), if_pos z]; exact b2 z
  · rw [if_neg (by omega), if_neg (by omega), if_neg (by omega), if_pos z]; exact b3 z
  · rw [if_neg (by omega), if_neg (by omega), if_neg (by omega), if_neg (by omega), if_pos z]; exact b4 z
  · rw [if_neg (by omega), if_neg (by omega), if_neg (by omega), if_neg (by omega), if_neg (by omega)]; exact b5 z
theorem SIX.w {f g : Nat → Int32} {w : Int32} {k : Nat} {x : Int32} {xi q : Int} (h : SIX f q) (e : g = upd f (99 + 6 * w.toInt.toNat + k) x) (hx : x.toInt = xi) (hw : w.toInt ≤ 59) (hk : k < 6) (b : (k = 0 → 0 ≤ xi ∧ xi ≤ 5) ∧ (k = 1 → 0 ≤ xi ∧ xi ≤ 39) ∧ (k = 3 → 0 ≤ xi ∧ xi ≤ 2001) ∧ (k = 4 → 0 ≤ xi ∧ xi ≤ 1) ∧ (k = 5 → 0 ≤ xi ∧ xi ≤ 9999)) : SIX g q := by
  refine ⟨h.1.put e hx (fun _ => ?_), h.2.put e (by omega) (fun j hj => by omega)⟩
  rw [sL_w (by omega) hk, sH_w (by omega) hk]
  have lo := k_lo x
  have hi := k_hi x
  rw [hx] at lo hi
  obtain ⟨b0, b1, b3, b4, b5⟩ := b
  rcases (show k = 0 ∨ k = 1 ∨ k = 2 ∨ k = 3 ∨ k = 4 ∨ k = 5 by omega) with z | z | z | z | z | z <;> subst z <;> simp <;> omega
theorem SIX.p {f g : Nat → Int32} {w : Int32} {k : Nat} {x : Int32} {xi q : Int} (h : SIX f q) (e : g = upd f (459 + 9 * w.toInt.toNat + k) x) (hx : x.toInt = xi) (h0 : 0 ≤ w.toInt) (hw : w.toInt ≤ 3) (hk : k < 9) (b : (k = 0 → 0 ≤ xi ∧ xi ≤ 39) ∧ (k = 2 → 0 ≤ xi ∧ xi ≤ 50) ∧ (k = 3 → 0 ≤ xi ∧ xi ≤ 50) ∧ (k = 5 → 0 ≤ xi ∧ xi ≤ 9999)) (hm : k = 2 → 1 ≤ xi ∨ q = w.toInt) (hs : k = 8 → xi = 2 ∨ q = w.toInt ∨ 1 ≤ (pW f w 2).toInt) : SIX g q := by
  constructor
  · refine h.1.put e hx (fun _ => ?_)
    rw [sL_p (by omega) hk, sH_p (by omega) hk]
    have lo := k_lo x
    have hi := k_hi x
    rw [hx] at lo hi
    obtain ⟨b0, b2, b3, b5⟩ := b
    rcases (show k = 0 ∨ k = 1 ∨ k = 2 ∨ k = 3 ∨ k = 4 ∨ k = 5 ∨ k = 6 ∨ k = 7 ∨ k = 8 by omega) with z | z | z | z | z | z | z | z | z <;> subst z <;> simp <;> omega
  · intro j hj hn hq
    rw [e] at hn ⊢
    rw [upd_ne (by omega)] at hn
    by_cases hj2 : j = w.toInt.toNat
    · by_cases k8 : k = 8
      · rw [show 459 + 9 * j + 8 = 459 + 9 * w.toInt.toNat + k from by omega, upd_at, hx, upd_ne (by omega)]
        rcases hs k8 with z | z | z
        · exact Or.inl z
        · omega
        · unfold pW at z; rw [hj2]; exact Or.inr z
      · by_cases k2 : k = 2
        · rw [show 459 + 9 * j + 2 = 459 + 9 * w.toInt.toNat + k from by omega, upd_at, hx]
          rcases hm k2 with z | z
          · exact Or.inr z
          · omega
        · rw [upd_ne (by omega), upd_ne (by omega)]
          exact h.2 j hj hn hq
    · rw [upd_ne (by omega), upd_ne (by omega)]
      exact h.2 j hj hn hq
/-- p has MEN, or is LOST: all have -/
theorem SIX.all {f : Nat → Int32} {p : Int32} (h : SIX f p.toInt) (hp : (pW f p 8).toInt = 2 ∨ 1 ≤ (pW f p 2).toInt) : SIX f (-1) := by
  refine ⟨h.1, fun j hj hn hq => ?_⟩
  by_cases hj2 : (j : Int) = p.toInt
  · unfold pW at hp
    rw [show p.toInt.toNat = j from by omega] at hp
    exact hp
  · exact h.2 j hj hn hj2
theorem SIX.but {f : Nat → Int32} {q : Int} (h : SIX f (-1)) : SIX f q := ⟨h.1, fun j hj hn hq => h.2 j hj hn (by omega)⟩
/-- one PARTY more -/
theorem SIX.n2 {f g : Nat → Int32} {x p : Int32} (h : SIX f (-1)) (e : g = upd f 2 x) (hp : p.toInt = (f 2).toInt) (hx : x.toInt = p.toInt + 1) (h4 : x.toInt ≤ 4) : SIX g p.toInt := by
  refine ⟨h.1.put e rfl (fun _ => ?_), fun j hj hn hq => ?_⟩
  · have := h.1.n2
    show (0 : Int) ≤ x.toInt ∧ x.toInt ≤ 4
    omega
  · rw [e] at hn ⊢
    rw [upd_at] at hn
    rw [upd_ne (by omega), upd_ne (by omega)]
    exact h.2 j hj (by omega) (by omega)
theorem pW_upd {f g : Nat → Int32} {p w x : Int32} {k m : Nat} (e : g = upd f (459 + 9 * w.toInt.toNat + k) x) (hk : k < 9) (hm : m < 9) (h : m ≠ k ∨ p.toInt.toNat ≠ w.toInt.toNat) : pW g p m = pW f p m := by
  unfold pW; rw [e, upd_ne (by omega)]
theorem pW_updE {f g : Nat → Int32} {w x : Int32} {k : Nat} (e : g = upd f (459 + 9 * w.toInt.toNat + k) x) : pW g w k = x := by
  unfold pW; rw [e, upd_at]
theorem updN {f g : Nat → Int32} {i j : Nat} {x : Int32} (e : g = upd f i x) (h : j ≠ i) : g j = f j := by rw [e, upd_ne h]
theorem sL_r {r k : Nat} (hr : r < 12) (hk : k < 53) : sLo (495 + 53 * r + k) = if k = 2 then 0 else -2147483648 := by
  unfold sLo
  rw [if_neg (by omega), if_neg (by omega), if_neg (by omega), if_neg (by omega), if_pos (by omega), show (495 + 53 * r + k - 495) % 53 = k from by omega]
theorem sH_r {r k : Nat} (hr : r < 12) (hk : k < 53) : sHi (495 + 53 * r + k) = if k = 2 then 50 else 2147483647 := by
  unfold sHi
  rw [if_neg (by omega), if_neg (by omega), if_neg (by omega), if_neg (by omega), if_pos (by omega), show (495 + 53 * r + k - 495) % 53 = k from by omega]
theorem SIX.r {f g : Nat → Int32} {i r k : Nat} {x : Int32} {xi q : Int} (h : SIX f q) (e : g = upd f i x) (hx : x.toInt = xi) (hi : i = 495 + 53 * r + k) (hr : r < 12) (hk : k < 53) (b : k = 2 → 0 ≤ xi ∧ xi ≤ 50) : SIX g q := by
  refine ⟨h.1.put e hx (fun _ => ?_), h.2.put e (by omega) (fun j hj => by omega)⟩
  rw [hi, sL_r hr hk, sH_r hr hk]
  have lo := k_lo x
  have hh := k_hi x
  rw [hx] at lo hh
  by_cases z : k = 2
  · rw [if_pos z, if_pos z]; exact b z
  · rw [if_neg z, if_neg z]; exact ⟨lo, hh⟩
/-! what it reads of it, as functions -/
def mU (k o : Int) : Int32 := if k = o ∨ (o = 0 ∧ 0 ≤ k ∧ k ≤ 5) ∨ (o = 1 ∧ (k = 2 ∨ k = 3)) ∨ (o = 2 ∧ k = 3) ∨ (o = 4 ∧ k = 5) then 1 else 0
def stF (f : Nat → Int32) (w : Int32) (k : Int) : Int32 := if (wW f w 4).toInt = 0 then mU (wW f w 0).toInt k else 0
theorem stF_y {f : Nat → Int32} {w d k0 : Int32} {k : Int} {v : Int32} (hd : d = wW f w 4) (h0 : d.toInt = 0) (hk : k0 = wW f w 0) (hm : mU k0.toInt k = v) : stF f w k = v := by
  unfold stF; rw [← hd, if_pos h0, ← hk]; exact hm
theorem stF_n {f : Nat → Int32} {w d : Int32} {k : Int} (hd : d = wW f w 4) (h0 : d.toInt ≠ 0) : stF f w k = 0 := by
  unfold stF; rw [← hd, if_neg h0]
def rnF (f : Nat → Int32) : Int32 := f (7 + ((f 0).toInt / 30 % 12).toNat)
def lkStep (f : Nat → Int32) (m : Int) (w best : Int32) : Int32 :=
  if (wW f w 1).toInt = m ∧ stF f w 1 = 1 then
    (fun v1 : Int32 => (fun v2 : Int32 => (fun v3 : Int32 => if best.toInt < 0 ∨ v3.toInt < best.toInt then v3 else best) (if stF f w 2 = 1 then v2 / 2 else v2)) (if 9 < v1.toInt then 9 else v1)) (1 + rnF f + (f 0 - wW f w 3) / 30)
  else best
theorem lkStep_in {f : Nat → Int32} {m : Int} {w best v1 v2 v3 b1 mi : Int32} (hmi : mi = wW f w 1) (hm : mi.toInt = m) (hs : stF f w 1 = 1) (e1 : v1 = 1 + rnF f + (f 0 - wW f w 3) / 30) (e2 : (9 < v1.toInt ∧ v2 = 9) ∨ (v1.toInt ≤ 9 ∧ v2 = v1)) (e3 : (stF f w 2 = 1 ∧ v3 = v2 / 2) ∨ (stF f w 2 = 0 ∧ v3 = v2)) (e4 : ((best.toInt < 0 ∨ v3.toInt < best.toInt) ∧ b1 = v3) ∨ (0 ≤ best.toInt ∧ best.toInt ≤ v3.toInt ∧ b1 = best)) : b1 = lkStep f m w best := by
  unfold lkStep
  rw [if_pos ⟨by rw [← hmi]; exact hm, hs⟩, ← e1]
  have z2 : (if 9 < v1.toInt then (9 : Int32) else v1) = v2 := by
    rcases e2 with ⟨z, e⟩ | ⟨z, e⟩
    · rw [if_pos z, e]
    · rw [if_neg (by omega), e]
  have z3 : (if stF f w 2 = 1 then v2 / 2 else v2) = v3 := by
    rcases e3 with ⟨z, e⟩ | ⟨z, e⟩
    · rw [if_pos z, e]
    · rw [if_neg (by rw [z]; decide), e]
  simp only [z2, z3]
  rcases e4 with ⟨z, e⟩ | ⟨z, y, e⟩
  · rw [if_pos z, e]
  · rw [if_neg (by omega), e]
theorem lkStep_m {f : Nat → Int32} {m : Int} {w best mi : Int32} (hmi : mi = wW f w 1) (hm : mi.toInt ≠ m) : best = lkStep f m w best := by
  unfold lkStep; rw [if_neg (fun z => hm (by rw [hmi]; exact z.1))]
theorem lkStep_s {f : Nat → Int32} {m : Int} {w best : Int32} (hs : stF f w 1 = 0) : best = lkStep f m w best := by
  unfold lkStep; rw [if_neg (fun z => by have y := z.2; rw [hs] at y; exact absurd y (by decide))]
def LK (f : Nat → Int32) (m : Int) : Nat → Int32
  | 0 => -1
  | n + 1 => lkStep f m (Int32.ofNat n) (LK f m n)
theorem k_ofNat {x : Int32} (h : 0 ≤ x.toInt) : Int32.ofNat x.toInt.toNat = x := by
  apply k_inj
  have h1 := k_hi x
  exact (nI_toInt (n := x.toInt.toNat) (by omega)).trans (by omega)
theorem LK_step {f : Nat → Int32} {m : Int} {w w1 b b1 : Int32} (h : b = LK f m w.toInt.toNat) (h0 : 0 ≤ w.toInt) (h1 : w1.toInt = w.toInt + 1) (e : b1 = lkStep f m w b) : b1 = LK f m w1.toInt.toNat := by
  rw [show w1.toInt.toNat = w.toInt.toNat + 1 from by omega]
  show b1 = lkStep f m (Int32.ofNat w.toInt.toNat) (LK f m w.toInt.toNat)
  rw [k_ofNat h0, ← h]; exact e
theorem LK_zero {f : Nat → Int32} {m : Int} {z : Int32} (h : z.toInt = 0) : (-1 : Int32) = LK f m z.toInt.toNat := by
  rw [h]; rfl
def lkF (f : Nat → Int32) (m : Int) : Int32 := LK f m (f 1).toInt.toNat
def crStep (f : Nat → Int32) (m a b : Int32) (s : Int32 × Int32) : Int32 × Int32 :=
  (if s.1.toInt ≠ 0 ∧ 0 ≤ (lkF f m.toInt).toInt then 1 else 0, s.2 + if a.toInt < m.toInt ∧ m.toInt < b.toInt then lkF f m.toInt else 0)
def CRS (f : Nat → Int32) (a b : Int32) : Nat → Int32 × Int32
  | 0 => (1, 0)
  | n + 1 => crStep f (Int32.ofNat (a.toInt.toNat + n)) a b (CRS f a b n)
def crEnd (f : Nat → Int32) (a b : Int32) : Int32 :=
  if (CRS f a b (b.toInt + 1 - a.toInt).toNat).1.toInt ≠ 0 ∧ (CRS f a b (b.toInt + 1 - a.toInt).toNat).2.toInt ≤ (f 6).toInt then 1 else 0
def crF (f : Nat → Int32) (a b : Int32) : Int32 :=
  if stF f a 3 = 1 ∧ stF f b 3 = 1 then
    (if (wW f a 1).toInt < (wW f b 1).toInt then crEnd f (wW f a 1) (wW f a 1 + wW f b 1 - wW f a 1) else crEnd f (wW f b 1) (wW f a 1 + wW f b 1 - wW f b 1))
  else 0
theorem CRS_zero {f : Nat → Int32} {a b m s1 s2 : Int32} (h : m.toInt = a.toInt) (h1 : s1 = 1) (h2 : s2 = 0) : (s1, s2) = CRS f a b (m.toInt - a.toInt).toNat := by
  rw [h, show (a.toInt - a.toInt).toNat = 0 from by omega, h1, h2]; rfl
theorem CRS_step {f : Nat → Int32} {a b m m1 s1 s2 x1 x2 lk y : Int32} (h : (s1, s2) = CRS f a b (m.toInt - a.toInt).toNat) (h0 : 0 ≤ a.toInt) (ha : a.toInt ≤ m.toInt) (h1 : m1.toInt = m.toInt + 1) (hk : lk = lkF f m.toInt)
    (e1 : (s1.toInt ≠ 0 ∧ 0 ≤ lk.toInt ∧ x1 = 1) ∨ ((s1.toInt = 0 ∨ lk.toInt < 0) ∧ x1 = 0)) (e2 : (a.toInt < m.toInt ∧ m.toInt < b.toInt ∧ y = lk) ∨ ((m.toInt ≤ a.toInt ∨ b.toInt ≤ m.toInt) ∧ y = 0)) (e3 : x2 = s2 + y) : (x1, x2) = CRS f a b (m1.toInt - a.toInt).toNat := by
  rw [show (m1.toInt - a.toInt).toNat = (m.toInt - a.toInt).toNat + 1 from by omega]
  show (x1, x2) = crStep f (Int32.ofNat (a.toInt.toNat + (m.toInt - a.toInt).toNat)) a b (CRS f a b (m.toInt - a.toInt).toNat)
  rw [← h, show a.toInt.toNat + (m.toInt - a.toInt).toNat = m.toInt.toNat from by omega, k_ofNat (by omega)]
  unfold crStep
  rw [← hk]
  have z1 : (if (s1, s2).1.toInt ≠ 0 ∧ 0 ≤ lk.toInt then (1 : Int32) else 0) = x1 := by
    rcases e1 with ⟨z, y, e⟩ | ⟨z, e⟩
    · rw [if_pos ⟨z, y⟩, e]
    · rw [if_neg (by intro q; have q1 := q.1; have q2 := q.2; rcases z with z | z; exact q1 z; omega), e]
  have z2 : (if a.toInt < m.toInt ∧ m.toInt < b.toInt then lk else (0 : Int32)) = y := by
    rcases e2 with ⟨z, w, e⟩ | ⟨z, e⟩
    · rw [if_pos ⟨z, w⟩, e]
    · rw [if_neg (by omega), e]
  rw [z1, z2, e3]
theorem crEnd_in {f : Nat → Int32} {a b m s1 s2 v : Int32} (h : (s1, s2) = CRS f a b (m.toInt - a.toInt).toNat) (hm : m.toInt = b.toInt + 1) (e : (s1.toInt ≠ 0 ∧ s2.toInt ≤ (f 6).toInt ∧ v = 1) ∨ ((s1.toInt = 0 ∨ (f 6).toInt < s2.toInt) ∧ v = 0)) : crEnd f a b = v := by
  unfold crEnd
  rw [← hm, ← h]
  rcases e with ⟨z, y, e⟩ | ⟨z, e⟩
  · rw [if_pos ⟨z, y⟩, e]
  · rw [if_neg (by intro q; have q1 : s1.toInt ≠ 0 := q.1; have q2 : s2.toInt ≤ (f 6).toInt := q.2; rcases z with z | z; exact q1 z; omega), e]
theorem crF_n {f : Nat → Int32} {a b : Int32} (h : stF f a 3 = 0 ∨ stF f b 3 = 0) : crF f a b = 0 := by
  unfold crF
  rw [if_neg (by intro q; rcases h with h | h <;> rw [h] at q; exact absurd q.1 (by decide); exact absurd q.2 (by decide))]
theorem crF_l {f : Nat → Int32} {a b x y t v : Int32} (ha : stF f a 3 = 1) (hb : stF f b 3 = 1) (hx : x = wW f a 1) (hy : y = wW f b 1) (hl : x.toInt < y.toInt) (ht : t = x + y - x) (h : crEnd f x t = v) : crF f a b = v := by
  unfold crF
  rw [if_pos ⟨ha, hb⟩, ← hx, ← hy, if_pos hl, ← ht]; exact h
theorem crF_r {f : Nat → Int32} {a b x y t v : Int32} (ha : stF f a 3 = 1) (hb : stF f b 3 = 1) (hx : x = wW f a 1) (hy : y = wW f b 1) (hl : y.toInt ≤ x.toInt) (ht : t = x + y - y) (h : crEnd f y t = v) : crF f a b = v := by
  unfold crF
  rw [if_pos ⟨ha, hb⟩, ← hx, ← hy, if_neg (by omega), ← ht]; exact h
/-! THE HANDS of the reference -/
def HS (f g : Nat → Int32) (b : Int32) : Prop := ∀ w : Int32, 0 ≤ w.toInt → w.toInt ≤ 59 → (g w.toNatClampNeg).toInt < 0 ∨ ((g w.toNatClampNeg).toInt = 0 ∧ w = b) ∨ (1 ≤ (g w.toNatClampNeg).toInt ∧ ∃ o : Int32, 0 ≤ o.toInt ∧ o.toInt ≤ 59 ∧ (g o.toNatClampNeg).toInt + 1 = (g w.toNatClampNeg).toInt ∧ crF f w o = 1)
def HP (g : Nat → Int32) (b : Int32) (n : Int) : Prop := ∀ j : Nat, (j : Int) < n → (g j).toInt < 0 ∨ ((g j).toInt = 0 ∧ (j : Int) = b.toInt)
theorem HP_zero {g : Nat → Int32} {b z : Int32} (h : z.toInt ≤ 0) : HP g b z.toInt := fun j hj => by omega
theorem HP_step {g h : Nat → Int32} {b i i1 x : Int32} {xi : Int} (hp : HP g b i.toInt) (h0 : 0 ≤ i.toInt) (h1 : i1.toInt = i.toInt + 1) (e : h = upd g i.toNatClampNeg x) (hx : x.toInt = xi) (c : xi < 0 ∨ (xi = 0 ∧ i.toInt = b.toInt)) : HP h b i1.toInt := by
  intro j hj
  rw [e]
  by_cases q : j = i.toNatClampNeg
  · rw [q, upd_at, hx]; rw [k_clamp] ; omega
  · rw [upd_ne q]; rw [k_clamp] at q; exact hp j (by omega)
theorem HP_end {f g : Nat → Int32} {b i : Int32} (hp : HP g b i.toInt) (h : 60 ≤ i.toInt) : HS f g b := by
  intro w h0 h1
  rcases hp w.toNatClampNeg (by rw [k_clamp]; omega) with z | ⟨z, y⟩
  · exact Or.inl z
  · exact Or.inr (Or.inl ⟨z, k_inj (by rw [k_clamp] at y; omega)⟩)
theorem HS_set {f g h : Nat → Int32} {b w o x : Int32} (hs : HS f g b) (w0 : 0 ≤ w.toInt) (hw : (g w.toNatClampNeg).toInt < 0) (e : h = upd g w.toNatClampNeg x) (o0 : 0 ≤ o.toInt) (o1 : o.toInt ≤ 59) (hx : x.toInt = (g o.toNatClampNeg).toInt + 1) (hg : 0 ≤ (g o.toNatClampNeg).toInt) (hc : crF f w o = 1) : HS f h b := by
  have key : ∀ v : Int32, 0 ≤ v.toInt → 0 ≤ (g v.toNatClampNeg).toInt → v.toNatClampNeg ≠ w.toNatClampNeg := fun v v0 v1 z => by
    rw [z] at v1; omega
  intro v v0 v1
  by_cases q : v.toNatClampNeg = w.toNatClampNeg
  · have hv : v = w := k_inj (by rw [k_clamp, k_clamp] at q; omega)
    subst hv
    rw [e, upd_at]
    exact Or.inr (Or.inr ⟨by omega, o, o0, o1, by rw [upd_ne (key o o0 hg)]; omega, hc⟩)
  · rw [e, upd_ne q]
    rcases hs v v0 v1 with z | z | ⟨z, o2, z0, z1, z2, z3⟩
    · exact Or.inl z
    · exact Or.inr (Or.inl z)
    · exact Or.inr (Or.inr ⟨z, o2, z0, z1, by rw [upd_ne (key o2 z0 (by omega))]; exact z2, z3⟩)
theorem HS_same {f g h : Nat → Int32} {b w x : Int32} (hs : HS f g b) (e : h = upd g w.toNatClampNeg x) (hx : x = g w.toNatClampNeg) : HS f h b := by
  have hh : h = g := by
    rw [e, hx]; funext j
    by_cases q : j = w.toNatClampNeg
    · rw [q, upd_at]
    · rw [upd_ne q]
  rw [hh]; exact hs
theorem php : ∀ (n : Nat) (g : Nat → Nat), (∀ k, k ≤ n → g k < n) → ∃ i j, i < j ∧ j ≤ n ∧ g i = g j := by
  intro n
  induction n with
  | zero => intro g h; exact absurd (h 0 (Nat.le_refl 0)) (by omega)
  | succ n ih =>
    intro g h
    by_cases hv : ∃ i, i ≤ n ∧ g i = g (n + 1)
    · obtain ⟨i, h1, h2⟩ := hv
      exact ⟨i, n + 1, by omega, by omega, h2⟩
    · have hv2 : ∀ i, i ≤ n → g i ≠ g (n + 1) := fun i hi z => hv ⟨i, hi, z⟩
      have hl := h (n + 1) (by omega)
      obtain ⟨i, j, h1, h2, h3⟩ := ih (fun k => if g k = n then g (n + 1) else g k) (fun k hk => by
        have a := h k (by omega)
        have b := hv2 k hk
        show (if g k = n then g (n + 1) else g k) < n
        by_cases q : g k = n
        · rw [if_pos q]; omega
        · rw [if_neg q]; omega)
      refine ⟨i, j, h1, by omega, ?_⟩
      have bi := hv2 i (by omega)
      have bj := hv2 j (by omega)
      have h4 : (if g i = n then g (n + 1) else g i) = (if g j = n then g (n + 1) else g j) := h3
      by_cases qi : g i = n
      · by_cases qj : g j = n
        · omega
        · rw [if_pos qi, if_neg qj] at h4; omega
      · by_cases qj : g j = n
        · rw [if_neg qi, if_pos qj] at h4; omega
        · rw [if_neg qi, if_neg qj] at h4; exact h4
theorem HS_chain {f g : Nat → Int32} {b : Int32} (hs : HS f g b) : ∀ (d : Nat) (w : Int32), 0 ≤ w.toInt → w.toInt ≤ 59 → (g w.toNatClampNeg).toInt = d → ∀ k : Nat, k ≤ d → ∃ j : Nat, j < 60 ∧ (g j).toInt = k := by
  intro d
  induction d with
  | zero => intro w h0 h1 h k hk; exact ⟨w.toNatClampNeg, by rw [k_clamp]; omega, by rw [h]; omega⟩
  | succ d ih =>
    intro w h0 h1 h k hk
    by_cases q : k = d + 1
    · exact ⟨w.toNatClampNeg, by rw [k_clamp]; omega, by rw [h, q]⟩
    · rcases hs w h0 h1 with z | ⟨z, _⟩ | ⟨z, o, z0, z1, z2, z3⟩
      · omega
      · omega
      · exact ih o z0 z1 (by omega) k (by omega)
theorem HS_lt {f g : Nat → Int32} {b w : Int32} (hs : HS f g b) (h0 : 0 ≤ w.toInt) (h1 : w.toInt ≤ 59) : (g w.toNatClampNeg).toInt ≤ 59 := by
  by_cases q : (g w.toNatClampNeg).toInt ≤ 59
  · exact q
  · have hc := HS_chain hs (g w.toNatClampNeg).toInt.toNat w h0 h1 (by omega)
    have hch : ∀ k : Nat, ∃ j : Nat, k ≤ 60 → (j < 60 ∧ (g j).toInt = k) := fun k => by
      by_cases z : k ≤ 60
      · obtain ⟨j, z1, z2⟩ := hc k (by omega)
        exact ⟨j, fun _ => ⟨z1, z2⟩⟩
      · exact ⟨0, fun y => absurd y z⟩
    obtain ⟨i, j, h2, h3, h4⟩ := php 60 (fun k => Classical.choose (hch k)) (fun k hk => (Classical.choose_spec (hch k) hk).1)
    have a := (Classical.choose_spec (hch i) (by omega)).2
    have c := (Classical.choose_spec (hch j) (by omega)).2
    have h5 : Classical.choose (hch i) = Classical.choose (hch j) := h4
    rw [h5] at a
    omega
theorem HS_next {f g : Nat → Int32} {b w : Int32} (hs : HS f g b) (h0 : 0 ≤ w.toInt) (h1 : w.toInt ≤ 59) (hb : w.toInt ≠ b.toInt) (hg : 0 ≤ (g w.toNatClampNeg).toInt) : ∃ o : Int32, 0 ≤ o.toInt ∧ o.toInt ≤ 59 ∧ (g o.toNatClampNeg).toInt + 1 = (g w.toNatClampNeg).toInt ∧ crF f w o = 1 ∧ 1 ≤ (g w.toNatClampNeg).toInt := by
  rcases hs w h0 h1 with z | ⟨_, z⟩ | ⟨y, o, z0, z1, z2, z3⟩
  · omega
  · exact absurd (congrArg Int32.toInt z) hb
  · exact ⟨o, z0, z1, z2, z3, y⟩
theorem SIX.zero {f g : Nat → Int32} {p x : Int32} {i : Nat} (h : SIX f p.toInt) (e : g = upd f i x) (hi : 459 + 9 * p.toInt.toNat ≤ i ∧ i < 459 + 9 * p.toInt.toNat + 9) (h0 : 0 ≤ p.toInt) (h3 : p.toInt ≤ 3) (hx : x.toInt = 0) : SIX g p.toInt :=
  SIX.p (w := p) (k := i - (459 + 9 * p.toInt.toNat)) h (by rw [e, show 459 + 9 * p.toInt.toNat + (i - (459 + 9 * p.toInt.toNat)) = i from by omega]) hx h0 h3 (by omega) (by omega) (fun _ => Or.inr rfl) (fun _ => Or.inr (Or.inl rfl))
theorem k_nxt1 {g : Nat → Int32} {x o : Int32} (h : x.toInt ≤ o.toInt) (hne : (g x.toNatClampNeg).toInt ≠ (g o.toNatClampNeg).toInt) : x.toInt + 1 ≤ o.toInt := by
  by_cases q : x.toInt = o.toInt
  · exact absurd (by rw [k_inj q]) hne
  · omega
theorem k_nxt2 {f : Nat → Int32} {a x o : Int32} (h : x.toInt ≤ o.toInt) (h1 : crF f a x = 0) (h2 : crF f a o = 1) : x.toInt + 1 ≤ o.toInt := by
  by_cases q : x.toInt = o.toInt
  · rw [k_inj q, h2] at h1; exact absurd h1 (by decide)
  · omega
theorem k_nb {v : Int32} (h0 : 0 ≤ v.toInt) (h1 : v.toInt ≤ 1) : narrow .boolean (.int v) = .int v := by
  rcases (show v.toInt = 0 ∨ v.toInt = 1 by omega) with h | h
  · obtain rfl : v = 0 := k_inj (by rw [h]; decide)
    decide
  · obtain rfl : v = 1 := k_inj (by rw [h]; decide)
    decide
theorem k_ceil {x y v e : Int32} (hv : v = x / y) (hx : x.toInt = e.toInt + y.toInt - 1) (h1 : 1 ≤ e.toInt) (hy : 1 ≤ y.toInt) : 0 ≤ v.toInt ∧ v.toInt ≤ e.toInt := by
  have h := k_divv (w := 0) hv rfl (show 0 ≤ x.toInt by omega) (show 0 < y.toInt by omega)
  rw [h]
  refine ⟨Int.ediv_nonneg (by omega) (by omega), Int.ediv_le_of_le_mul (by omega) ?_⟩
  have z := Int.mul_nonneg (show 0 ≤ e.toInt - 1 by omega) (show 0 ≤ y.toInt - 1 by omega)
  rw [Int.sub_mul, Int.mul_sub] at z
  omega
