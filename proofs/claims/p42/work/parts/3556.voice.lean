/- VOICES: what a BODY says, by how deep it may go, and THE TRACE -/
def bKi (k a : Int32) : Int32 := if k.toInt = 0 ∧ a.toInt = 0 then 10 else if k.toInt = 0 ∧ a.toInt = 1 then 11 else if k.toInt = 0 ∧ a.toInt = 2 then 12 else if k.toInt = 0 ∧ a.toInt = 3 then 13 else if k.toInt = 1 ∧ a.toInt = 1 then 20 else if k.toInt = 1 ∧ a.toInt = 3 then 21 else if k.toInt = 2 ∧ a.toInt = 0 then 30 else if k.toInt = 2 ∧ a.toInt = 2 then 31 else if k.toInt = 3 ∧ a.toInt = 2 then 40 else if k.toInt = 3 ∧ a.toInt = 3 then 41 else if k.toInt = 4 ∧ a.toInt = 0 then 50 else if k.toInt = 4 ∧ a.toInt = 2 then 51 else if k.toInt = 5 ∧ a.toInt = 1 then 60 else if k.toInt = 5 ∧ a.toInt = 3 then 61 else 0
def bdV (a c : Int32) : Int32 := if (bKi a c).toInt ≠ 0 then bKi a c else if a.toInt = 3 then (if (bKi 2 c).toInt ≠ 0 then bKi 2 c else if (bKi 1 c).toInt ≠ 0 then bKi 1 c else bKi 0 c) else if a.toInt = 2 then (if (bKi 1 c).toInt ≠ 0 then bKi 1 c else bKi 0 c) else if a.toInt = 5 then (if (bKi 4 c).toInt ≠ 0 then bKi 4 c else bKi 0 c) else bKi 0 c
theorem bk_of {a : Int32} (h0 : 0 ≤ a.toInt) (h1 : a.toInt ≤ 5) : a = 0 ∨ a = 1 ∨ a = 2 ∨ a = 3 ∨ a = 4 ∨ a = 5 := by
  have h : a.toInt = 0 ∨ a.toInt = 1 ∨ a.toInt = 2 ∨ a.toInt = 3 ∨ a.toInt = 4 ∨ a.toInt = 5 := by omega
  rcases h with h | h | h | h | h | h
  · exact Or.inl (k_inj (h.trans (by decide)))
  · exact Or.inr (Or.inl (k_inj (h.trans (by decide))))
  · exact Or.inr (Or.inr (Or.inl (k_inj (h.trans (by decide)))))
  · exact Or.inr (Or.inr (Or.inr (Or.inl (k_inj (h.trans (by decide))))))
  · exact Or.inr (Or.inr (Or.inr (Or.inr (Or.inl (k_inj (h.trans (by decide)))))))
  · exact Or.inr (Or.inr (Or.inr (Or.inr (Or.inr (k_inj (h.trans (by decide)))))))
theorem bc_of {a : Int32} (h0 : 0 ≤ a.toInt) (h1 : a.toInt ≤ 3) : a = 0 ∨ a = 1 ∨ a = 2 ∨ a = 3 := by
  have h : a.toInt = 0 ∨ a.toInt = 1 ∨ a.toInt = 2 ∨ a.toInt = 3 := by omega
  rcases h with h | h | h | h
  · exact Or.inl (k_inj (h.trans (by decide)))
  · exact Or.inr (Or.inl (k_inj (h.trans (by decide))))
  · exact Or.inr (Or.inr (Or.inl (k_inj (h.trans (by decide)))))
  · exact Or.inr (Or.inr (Or.inr (k_inj (h.trans (by decide)))))
theorem bd_own {a c b : Int32} (e : bKi a c = b) (h : b.toInt ≠ 0) : bdV a c = b := by unfold bdV; rw [if_pos (by rw [e]; exact h), e]
theorem bd_up {a p c : Int32} (h : (bKi a c).toInt = 0) (hp : (p.toInt = 0 ∧ (a.toInt = 1 ∨ a.toInt = 4)) ∨ (p.toInt = 1 ∧ a.toInt = 2) ∨ (p.toInt = 2 ∧ a.toInt = 3) ∨ (p.toInt = 4 ∧ a.toInt = 5)) (c0 : 0 ≤ c.toInt) (c3 : c.toInt ≤ 3) : bdV p c = bdV a c := by
  rcases bk_of (a := a) (by omega) (by omega) with rfl | rfl | rfl | rfl | rfl | rfl <;> rcases bk_of (a := p) (by omega) (by omega) with rfl | rfl | rfl | rfl | rfl | rfl <;> first | (exfalso; revert hp; decide) | (rcases bc_of c0 c3 with rfl | rfl | rfl | rfl <;> first | (exfalso; revert h; decide) | decide)
theorem bd_in {a c : Int32} (a0 : 0 ≤ a.toInt) (a5 : a.toInt ≤ 5) (c0 : 0 ≤ c.toInt) (c3 : c.toInt ≤ 3) : ((bdV a c).toInt = 10 ∧ c.toInt = 0) ∨ ((bdV a c).toInt = 11 ∧ c.toInt = 1) ∨ ((bdV a c).toInt = 12 ∧ c.toInt = 2) ∨ ((bdV a c).toInt = 13 ∧ c.toInt = 3) ∨ ((bdV a c).toInt = 20 ∧ c.toInt = 1 ∧ 1 ≤ a.toInt) ∨ ((bdV a c).toInt = 21 ∧ c.toInt = 3 ∧ 1 ≤ a.toInt) ∨ ((bdV a c).toInt = 30 ∧ c.toInt = 0 ∧ 2 ≤ a.toInt) ∨ ((bdV a c).toInt = 31 ∧ c.toInt = 2 ∧ 2 ≤ a.toInt) ∨ ((bdV a c).toInt = 40 ∧ c.toInt = 2 ∧ a.toInt = 3) ∨ ((bdV a c).toInt = 41 ∧ c.toInt = 3 ∧ a.toInt = 3) ∨ ((bdV a c).toInt = 50 ∧ c.toInt = 0 ∧ 4 ≤ a.toInt) ∨ ((bdV a c).toInt = 51 ∧ c.toInt = 2 ∧ 4 ≤ a.toInt) ∨ ((bdV a c).toInt = 60 ∧ c.toInt = 1 ∧ a.toInt = 5) ∨ ((bdV a c).toInt = 61 ∧ c.toInt = 3 ∧ a.toInt = 5) := by
  rcases bk_of a0 a5 with rfl | rfl | rfl | rfl | rfl | rfl <;> rcases bc_of c0 c3 with rfl | rfl | rfl | rfl <;> decide
theorem bod_at {j : Nat} {v a c : Int32} (e : v = bodL.getD j 0) (a0 : 0 ≤ a.toInt) (a5 : a.toInt ≤ 5) (c0 : 0 ≤ c.toInt) (c3 : c.toInt ≤ 3) (hj : (j : Int) = 4 * a.toInt + c.toInt) : v = bKi a c := by
  rw [e, show j = (4 * a.toInt + c.toInt).toNat from by omega]
  rcases bk_of a0 a5 with rfl | rfl | rfl | rfl | rfl | rfl <;> rcases bc_of c0 c3 with rfl | rfl | rfl | rfl <;> decide
def hgV (a : Int32) : Int := if a.toInt = 3 then 3 else if a.toInt = 2 ∨ a.toInt = 5 then 2 else if a.toInt = 1 ∨ a.toInt = 4 then 1 else 0
theorem hg_le (a : Int32) : 0 ≤ hgV a ∧ hgV a ≤ 3 := by unfold hgV; split <;> (try split) <;> (try split) <;> omega
theorem hg_up {a p : Int32} (hp : (p.toInt = 0 ∧ (a.toInt = 1 ∨ a.toInt = 4)) ∨ (p.toInt = 1 ∧ a.toInt = 2) ∨ (p.toInt = 2 ∧ a.toInt = 3) ∨ (p.toInt = 4 ∧ a.toInt = 5)) : hgV p = hgV a - 1 := by
  unfold hgV
  rcases hp with ⟨h, h2 | h2⟩ | ⟨h, h2⟩ | ⟨h, h2⟩ | ⟨h, h2⟩ <;> rw [h, h2] <;> decide
theorem bk_0 {c : Int32} (c0 : 0 ≤ c.toInt) (c3 : c.toInt ≤ 3) {a : Int32} (ha : a.toInt = 0) : (bKi a c).toInt ≠ 0 := by
  obtain rfl : a = 0 := k_inj (ha.trans (by decide))
  rcases bc_of c0 c3 with rfl | rfl | rfl | rfl <;> decide
def mSV (m : Int32) : Int32 := if m.toInt < 40 then m + 1 else m
def gSV (m : Int32) (g : Nat → Int32) (b : Int32) : Nat → Int32 := if m.toInt < 40 then upd g m.toInt.toNat b else g
def voB (n w kd : Int32) : Nat → Int32 → Int32 → Int32 → Int32 → (Nat → Int32) → Int32 × Int32 × (Nat → Int32)
  | 0, _, _, _, m, g => (0, m, g)
  | k + 1, fr, act, x, m, g =>
    if (bdV fr act).toInt = 10 then (x - n, mSV m, gSV m g (bdV fr act))
    else if (bdV fr act).toInt = 11 then ((voB n w kd k kd 0 x (mSV m) (gSV m g (bdV fr act))).1 + w, (voB n w kd k kd 0 x (mSV m) (gSV m g (bdV fr act))).2)
    else if (bdV fr act).toInt = 12 then ((voB n w kd k kd 1 x (mSV m) (gSV m g (bdV fr act))).1 * 2, (voB n w kd k kd 1 x (mSV m) (gSV m g (bdV fr act))).2)
    else if (bdV fr act).toInt = 13 then ((voB n w kd k kd 2 x (mSV m) (gSV m g (bdV fr act))).1 ^^^ (voB n w kd k kd 0 x (voB n w kd k kd 2 x (mSV m) (gSV m g (bdV fr act))).2.1 (voB n w kd k kd 2 x (mSV m) (gSV m g (bdV fr act))).2.2).1, (voB n w kd k kd 0 x (voB n w kd k kd 2 x (mSV m) (gSV m g (bdV fr act))).2.1 (voB n w kd k kd 2 x (mSV m) (gSV m g (bdV fr act))).2.2).2)
    else if (bdV fr act).toInt = 20 then ((voB n w kd k 0 1 (x + 1) (mSV m) (gSV m g (bdV fr act))).1, (voB n w kd k 0 1 (x + 1) (mSV m) (gSV m g (bdV fr act))).2)
    else if (bdV fr act).toInt = 21 then ((voB n w kd k 0 3 x (mSV m) (gSV m g (bdV fr act))).1 - n, (voB n w kd k 0 3 x (mSV m) (gSV m g (bdV fr act))).2)
    else if (bdV fr act).toInt = 30 then ((voB n w kd k 1 0 x (mSV m) (gSV m g (bdV fr act))).1 * 3, (voB n w kd k 1 0 x (mSV m) (gSV m g (bdV fr act))).2)
    else if (bdV fr act).toInt = 31 then (0 - (voB n w kd k 1 2 x (mSV m) (gSV m g (bdV fr act))).1, (voB n w kd k 1 2 x (mSV m) (gSV m g (bdV fr act))).2)
    else if (bdV fr act).toInt = 40 then ((voB n w kd k 2 2 x (mSV m) (gSV m g (bdV fr act))).1 + (voB n w kd k kd 0 w (voB n w kd k 2 2 x (mSV m) (gSV m g (bdV fr act))).2.1 (voB n w kd k 2 2 x (mSV m) (gSV m g (bdV fr act))).2.2).1, (voB n w kd k kd 0 w (voB n w kd k 2 2 x (mSV m) (gSV m g (bdV fr act))).2.1 (voB n w kd k 2 2 x (mSV m) (gSV m g (bdV fr act))).2.2).2)
    else if (bdV fr act).toInt = 41 then ((voB n w kd k 2 3 x (mSV m) (gSV m g (bdV fr act))).1 ^^^ (voB n w kd k kd 1 n (voB n w kd k 2 3 x (mSV m) (gSV m g (bdV fr act))).2.1 (voB n w kd k 2 3 x (mSV m) (gSV m g (bdV fr act))).2.2).1, (voB n w kd k kd 1 n (voB n w kd k 2 3 x (mSV m) (gSV m g (bdV fr act))).2.1 (voB n w kd k 2 3 x (mSV m) (gSV m g (bdV fr act))).2.2).2)
    else if (bdV fr act).toInt = 50 then ((voB n w kd k 0 0 x (mSV m) (gSV m g (bdV fr act))).1 + w, (voB n w kd k 0 0 x (mSV m) (gSV m g (bdV fr act))).2)
    else if (bdV fr act).toInt = 51 then ((voB n w kd k 0 2 x (mSV m) (gSV m g (bdV fr act))).1 - (voB n w kd k kd 0 1 (voB n w kd k 0 2 x (mSV m) (gSV m g (bdV fr act))).2.1 (voB n w kd k 0 2 x (mSV m) (gSV m g (bdV fr act))).2.2).1, (voB n w kd k kd 0 1 (voB n w kd k 0 2 x (mSV m) (gSV m g (bdV fr act))).2.1 (voB n w kd k 0 2 x (mSV m) (gSV m g (bdV fr act))).2.2).2)
    else if (bdV fr act).toInt = 60 then ((voB n w kd k 4 1 x (mSV m) (gSV m g (bdV fr act))).1 * w, (voB n w kd k 4 1 x (mSV m) (gSV m g (bdV fr act))).2)
    else (0 - (voB n w kd k 4 3 x (mSV m) (gSV m g (bdV fr act))).1, (voB n w kd k 4 3 x (mSV m) (gSV m g (bdV fr act))).2)
theorem vo_10 {n w kd fr act x m m1 b v  : Int32} {g g1  : Nat → Int32} {k : Nat} (eb : b = bdV fr act) (hb : b.toInt = 10) (hm : m1 = mSV m) (hg : g1 = gSV m g b) (e : v = x - n) : voB n w kd (k + 1) fr act x m g = (v, m1, g1) := by
  subst eb hm hg e
  rw [voB, if_pos hb]
theorem vo_11 {n w kd fr act x m m1 b v r1 n1 : Int32} {g g1 s1 : Nat → Int32} {k : Nat} (eb : b = bdV fr act) (hb : b.toInt = 11) (hm : m1 = mSV m) (hg : g1 = gSV m g b) (h1 : voB n w kd k kd 0 x m1 g1 = (r1, n1, s1)) (e : v = r1 + w) : voB n w kd (k + 1) fr act x m g = (v, n1, s1) := by
  subst eb hm hg e
  rw [voB, if_neg (by omega), if_pos hb, h1]
theorem vo_12 {n w kd fr act x m m1 b v r1 n1 : Int32} {g g1 s1 : Nat → Int32} {k : Nat} (eb : b = bdV fr act) (hb : b.toInt = 12) (hm : m1 = mSV m) (hg : g1 = gSV m g b) (h1 : voB n w kd k kd 1 x m1 g1 = (r1, n1, s1)) (e : v = r1 * 2) : voB n w kd (k + 1) fr act x m g = (v, n1, s1) := by
  subst eb hm hg e
  rw [voB, if_neg (by omega), if_neg (by omega), if_pos hb, h1]
theorem vo_13 {n w kd fr act x m m1 b v r1 n1 r2 n2 : Int32} {g g1 s1 s2 : Nat → Int32} {k : Nat} (eb : b = bdV fr act) (hb : b.toInt = 13) (hm : m1 = mSV m) (hg : g1 = gSV m g b) (h1 : voB n w kd k kd 2 x m1 g1 = (r1, n1, s1)) (h2 : voB n w kd k kd 0 x n1 s1 = (r2, n2, s2)) (e : v = r1 ^^^ r2) : voB n w kd (k + 1) fr act x m g = (v, n2, s2) := by
  subst eb hm hg e
  rw [voB, if_neg (by omega), if_neg (by omega), if_neg (by omega), if_pos hb, h1]; dsimp only; rw [h2]
theorem vo_20 {n w kd fr act x m m1 b v r1 n1 : Int32} {g g1 s1 : Nat → Int32} {k : Nat} (eb : b = bdV fr act) (hb : b.toInt = 20) (hm : m1 = mSV m) (hg : g1 = gSV m g b) (h1 : voB n w kd k 0 1 (x + 1) m1 g1 = (r1, n1, s1)) (e : v = r1) : voB n w kd (k + 1) fr act x m g = (v, n1, s1) := by
  subst eb hm hg e
  rw [voB, if_neg (by omega), if_neg (by omega), if_neg (by omega), if_neg (by omega), if_pos hb, h1]
theorem vo_21 {n w kd fr act x m m1 b v r1 n1 : Int32} {g g1 s1 : Nat → Int32} {k : Nat} (eb : b = bdV fr act) (hb : b.toInt = 21) (hm : m1 = mSV m) (hg : g1 = gSV m g b) (h1 : voB n w kd k 0 3 x m1 g1 = (r1, n1, s1)) (e : v = r1 - n) : voB n w kd (k + 1) fr act x m g = (v, n1, s1) := by
  subst eb hm hg e
  rw [voB, if_neg (by omega), if_neg (by omega), if_neg (by omega), if_neg (by omega), if_neg (by omega), if_pos hb, h1]
theorem vo_30 {n w kd fr act x m m1 b v r1 n1 : Int32} {g g1 s1 : Nat → Int32} {k : Nat} (eb : b = bdV fr act) (hb : b.toInt = 30) (hm : m1 = mSV m) (hg : g1 = gSV m g b) (h1 : voB n w kd k 1 0 x m1 g1 = (r1, n1, s1)) (e : v = r1 * 3) : voB n w kd (k + 1) fr act x m g = (v, n1, s1) := by
  subst eb hm hg e
  rw [voB, if_neg (by omega), if_neg (by omega), if_neg (by omega), if_neg (by omega), if_neg (by omega), if_neg (by omega), if_pos hb, h1]
theorem vo_31 {n w kd fr act x m m1 b v r1 n1 : Int32} {g g1 s1 : Nat → Int32} {k : Nat} (eb : b = bdV fr act) (hb : b.toInt = 31) (hm : m1 = mSV m) (hg : g1 = gSV m g b) (h1 : voB n w kd k 1 2 x m1 g1 = (r1, n1, s1)) (e : v = 0 - r1) : voB n w kd (k + 1) fr act x m g = (v, n1, s1) := by
  subst eb hm hg e
  rw [voB, if_neg (by omega), if_neg (by omega), if_neg (by omega), if_neg (by omega), if_neg (by omega), if_neg (by omega), if_neg (by omega), if_pos hb, h1]
theorem vo_40 {n w kd fr act x m m1 b v r1 n1 r2 n2 : Int32} {g g1 s1 s2 : Nat → Int32} {k : Nat} (eb : b = bdV fr act) (hb : b.toInt = 40) (hm : m1 = mSV m) (hg : g1 = gSV m g b) (h1 : voB n w kd k 2 2 x m1 g1 = (r1, n1, s1)) (h2 : voB n w kd k kd 0 w n1 s1 = (r2, n2, s2)) (e : v = r1 + r2) : voB n w kd (k + 1) fr act x m g = (v, n2, s2) := by
  subst eb hm hg e
  rw [voB, if_neg (by omega), if_neg (by omega), if_neg (by omega), if_neg (by omega), if_neg (by omega), if_neg (by omega), if_neg (by omega), if_neg (by omega), if_pos hb, h1]; dsimp only; rw [h2]
theorem vo_41 {n w kd fr act x m m1 b v r1 n1 r2 n2 : Int32} {g g1 s1 s2 : Nat → Int32} {k : Nat} (eb : b = bdV fr act) (hb : b.toInt = 41) (hm : m1 = mSV m) (hg : g1 = gSV m g b) (h1 : voB n w kd k 2 3 x m1 g1 = (r1, n1, s1)) (h2 : voB n w kd k kd 1 n n1 s1 = (r2, n2, s2)) (e : v = r1 ^^^ r2) : voB n w kd (k + 1) fr act x m g = (v, n2, s2) := by
  subst eb hm hg e
  rw [voB, if_neg (by omega), if_neg (by omega), if_neg (by omega), if_neg (by omega), if_neg (by omega), if_neg (by omega), if_neg (by omega), if_neg (by omega), if_neg (by omega), if_pos hb, h1]; dsimp only; rw [h2]
theorem vo_50 {n w kd fr act x m m1 b v r1 n1 : Int32} {g g1 s1 : Nat → Int32} {k : Nat} (eb : b = bdV fr act) (hb : b.toInt = 50) (hm : m1 = mSV m) (hg : g1 = gSV m g b) (h1 : voB n w kd k 0 0 x m1 g1 = (r1, n1, s1)) (e : v = r1 + w) : voB n w kd (k + 1) fr act x m g = (v, n1, s1) := by
  subst eb hm hg e
  rw [voB, if_neg (by omega), if_neg (by omega), if_neg (by omega), if_neg (by omega), if_neg (by omega), if_neg (by omega), if_neg (by omega), if_neg (by omega), if_neg (by omega), if_neg (by omega), if_pos hb, h1]
theorem vo_51 {n w kd fr act x m m1 b v r1 n1 r2 n2 : Int32} {g g1 s1 s2 : Nat → Int32} {k : Nat} (eb : b = bdV fr act) (hb : b.toInt = 51) (hm : m1 = mSV m) (hg : g1 = gSV m g b) (h1 : voB n w kd k 0 2 x m1 g1 = (r1, n1, s1)) (h2 : voB n w kd k kd 0 1 n1 s1 = (r2, n2, s2)) (e : v = r1 - r2) : voB n w kd (k + 1) fr act x m g = (v, n2, s2) := by
  subst eb hm hg e
  rw [voB, if_neg (by omega), if_neg (by omega), if_neg (by omega), if_neg (by omega), if_neg (by omega), if_neg (by omega), if_neg (by omega), if_neg (by omega), if_neg (by omega), if_neg (by omega), if_neg (by omega), if_pos hb, h1]; dsimp only; rw [h2]
theorem vo_60 {n w kd fr act x m m1 b v r1 n1 : Int32} {g g1 s1 : Nat → Int32} {k : Nat} (eb : b = bdV fr act) (hb : b.toInt = 60) (hm : m1 = mSV m) (hg : g1 = gSV m g b) (h1 : voB n w kd k 4 1 x m1 g1 = (r1, n1, s1)) (e : v = r1 * w) : voB n w kd (k + 1) fr act x m g = (v, n1, s1) := by
  subst eb hm hg e
  rw [voB, if_neg (by omega), if_neg (by omega), if_neg (by omega), if_neg (by omega), if_neg (by omega), if_neg (by omega), if_neg (by omega), if_neg (by omega), if_neg (by omega), if_neg (by omega), if_neg (by omega), if_neg (by omega), if_pos hb, h1]
theorem vo_61 {n w kd fr act x m m1 b v r1 n1 : Int32} {g g1 s1 : Nat → Int32} {k : Nat} (eb : b = bdV fr act) (hb : b.toInt = 61) (hm : m1 = mSV m) (hg : g1 = gSV m g b) (h1 : voB n w kd k 4 3 x m1 g1 = (r1, n1, s1)) (e : v = 0 - r1) : voB n w kd (k + 1) fr act x m g = (v, n1, s1) := by
  subst eb hm hg e
  rw [voB, if_neg (by omega), if_neg (by omega), if_neg (by omega), if_neg (by omega), if_neg (by omega), if_neg (by omega), if_neg (by omega), if_neg (by omega), if_neg (by omega), if_neg (by omega), if_neg (by omega), if_neg (by omega), if_neg (by omega), h1]
theorem bd_ret {j : Nat} {v a c a1 : Int32} (e : v = bodL.getD j 0) (a0 : 0 ≤ a.toInt) (a5 : a.toInt ≤ 5) (c0 : 0 ≤ c.toInt) (c3 : c.toInt ≤ 3) (hj : (j : Int) = 4 * a.toInt + c.toInt) (h : v.toInt ≠ 0) (i : bdV a c = bdV a1 c) : v = bdV a1 c := by
  rw [← i]; exact (bd_own (bod_at e a0 a5 c0 c3 hj).symm h).symm
theorem bd_in2 {a c b : Int32} (e : b = bdV a c) (a0 : 0 ≤ a.toInt) (a5 : a.toInt ≤ 5) (c0 : 0 ≤ c.toInt) (c3 : c.toInt ≤ 3) : (b.toInt = 10 ∧ c.toInt = 0) ∨ (b.toInt = 11 ∧ c.toInt = 1) ∨ (b.toInt = 12 ∧ c.toInt = 2) ∨ (b.toInt = 13 ∧ c.toInt = 3) ∨ (b.toInt = 20 ∧ c.toInt = 1 ∧ 1 ≤ a.toInt) ∨ (b.toInt = 21 ∧ c.toInt = 3 ∧ 1 ≤ a.toInt) ∨ (b.toInt = 30 ∧ c.toInt = 0 ∧ 2 ≤ a.toInt) ∨ (b.toInt = 31 ∧ c.toInt = 2 ∧ 2 ≤ a.toInt) ∨ (b.toInt = 40 ∧ c.toInt = 2 ∧ a.toInt = 3) ∨ (b.toInt = 41 ∧ c.toInt = 3 ∧ a.toInt = 3) ∨ (b.toInt = 50 ∧ c.toInt = 0 ∧ 4 ≤ a.toInt) ∨ (b.toInt = 51 ∧ c.toInt = 2 ∧ 4 ≤ a.toInt) ∨ (b.toInt = 60 ∧ c.toInt = 1 ∧ a.toInt = 5) ∨ (b.toInt = 61 ∧ c.toInt = 3 ∧ a.toInt = 5) := by
  rw [e]; exact bd_in a0 a5 c0 c3
theorem bd_bk {a c : Int32} {n : Int} (h : (bKi a c).toInt = n) {b : Int32} (hb : b.toInt = n) : bKi a c = b := k_inj (h.trans hb.symm)
theorem i_zsub (x : Int32) : 0 - x = -x := by rw [Int32.sub_eq_add_neg, Int32.zero_add]
/- two TRACES that are alike as far as they are told -/
def agV (p q : Int32 × Int32 × (Nat → Int32)) : Prop := p.1 = q.1 ∧ p.2.1 = q.2.1 ∧ (0 ≤ p.2.1.toInt ∧ p.2.1.toInt ≤ 40) ∧ ∀ i : Nat, (i : Int) < p.2.1.toInt → p.2.2 i = q.2.2 i
theorem ag_ite {c : Prop} [Decidable c] {p q r s : Int32 × Int32 × (Nat → Int32)} (h1 : c → agV p r) (h2 : ¬ c → agV q s) : agV (if c then p else q) (if c then r else s) := by
  split
  · exact h1 ‹_›
  · exact h2 ‹_›
theorem ag_map {p q : Int32 × Int32 × (Nat → Int32)} (f : Int32 → Int32) (h : agV p q) : agV (f p.1, p.2) (f q.1, q.2) := ⟨congrArg f h.1, h.2⟩
theorem ag_map2 {p q r s : Int32 × Int32 × (Nat → Int32)} (f : Int32 → Int32 → Int32) (h : agV p q) (h2 : agV r s) : agV (f p.1 r.1, r.2) (f q.1 s.1, s.2) := ⟨by show f p.1 r.1 = f q.1 s.1; rw [h.1, h2.1], h2.2⟩
theorem ag_bg {m : Int32} {g h : Nat → Int32} (h0 : 0 ≤ m.toInt) (h1 : m.toInt ≤ 40) (e : ∀ i : Nat, (i : Int) < m.toInt → g i = h i) (b : Int32) : (0 ≤ (mSV m).toInt ∧ (mSV m).toInt ≤ 40) ∧ ∀ i : Nat, (i : Int) < (mSV m).toInt → gSV m g b i = gSV m h b i := by
  unfold mSV gSV
  by_cases c : m.toInt < 40
  · rw [if_pos c, if_pos c, if_pos c]
    have t : (m + 1).toInt = m.toInt + 1 := k_addv rfl (by decide) (by omega) (by omega)
    refine ⟨⟨by omega, by omega⟩, fun i hi => ?_⟩
    by_cases z : i = m.toInt.toNat
    · rw [z, sp_at, sp_at]
    · rw [sp_ne z, sp_ne z]; exact e i (by omega)
  · rw [if_neg c, if_neg c, if_neg c]; exact ⟨⟨h0, h1⟩, e⟩
theorem voB_ag (n w kd : Int32) : ∀ (k : Nat) (fr act x m : Int32) (g h : Nat → Int32), 0 ≤ m.toInt → m.toInt ≤ 40 → (∀ i : Nat, (i : Int) < m.toInt → g i = h i) → agV (voB n w kd k fr act x m g) (voB n w kd k fr act x m h) := by
  intro k
  induction k with
  | zero => intro fr act x m g h h0 h1 e; exact ⟨rfl, rfl, ⟨h0, h1⟩, e⟩
  | succ k ih =>
    intro fr act x m g h h0 h1 e
    obtain ⟨⟨a0, a1⟩, a2⟩ := ag_bg h0 h1 e (bdV fr act)
    have one : ∀ fr' act' x', agV (voB n w kd k fr' act' x' (mSV m) (gSV m g (bdV fr act))) (voB n w kd k fr' act' x' (mSV m) (gSV m h (bdV fr act))) := fun fr' act' x' => ih fr' act' x' _ _ _ a0 a1 a2
    have two : ∀ fr' act' x' fr2 act2 x2, agV (voB n w kd k fr2 act2 x2 (voB n w kd k fr' act' x' (mSV m) (gSV m g (bdV fr act))).2.1 (voB n w kd k fr' act' x' (mSV m) (gSV m g (bdV fr act))).2.2) (voB n w kd k fr2 act2 x2 (voB n w kd k fr' act' x' (mSV m) (gSV m h (bdV fr act))).2.1 (voB n w kd k fr' act' x' (mSV m) (gSV m h (bdV fr act))).2.2) := by
      intro fr' act' x' fr2 act2 x2
      have z := one fr' act' x'
      rw [← z.2.1]
      exact ih fr2 act2 x2 _ _ _ z.2.2.1.1 z.2.2.1.2 z.2.2.2
    rw [voB, voB]
    refine ag_ite (fun _ => ⟨rfl, rfl, ⟨a0, a1⟩, a2⟩) (fun _ => ?_)
    refine ag_ite (fun _ => ag_map (fun y => y + w) (one kd 0 x)) (fun _ => ?_)
    refine ag_ite (fun _ => ag_map (fun y => y * 2) (one kd 1 x)) (fun _ => ?_)
    refine ag_ite (fun _ => ag_map2 (fun y z => y ^^^ z) (one kd 2 x) (two kd 2 x kd 0 x)) (fun _ => ?_)
    refine ag_ite (fun _ => one 0 1 (x + 1)) (fun _ => ?_)
    refine ag_ite (fun _ => ag_map (fun y => y - n) (one 0 3 x)) (fun _ => ?_)
    refine ag_ite (fun _ => ag_map (fun y => y * 3) (one 1 0 x)) (fun _ => ?_)
    refine ag_ite (fun _ => ag_map (fun y => 0 - y) (one 1 2 x)) (fun _ => ?_)
    refine ag_ite (fun _ => ag_map2 (fun y z => y + z) (one 2 2 x) (two 2 2 x kd 0 w)) (fun _ => ?_)
    refine ag_ite (fun _ => ag_map2 (fun y z => y ^^^ z) (one 2 3 x) (two 2 3 x kd 1 n)) (fun _ => ?_)
    refine ag_ite (fun _ => ag_map (fun y => y + w) (one 0 0 x)) (fun _ => ?_)
    refine ag_ite (fun _ => ag_map2 (fun y z => y - z) (one 0 2 x) (two 0 2 x kd 0 1)) (fun _ => ?_)
    refine ag_ite (fun _ => ag_map (fun y => y * w) (one 4 1 x)) (fun _ => ?_)
    exact ag_map (fun y => 0 - y) (one 4 3 x)
