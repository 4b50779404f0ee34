/-! what calls tell and leave, as functions of rows: alike for both sides -/
theorem sp_at {f : Nat → Int32} {i : Nat} {x : Int32} : upd f i x i = x := by unfold upd; rw [if_pos rfl]
theorem sp_ne {f : Nat → Int32} {i j : Nat} {x : Int32} (h : j ≠ i) : upd f i x j = f j := by unfold upd; rw [if_neg h]
theorem rd_in {f : Nat → Int32} {v x : Int32} {k : Nat} (e : v = f x.toNatClampNeg) (t : x.toInt.toNat = k) : v = f k := by
  rw [e, k_clamp, t]
theorem up_in {f g : Nat → Int32} {v x : Int32} {k : Nat} (e : g = upd f x.toNatClampNeg v) (t : x.toInt.toNat = k) : g = upd f k v := by
  rw [e, k_clamp, t]
theorem sp_ofN {x : Int32} (h : 0 ≤ x.toInt) : Int32.ofNat x.toInt.toNat = x := by
  apply k_inj
  have h1 := k_hi x
  exact (nI_toInt (n := x.toInt.toNat) (by omega)).trans (by omega)
/-- n places of g from p on are those of x from q on -/
def VW (n p : Nat) (g : Nat → Int32) (q : Nat) (x : Nat → Int32) : Prop := ∀ j : Nat, j < n → g (p + j) = x (q + j)
theorem VW.put {n p q : Nat} {g x : Nat → Int32} (h : VW n p g q x) (i : Nat) (v : Int32) : VW n p (upd g (p + i) v) q (upd x (q + i) v) := by
  intro j hj
  by_cases e : j = i
  · rw [e, sp_at, sp_at]
  · rw [sp_ne (show p + j ≠ p + i from by omega), sp_ne (show q + j ≠ q + i from by omega)]; exact h j hj
theorem VW.off {n p q i : Nat} {g x : Nat → Int32} (h : VW n p g q x) (v : Int32) (hi : i < q ∨ q + n ≤ i) : VW n p g q (upd x i v) := by
  intro j hj
  rw [sp_ne (show q + j ≠ i from by omega)]; exact h j hj
-- rain
def rainR (k : Nat) (g : Nat → Int32) (a v : Int32) : Int32 := if 0 ≤ a.toInt ∧ a.toInt ≤ 11 ∧ 0 ≤ v.toInt ∧ v.toInt ≤ 9 then g (k + a.toInt.toNat) else (-1000001)
def rainS (k : Nat) (g : Nat → Int32) (a v : Int32) : Nat → Int32 := if 0 ≤ a.toInt ∧ a.toInt ≤ 11 ∧ 0 ≤ v.toInt ∧ v.toInt ≤ 9 then upd g (k + a.toInt.toNat) v else g
theorem rainR_eq {p q : Nat} {g x : Nat → Int32} (h : VW 12 p g q x) (a v : Int32) : rainR p g a v = rainR q x a v := by
  unfold rainR
  by_cases c : 0 ≤ a.toInt ∧ a.toInt ≤ 11 ∧ 0 ≤ v.toInt ∧ v.toInt ≤ 9
  · rw [if_pos c, if_pos c]; exact h _ (by omega)
  · rw [if_neg c, if_neg c]
theorem rainS_vw {p q : Nat} {g x : Nat → Int32} (h : VW 12 p g q x) (a v : Int32) : VW 12 p (rainS p g a v) q (rainS q x a v) := by
  unfold rainS
  by_cases c : 0 ≤ a.toInt ∧ a.toInt ≤ 11 ∧ 0 ≤ v.toInt ∧ v.toInt ≤ 9
  · rw [if_pos c, if_pos c]; exact h.put _ _
  · rw [if_neg c, if_neg c]; exact h
theorem rainS_off {q : Nat} {x : Nat → Int32} (a v : Int32) {j : Nat} (hj : j < q ∨ q + 12 ≤ j) : rainS q x a v j = x j := by
  unfold rainS
  by_cases c : 0 ≤ a.toInt ∧ a.toInt ≤ 11 ∧ 0 ≤ v.toInt ∧ v.toInt ≤ 9
  · rw [if_pos c]; exact sp_ne (by omega)
  · rw [if_neg c]
-- land
def landR (p : Nat) (f : Nat → Int32) (q : Nat) (g : Nat → Int32) (a b d : Int32) : Int32 := if 0 ≤ a.toInt ∧ a.toInt ≤ 39 ∧ 0 ≤ b.toInt ∧ b.toInt ≤ 2 ∧ 0 ≤ d.toInt ∧ d.toInt ≤ 99 then 100 * f (p + a.toInt.toNat) + g (q + a.toInt.toNat) else (-1000001)
def landS (p : Nat) (f : Nat → Int32) (a b d v : Int32) : Nat → Int32 := if 0 ≤ a.toInt ∧ a.toInt ≤ 39 ∧ 0 ≤ b.toInt ∧ b.toInt ≤ 2 ∧ 0 ≤ d.toInt ∧ d.toInt ≤ 99 then upd f (p + a.toInt.toNat) v else f
theorem landR_eq {p q p1 q1 : Nat} {f g x y : Nat → Int32} (h : VW 40 p f p1 x) (h1 : VW 40 q g q1 y) (a b d : Int32) : landR p f q g a b d = landR p1 x q1 y a b d := by
  unfold landR
  by_cases c : 0 ≤ a.toInt ∧ a.toInt ≤ 39 ∧ 0 ≤ b.toInt ∧ b.toInt ≤ 2 ∧ 0 ≤ d.toInt ∧ d.toInt ≤ 99
  · rw [if_pos c, if_pos c, h _ (by omega), h1 _ (by omega)]
  · rw [if_neg c, if_neg c]
theorem landS_vw {p q : Nat} {f x : Nat → Int32} (h : VW 40 p f q x) (a b d v : Int32) : VW 40 p (landS p f a b d v) q (landS q x a b d v) := by
  unfold landS
  by_cases c : 0 ≤ a.toInt ∧ a.toInt ≤ 39 ∧ 0 ≤ b.toInt ∧ b.toInt ≤ 2 ∧ 0 ≤ d.toInt ∧ d.toInt ≤ 99
  · rw [if_pos c, if_pos c]; exact h.put _ _
  · rw [if_neg c, if_neg c]; exact h
theorem landS_off {q : Nat} {x : Nat → Int32} (a b d v : Int32) {j : Nat} (hj : j < q ∨ q + 40 ≤ j) : landS q x a b d v j = x j := by
  unfold landS
  by_cases c : 0 ≤ a.toInt ∧ a.toInt ≤ 39 ∧ 0 ≤ b.toInt ∧ b.toInt ≤ 2 ∧ 0 ≤ d.toInt ∧ d.toInt ≤ 99
  · rw [if_pos c]; exact sp_ne (by omega)
  · rw [if_neg c]
/-! what a SHEET tells at a place -/
def kNum (len num : Nat → Int32) (h i : Int32) : Int32 := if 0 ≤ h.toInt ∧ h.toInt ≤ 3 ∧ 0 ≤ i.toInt ∧ i.toInt ≤ 35 ∧ i.toInt < (len h.toNatClampNeg).toInt then num (36 * h.toInt.toNat + i.toInt.toNat) else 0
theorem kNum_in {len num : Nat → Int32} {h i v x : Int32} (h0 : 0 ≤ h.toInt) (h1 : h.toInt ≤ 3) (h2 : 0 ≤ i.toInt) (h3 : i.toInt ≤ 35) (h4 : i.toInt < (len h.toNatClampNeg).toInt) (e : v = num x.toNatClampNeg) (t : x.toInt = 36 * h.toInt + i.toInt) : v = kNum len num h i := by
  unfold kNum
  rw [if_pos ⟨h0, h1, h2, h3, h4⟩, e, k_clamp, show x.toInt.toNat = 36 * h.toInt.toNat + i.toInt.toNat from by omega]
theorem kNum_out {len num : Nat → Int32} {h i : Int32} (hz : h.toInt < 0 ∨ 3 < h.toInt ∨ i.toInt < 0 ∨ 35 < i.toInt ∨ (len h.toNatClampNeg).toInt ≤ i.toInt) : 0 = kNum len num h i := by
  unfold kNum
  rw [if_neg (by omega)]
-- what a SHEET tells
def shv (num : Nat → Int32) (a : Int32) : Nat → Int32 := fun j => num (36 * a.toInt.toNat + j)
def allB (v : Nat → Int32) (lo hi : Int) : Nat → Bool
  | 0 => true
  | n + 1 => allB v lo hi n && decide (lo ≤ (v n).toInt ∧ (v n).toInt ≤ hi)
def cntB (v : Nat → Int32) : Nat → Int32
  | 0 => 0
  | n + 1 => if 0 ≤ (v n).toInt then cntB v n + 1 else cntB v n
def soW (f : Nat → Int32) (d : Nat) (v : Nat → Int32) : Nat → (Nat → Int32)
  | 0 => f
  | n + 1 => if 0 ≤ (v n).toInt then upd (soW f d v n) (d + n) (v n) else soW f d v n
theorem kNum_shv {len num : Nat → Int32} {h i : Int32} (h0 : 0 ≤ h.toInt) (h1 : h.toInt ≤ 3) (h2 : 0 ≤ i.toInt) (h3 : i.toInt ≤ 35) (h4 : i.toInt < (len h.toNatClampNeg).toInt) : kNum len num h i = shv num h i.toInt.toNat := by
  unfold kNum
  rw [if_pos ⟨h0, h1, h2, h3, h4⟩]; rfl
theorem allB_step {v : Nat → Int32} {lo hi : Int} {i i1 x : Int32} (h : allB v lo hi i.toInt.toNat = true) (h0 : 0 ≤ i.toInt) (h1 : i1.toInt = i.toInt + 1) (hx : x = v i.toInt.toNat) (hl : lo ≤ x.toInt) (hh : x.toInt ≤ hi) : allB v lo hi i1.toInt.toNat = true := by
  rw [show i1.toInt.toNat = i.toInt.toNat + 1 from by omega]
  show (allB v lo hi i.toInt.toNat && decide (lo ≤ (v i.toInt.toNat).toInt ∧ (v i.toInt.toNat).toInt ≤ hi)) = true
  rw [h, ← hx, decide_eq_true ⟨hl, hh⟩] <;> rfl
theorem allB_le {v : Nat → Int32} {lo hi : Int} {i : Nat} : ∀ n : Nat, i < n → ¬ (lo ≤ (v i).toInt ∧ (v i).toInt ≤ hi) → allB v lo hi n = false := by
  intro n
  induction n with
  | zero => intro h; exact absurd h (by omega)
  | succ n ih =>
    intro h hb
    show (allB v lo hi n && decide (lo ≤ (v n).toInt ∧ (v n).toInt ≤ hi)) = false
    by_cases e : i = n
    · subst e; rw [decide_eq_false hb, Bool.and_false]
    · rw [ih (by omega) hb, Bool.false_and]
theorem allB_no {v : Nat → Int32} {lo hi : Int} {i n x : Int32} (h0 : 0 ≤ i.toInt) (hn : i.toInt < n.toInt) (hx : x = v i.toInt.toNat) (hb : x.toInt < lo ∨ hi < x.toInt) : allB v lo hi n.toInt.toNat = false :=
  allB_le (i := i.toInt.toNat) _ (by omega) (by rw [← hx]; omega)
theorem allB_all {v : Nat → Int32} {lo hi : Int} : ∀ n : Nat, allB v lo hi n = true → ∀ i : Nat, i < n → lo ≤ (v i).toInt ∧ (v i).toInt ≤ hi := by
  intro n h i hi1
  by_cases c : lo ≤ (v i).toInt ∧ (v i).toInt ≤ hi
  · exact c
  · rw [allB_le n hi1 c] at h; exact absurd h (by decide)
theorem allB_eq {v w : Nat → Int32} {lo hi : Int} : ∀ n : Nat, (∀ j : Nat, j < n → v j = w j) → allB v lo hi n = allB w lo hi n := by
  intro n
  induction n with
  | zero => intro _; rfl
  | succ n ih =>
    intro h
    show (allB v lo hi n && decide (lo ≤ (v n).toInt ∧ (v n).toInt ≤ hi)) = (allB w lo hi n && decide (lo ≤ (w n).toInt ∧ (w n).toInt ≤ hi))
    rw [ih (fun j hj => h j (by omega)), h n (by omega)]
theorem cntB_eq {v w : Nat → Int32} : ∀ n : Nat, (∀ j : Nat, j < n → v j = w j) → cntB v n = cntB w n := by
  intro n
  induction n with
  | zero => intro _; rfl
  | succ n ih =>
    intro h
    show (if 0 ≤ (v n).toInt then cntB v n + 1 else cntB v n) = (if 0 ≤ (w n).toInt then cntB w n + 1 else cntB w n)
    rw [ih (fun j hj => h j (by omega)), h n (by omega)]
theorem soW_vw {n p q d : Nat} {f x v w : Nat → Int32} (h : VW n p f q x) : ∀ k : Nat, (∀ j : Nat, j < k → v j = w j) → VW n p (soW f (p + d) v k) q (soW x (q + d) w k) := by
  intro k
  induction k with
  | zero => intro _; exact h
  | succ k ih =>
    intro he
    have z := ih (fun j hj => he j (by omega))
    show VW n p (if 0 ≤ (v k).toInt then upd (soW f (p + d) v k) (p + d + k) (v k) else soW f (p + d) v k) q (if 0 ≤ (w k).toInt then upd (soW x (q + d) w k) (q + d + k) (w k) else soW x (q + d) w k)
    rw [he k (by omega)]
    by_cases c : 0 ≤ (w k).toInt
    · rw [if_pos c, if_pos c, Nat.add_assoc, Nat.add_assoc]; exact z.put _ _
    · rw [if_neg c, if_neg c]; exact z
theorem soW_off {x w : Nat → Int32} {d : Nat} : ∀ (k : Nat) {j : Nat}, (j < d ∨ d + k ≤ j) → soW x d w k j = x j := by
  intro k
  induction k with
  | zero => intro j _; rfl
  | succ k ih =>
    intro j hj
    show (if 0 ≤ (w k).toInt then upd (soW x d w k) (d + k) (w k) else soW x d w k) j = x j
    by_cases c : 0 ≤ (w k).toInt
    · rw [if_pos c, sp_ne (by omega)]; exact ih (by omega)
    · rw [if_neg c]; exact ih (by omega)
/-- one number more: it is told -/
theorem so_yes {f g h v : Nat → Int32} {d : Nat} {i i1 x t t1 : Int32} (hg : g = soW f d v i.toInt.toNat) (ht : t = cntB v i.toInt.toNat) (h0 : 0 ≤ i.toInt) (h1 : i1.toInt = i.toInt + 1) (hx : x = v i.toInt.toNat) (hb : 0 ≤ x.toInt) (e : h = upd g (d + i.toInt.toNat) x) (et : t1 = t + 1) : h = soW f d v i1.toInt.toNat ∧ t1 = cntB v i1.toInt.toNat := by
  rw [show i1.toInt.toNat = i.toInt.toNat + 1 from by omega]
  have c : 0 ≤ (v i.toInt.toNat).toInt := by rw [← hx]; exact hb
  constructor
  · show h = if 0 ≤ (v i.toInt.toNat).toInt then upd (soW f d v i.toInt.toNat) (d + i.toInt.toNat) (v i.toInt.toNat) else soW f d v i.toInt.toNat
    rw [if_pos c, e, hg, hx]
  · show t1 = if 0 ≤ (v i.toInt.toNat).toInt then cntB v i.toInt.toNat + 1 else cntB v i.toInt.toNat
    rw [if_pos c, et, ht]
theorem so_no {f g v : Nat → Int32} {d : Nat} {i i1 x t : Int32} (hg : g = soW f d v i.toInt.toNat) (ht : t = cntB v i.toInt.toNat) (h0 : 0 ≤ i.toInt) (h1 : i1.toInt = i.toInt + 1) (hx : x = v i.toInt.toNat) (hb : x.toInt < 0) : g = soW f d v i1.toInt.toNat ∧ t = cntB v i1.toInt.toNat := by
  rw [show i1.toInt.toNat = i.toInt.toNat + 1 from by omega]
  have c : ¬ 0 ≤ (v i.toInt.toNat).toInt := by rw [← hx]; omega
  constructor
  · show g = if 0 ≤ (v i.toInt.toNat).toInt then upd (soW f d v i.toInt.toNat) (d + i.toInt.toNat) (v i.toInt.toNat) else soW f d v i.toInt.toNat
    rw [if_neg c, hg]
  · show t = if 0 ≤ (v i.toInt.toNat).toInt then cntB v i.toInt.toNat + 1 else cntB v i.toInt.toNat
    rw [if_neg c, ht]
def soilR (b l num : Nat → Int32) (a m : Int32) : Int32 :=
  if 0 ≤ a.toInt ∧ a.toInt ≤ 3 ∧ 0 ≤ m.toInt ∧ m.toInt ≤ 39 then
    (if (b a.toNatClampNeg).toInt = 0 then (-1000002) else if 40 < m.toInt + (l a.toNatClampNeg).toInt then (-1000003)
     else if allB (shv num a) (-1) 2 (l a.toNatClampNeg).toInt.toNat = true then cntB (shv num a) (l a.toNatClampNeg).toInt.toNat else (-1000005))
  else (-1000001)
def soilS (p : Nat) (f b l num : Nat → Int32) (a m : Int32) : Nat → Int32 :=
  if 0 ≤ a.toInt ∧ a.toInt ≤ 3 ∧ 0 ≤ m.toInt ∧ m.toInt ≤ 39 then
    (if (b a.toNatClampNeg).toInt = 0 then f else if 40 < m.toInt + (l a.toNatClampNeg).toInt then f
     else if allB (shv num a) (-1) 2 (l a.toNatClampNeg).toInt.toNat = true then soW f (p + m.toInt.toNat) (shv num a) (l a.toNatClampNeg).toInt.toNat else f)
  else f
-- SHEETS of both sides
def SRL (b l n y z w : Nat → Int32) : Prop := (∀ k : Nat, k < 4 → b k = y k) ∧ (∀ k : Nat, k < 4 → l k = z k) ∧ (∀ k : Nat, k < 144 → n k = w k) ∧ (∀ k : Nat, k < 4 → (b k).toInt = 0 ∨ (b k).toInt = 8 ∨ (b k).toInt = 16 ∨ (b k).toInt = 32) ∧ (∀ k : Nat, k < 4 → 0 ≤ (l k).toInt ∧ (l k).toInt ≤ 36)
theorem SRL.v {b l n y z w : Nat → Int32} (h : SRL b l n y z w) {a : Int32} (h0 : 0 ≤ a.toInt) (h1 : a.toInt ≤ 3) {j : Nat} (hj : j < 36) : shv n a j = shv w a j := h.2.2.1 _ (by omega)
theorem SRL.l {b l n y z w : Nat → Int32} (h : SRL b l n y z w) {a : Int32} (h0 : 0 ≤ a.toInt) (h1 : a.toInt ≤ 3) : l a.toNatClampNeg = z a.toNatClampNeg := h.2.1 _ (by rw [k_clamp]; omega)
theorem SRL.b {b l n y z w : Nat → Int32} (h : SRL b l n y z w) {a : Int32} (h0 : 0 ≤ a.toInt) (h1 : a.toInt ≤ 3) : b a.toNatClampNeg = y a.toNatClampNeg := h.1 _ (by rw [k_clamp]; omega)
theorem SRL.le {b l n y z w : Nat → Int32} (h : SRL b l n y z w) {a : Int32} (h0 : 0 ≤ a.toInt) (h1 : a.toInt ≤ 3) : 0 ≤ (z a.toNatClampNeg).toInt ∧ (z a.toNatClampNeg).toInt ≤ 36 := by
  rw [← h.l h0 h1]; exact h.2.2.2.2 _ (by rw [k_clamp]; omega)
theorem soilR_eq {b l n y z w : Nat → Int32} (h : SRL b l n y z w) (a m : Int32) : soilR b l n a m = soilR y z w a m := by
  unfold soilR
  by_cases c : 0 ≤ a.toInt ∧ a.toInt ≤ 3 ∧ 0 ≤ m.toInt ∧ m.toInt ≤ 39
  · have hz := h.le c.1 c.2.1
    have hv : ∀ j : Nat, j < (z a.toNatClampNeg).toInt.toNat → shv n a j = shv w a j := fun j hj => h.v c.1 c.2.1 (by omega)
    rw [if_pos c, if_pos c, h.b c.1 c.2.1, h.l c.1 c.2.1, allB_eq _ hv, cntB_eq _ hv]
  · rw [if_neg c, if_neg c]
theorem soilS_vw {p q : Nat} {f x b l n y z w : Nat → Int32} (hf : VW 40 p f q x) (h : SRL b l n y z w) (a m : Int32) : VW 40 p (soilS p f b l n a m) q (soilS q x y z w a m) := by
  unfold soilS
  by_cases c : 0 ≤ a.toInt ∧ a.toInt ≤ 3 ∧ 0 ≤ m.toInt ∧ m.toInt ≤ 39
  · have hz := h.le c.1 c.2.1
    have hv : ∀ j : Nat, j < (z a.toNatClampNeg).toInt.toNat → shv n a j = shv w a j := fun j hj => h.v c.1 c.2.1 (by omega)
    rw [if_pos c, if_pos c, h.b c.1 c.2.1, h.l c.1 c.2.1, allB_eq _ hv]
    by_cases c1 : (y a.toNatClampNeg).toInt = 0
    · rw [if_pos c1, if_pos c1]; exact hf
    · rw [if_neg c1, if_neg c1]
      by_cases c2 : 40 < m.toInt + (z a.toNatClampNeg).toInt
      · rw [if_pos c2, if_pos c2]; exact hf
      · rw [if_neg c2, if_neg c2]
        by_cases c3 : allB (shv w a) (-1) 2 (z a.toNatClampNeg).toInt.toNat = true
        · rw [if_pos c3, if_pos c3]; exact soW_vw hf _ hv
        · rw [if_neg c3, if_neg c3]; exact hf
  · rw [if_neg c, if_neg c]; exact hf
theorem soilS_off {q : Nat} {x y z w : Nat → Int32} (a m : Int32) (hz : ∀ k : Nat, k < 4 → 0 ≤ (z k).toInt ∧ (z k).toInt ≤ 36) {j : Nat} (hj : j < q ∨ q + 40 ≤ j) : soilS q x y z w a m j = x j := by
  unfold soilS
  by_cases c : 0 ≤ a.toInt ∧ a.toInt ≤ 3 ∧ 0 ≤ m.toInt ∧ m.toInt ≤ 39
  · have hz := hz a.toNatClampNeg (by rw [k_clamp]; omega)
    rw [if_pos c]
    by_cases c1 : (y a.toNatClampNeg).toInt = 0
    · rw [if_pos c1]
    · rw [if_neg c1]
      by_cases c2 : 40 < m.toInt + (z a.toNatClampNeg).toInt
      · rw [if_pos c2]
      · rw [if_neg c2]
        by_cases c3 : allB (shv w a) (-1) 2 (z a.toNatClampNeg).toInt.toNat = true
        · rw [if_pos c3]; exact soW_off _ (by omega)
        · rw [if_neg c3]
  · rw [if_neg c]
-- parties, reach, days, what waits
def partyR (n a w e q : Int32) : Int32 := if 0 ≤ a.toInt ∧ a.toInt ≤ 39 ∧ (w.toInt = 1 ∨ w.toInt = -1) ∧ 0 ≤ q.toInt ∧ q.toInt ≤ 99 ∧ 100 ≤ e.toInt ∧ e.toInt / 100 ≤ 50 ∧ e.toInt % 100 ≤ 50 then (if n.toInt < 4 then n else (-1000004)) else (-1000001)
def partyN (n a w e q : Int32) : Int := if 0 ≤ a.toInt ∧ a.toInt ≤ 39 ∧ (w.toInt = 1 ∨ w.toInt = -1) ∧ 0 ≤ q.toInt ∧ q.toInt ≤ 99 ∧ 100 ≤ e.toInt ∧ e.toInt / 100 ≤ 50 ∧ e.toInt % 100 ≤ 50 ∧ n.toInt < 4 then n.toInt + 1 else n.toInt
def reachR (g v : Int32) : Int32 := if 1 ≤ v.toInt ∧ v.toInt ≤ 200 then g else (-1000001)
def reachN (g v : Int32) : Int32 := if 1 ≤ v.toInt ∧ v.toInt ≤ 200 then v else g
def daysR (d n : Int32) : Int := if 1 ≤ n.toInt ∧ n.toInt ≤ 200 ∧ d.toInt + n.toInt ≤ 2000 then d.toInt + n.toInt else (-1000001)
def daysN (d n : Int32) : Int := if 1 ≤ n.toInt ∧ n.toInt ≤ 200 ∧ d.toInt + n.toInt ≤ 2000 then d.toInt + n.toInt else d.toInt
def tellR (n : Int32) : Int := if n.toInt < 20 then n.toInt + 1 else (-1000004)
def tellN (n : Int32) : Int := if n.toInt < 20 then n.toInt + 1 else n.toInt
def restR (i d : Int32) : Int32 := if i.toInt = 0 then (-1000002) else d
-- sheets
def sp_sheet (a b d : Int32) : Int32 := if 0 ≤ a.toInt ∧ a.toInt ≤ 3 ∧ (b.toInt = 0 ∨ b.toInt = 8 ∨ b.toInt = 16 ∨ b.toInt = 32) then (if b.toInt ≠ 0 ∧ d.toInt < 0 then (-1000003) else if b.toInt ≠ 0 ∧ 36 < d.toInt then (-1000001) else 1) else (-1000001)
def zr (f : Nat → Int32) (k n : Nat) : Nat → Int32 := fun j => if k ≤ j ∧ j < k + n then 0 else f j
theorem zr_0 {f : Nat → Int32} {k : Nat} {z : Int32} (h : z.toInt = 0) : f = zr f k z.toInt.toNat := by
  funext j; unfold zr; rw [if_neg (by omega)]
theorem zr_step {f g h : Nat → Int32} {k : Nat} {i i1 x y : Int32} (hg : g = zr f k i.toInt.toNat) (h0 : 0 ≤ i.toInt) (h1 : i1.toInt = i.toInt + 1) (e : h = upd g x.toNatClampNeg y) (hx : x.toInt.toNat = k + i.toInt.toNat) (hy : y = 0) : h = zr f k i1.toInt.toNat := by
  rw [up_in e hx, hg, hy]
  funext j
  unfold upd zr
  by_cases q : j = k + i.toInt.toNat
  · rw [if_pos q, if_pos (by omega)]
  · rw [if_neg q]
    by_cases q1 : k ≤ j ∧ j < k + i.toInt.toNat
    · rw [if_pos q1, if_pos (by omega)]
    · rw [if_neg q1, if_neg (by omega)]
def shB (r : Nat → Int32) (a b d v : Int32) : Nat → Int32 := if 0 ≤ a.toInt ∧ a.toInt ≤ 3 ∧ (b.toInt = 0 ∨ b.toInt = 8 ∨ b.toInt = 16 ∨ b.toInt = 32) ∧ (b.toInt = 0 ∨ (0 ≤ d.toInt ∧ d.toInt ≤ 36)) then upd r a.toNatClampNeg v else r
def shN (r : Nat → Int32) (a b d : Int32) : Nat → Int32 := if 0 ≤ a.toInt ∧ a.toInt ≤ 3 ∧ (b.toInt = 0 ∨ b.toInt = 8 ∨ b.toInt = 16 ∨ b.toInt = 32) ∧ (b.toInt = 0 ∨ (0 ≤ d.toInt ∧ d.toInt ≤ 36)) then zr r (36 * a.toInt.toNat) 36 else r
def shD (b d : Int32) : Int32 := if b.toInt = 0 then 0 else d
theorem SRL.sheet {b l n y z w b1 l1 n1 y1 z1 w1 : Nat → Int32} {a c d : Int32} (h : SRL b l n y z w) (e1 : b1 = shB b a c d c) (e2 : l1 = shB l a c d (shD c d)) (e3 : n1 = shN n a c d) (e4 : y1 = shB y a c d c) (e5 : z1 = shB z a c d (shD c d)) (e6 : w1 = shN w a c d) : SRL b1 l1 n1 y1 z1 w1 := by
  obtain ⟨q1, q2, q3, q4, q5⟩ := h
  by_cases hc : 0 ≤ a.toInt ∧ a.toInt ≤ 3 ∧ (c.toInt = 0 ∨ c.toInt = 8 ∨ c.toInt = 16 ∨ c.toInt = 32) ∧ (c.toInt = 0 ∨ (0 ≤ d.toInt ∧ d.toInt ≤ 36))
  · unfold shB at e1 e2 e4 e5; unfold shN at e3 e6
    rw [if_pos hc] at e1 e2 e3 e4 e5 e6
    subst e1 e2 e3 e4 e5 e6
    refine ⟨fun k hk => ?_, fun k hk => ?_, fun k hk => ?_, fun k hk => ?_, fun k hk => ?_⟩
    · unfold upd; by_cases q : k = a.toNatClampNeg
      · rw [if_pos q, if_pos q]
      · rw [if_neg q, if_neg q]; exact q1 k hk
    · unfold upd; by_cases q : k = a.toNatClampNeg
      · rw [if_pos q, if_pos q]
      · rw [if_neg q, if_neg q]; exact q2 k hk
    · unfold zr; by_cases q : 36 * a.toInt.toNat ≤ k ∧ k < 36 * a.toInt.toNat + 36
      · rw [if_pos q, if_pos q]
      · rw [if_neg q, if_neg q]; exact q3 k hk
    · unfold upd; by_cases q : k = a.toNatClampNeg
      · rw [if_pos q]; exact hc.2.2.1
      · rw [if_neg q]; exact q4 k hk
    · unfold upd shD; by_cases q : k = a.toNatClampNeg
      · rw [if_pos q]
        by_cases q0 : c.toInt = 0
        · rw [if_pos q0]; decide
        · rw [if_neg q0]; omega
      · rw [if_neg q]; exact q5 k hk
  · unfold shB at e1 e2 e4 e5; unfold shN at e3 e6
    rw [if_neg hc] at e1 e2 e3 e4 e5 e6
    subst e1 e2 e3 e4 e5 e6
    exact ⟨q1, q2, q3, q4, q5⟩
def nrw (b v : Int32) : Int32 := if b.toInt = 8 then v.toInt8.toInt32 else if b.toInt = 16 then v.toInt16.toInt32 else v
def putR (b l : Nat → Int32) (a i : Int32) : Int32 := if 0 ≤ a.toInt ∧ a.toInt ≤ 3 then (if (b a.toNatClampNeg).toInt = 0 then (-1000002) else if 0 ≤ i.toInt ∧ i.toInt < (l a.toNatClampNeg).toInt then 1 else (-1000001)) else (-1000001)
def putS (b l n : Nat → Int32) (a i v : Int32) : Nat → Int32 := if 0 ≤ a.toInt ∧ a.toInt ≤ 3 ∧ (b a.toNatClampNeg).toInt ≠ 0 ∧ 0 ≤ i.toInt ∧ i.toInt < (l a.toNatClampNeg).toInt then upd n (36 * a.toInt.toNat + i.toInt.toNat) (nrw (b a.toNatClampNeg) v) else n
theorem putR_eq {b l n y z w : Nat → Int32} (h : SRL b l n y z w) (a i : Int32) : putR b l a i = putR y z a i := by
  unfold putR
  by_cases c : 0 ≤ a.toInt ∧ a.toInt ≤ 3
  · rw [if_pos c, if_pos c, h.b c.1 c.2, h.l c.1 c.2]
  · rw [if_neg c, if_neg c]
theorem SRL.put {b l n y z w n1 w1 : Nat → Int32} {a i v : Int32} (h : SRL b l n y z w) (e1 : n1 = putS b l n a i v) (e2 : w1 = putS y z w a i v) : SRL b l n1 y z w1 := by
  refine ⟨h.1, h.2.1, ?_, h.2.2.2⟩
  intro k hk
  rw [e1, e2]
  unfold putS
  by_cases c : 0 ≤ a.toInt ∧ a.toInt ≤ 3
  · rw [h.b c.1 c.2, h.l c.1 c.2]
    by_cases c1 : 0 ≤ a.toInt ∧ a.toInt ≤ 3 ∧ (y a.toNatClampNeg).toInt ≠ 0 ∧ 0 ≤ i.toInt ∧ i.toInt < (z a.toNatClampNeg).toInt
    · rw [if_pos c1, if_pos c1]; unfold upd
      by_cases q : k = 36 * a.toInt.toNat + i.toInt.toNat
      · rw [if_pos q, if_pos q]
      · rw [if_neg q, if_neg q]; exact h.2.2.1 k hk
    · rw [if_neg c1, if_neg c1]; exact h.2.2.1 k hk
  · rw [if_neg (fun z => c ⟨z.1, z.2.1⟩), if_neg (fun z => c ⟨z.1, z.2.1⟩)]; exact h.2.2.1 k hk
def moveR (b l : Nat → Int32) (a i o j n : Int32) : Int32 := if 0 ≤ a.toInt ∧ a.toInt ≤ 3 ∧ 0 ≤ o.toInt ∧ o.toInt ≤ 3 then (if (b a.toNatClampNeg).toInt = 0 ∨ (b o.toNatClampNeg).toInt = 0 then (-1000002) else if (b a.toNatClampNeg).toInt ≠ (b o.toNatClampNeg).toInt then (-1000005) else if 0 ≤ i.toInt ∧ 0 ≤ j.toInt ∧ 0 ≤ n.toInt ∧ i.toInt + n.toInt ≤ (l a.toNatClampNeg).toInt ∧ j.toInt + n.toInt ≤ (l o.toNatClampNeg).toInt then n else (-1000001)) else (-1000001)
def moveS (b l f : Nat → Int32) (a i o j n : Int32) : Nat → Int32 := if 0 ≤ a.toInt ∧ a.toInt ≤ 3 ∧ 0 ≤ o.toInt ∧ o.toInt ≤ 3 ∧ (b a.toNatClampNeg).toInt ≠ 0 ∧ (b o.toNatClampNeg).toInt ≠ 0 ∧ (b a.toNatClampNeg).toInt = (b o.toNatClampNeg).toInt ∧ 0 ≤ i.toInt ∧ 0 ≤ j.toInt ∧ 0 ≤ n.toInt ∧ i.toInt + n.toInt ≤ (l a.toNatClampNeg).toInt ∧ j.toInt + n.toInt ≤ (l o.toNatClampNeg).toInt then va_cpy f f (36 * a.toInt.toNat + i.toInt.toNat) (36 * o.toInt.toNat + j.toInt.toNat) n.toInt.toNat else f
theorem moveR_eq {b l n y z w : Nat → Int32} (h : SRL b l n y z w) (a i o j m : Int32) : moveR b l a i o j m = moveR y z a i o j m := by
  unfold moveR
  by_cases c : 0 ≤ a.toInt ∧ a.toInt ≤ 3 ∧ 0 ≤ o.toInt ∧ o.toInt ≤ 3
  · rw [if_pos c, if_pos c, h.b c.1 c.2.1, h.l c.1 c.2.1, h.b c.2.2.1 c.2.2.2, h.l c.2.2.1 c.2.2.2]
  · rw [if_neg c, if_neg c]
theorem SRL.move {b l n y z w n1 w1 : Nat → Int32} {a i o j m : Int32} (h : SRL b l n y z w) (e1 : n1 = moveS b l n a i o j m) (e2 : w1 = moveS y z w a i o j m) : SRL b l n1 y z w1 := by
  refine ⟨h.1, h.2.1, ?_, h.2.2.2⟩
  intro k hk
  rw [e1, e2]
  unfold moveS
  by_cases c : 0 ≤ a.toInt ∧ a.toInt ≤ 3 ∧ 0 ≤ o.toInt ∧ o.toInt ≤ 3
  · have la := h.le c.1 c.2.1
    rw [h.b c.1 c.2.1, h.l c.1 c.2.1, h.b c.2.2.1 c.2.2.2, h.l c.2.2.1 c.2.2.2]
    by_cases c1 : 0 ≤ a.toInt ∧ a.toInt ≤ 3 ∧ 0 ≤ o.toInt ∧ o.toInt ≤ 3 ∧ (y a.toNatClampNeg).toInt ≠ 0 ∧ (y o.toNatClampNeg).toInt ≠ 0 ∧ (y a.toNatClampNeg).toInt = (y o.toNatClampNeg).toInt ∧ 0 ≤ i.toInt ∧ 0 ≤ j.toInt ∧ 0 ≤ m.toInt ∧ i.toInt + m.toInt ≤ (z a.toNatClampNeg).toInt ∧ j.toInt + m.toInt ≤ (z o.toNatClampNeg).toInt
    · rw [if_pos c1, if_pos c1]
      by_cases q : 36 * o.toInt.toNat + j.toInt.toNat ≤ k ∧ k < 36 * o.toInt.toNat + j.toInt.toNat + m.toInt.toNat
      · rw [pk_cpy_in q.1 q.2, pk_cpy_in q.1 q.2]; exact h.2.2.1 _ (by omega)
      · rw [pk_cpy_out (by omega), pk_cpy_out (by omega)]; exact h.2.2.1 k hk
    · rw [if_neg c1, if_neg c1]; exact h.2.2.1 k hk
  · rw [if_neg (fun z => c ⟨z.1, z.2.1, z.2.2.1, z.2.2.2.1⟩), if_neg (fun z => c ⟨z.1, z.2.1, z.2.2.1, z.2.2.2.1⟩)]; exact h.2.2.1 k hk
theorem cpy_0 {f : Nat → Int32} {s d : Nat} {z : Int32} (h : z.toInt = 0) : f = va_cpy f f s d z.toInt.toNat := by
  funext j; unfold va_cpy; rw [if_neg (by omega)]
theorem cpy_step {f g h : Nat → Int32} {s d : Nat} {k k1 x v : Int32} (hg : g = va_cpy f f s d k.toInt.toNat) (h0 : 0 ≤ k.toInt) (h1 : k1.toInt = k.toInt + 1) (e : h = upd g x.toNatClampNeg v) (hx : x.toInt.toNat = d + k.toInt.toNat) (hv : v = f (s + k.toInt.toNat)) : h = va_cpy f f s d k1.toInt.toNat := by
  rw [up_in e hx, hg, hv]
  funext j
  unfold upd
  by_cases q : j = d + k.toInt.toNat
  · rw [if_pos q, pk_cpy_in (by omega) (by omega), q, show s + (d + k.toInt.toNat - d) = s + k.toInt.toNat from by omega]
  · rw [if_neg q]
    by_cases q1 : d ≤ j ∧ j < d + k.toInt.toNat
    · rw [pk_cpy_in q1.1 q1.2, pk_cpy_in (by omega) (by omega)]
    · rw [pk_cpy_out (by omega), pk_cpy_out (by omega)]
-- the reference's row: places that are told of both sides
def TRX (k : Nat) (g f : Nat → Int32) : Prop := ∀ i : Nat, (i = 0 ∨ (2 ≤ i ∧ i ≤ 98) ∨ (495 ≤ i ∧ i ≤ 1180)) → i ≠ k → g i = f i
theorem TRX.rf {k : Nat} {f : Nat → Int32} : TRX k f f := fun _ _ _ => rfl
theorem TRX.tr {k : Nat} {f g a : Nat → Int32} (h : TRX k g f) (h1 : TRX k f a) : TRX k g a := fun i hi hk => (h i hi hk).trans (h1 i hi hk)
theorem TRX.one {k : Nat} {f g : Nat → Int32} (h : TRX 1 g f) : TRX k g f := fun i hi _ => h i hi (by omega)
theorem TRX.put {k i : Nat} {f g a : Nat → Int32} {x : Int32} (h : TRX k f a) (e : g = upd f i x) (hi : (i = 1 ∨ (99 ≤ i ∧ i ≤ 494) ∨ 1181 ≤ i) ∨ i = k) : TRX k g a := by
  intro j hj hk
  rw [e, sp_ne (by omega)]; exact h j hj hk
theorem TRX.eq {k : Nat} {f g h a : Nat → Int32} (z : TRX k f a) (e : g = f) : TRX k g a := by rw [e]; exact z
def REL (r s p : Nat → Int32) (w v d n : Int32) (x : Nat → Int32) : Prop := VW 12 0 r 7 x ∧ VW 40 0 s 19 x ∧ VW 40 0 p 59 x ∧ w = x 5 ∧ v = x 6 ∧ d = x 0 ∧ n = x 2
theorem VW.at {n p q : Nat} {g x y : Nat → Int32} (h : VW n p g q x) (e : ∀ j : Nat, q ≤ j → j < q + n → y j = x j) : VW n p g q y := fun j hj => (h j hj).trans (e (q + j) (by omega) (by omega)).symm
theorem REL.tr {r s p : Nat → Int32} {w v d n : Int32} {x y : Nat → Int32} (h : REL r s p w v d n x) (t : TRX 1 y x) : REL r s p w v d n y := by
  obtain ⟨h1, h2, h3, h4, h5, h6, h7⟩ := h
  exact ⟨h1.at (fun j a b => t j (by omega) (by omega)), h2.at (fun j a b => t j (by omega) (by omega)), h3.at (fun j a b => t j (by omega) (by omega)), h4.trans (t 5 (by omega) (by omega)).symm, h5.trans (t 6 (by omega) (by omega)).symm, h6.trans (t 0 (by omega) (by omega)).symm, h7.trans (t 2 (by omega) (by omega)).symm⟩
theorem REL.rain {r r1 s p : Nat → Int32} {w v d n a b : Int32} {x y : Nat → Int32} (h : REL r s p w v d n x) (e : r1 = rainS 0 r a b) (t : y = rainS 7 x a b) : REL r1 s p w v d n y := by
  obtain ⟨h1, h2, h3, h4, h5, h6, h7⟩ := h
  have o : ∀ j : Nat, j < 7 ∨ 19 ≤ j → y j = x j := fun j hj => by rw [t]; exact rainS_off a b (by omega)
  exact ⟨by rw [e, t]; exact rainS_vw h1 a b, h2.at (fun j _ _ => o j (by omega)), h3.at (fun j _ _ => o j (by omega)), h4.trans (o 5 (by omega)).symm, h5.trans (o 6 (by omega)).symm, h6.trans (o 0 (by omega)).symm, h7.trans (o 2 (by omega)).symm⟩
theorem REL.land {r s s1 p p1 : Nat → Int32} {w v d n a b c : Int32} {x y : Nat → Int32} (h : REL r s p w v d n x) (e : s1 = landS 0 s a b c b) (e1 : p1 = landS 0 p a b c c) (t : y = landS 59 (landS 19 x a b c b) a b c c) : REL r s1 p1 w v d n y := by
  obtain ⟨h1, h2, h3, h4, h5, h6, h7⟩ := h
  have o : ∀ j : Nat, j < 19 ∨ 99 ≤ j → y j = x j := fun j hj => by rw [t, landS_off a b c c (by omega), landS_off a b c b (by omega)]
  refine ⟨h1.at (fun j _ _ => o j (by omega)), ?_, ?_, h4.trans (o 5 (by omega)).symm, h5.trans (o 6 (by omega)).symm, h6.trans (o 0 (by omega)).symm, h7.trans (o 2 (by omega)).symm⟩
  · rw [e, t]; exact (landS_vw h2 a b c b).at (fun j _ _ => landS_off a b c c (by omega))
  · rw [e1, t]; exact landS_vw (h3.at (fun j _ _ => landS_off a b c b (by omega))) a b c c
theorem REL.soil {r s s1 p b l m f g i : Nat → Int32} {w v d n a c : Int32} {x y : Nat → Int32} (h : REL r s p w v d n x) (q : SRL b l m f g i) (e : s1 = soilS 0 s b l m a c) (t : y = soilS 19 x f g i a c) : REL r s1 p w v d n y := by
  obtain ⟨h1, h2, h3, h4, h5, h6, h7⟩ := h
  have hz : ∀ k : Nat, k < 4 → 0 ≤ (g k).toInt ∧ (g k).toInt ≤ 36 := fun k hk => by rw [← q.2.1 k hk]; exact q.2.2.2.2 k hk
  have o : ∀ j : Nat, j < 19 ∨ 59 ≤ j → y j = x j := fun j hj => by rw [t]; exact soilS_off a c hz (by omega)
  exact ⟨h1.at (fun j _ _ => o j (by omega)), by rw [e, t]; exact soilS_vw h2 q a c, h3.at (fun j _ _ => o j (by omega)), h4.trans (o 5 (by omega)).symm, h5.trans (o 6 (by omega)).symm, h6.trans (o 0 (by omega)).symm, h7.trans (o 2 (by omega)).symm⟩
theorem REL.party {r s p : Nat → Int32} {w v d n n1 a b c e : Int32} {x y : Nat → Int32} (h : REL r s p w v d n x) (e1 : n1.toInt = partyN n a b c e) (e2 : (y 2).toInt = partyN (x 2) a b c e) (t : TRX 2 y x) : REL r s p w v d n1 y := by
  obtain ⟨h1, h2, h3, h4, h5, h6, h7⟩ := h
  exact ⟨h1.at (fun j a b => t j (by omega) (by omega)), h2.at (fun j a b => t j (by omega) (by omega)), h3.at (fun j a b => t j (by omega) (by omega)), h4.trans (t 5 (by omega) (by omega)).symm, h5.trans (t 6 (by omega) (by omega)).symm, h6.trans (t 0 (by omega) (by omega)).symm, k_inj (by rw [e1, e2, h7])⟩
theorem REL.reach {r s p : Nat → Int32} {w v v1 d n a : Int32} {x y : Nat → Int32} (h : REL r s p w v d n x) (e1 : v1 = reachN v a) (e2 : y 6 = reachN (x 6) a) (t : TRX 6 y x) : REL r s p w v1 d n y := by
  obtain ⟨h1, h2, h3, h4, h5, h6, h7⟩ := h
  exact ⟨h1.at (fun j a b => t j (by omega) (by omega)), h2.at (fun j a b => t j (by omega) (by omega)), h3.at (fun j a b => t j (by omega) (by omega)), h4.trans (t 5 (by omega) (by omega)).symm, by rw [e1, e2, h5], h6.trans (t 0 (by omega) (by omega)).symm, h7.trans (t 2 (by omega) (by omega)).symm⟩
theorem REL.days {r s p : Nat → Int32} {w v d d1 n a : Int32} {x y : Nat → Int32} (h : REL r s p w v d n x) (e1 : d1.toInt = daysN d a) (e2 : (y 0).toInt = daysN (x 0) a) (t : TRX 0 y x) : REL r s p w v d1 n y := by
  obtain ⟨h1, h2, h3, h4, h5, h6, h7⟩ := h
  exact ⟨h1.at (fun j a b => t j (by omega) (by omega)), h2.at (fun j a b => t j (by omega) (by omega)), h3.at (fun j a b => t j (by omega) (by omega)), h4.trans (t 5 (by omega) (by omega)).symm, h5.trans (t 6 (by omega) (by omega)).symm, k_inj (by rw [e1, e2, h6]), h7.trans (t 2 (by omega) (by omega)).symm⟩
theorem REL.wait {r s p : Nat → Int32} {w w1 v d n : Int32} {x y : Nat → Int32} (h : REL r s p w v d n x) (e : w1.toInt = (y 5).toInt) (t : TRX 5 y x) : REL r s p w1 v d n y := by
  obtain ⟨h1, h2, h3, h4, h5, h6, h7⟩ := h
  exact ⟨h1.at (fun j a b => t j (by omega) (by omega)), h2.at (fun j a b => t j (by omega) (by omega)), h3.at (fun j a b => t j (by omega) (by omega)), k_inj e, h5.trans (t 6 (by omega) (by omega)).symm, h6.trans (t 0 (by omega) (by omega)).symm, h7.trans (t 2 (by omega) (by omega)).symm⟩
theorem REL.w {r s p : Nat → Int32} {w v d n : Int32} {x : Nat → Int32} (h : REL r s p w v d n x) : w = x 5 := h.2.2.2.1
theorem REL.v {r s p : Nat → Int32} {w v d n : Int32} {x : Nat → Int32} (h : REL r s p w v d n x) : v = x 6 := h.2.2.2.2.1
theorem REL.d {r s p : Nat → Int32} {w v d n : Int32} {x : Nat → Int32} (h : REL r s p w v d n x) : d = x 0 := h.2.2.2.2.2.1
theorem REL.n {r s p : Nat → Int32} {w v d n : Int32} {x : Nat → Int32} (h : REL r s p w v d n x) : n = x 2 := h.2.2.2.2.2.2
theorem REL.cp {r s p r1 s1 p1 : Nat → Int32} {w v d n w1 v1 d1 n1 : Int32} {x y : Nat → Int32} (h : REL r s p w v d n x) (a1 : r1 = r) (a2 : s1 = s) (a3 : p1 = p) (a4 : w1 = w) (a5 : v1 = v) (a6 : d1 = d) (a7 : n1 = n) (t : y = x) : REL r1 s1 p1 w1 v1 d1 n1 y := by
  rw [a1, a2, a3, a4, a5, a6, a7, t]; exact h
def ifF (i : Int32) (f g : Nat → Int32) : Nat → Int32 := if i.toInt = 0 then f else g
def ifI (i f g : Int32) : Int32 := if i.toInt = 0 then f else g
def RELO (i : Int32) (r s p : Nat → Int32) (w v d n : Int32) (x : Nat → Int32) : Prop := i.toInt = 0 ∨ REL r s p w v d n x
theorem REL.rest {r s p r1 s1 p1 r2 s2 p2 : Nat → Int32} {w v d n w1 v1 d1 n1 w2 v2 d2 n2 i k : Int32} {x y z : Nat → Int32} (h : REL r s p w v d n x) (h1 : RELO i r1 s1 p1 w1 v1 d1 n1 y) (hk : i = k) (a1 : r2 = ifF i r r1) (a2 : s2 = ifF i s s1) (a3 : p2 = ifF i p p1) (a4 : w2 = ifI i w w1) (a5 : v2 = ifI i v v1) (a6 : d2 = ifI i d d1) (a7 : n2 = ifI i n n1) (t : z = ifF k x y) : REL r2 s2 p2 w2 v2 d2 n2 z := by
  unfold ifF at a1 a2 a3 t; unfold ifI at a4 a5 a6 a7
  rw [← hk] at t
  by_cases c : i.toInt = 0
  · rw [if_pos c] at a1 a2 a3 a4 a5 a6 a7 t; exact h.cp a1 a2 a3 a4 a5 a6 a7 t
  · rw [if_neg c] at a1 a2 a3 a4 a5 a6 a7 t; exact (Or.resolve_left h1 c).cp a1 a2 a3 a4 a5 a6 a7 t
theorem restR_eq {r s p : Nat → Int32} {w v d n i k : Int32} {x : Nat → Int32} (h : RELO i r s p w v d n x) (hk : i = k) : restR i d = restR k (x 0) := by
  unfold restR
  rw [← hk]
  by_cases c : i.toInt = 0
  · rw [if_pos c, if_pos c]
  · rw [if_neg c, if_neg c]; exact (Or.resolve_left h c).d
theorem cr_step {f g h : Nat → Int32} {b n : Nat} {k k1 x : Int32} (hg : ∀ j : Nat, j < k.toInt.toNat → g j = f (b + j)) (h0 : 0 ≤ k.toInt) (h1 : k1.toInt = k.toInt + 1) (e : h = upd g k.toNatClampNeg x) (hx : x = f n) (hn : n = b + k.toInt.toNat) : ∀ j : Nat, j < k1.toInt.toNat → h j = f (b + j) := by
  intro j hj
  rw [e, k_clamp]
  by_cases q : j = k.toInt.toNat
  · rw [q, sp_at, hx, hn]
  · rw [sp_ne q]; exact hg j (by omega)
-- shifts (rows of the family of bits, as given)
def bt (x : Int32) (i : Nat) : Bool := x.toBitVec.getLsbD i
theorem b_ext {x y : Int32} (h : ∀ i, i < 32 → bt x i = bt y i) : x = y := Int32.toBitVec_inj.mp (BitVec.eq_of_getLsbD_eq (fun i hi => h i hi))
theorem s_l : ∀ n, n < 32 → ((nI n &&& 31).toBitVec.smod 32).toNat = n := by decide +kernel
theorem b_shl (n : Nat) (hn : n < 32) (x : Int32) {i : Nat} (hi : i < 32) : bt (x <<< (nI n &&& 31)) i = (decide (n ≤ i) && bt x (i - n)) := by
  unfold bt
  rw [Int32.toBitVec_shiftLeft]
  show (x.toBitVec <<< ((nI n &&& 31).toBitVec.smod 32).toNat).getLsbD i = _
  rw [s_l n hn, BitVec.getLsbD_shiftLeft]
  rcases Nat.lt_or_ge i n with h | h
  · simp [h, Nat.not_le.mpr h]
  · simp [hi, h, Nat.not_lt.mpr h]
theorem b_sshr (n : Nat) (hn : n < 32) (x : Int32) {i : Nat} (hi : i < 32) : bt (x >>> (nI n &&& 31)) i = if n + i < 32 then bt x (n + i) else bt x 31 := by
  unfold bt
  rw [Int32.toBitVec_shiftRight]
  show (x.toBitVec.sshiftRight ((nI n &&& 31).toBitVec.smod 32).toNat).getLsbD i = _
  rw [s_l n hn, BitVec.getLsbD_sshiftRight, BitVec.msb_eq_getLsbD_last]
  simp [hi]
theorem b_shl16 (x : Int32) {i : Nat} (hi : i < 32) : bt (x <<< ((16 : Int32) &&& 31)) i = (decide (16 ≤ i) && bt x (i - 16)) := b_shl 16 (by omega) x hi
theorem b_shl24 (x : Int32) {i : Nat} (hi : i < 32) : bt (x <<< ((24 : Int32) &&& 31)) i = (decide (24 ≤ i) && bt x (i - 24)) := b_shl 24 (by omega) x hi
theorem nb_sx (w : Nat) (hw : 0 < w) (hw2 : w < 32) (x : BitVec 32) {i : Nat} (hi : i < 32) : ((x.signExtend w).signExtend 32).getLsbD i = if i < w then x.getLsbD i else x.getLsbD (w - 1) := by
  rw [BitVec.getLsbD_signExtend, BitVec.msb_eq_getLsbD_last]
  by_cases h : i < w
  · rw [if_pos h, if_pos h, BitVec.getLsbD_signExtend, if_pos hi, decide_eq_true hi, decide_eq_true h, Bool.true_and, Bool.true_and]
  · rw [if_neg h, if_neg h, BitVec.getLsbD_signExtend, if_pos (by omega), decide_eq_true hi, decide_eq_true (show w - 1 < w by omega), Bool.true_and, Bool.true_and]
theorem nb_8 (x : Int32) {i : Nat} (hi : i < 32) : bt x.toInt8.toInt32 i = if i < 8 then bt x i else bt x 7 := nb_sx 8 (by omega) (by omega) x.toBitVec hi
theorem nb_16 (x : Int32) {i : Nat} (hi : i < 32) : bt x.toInt16.toInt32 i = if i < 16 then bt x i else bt x 15 := nb_sx 16 (by omega) (by omega) x.toBitVec hi
theorem nrw_sh {b v y x1 x2 : Int32} (hb : b.toInt = 8 ∨ b.toInt = 16 ∨ b.toInt = 32) (hy : y.toInt = 32 - b.toInt) (e1 : x1 = v <<< (y &&& 31)) (e2 : x2 = x1 >>> (y &&& 31)) : nrw b v = x2 := by
  unfold nrw
  rcases hb with h | h | h
  · obtain rfl : y = 24 := k_inj (by rw [hy, h]; decide)
    rw [if_pos h, e2, e1]
    refine b_ext (fun i hi => ?_)
    refine Eq.trans ?_ (b_sshr 24 (by omega) (v <<< ((24 : Int32) &&& 31)) hi).symm
    rw [nb_8 v hi]
    by_cases q : i < 8
    · rw [if_pos q, if_pos (by omega), b_shl24 v (by omega), decide_eq_true (by omega), Bool.true_and, show 24 + i - 24 = i from by omega]
    · rw [if_neg q, if_neg (by omega), b_shl24 v (by omega), decide_eq_true (by omega), Bool.true_and]
  · obtain rfl : y = 16 := k_inj (by rw [hy, h]; decide)
    rw [if_neg (by omega), if_pos h, e2, e1]
    refine b_ext (fun i hi => ?_)
    refine Eq.trans ?_ (b_sshr 16 (by omega) (v <<< ((16 : Int32) &&& 31)) hi).symm
    rw [nb_16 v hi]
    by_cases q : i < 16
    · rw [if_pos q, if_pos (by omega), b_shl16 v (by omega), decide_eq_true (by omega), Bool.true_and, show 16 + i - 16 = i from by omega]
    · rw [if_neg q, if_neg (by omega), b_shl16 v (by omega), decide_eq_true (by omega), Bool.true_and]
  · obtain rfl : y = 0 := k_inj (by rw [hy, h]; decide)
    rw [if_neg (by omega), if_neg (by omega), e2, e1]
    refine b_ext (fun i hi => ?_)
    refine Eq.trans ?_ (b_sshr 0 (by omega) (v <<< ((0 : Int32) &&& 31)) hi).symm
    rw [if_pos (by omega), Nat.zero_add]
    refine Eq.trans ?_ (b_shl 0 (by omega) v hi).symm
    rw [decide_eq_true (by omega), Bool.true_and, Nat.sub_zero]
