/-! DAYS: what a call leaves of the reference's row, as functions of what it was -/
def wN (f : Nat → Int32) (n k : Nat) : Int32 := f (99 + 6 * n + k)
def pN (f : Nat → Int32) (n k : Nat) : Int32 := f (459 + 9 * n + k)
def stN (f : Nat → Int32) (n : Nat) (k : Int) : Int32 := if (wN f n 4).toInt = 0 then mU (wN f n 0).toInt k else 0
def sumN (g : Nat → Int32) : Nat → Int32
  | 0 => 0
  | n + 1 => sumN g n + g n
def tP (f : Nat → Int32) (m : Int) (n : Nat) : Int32 := if (wN f n 1).toInt = m ∧ stN f n 1 = 1 then 1 else 0
def tL (f : Nat → Int32) (m : Int) (n : Nat) : Int32 := if (wN f n 1).toInt = m ∧ (wN f n 4).toInt = 0 ∧ (wN f n 0).toInt = 4 then wN f n 2 else 0
def tD (f : Nat → Int32) (m : Int) (n : Nat) : Int32 := if (wN f n 1).toInt = m ∧ stN f n 5 = 1 then 1 else 0
def wlF (f : Nat → Int32) (m : Int) : Int32 := sumN (tL f m) (f 1).toInt.toNat
def WD (f : Nat → Int32) (m : Int) : Nat → Int32
  | 0 => 0
  | n + 1 => if (WD f m n).toInt ≠ 0 ∨ tP f m n = 1 then 1 else 0
def wdF (f : Nat → Int32) (m : Int) : Int32 := WD f m (f 1).toInt.toNat
def lifN (f : Nat → Int32) (n : Nat) : Int32 := if (f (19 + (wN f n 1).toInt.toNat)).toInt = 0 then 60 else 120
def eoN (f : Nat → Int32) (n : Nat) : Int32 := if stN f n 1 = 1 ∧ stN f n 2 = 0 then (if (f 0).toInt < (wN f n 3 + lifN f n).toInt then wN f n 3 + lifN f n else f 0 + 1) else (-1)
def eatN (f : Nat → Int32) : Nat → (Nat → Int32)
  | 0 => f
  | n + 1 => if 0 ≤ (eoN (eatN f n) n).toInt ∧ (eoN (eatN f n) n).toInt ≤ (eatN f n 0).toInt + 1 then upd (eatN f n) (99 + 6 * n + 4) 1 else eatN f n
def eatS (f : Nat → Int32) : Nat → Int32 := eatN f (f 1).toInt.toNat
def mx2 (a b : Int32) : Int32 := if a.toInt < b.toInt then b else a
def mn2 (a b : Int32) : Int32 := if b.toInt < a.toInt then b else a
def drkV (f : Nat → Int32) (p : Nat) : Int32 := mx2 (mn2 (pN f p 6 + f (59 + (pN f p 0).toInt.toNat) + wlF f (pN f p 0).toInt) (50 * (pN f p 2 + pN f p 3))) (pN f p 6) - (pN f p 2 + 2 * pN f p 3)
def drkS (f : Nat → Int32) (p : Nat) : Nat → Int32 :=
  if (drkV f p).toInt < 0 then
    (if 0 < (pN f p 3).toInt then upd (upd f (459 + 9 * p + 3) (pN f p 3 - 1)) (459 + 9 * p + 6) 0 else upd (upd f (459 + 9 * p + 2) (pN f p 2 - 1)) (459 + 9 * p + 6) 0)
  else upd f (459 + 9 * p + 6) (drkV f p)
def eaV (f : Nat → Int32) (m : Int) (want taken : Int32) (n : Nat) : Int32 :=
  if (wN f n 1).toInt = m ∧ stN f n 5 = 1 ∧ 0 ≤ (want - taken).toInt then (if (want - taken).toInt < (wN f n 5).toInt then want - taken else wN f n 5) else 0
def eaT (f : Nat → Int32) (m : Int) (want : Int32) : Nat → Int32 × (Nat → Int32)
  | 0 => (0, f)
  | n + 1 => ((eaT f m want n).1 + eaV (eaT f m want n).2 m want (eaT f m want n).1 n, upd (eaT f m want n).2 (99 + 6 * n + 5) (wN (eaT f m want n).2 n 5 - eaV (eaT f m want n).2 m want (eaT f m want n).1 n))
def eatF (f : Nat → Int32) (p : Nat) : Int32 × (Nat → Int32) := eaT f (pN f p 0).toInt (20 * pN f p 2 - pN f p 5) (f 1).toInt.toNat
def eatL (f : Nat → Int32) (p : Nat) : Int32 := pN f p 5 + (eatF f p).1 - pN f p 2
def eatP (f : Nat → Int32) (p : Nat) : Nat → Int32 :=
  upd (upd (eatF f p).2 (459 + 9 * p + 2) (if (eatL f p).toInt < 0 then pN f p 2 - 1 else pN f p 2)) (459 + 9 * p + 5) (if (eatL f p).toInt < 0 then 0 else eatL f p)
def sttS (f : Nat → Int32) (p : Nat) : Nat → Int32 := upd f (459 + 9 * p + 8) (if (pN f p 2).toInt = 0 then 2 else pN f p 8)
def efN (f : Nat → Int32) (m : Int) (rain : Int32) : Int32 := if (f (19 + m.toNat)).toInt = 0 then 10 else if (f (19 + m.toNat)).toInt = 1 then 40 else 20 + 10 * rain
def comS (f : Nat → Int32) (k m z t : Int32) : Nat → Int32 :=
  upd (upd (upd (upd (upd (upd (upd f 1 (f 1 + 1)) (99 + 6 * (f 1).toInt.toNat + 0) k) (99 + 6 * (f 1).toInt.toNat + 1) m) (99 + 6 * (f 1).toInt.toNat + 2) z) (99 + 6 * (f 1).toInt.toNat + 3) t) (99 + 6 * (f 1).toInt.toNat + 4) 0) (99 + 6 * (f 1).toInt.toNat + 5) 0
def wrkD (f : Nat → Int32) (p : Nat) : Nat → Int32 := upd f (459 + 9 * p + 7) (pN f p 7 + pN f p 2)
def wrkC (f : Nat → Int32) (p : Nat) : Nat → Int32 := comS f 1 (pN f p 0) 1 (f 0 + 1)
def wrkE (f : Nat → Int32) (p : Nat) : Nat → Int32 := upd (upd f (459 + 9 * p + 4) (pN f p 4 - 1)) (459 + 9 * p + 7) 0
def wrkS (f : Nat → Int32) (p : Nat) : Nat → Int32 :=
  if (wdF f (pN f p 0).toInt).toInt = 0 then
    (if (efN (wrkD f p) (pN f p 0).toInt (rnF (wrkD f p))).toInt ≤ (pN f p 7 + pN f p 2).toInt ∧ 0 < (pN f p 4).toInt ∧ (f 1).toInt < 60 then wrkE (wrkC (wrkD f p) p) p else wrkD f p)
  else
    (if 0 ≤ (pN f p 0 + pN f p 1).toInt ∧ (pN f p 0 + pN f p 1).toInt ≤ 39 then upd (upd (upd f (459 + 9 * p + 7) 0) (459 + 9 * p + 0) (pN f p 0 + pN f p 1)) (459 + 9 * p + 8) 0
     else upd (upd (upd f (459 + 9 * p + 7) 0) (459 + 9 * p + 0) (pN f p 0)) (459 + 9 * p + 8) 1)
def dyA (f : Nat → Int32) : Nat → (Nat → Int32)
  | 0 => f
  | n + 1 => if (pN (dyA f n) n 8).toInt = 2 then dyA f n else sttS (eatP (drkS (dyA f n) n) n) n
def dyB (f : Nat → Int32) : Nat → (Nat → Int32)
  | 0 => f
  | n + 1 => if (pN (dyB f n) n 8).toInt = 0 then wrkS (dyB f n) n else dyB f n
def dayC (f : Nat → Int32) : Nat → Int32 := dyB (dyA (eatS f) (f 2).toInt.toNat) (f 2).toInt.toNat
def dayS (f : Nat → Int32) : Nat → Int32 := upd (dayC f) 0 (dayC f 0 + 1)
def daysF (f : Nat → Int32) : Nat → (Nat → Int32)
  | 0 => f
  | n + 1 => dayS (daysF f n)
-- places
theorem wN_o {f : Nat → Int32} {n k i : Nat} {v : Int32} (h : i < 99 + 6 * n ∨ 99 + 6 * n + 5 < i) (hk : k < 6) : wN (upd f i v) n k = wN f n k := by
  unfold wN; rw [sp_ne (by omega)]
theorem wN_k {f : Nat → Int32} {n w k m : Nat} {v : Int32} (h : n ≠ w ∨ k ≠ m) (hk : k < 6) (hm : m < 6) : wN (upd f (99 + 6 * w + m) v) n k = wN f n k := by
  unfold wN; rw [sp_ne (by omega)]
theorem wN_e {f : Nat → Int32} {n k : Nat} {v : Int32} : wN (upd f (99 + 6 * n + k) v) n k = v := by
  unfold wN; rw [sp_at]
theorem pN_o {f : Nat → Int32} {n k i : Nat} {v : Int32} (h : i < 459 + 9 * n ∨ 459 + 9 * n + 8 < i) (hk : k < 9) : pN (upd f i v) n k = pN f n k := by
  unfold pN; rw [sp_ne (by omega)]
theorem pN_k {f : Nat → Int32} {n w k m : Nat} {v : Int32} (h : n ≠ w ∨ k ≠ m) (hk : k < 9) (hm : m < 9) : pN (upd f (459 + 9 * w + m) v) n k = pN f n k := by
  unfold pN; rw [sp_ne (by omega)]
theorem pN_e {f : Nat → Int32} {n k : Nat} {v : Int32} : pN (upd f (459 + 9 * n + k) v) n k = v := by
  unfold pN; rw [sp_at]
theorem sp_same {f : Nat → Int32} {i : Nat} {v : Int32} (h : v = f i) : upd f i v = f := by
  funext j
  by_cases q : j = i
  · rw [q, sp_at, h]
  · rw [sp_ne q]
theorem sp_swap {f : Nat → Int32} {i j : Nat} {v w : Int32} (h : i ≠ j) : upd (upd f i v) j w = upd (upd f j w) i v := by
  funext k
  by_cases q : k = i
  · rw [q, sp_ne h, sp_at, sp_at]
  · by_cases q1 : k = j
    · rw [q1, sp_at, sp_ne (Ne.symm h), sp_at]
    · rw [sp_ne q1, sp_ne q, sp_ne q, sp_ne q1]
theorem sp_two {f : Nat → Int32} {i : Nat} {v w : Int32} : upd (upd f i v) i w = upd f i w := by
  funext k
  by_cases q : k = i
  · rw [q, sp_at, sp_at]
  · rw [sp_ne q, sp_ne q, sp_ne q]
-- sums
theorem sumN_eq {g h : Nat → Int32} : ∀ n : Nat, (∀ j : Nat, j < n → h j = g j) → sumN h n = sumN g n := by
  intro n
  induction n with
  | zero => intro _; rfl
  | succ n ih =>
    intro e
    show sumN h n + h n = sumN g n + g n
    rw [ih (fun j hj => e j (by omega)), e n (by omega)]
theorem i_arc (a b c : Int32) : a + b + c = a + c + b := by
  rw [Int32.add_assoc, Int32.add_comm b c, ← Int32.add_assoc]
theorem sumN_one {g h : Nat → Int32} {w : Nat} {d : Int32} : ∀ n : Nat, w < n → (∀ j : Nat, j < n → j ≠ w → h j = g j) → h w = g w + d → sumN h n = sumN g n + d := by
  intro n
  induction n with
  | zero => intro c; exact absurd c (by omega)
  | succ n ih =>
    intro c e ew
    show sumN h n + h n = sumN g n + g n + d
    by_cases q : w = n
    · rw [← q, sumN_eq w (fun j hj => e j (by omega) (by omega)), ew, Int32.add_assoc]
    · rw [ih (by omega) (fun j hj z => e j (by omega) z) ew, e n (by omega) (by omega), i_arc]
theorem sumN_cnt {g : Nat → Int32} : ∀ n : Nat, n ≤ 60 → (∀ j : Nat, j < n → (g j).toInt = 0 ∨ (g j).toInt = 1) → 0 ≤ (sumN g n).toInt ∧ (sumN g n).toInt ≤ (n : Int) ∧ ((sumN g n).toInt = 0 → ∀ j : Nat, j < n → (g j).toInt = 0) ∧ ((∀ j : Nat, j < n → (g j).toInt = 0) → (sumN g n).toInt = 0) := by
  intro n
  induction n with
  | zero => intro _ _; exact ⟨by show 0 ≤ (0 : Int32).toInt; decide, by show (0 : Int32).toInt ≤ 0; decide, fun _ j hj => absurd hj (by omega), fun _ => by show (0 : Int32).toInt = 0; decide⟩
  | succ n ih =>
    intro hn e
    obtain ⟨i1, i2, i3, i4⟩ := ih (by omega) (fun j hj => e j (by omega))
    have en := e n (by omega)
    have t : (sumN g (n + 1)).toInt = (sumN g n).toInt + (g n).toInt := k_addv rfl rfl (by omega) (by omega)
    refine ⟨by omega, by omega, fun z j hj => ?_, fun z => ?_⟩
    · by_cases q : j = n
      · rw [q]; omega
      · exact i3 (by omega) j (by omega)
    · have a := i4 (fun j hj => z j (by omega))
      have b := z n (by omega)
      omega
theorem mU_01 (k o : Int) : mU k o = 1 ∨ mU k o = 0 := by
  unfold mU
  by_cases c : k = o ∨ (o = 0 ∧ 0 ≤ k ∧ k ≤ 5) ∨ (o = 1 ∧ (k = 2 ∨ k = 3)) ∨ (o = 2 ∧ k = 3) ∨ (o = 4 ∧ k = 5)
  · rw [if_pos c]; exact Or.inl rfl
  · rw [if_neg c]; exact Or.inr rfl
theorem stN_01 (f : Nat → Int32) (n : Nat) (k : Int) : stN f n k = 1 ∨ stN f n k = 0 := by
  unfold stN
  by_cases c : (wN f n 4).toInt = 0
  · rw [if_pos c]; exact mU_01 _ _
  · rw [if_neg c]; exact Or.inr rfl
/-- what stands as a pole, a depot, a well, by kinds -/
theorem stN_eq {f : Nat → Int32} {n : Nat} {k o : Int} (hk : (wN f n 0).toInt = k) (hd : (wN f n 4).toInt = 0) : stN f n o = mU k o := by
  unfold stN; rw [if_pos hd, hk]
theorem stN_dn {f : Nat → Int32} {n : Nat} {o : Int} (hd : (wN f n 4).toInt ≠ 0) : stN f n o = 0 := by
  unfold stN; rw [if_neg hd]
theorem mU_y {k o : Int} (c : k = o ∨ (o = 0 ∧ 0 ≤ k ∧ k ≤ 5) ∨ (o = 1 ∧ (k = 2 ∨ k = 3)) ∨ (o = 2 ∧ k = 3) ∨ (o = 4 ∧ k = 5)) : mU k o = 1 := by unfold mU; rw [if_pos c]
theorem mU_n {k o : Int} (c : ¬ (k = o ∨ (o = 0 ∧ 0 ≤ k ∧ k ≤ 5) ∨ (o = 1 ∧ (k = 2 ∨ k = 3)) ∨ (o = 2 ∧ k = 3) ∨ (o = 4 ∧ k = 5))) : mU k o = 0 := by unfold mU; rw [if_neg c]
theorem tP_eq {f g : Nat → Int32} {m : Int} {n : Nat} (h0 : wN g n 0 = wN f n 0) (h1 : wN g n 1 = wN f n 1) (h4 : wN g n 4 = wN f n 4) : tP g m n = tP f m n := by
  unfold tP stN; rw [h0, h1, h4]
theorem tD_eq {f g : Nat → Int32} {m : Int} {n : Nat} (h0 : wN g n 0 = wN f n 0) (h1 : wN g n 1 = wN f n 1) (h4 : wN g n 4 = wN f n 4) : tD g m n = tD f m n := by
  unfold tD stN; rw [h0, h1, h4]
theorem tL_eq {f g : Nat → Int32} {m : Int} {n : Nat} (h0 : wN g n 0 = wN f n 0) (h1 : wN g n 1 = wN f n 1) (h2 : wN g n 2 = wN f n 2) (h4 : wN g n 4 = wN f n 4) : tL g m n = tL f m n := by
  unfold tL; rw [h0, h1, h2, h4]
theorem tP_01 (f : Nat → Int32) (m : Int) (n : Nat) : (tP f m n).toInt = 0 ∨ (tP f m n).toInt = 1 := by
  unfold tP
  by_cases c : (wN f n 1).toInt = m ∧ stN f n 1 = 1
  · rw [if_pos c]; exact Or.inr (by decide)
  · rw [if_neg c]; exact Or.inl (by decide)
theorem tD_01 (f : Nat → Int32) (m : Int) (n : Nat) : (tD f m n).toInt = 0 ∨ (tD f m n).toInt = 1 := by
  unfold tD
  by_cases c : (wN f n 1).toInt = m ∧ stN f n 5 = 1
  · rw [if_pos c]; exact Or.inr (by decide)
  · rw [if_neg c]; exact Or.inl (by decide)
theorem WD_01 {f : Nat → Int32} {m : Int} : ∀ n : Nat, WD f m n = 0 ∨ WD f m n = 1 := by
  intro n
  cases n with
  | zero => exact Or.inl rfl
  | succ n =>
    show (if (WD f m n).toInt ≠ 0 ∨ tP f m n = 1 then (1 : Int32) else 0) = 0 ∨ (if (WD f m n).toInt ≠ 0 ∨ tP f m n = 1 then (1 : Int32) else 0) = 1
    by_cases c : (WD f m n).toInt ≠ 0 ∨ tP f m n = 1
    · rw [if_pos c]; exact Or.inr rfl
    · rw [if_neg c]; exact Or.inl rfl
theorem WD_z {f : Nat → Int32} {m : Int} : ∀ n : Nat, (WD f m n = 0 → ∀ j : Nat, j < n → (tP f m j).toInt = 0) ∧ ((∀ j : Nat, j < n → (tP f m j).toInt = 0) → WD f m n = 0) := by
  intro n
  induction n with
  | zero => exact ⟨fun _ j hj => absurd hj (by omega), fun _ => rfl⟩
  | succ n ih =>
    constructor
    · intro z j hj
      have z1 : (if (WD f m n).toInt ≠ 0 ∨ tP f m n = 1 then (1 : Int32) else 0) = 0 := z
      by_cases c : (WD f m n).toInt ≠ 0 ∨ tP f m n = 1
      · rw [if_pos c] at z1; exact absurd z1 (by decide)
      · have c1 : (WD f m n).toInt = 0 := Classical.byContradiction (fun y => c (Or.inl y))
        have c2 : WD f m n = 0 := k_inj (by rw [c1]; decide)
        by_cases q : j = n
        · rw [q]
          rcases tP_01 f m n with y | y
          · exact y
          · exact absurd (Or.inr (k_inj (by rw [y]; decide))) c
        · exact ih.1 c2 j (by omega)
    · intro z
      have c2 := ih.2 (fun j hj => z j (by omega))
      show (if (WD f m n).toInt ≠ 0 ∨ tP f m n = 1 then (1 : Int32) else 0) = 0
      rw [if_neg (fun y => by
        rcases y with y | y
        · exact y (by rw [c2]; decide)
        · have := z n (by omega); rw [y] at this; exact absurd this (by decide))]
/-! WORKS of the calls' side -/
def WKR (ki mi si sn fo dn po dr de : Nat → Int32) (n : Int32) (x : Nat → Int32) : Prop :=
  n = x 1 ∧ (0 ≤ n.toInt ∧ n.toInt ≤ 60) ∧ (∀ w : Nat, w < 60 → ki w = wN x w 0 ∧ mi w = wN x w 1 ∧ si w = wN x w 2 ∧ sn w = wN x w 3 ∧ dn w = wN x w 4 ∧ fo w = wN x w 5)
  ∧ (∀ m : Nat, m < 40 → po m = sumN (tP x m) n.toInt.toNat ∧ dr m = sumN (tL x m) n.toInt.toNat ∧ de m = sumN (tD x m) n.toInt.toNat)
section WKRS
variable {ki mi si sn fo dn po dr de : Nat → Int32} {n : Int32} {x y : Nat → Int32}
theorem WKR.qn (h : WKR ki mi si sn fo dn po dr de n x) : n = x 1 := h.1
theorem WKR.n0 (h : WKR ki mi si sn fo dn po dr de n x) : 0 ≤ n.toInt ∧ n.toInt ≤ 60 := h.2.1
theorem WKR.nt (h : WKR ki mi si sn fo dn po dr de n x) : n.toInt = (x 1).toInt := by rw [← h.1]
theorem WKR.at (h : WKR ki mi si sn fo dn po dr de n x) (e : ∀ i : Nat, (i = 1 ∨ (99 ≤ i ∧ i ≤ 458)) → y i = x i) : WKR ki mi si sn fo dn po dr de n y := by
  obtain ⟨h1, h2, h3, h4⟩ := h
  have o : ∀ w k : Nat, w < 60 → k < 6 → wN y w k = wN x w k := fun w k hw hk => e _ (by omega)
  refine ⟨h1.trans (e 1 (by omega)).symm, h2, fun w hw => ?_, fun m hm => ?_⟩
  · obtain ⟨a0, a1, a2, a3, a4, a5⟩ := h3 w hw
    rw [o w 0 hw (by omega), o w 1 hw (by omega), o w 2 hw (by omega), o w 3 hw (by omega), o w 4 hw (by omega), o w 5 hw (by omega)]
    exact ⟨a0, a1, a2, a3, a4, a5⟩
  · obtain ⟨a0, a1, a2⟩ := h4 m hm
    rw [sumN_eq (g := tP x m) (h := tP y m) _ (fun j hj => tP_eq (o j 0 (by omega) (by omega)) (o j 1 (by omega) (by omega)) (o j 4 (by omega) (by omega))),
      sumN_eq (g := tL x m) (h := tL y m) _ (fun j hj => tL_eq (o j 0 (by omega) (by omega)) (o j 1 (by omega) (by omega)) (o j 2 (by omega) (by omega)) (o j 4 (by omega) (by omega))),
      sumN_eq (g := tD x m) (h := tD y m) _ (fun j hj => tD_eq (o j 0 (by omega) (by omega)) (o j 1 (by omega) (by omega)) (o j 4 (by omega) (by omega)))]
    exact ⟨a0, a1, a2⟩
theorem WKR.r0 (h : WKR ki mi si sn fo dn po dr de n x) {w : Int32} (h0 : 0 ≤ w.toInt) (h1 : w.toInt ≤ 59) : ki w.toNatClampNeg = wW x w 0 := (h.2.2.1 w.toNatClampNeg (by rw [k_clamp]; omega)).1
theorem WKR.r1 (h : WKR ki mi si sn fo dn po dr de n x) {w : Int32} (h0 : 0 ≤ w.toInt) (h1 : w.toInt ≤ 59) : mi w.toNatClampNeg = wW x w 1 := (h.2.2.1 w.toNatClampNeg (by rw [k_clamp]; omega)).2.1
theorem WKR.r2 (h : WKR ki mi si sn fo dn po dr de n x) {w : Int32} (h0 : 0 ≤ w.toInt) (h1 : w.toInt ≤ 59) : si w.toNatClampNeg = wW x w 2 := (h.2.2.1 w.toNatClampNeg (by rw [k_clamp]; omega)).2.2.1
theorem WKR.r3 (h : WKR ki mi si sn fo dn po dr de n x) {w : Int32} (h0 : 0 ≤ w.toInt) (h1 : w.toInt ≤ 59) : sn w.toNatClampNeg = wW x w 3 := (h.2.2.1 w.toNatClampNeg (by rw [k_clamp]; omega)).2.2.2.1
theorem WKR.r4 (h : WKR ki mi si sn fo dn po dr de n x) {w : Int32} (h0 : 0 ≤ w.toInt) (h1 : w.toInt ≤ 59) : dn w.toNatClampNeg = wW x w 4 := (h.2.2.1 w.toNatClampNeg (by rw [k_clamp]; omega)).2.2.2.2.1
theorem WKR.r5 (h : WKR ki mi si sn fo dn po dr de n x) {w : Int32} (h0 : 0 ≤ w.toInt) (h1 : w.toInt ≤ 59) : fo w.toNatClampNeg = wW x w 5 := (h.2.2.1 w.toNatClampNeg (by rw [k_clamp]; omega)).2.2.2.2.2
theorem WKR.qpo (h : WKR ki mi si sn fo dn po dr de n x) {m : Int32} (h0 : 0 ≤ m.toInt) (h1 : m.toInt ≤ 39) : po m.toNatClampNeg = sumN (tP x m.toInt) n.toInt.toNat := by
  have z := (h.2.2.2 m.toNatClampNeg (by rw [k_clamp]; omega)).1
  rw [z, k_clamp, show ((m.toInt.toNat : Nat) : Int) = m.toInt from by omega]
theorem WKR.qdr (h : WKR ki mi si sn fo dn po dr de n x) {m : Int32} (h0 : 0 ≤ m.toInt) (h1 : m.toInt ≤ 39) : dr m.toNatClampNeg = wlF x m.toInt := by
  have z := (h.2.2.2 m.toNatClampNeg (by rw [k_clamp]; omega)).2.1
  unfold wlF
  rw [z, k_clamp, show ((m.toInt.toNat : Nat) : Int) = m.toInt from by omega, h.1]
theorem WKR.qde (h : WKR ki mi si sn fo dn po dr de n x) {m : Int32} (h0 : 0 ≤ m.toInt) (h1 : m.toInt ≤ 39) : de m.toNatClampNeg = sumN (tD x m.toInt) n.toInt.toNat := by
  have z := (h.2.2.2 m.toNatClampNeg (by rw [k_clamp]; omega)).2.2
  rw [z, k_clamp, show ((m.toInt.toNat : Nat) : Int) = m.toInt from by omega]
theorem WKR.wd (h : WKR ki mi si sn fo dn po dr de n x) {m : Int32} (h0 : 0 ≤ m.toInt) (h1 : m.toInt ≤ 39) : (0 < (po m.toNatClampNeg).toInt ∧ wdF x m.toInt = 1) ∨ ((po m.toNatClampNeg).toInt ≤ 0 ∧ wdF x m.toInt = 0) := by
  have hn := h.2.1
  obtain ⟨i1, i2, i3, i4⟩ := sumN_cnt (g := tP x m.toInt) n.toInt.toNat (by omega) (fun j _ => tP_01 x m.toInt j)
  have w1 := WD_z (f := x) (m := m.toInt) n.toInt.toNat
  rw [h.qpo h0 h1]
  unfold wdF
  rw [← h.1]
  rcases WD_01 (f := x) (m := m.toInt) n.toInt.toNat with z | z
  · have a := i4 (w1.1 z)
    exact Or.inr ⟨by omega, z⟩
  · by_cases c : (sumN (tP x m.toInt) n.toInt.toNat).toInt = 0
    · have b := w1.2 (i3 c)
      rw [z] at b; exact absurd b (by decide)
    · exact Or.inl ⟨by omega, z⟩
end WKRS
/-- what a WORK adds to the MILE's numbers -/
def tlP (k : Int32) (po : Nat → Int32) (m v : Int32) : Nat → Int32 := if k.toInt = 1 ∨ k.toInt = 2 ∨ k.toInt = 3 then upd po m.toNatClampNeg (po m.toNatClampNeg + v) else po
def tlQ (o : Int) (k : Int32) (po : Nat → Int32) (m v : Int32) : Nat → Int32 := if k.toInt = o then upd po m.toNatClampNeg (po m.toNatClampNeg + v) else po
theorem tl_at {c : Prop} [Decidable c] {po : Nat → Int32} {m v : Int32} {j : Nat} (h0 : 0 ≤ m.toInt) : (if c then upd po m.toNatClampNeg (po m.toNatClampNeg + v) else po) j = po j + (if c ∧ m.toInt = (j : Int) then v else 0) := by
  by_cases q : c
  · rw [if_pos q]
    by_cases q1 : m.toInt = (j : Int)
    · have e : m.toNatClampNeg = j := by rw [k_clamp]; omega
      rw [if_pos ⟨q, q1⟩, e, sp_at]
    · rw [if_neg (fun z => q1 z.2), sp_ne (by rw [k_clamp]; omega), Int32.add_zero]
  · rw [if_neg q, if_neg (fun z => q z.1), Int32.add_zero]
theorem tP_v {f : Nat → Int32} {m : Int} {w : Nat} (hd : (wN f w 4).toInt = 0) (hk : 0 ≤ (wN f w 0).toInt ∧ (wN f w 0).toInt ≤ 5) : tP f m w = if ((wN f w 0).toInt = 1 ∨ (wN f w 0).toInt = 2 ∨ (wN f w 0).toInt = 3) ∧ (wN f w 1).toInt = m then 1 else 0 := by
  unfold tP
  rw [stN_eq rfl hd]
  by_cases c : (wN f w 0).toInt = 1 ∨ (wN f w 0).toInt = 2 ∨ (wN f w 0).toInt = 3
  · rw [mU_y (by omega)]
    by_cases c1 : (wN f w 1).toInt = m
    · rw [if_pos ⟨c1, rfl⟩, if_pos ⟨c, c1⟩]
    · rw [if_neg (fun z => c1 z.1), if_neg (fun z => c1 z.2)]
  · rw [mU_n (by omega), if_neg (fun z => absurd z.2 (by decide)), if_neg (fun z => c z.1)]
theorem tD_v {f : Nat → Int32} {m : Int} {w : Nat} (hd : (wN f w 4).toInt = 0) (hk : 0 ≤ (wN f w 0).toInt ∧ (wN f w 0).toInt ≤ 5) : tD f m w = if (wN f w 0).toInt = 5 ∧ (wN f w 1).toInt = m then 1 else 0 := by
  unfold tD
  rw [stN_eq rfl hd]
  by_cases c : (wN f w 0).toInt = 5
  · rw [mU_y (by omega)]
    by_cases c1 : (wN f w 1).toInt = m
    · rw [if_pos ⟨c1, rfl⟩, if_pos ⟨c, c1⟩]
    · rw [if_neg (fun z => c1 z.1), if_neg (fun z => c1 z.2)]
  · rw [mU_n (by omega), if_neg (fun z => absurd z.2 (by decide)), if_neg (fun z => c z.1)]
theorem tL_v {f : Nat → Int32} {m : Int} {w : Nat} (hd : (wN f w 4).toInt = 0) : tL f m w = if (wN f w 0).toInt = 4 ∧ (wN f w 1).toInt = m then wN f w 2 else 0 := by
  unfold tL
  by_cases c : (wN f w 0).toInt = 4
  · by_cases c1 : (wN f w 1).toInt = m
    · rw [if_pos ⟨c1, hd, c⟩, if_pos ⟨c, c1⟩]
    · rw [if_neg (fun z => c1 z.1), if_neg (fun z => c1 z.2)]
  · rw [if_neg (fun z => c z.2.2), if_neg (fun z => c z.1)]
theorem tP_n {f : Nat → Int32} {m : Int} {w : Nat} (hd : (wN f w 4).toInt ≠ 0) : tP f m w = 0 := by
  unfold tP; rw [stN_dn hd, if_neg (fun z => absurd z.2 (by decide))]
theorem tD_n {f : Nat → Int32} {m : Int} {w : Nat} (hd : (wN f w 4).toInt ≠ 0) : tD f m w = 0 := by
  unfold tD; rw [stN_dn hd, if_neg (fun z => absurd z.2 (by decide))]
theorem tL_n {f : Nat → Int32} {m : Int} {w : Nat} (hd : (wN f w 4).toInt ≠ 0) : tL f m w = 0 := by
  unfold tL; rw [if_neg (fun z => hd z.2.1)]
theorem i_ite1 {c : Prop} [Decidable c] {a : Int32} : (0 : Int32) = (if c then a else 0) + (if c then -1 * a else 0) := by
  by_cases q : c
  · rw [if_pos q, if_pos q, Int32.neg_mul, Int32.one_mul, Int32.add_neg_eq_sub, Int32.sub_self]
  · rw [if_neg q, if_neg q, Int32.add_zero]
theorem i_ite0 {c : Prop} [Decidable c] : (0 : Int32) = (if c then 1 else 0) + (if c then (-1) else 0) := by
  by_cases q : c
  · rw [if_pos q, if_pos q]; decide
  · rw [if_neg q, if_neg q]; decide
theorem WKR.down {ki mi si sn fo dn po dr de dn1 po1 dr1 de1 : Nat → Int32} {n w : Int32} {x : Nat → Int32} (h : WKR ki mi si sn fo dn po dr de n x) (sb : SB x) (w0 : 0 ≤ w.toInt) (w1 : w.toInt < n.toInt) (hd : (wW x w 4).toInt = 0) (e5 : dn1 = upd dn w.toNatClampNeg 1) (e6 : po1 = tlP (ki w.toNatClampNeg) po (mi w.toNatClampNeg) (-1)) (e7 : dr1 = tlQ 4 (ki w.toNatClampNeg) dr (mi w.toNatClampNeg) (-1 * si w.toNatClampNeg)) (e8 : de1 = tlQ 5 (ki w.toNatClampNeg) de (mi w.toNatClampNeg) (-1)) : WKR ki mi si sn fo dn1 po1 dr1 de1 n (upd x (99 + 6 * w.toInt.toNat + 4) 1) := by
  have hn := h.2.1
  have b0 := sb.w0 w0 (by omega)
  have b1 := sb.w1 w0 (by omega)
  have k0 := h.r0 w0 (by omega)
  have k1 := h.r1 w0 (by omega)
  have k2 := h.r2 w0 (by omega)
  obtain ⟨h1, h2, h3, h4⟩ := h
  have o : ∀ j k : Nat, k < 6 → (j ≠ w.toInt.toNat ∨ k ≠ 4) → wN (upd x (99 + 6 * w.toInt.toNat + 4) 1) j k = wN x j k := fun j k hk hj => wN_k hj hk (by omega)
  have hdn : (wN (upd x (99 + 6 * w.toInt.toNat + 4) 1) w.toInt.toNat 4).toInt ≠ 0 := by rw [wN_e]; decide
  refine ⟨h1.trans (sp_ne (by omega)).symm, h2, fun j hj => ?_, fun m hm => ?_⟩
  · obtain ⟨a0, a1, a2, a3, a4, a5⟩ := h3 j hj
    rw [o j 0 (by omega) (by omega), o j 1 (by omega) (by omega), o j 2 (by omega) (by omega), o j 3 (by omega) (by omega), o j 5 (by omega) (by omega)]
    refine ⟨a0, a1, a2, a3, ?_, a5⟩
    rw [e5, k_clamp]
    by_cases q : j = w.toInt.toNat
    · rw [q, sp_at, wN_e]
    · rw [sp_ne q, o j 4 (by omega) (by omega)]; exact a4
  · obtain ⟨a0, a1, a2⟩ := h4 m hm
    have z0 : (mi w.toNatClampNeg).toInt = (wN x w.toInt.toNat 1).toInt := by rw [k1]; rfl
    have y0 : (ki w.toNatClampNeg).toInt = (wN x w.toInt.toNat 0).toInt := by rw [k0]; rfl
    have b1' : 0 ≤ (mi w.toNatClampNeg).toInt := by rw [k1]; exact b1.1
    refine ⟨?_, ?_, ?_⟩
    · rw [e6]; unfold tlP; rw [tl_at b1', a0]
      refine (sumN_one (w := w.toInt.toNat) _ (by omega) (fun j _ hj => tP_eq (o j 0 (by omega) (by omega)) (o j 1 (by omega) (by omega)) (o j 4 (by omega) (by omega))) ?_).symm
      rw [tP_n hdn, tP_v hd b0, y0, z0]
      exact i_ite0
    · rw [e7]; unfold tlQ; rw [tl_at b1', a1]
      refine (sumN_one (w := w.toInt.toNat) _ (by omega) (fun j _ hj => tL_eq (o j 0 (by omega) (by omega)) (o j 1 (by omega) (by omega)) (o j 2 (by omega) (by omega)) (o j 4 (by omega) (by omega))) ?_).symm
      rw [tL_n hdn, tL_v hd, y0, z0, k2]
      exact i_ite1
    · rw [e8]; unfold tlQ; rw [tl_at b1', a2]
      refine (sumN_one (w := w.toInt.toNat) _ (by omega) (fun j _ hj => tD_eq (o j 0 (by omega) (by omega)) (o j 1 (by omega) (by omega)) (o j 4 (by omega) (by omega))) ?_).symm
      rw [tD_n hdn, tD_v hd b0, y0, z0]
      exact i_ite0
theorem wN_up {f : Nat → Int32} {n k i : Nat} {v : Int32} (h : 99 + 6 * n + k ≠ i) : wN (upd f i v) n k = wN f n k := by
  unfold wN; rw [sp_ne h]
theorem comS_off {f : Nat → Int32} {k m z t : Int32} {i : Nat} (hn : (f 1).toInt.toNat < 60) (h : i ≠ 1 ∧ (i < 99 ∨ 458 < i)) : comS f k m z t i = f i := by
  unfold comS
  rw [sp_ne (by omega), sp_ne (by omega), sp_ne (by omega), sp_ne (by omega), sp_ne (by omega), sp_ne (by omega), sp_ne h.1]
theorem comS_w {f : Nat → Int32} {k m z t : Int32} {j i : Nat} (hj : j ≠ (f 1).toInt.toNat) (hi : i < 6) : wN (comS f k m z t) j i = wN f j i := by
  unfold comS
  rw [wN_up (by omega), wN_up (by omega), wN_up (by omega), wN_up (by omega), wN_up (by omega), wN_up (by omega), wN_up (by omega)]
theorem comS_n {f : Nat → Int32} {k m z t : Int32} : wN (comS f k m z t) (f 1).toInt.toNat 0 = k ∧ wN (comS f k m z t) (f 1).toInt.toNat 1 = m ∧ wN (comS f k m z t) (f 1).toInt.toNat 2 = z ∧ wN (comS f k m z t) (f 1).toInt.toNat 3 = t ∧ wN (comS f k m z t) (f 1).toInt.toNat 4 = 0 ∧ wN (comS f k m z t) (f 1).toInt.toNat 5 = 0 := by
  unfold comS
  refine ⟨?_, ?_, ?_, ?_, ?_, ?_⟩
  · rw [wN_up (by omega), wN_up (by omega), wN_up (by omega), wN_up (by omega), wN_up (by omega), wN_e]
  · rw [wN_up (by omega), wN_up (by omega), wN_up (by omega), wN_up (by omega), wN_e]
  · rw [wN_up (by omega), wN_up (by omega), wN_up (by omega), wN_e]
  · rw [wN_up (by omega), wN_up (by omega), wN_e]
  · rw [wN_up (by omega), wN_e]
  · rw [wN_e]
theorem comS_1 {f : Nat → Int32} {k m z t : Int32} : comS f k m z t 1 = f 1 + 1 := by
  unfold comS
  rw [sp_ne (by omega), sp_ne (by omega), sp_ne (by omega), sp_ne (by omega), sp_ne (by omega), sp_ne (by omega), sp_at]
theorem i_ite2 {c : Prop} [Decidable c] {s a : Int32} : s + (if c then 1 * a else 0) = s + (if c then a else 0) := by
  rw [Int32.one_mul]
theorem WKR.add {ki mi si sn fo dn po dr de ki1 mi1 si1 sn1 fo1 dn1 po1 dr1 de1 : Nat → Int32} {n n1 k m z t : Int32} {x : Nat → Int32} (h : WKR ki mi si sn fo dn po dr de n x) (hn : n.toInt < 60) (hk : 0 ≤ k.toInt ∧ k.toInt ≤ 5) (hm : 0 ≤ m.toInt ∧ m.toInt ≤ 39)
    (e0 : ki1 = upd ki n.toNatClampNeg k) (e1 : mi1 = upd mi n.toNatClampNeg m) (e2 : si1 = upd si n.toNatClampNeg z) (e3 : sn1 = upd sn n.toNatClampNeg t) (e4 : fo1 = upd fo n.toNatClampNeg 0) (e5 : dn1 = upd dn n.toNatClampNeg 0)
    (e6 : po1 = tlP k po m 1) (e7 : dr1 = tlQ 4 k dr m (1 * z)) (e8 : de1 = tlQ 5 k de m 1) (e9 : n1 = n + 1) : WKR ki1 mi1 si1 sn1 fo1 dn1 po1 dr1 de1 n1 (comS x k m z t) := by
  obtain ⟨h1, h2, h3, h4⟩ := h
  have tn : n1.toInt = n.toInt + 1 := by rw [e9]; exact k_addv rfl (by decide) (by omega) (by omega)
  have w := comS_n (f := x) (k := k) (m := m) (z := z) (t := t)
  rw [← h1] at w
  obtain ⟨w0, w1, w2, w3, w4, w5⟩ := w
  have o : ∀ j i : Nat, j ≠ n.toInt.toNat → i < 6 → wN (comS x k m z t) j i = wN x j i := fun j i hj hi => comS_w (by rw [← h1]; exact hj) hi
  have hd : (wN (comS x k m z t) n.toInt.toNat 4).toInt = 0 := by rw [w4]; decide
  have hk' : 0 ≤ (wN (comS x k m z t) n.toInt.toNat 0).toInt ∧ (wN (comS x k m z t) n.toInt.toNat 0).toInt ≤ 5 := by rw [w0]; exact hk
  have hs : n1.toInt.toNat = n.toInt.toNat + 1 := by omega
  refine ⟨by rw [comS_1, e9, h1], by omega, fun j hj => ?_, fun q hq => ?_⟩
  · rw [e0, e1, e2, e3, e4, e5, k_clamp]
    by_cases c : j = n.toInt.toNat
    · rw [c, sp_at, sp_at, sp_at, sp_at, sp_at, sp_at]; exact ⟨w0.symm, w1.symm, w2.symm, w3.symm, w4.symm, w5.symm⟩
    · rw [sp_ne c, sp_ne c, sp_ne c, sp_ne c, sp_ne c, sp_ne c, o j 0 c (by omega), o j 1 c (by omega), o j 2 c (by omega), o j 3 c (by omega), o j 4 c (by omega), o j 5 c (by omega)]; exact h3 j hj
  · obtain ⟨a0, a1, a2⟩ := h4 q hq
    rw [hs]
    refine ⟨?_, ?_, ?_⟩
    · show po1 q = sumN (tP (comS x k m z t) q) n.toInt.toNat + tP (comS x k m z t) q n.toInt.toNat
      rw [sumN_eq (g := tP x q) _ (fun j hj => tP_eq (o j 0 (by omega) (by omega)) (o j 1 (by omega) (by omega)) (o j 4 (by omega) (by omega))), e6]
      unfold tlP; rw [tl_at hm.1, a0, tP_v hd hk', w0, w1]
    · show dr1 q = sumN (tL (comS x k m z t) q) n.toInt.toNat + tL (comS x k m z t) q n.toInt.toNat
      rw [sumN_eq (g := tL x q) _ (fun j hj => tL_eq (o j 0 (by omega) (by omega)) (o j 1 (by omega) (by omega)) (o j 2 (by omega) (by omega)) (o j 4 (by omega) (by omega))), e7]
      unfold tlQ; rw [tl_at hm.1, a1, tL_v hd, w0, w1, w2, Int32.one_mul]
    · show de1 q = sumN (tD (comS x k m z t) q) n.toInt.toNat + tD (comS x k m z t) q n.toInt.toNat
      rw [sumN_eq (g := tD x q) _ (fun j hj => tD_eq (o j 0 (by omega) (by omega)) (o j 1 (by omega) (by omega)) (o j 4 (by omega) (by omega))), e8]
      unfold tlQ; rw [tl_at hm.1, a2, tD_v hd hk', w0, w1]
theorem WKR.food {ki mi si sn fo dn po dr de fo1 : Nat → Int32} {n w v : Int32} {x : Nat → Int32} (h : WKR ki mi si sn fo dn po dr de n x) (e : fo1 = upd fo w.toNatClampNeg v) : WKR ki mi si sn fo1 dn po dr de n (upd x (99 + 6 * w.toInt.toNat + 5) v) := by
  obtain ⟨h1, h2, h3, h4⟩ := h
  have o : ∀ j k : Nat, k < 6 → (j ≠ w.toInt.toNat ∨ k ≠ 5) → wN (upd x (99 + 6 * w.toInt.toNat + 5) v) j k = wN x j k := fun j k hk hj => wN_k hj hk (by omega)
  refine ⟨h1.trans (sp_ne (by omega)).symm, h2, fun j hj => ?_, fun m hm => ?_⟩
  · obtain ⟨a0, a1, a2, a3, a4, a5⟩ := h3 j hj
    rw [o j 0 (by omega) (by omega), o j 1 (by omega) (by omega), o j 2 (by omega) (by omega), o j 3 (by omega) (by omega), o j 4 (by omega) (by omega)]
    refine ⟨a0, a1, a2, a3, a4, ?_⟩
    rw [e, k_clamp]
    by_cases q : j = w.toInt.toNat
    · rw [q, sp_at, wN_e]
    · rw [sp_ne q, o j 5 (by omega) (by omega)]; exact a5
  · obtain ⟨a0, a1, a2⟩ := h4 m hm
    rw [sumN_eq (g := tP x m) (h := tP _ m) _ (fun j hj => tP_eq (o j 0 (by omega) (by omega)) (o j 1 (by omega) (by omega)) (o j 4 (by omega) (by omega))),
      sumN_eq (g := tL x m) (h := tL _ m) _ (fun j hj => tL_eq (o j 0 (by omega) (by omega)) (o j 1 (by omega) (by omega)) (o j 2 (by omega) (by omega)) (o j 4 (by omega) (by omega))),
      sumN_eq (g := tD x m) (h := tD _ m) _ (fun j hj => tD_eq (o j 0 (by omega) (by omega)) (o j 1 (by omega) (by omega)) (o j 4 (by omega) (by omega)))]
    exact ⟨a0, a1, a2⟩
theorem WKR.cp {ki mi si sn fo dn po dr de ki1 mi1 si1 sn1 fo1 dn1 po1 dr1 de1 : Nat → Int32} {n n1 : Int32} {x y : Nat → Int32} (h : WKR ki mi si sn fo dn po dr de n x) (a0 : ki1 = ki) (a1 : mi1 = mi) (a2 : si1 = si) (a3 : sn1 = sn) (a4 : fo1 = fo) (a5 : dn1 = dn) (a6 : po1 = po) (a7 : dr1 = dr) (a8 : de1 = de) (a9 : n1 = n) (t : y = x) : WKR ki1 mi1 si1 sn1 fo1 dn1 po1 dr1 de1 n1 y := by
  rw [a0, a1, a2, a3, a4, a5, a6, a7, a8, a9, t]; exact h
/-! PARTIES of the calls' side, what waits, all of a World -/
def PTR (fa : Nat → Int32) (n : Int32) (x : Nat → Int32) : Prop := n = x 2 ∧ (0 ≤ n.toInt ∧ n.toInt ≤ 4) ∧ ∀ j : Nat, j < 36 → fa j = x (459 + j)
def WTR (wa : Nat → Int32) (x : Nat → Int32) : Prop := ∀ j : Nat, j < 20 → wa j = x (1181 + j)
theorem PTR.at {fa : Nat → Int32} {n : Int32} {x y : Nat → Int32} (h : PTR fa n x) (e : ∀ i : Nat, (i = 2 ∨ (459 ≤ i ∧ i ≤ 494)) → y i = x i) : PTR fa n y :=
  ⟨h.1.trans (e 2 (by omega)).symm, h.2.1, fun j hj => (h.2.2 j hj).trans (e _ (by omega)).symm⟩
theorem PTR.nt {fa : Nat → Int32} {n : Int32} {x : Nat → Int32} (h : PTR fa n x) : n.toInt = (x 2).toInt := by rw [← h.1]
theorem PTR.rd {fa : Nat → Int32} {n p v i : Int32} {x : Nat → Int32} {k : Nat} (h : PTR fa n x) (h0 : 0 ≤ p.toInt) (h1 : p.toInt ≤ 3) (hk : k < 9) (e : v = fa i.toNatClampNeg) (t : i.toInt = 9 * p.toInt + k) : v = pW x p k := by
  rw [e, k_clamp]
  have z := h.2.2 (9 * p.toInt.toNat + k) (by omega)
  unfold pW
  rw [show i.toInt.toNat = 9 * p.toInt.toNat + k from by omega, z, Nat.add_assoc]
theorem PTR.put {fa fb : Nat → Int32} {n p v i : Int32} {x : Nat → Int32} {k : Nat} (h : PTR fa n x) (h0 : 0 ≤ p.toInt) (h1 : p.toInt ≤ 3) (hk : k < 9) (e : fb = upd fa i.toNatClampNeg v) (t : i.toInt = 9 * p.toInt + k) : PTR fb n (upd x (459 + 9 * p.toInt.toNat + k) v) := by
  refine ⟨h.1.trans (sp_ne (by omega)).symm, h.2.1, fun j hj => ?_⟩
  rw [e, k_clamp]
  by_cases q : j = i.toInt.toNat
  · rw [q, sp_at, show 459 + i.toInt.toNat = 459 + 9 * p.toInt.toNat + k from by omega, sp_at]
  · rw [sp_ne q, sp_ne (by omega)]; exact h.2.2 j hj
theorem PTR.cp {fa fb : Nat → Int32} {n m : Int32} {x y : Nat → Int32} (h : PTR fa n x) (a0 : fb = fa) (a1 : m = n) (t : y = x) : PTR fb m y := by rw [a0, a1, t]; exact h
theorem WTR.at {wa x y : Nat → Int32} (h : WTR wa x) (e : ∀ i : Nat, 1181 ≤ i → i ≤ 1200 → y i = x i) : WTR wa y := fun j hj => (h j hj).trans (e _ (by omega) (by omega)).symm
def WR (ra so sp wa ki mi si sn fo dn po dr de : Nat → Int32) (wn : Int32) (fa : Nat → Int32) (pn w v d : Int32) (x : Nat → Int32) : Prop :=
  REL ra so sp w v d pn x ∧ WTR wa x ∧ WKR ki mi si sn fo dn po dr de wn x ∧ PTR fa pn x
-- kept in bounds: what the functions leave
theorem SIX.c4 {f g : Nat → Int32} {w : Nat} {q : Int} {x : Int32} (h : SIX f q) (hw : w < 60) (e : g = upd f (99 + 6 * w + 4) x) (hx : 0 ≤ x.toInt ∧ x.toInt ≤ 1) : SIX g q := by
  have t : (Int32.ofNat w).toInt = (w : Int) := nI_toInt (by omega)
  exact SIX.w (w := Int32.ofNat w) h (by rw [t]; exact e) rfl (by omega) (by omega) (by omega)
theorem SIX.c5 {f g : Nat → Int32} {w : Nat} {q : Int} {x : Int32} (h : SIX f q) (hw : w < 60) (e : g = upd f (99 + 6 * w + 5) x) (hx : 0 ≤ x.toInt ∧ x.toInt ≤ 9999) : SIX g q := by
  have t : (Int32.ofNat w).toInt = (w : Int) := nI_toInt (by omega)
  exact SIX.w (w := Int32.ofNat w) h (by rw [t]; exact e) rfl (by omega) (by omega) (by omega)
theorem SB.f5 {f : Nat → Int32} (h : SB f) {w : Nat} (hw : w < 60) : 0 ≤ (wN f w 5).toInt ∧ (wN f w 5).toInt ≤ 9999 := by
  have t : (Int32.ofNat w).toInt = (w : Int) := nI_toInt (by omega)
  have z := h.w5 (w := Int32.ofNat w) (by omega) (by omega)
  unfold wW at z
  rw [t] at z
  exact z
theorem eatN_at (f : Nat → Int32) : ∀ (n : Nat) {i : Nat}, (i < 99 ∨ 458 < i) → n ≤ 60 → eatN f n i = f i := by
  intro n
  induction n with
  | zero => intro i _ _; rfl
  | succ n ih =>
    intro i hi hn
    show (if 0 ≤ (eoN (eatN f n) n).toInt ∧ (eoN (eatN f n) n).toInt ≤ (eatN f n 0).toInt + 1 then upd (eatN f n) (99 + 6 * n + 4) 1 else eatN f n) i = f i
    by_cases c : 0 ≤ (eoN (eatN f n) n).toInt ∧ (eoN (eatN f n) n).toInt ≤ (eatN f n 0).toInt + 1
    · rw [if_pos c, sp_ne (by omega)]; exact ih hi (by omega)
    · rw [if_neg c]; exact ih hi (by omega)
theorem eatN_six {f : Nat → Int32} {q : Int} (h : SIX f q) : ∀ n : Nat, n ≤ 60 → SIX (eatN f n) q := by
  intro n
  induction n with
  | zero => intro _; exact h
  | succ n ih =>
    intro hn
    show SIX (if 0 ≤ (eoN (eatN f n) n).toInt ∧ (eoN (eatN f n) n).toInt ≤ (eatN f n 0).toInt + 1 then upd (eatN f n) (99 + 6 * n + 4) 1 else eatN f n) q
    by_cases c : 0 ≤ (eoN (eatN f n) n).toInt ∧ (eoN (eatN f n) n).toInt ≤ (eatN f n 0).toInt + 1
    · rw [if_pos c]; exact (ih (by omega)).c4 (by omega) rfl (by decide)
    · rw [if_neg c]; exact ih (by omega)
theorem eatN_w {f : Nat → Int32} : ∀ (n : Nat) {w k : Nat}, k < 6 → (k ≠ 4 ∨ n ≤ w) → wN (eatN f n) w k = wN f w k := by
  intro n
  induction n with
  | zero => intro w k _ _; rfl
  | succ n ih =>
    intro w k hk hw
    have z : wN (eatN f n) w k = wN f w k := ih hk (by omega)
    show wN (if 0 ≤ (eoN (eatN f n) n).toInt ∧ (eoN (eatN f n) n).toInt ≤ (eatN f n 0).toInt + 1 then upd (eatN f n) (99 + 6 * n + 4) 1 else eatN f n) w k = wN f w k
    by_cases c : 0 ≤ (eoN (eatN f n) n).toInt ∧ (eoN (eatN f n) n).toInt ≤ (eatN f n 0).toInt + 1
    · rw [if_pos c, wN_up (by omega)]; exact z
    · rw [if_neg c]; exact z
/-- eaten on its day, as either side asks it -/
theorem eo_y {f : Nat → Int32} (h : SB f) {w : Int32} (h0 : 0 ≤ w.toInt) (h1 : w.toInt ≤ 59) (hk : (wW f w 0).toInt = 1) (hd : (wW f w 4).toInt = 0) {li : Int32} (hl : li = lifN f w.toInt.toNat) : (0 ≤ (eoN f w.toInt.toNat).toInt ∧ (eoN f w.toInt.toNat).toInt ≤ (f 0).toInt + 1) ↔ li.toInt ≤ (f 0).toInt + 1 - (wW f w 3).toInt := by
  have d0 := h.n0
  have s3 := h.w3 h0 h1
  have lb : li.toInt = 60 ∨ li.toInt = 120 := by
    rw [hl]; unfold lifN
    by_cases c : (f (19 + (wN f w.toInt.toNat 1).toInt.toNat)).toInt = 0
    · rw [if_pos c]; exact Or.inl (by decide)
    · rw [if_neg c]; exact Or.inr (by decide)
  have e1 : stN f w.toInt.toNat 1 = 1 := by rw [stN_eq (k := 1) hk hd]; exact mU_y (by omega)
  have e2 : stN f w.toInt.toNat 2 = 0 := by rw [stN_eq (k := 1) hk hd]; exact mU_n (by omega)
  have t : (wN f w.toInt.toNat 3 + lifN f w.toInt.toNat).toInt = (wW f w 3).toInt + li.toInt := by rw [← hl]; exact k_addv (x := wN f w.toInt.toNat 3) rfl rfl (show -2147483648 ≤ (wW f w 3).toInt + li.toInt by omega) (show (wW f w 3).toInt + li.toInt ≤ 2147483647 by omega)
  have t1 : (f 0 + 1).toInt = (f 0).toInt + 1 := k_addv rfl (by decide) (by omega) (by omega)
  unfold eoN
  rw [if_pos ⟨e1, e2⟩]
  by_cases c : (f 0).toInt < (wN f w.toInt.toNat 3 + lifN f w.toInt.toNat).toInt
  · rw [if_pos c, t]; rw [t] at c; omega
  · rw [if_neg c, t1]; rw [t] at c; omega
theorem eo_n {f : Nat → Int32} {w : Int32} (h : (wW f w 0).toInt ≠ 1 ∨ (wW f w 4).toInt ≠ 0) : eoN f w.toInt.toNat = -1 := by
  unfold eoN
  rw [if_neg]
  rintro ⟨z1, z2⟩
  by_cases hd : (wW f w 4).toInt = 0
  · rw [stN_eq (f := f) (n := w.toInt.toNat) (k := (wW f w 0).toInt) rfl hd] at z1 z2
    rcases h with h | h
    · unfold mU at z1 z2
      by_cases c : (wW f w 0).toInt = 2 ∨ (wW f w 0).toInt = 3
      · rw [if_pos (by omega)] at z2; exact absurd z2 (by decide)
      · rw [if_neg (by omega)] at z1; exact absurd z1 (by decide)
    · exact h hd
  · rw [stN_dn (f := f) (n := w.toInt.toNat) hd] at z1; exact absurd z1 (by decide)
theorem eatN_yes {f : Nat → Int32} {w w1 : Int32} (h0 : 0 ≤ w.toInt) (h1 : w1.toInt = w.toInt + 1) (c : 0 ≤ (eoN (eatN f w.toInt.toNat) w.toInt.toNat).toInt ∧ (eoN (eatN f w.toInt.toNat) w.toInt.toNat).toInt ≤ (eatN f w.toInt.toNat 0).toInt + 1) : upd (eatN f w.toInt.toNat) (99 + 6 * w.toInt.toNat + 4) 1 = eatN f w1.toInt.toNat := by
  rw [show w1.toInt.toNat = w.toInt.toNat + 1 from by omega]
  show _ = if 0 ≤ (eoN (eatN f w.toInt.toNat) w.toInt.toNat).toInt ∧ (eoN (eatN f w.toInt.toNat) w.toInt.toNat).toInt ≤ (eatN f w.toInt.toNat 0).toInt + 1 then upd (eatN f w.toInt.toNat) (99 + 6 * w.toInt.toNat + 4) 1 else eatN f w.toInt.toNat
  rw [if_pos c]
theorem eatN_no {f : Nat → Int32} {w w1 : Int32} (h0 : 0 ≤ w.toInt) (h1 : w1.toInt = w.toInt + 1) (c : ¬ (0 ≤ (eoN (eatN f w.toInt.toNat) w.toInt.toNat).toInt ∧ (eoN (eatN f w.toInt.toNat) w.toInt.toNat).toInt ≤ (eatN f w.toInt.toNat 0).toInt + 1)) : eatN f w.toInt.toNat = eatN f w1.toInt.toNat := by
  rw [show w1.toInt.toNat = w.toInt.toNat + 1 from by omega]
  show _ = if 0 ≤ (eoN (eatN f w.toInt.toNat) w.toInt.toNat).toInt ∧ (eoN (eatN f w.toInt.toNat) w.toInt.toNat).toInt ≤ (eatN f w.toInt.toNat 0).toInt + 1 then upd (eatN f w.toInt.toNat) (99 + 6 * w.toInt.toNat + 4) 1 else eatN f w.toInt.toNat
  rw [if_neg c]
/-! food taken of a MILE's depots -/
theorem eaV_z {f : Nat → Int32} {m : Int} {want taken : Int32} {n : Nat} (h : (want - taken).toInt ≤ 0) (hf : 0 ≤ (wN f n 5).toInt) : eaV f m want taken n = 0 := by
  unfold eaV
  by_cases c : (wN f n 1).toInt = m ∧ stN f n 5 = 1 ∧ 0 ≤ (want - taken).toInt
  · rw [if_pos c]
    have c2 := c.2.2
    by_cases c1 : (want - taken).toInt < (wN f n 5).toInt
    · rw [if_pos c1]; exact k_inj (by rw [show (0 : Int32).toInt = 0 from by decide]; omega)
    · rw [if_neg c1]; exact k_inj (by rw [show (0 : Int32).toInt = 0 from by decide]; omega)
  · rw [if_neg c]
theorem eaV_b {f : Nat → Int32} {m : Int} {want taken : Int32} {n : Nat} (hf : 0 ≤ (wN f n 5).toInt) : 0 ≤ (eaV f m want taken n).toInt ∧ (eaV f m want taken n).toInt ≤ (wN f n 5).toInt ∧ ((eaV f m want taken n).toInt = 0 ∨ (eaV f m want taken n).toInt ≤ (want - taken).toInt) := by
  have z : (0 : Int32).toInt = 0 := by decide
  unfold eaV
  by_cases c : (wN f n 1).toInt = m ∧ stN f n 5 = 1 ∧ 0 ≤ (want - taken).toInt
  · rw [if_pos c]
    have c2 := c.2.2
    by_cases c1 : (want - taken).toInt < (wN f n 5).toInt
    · rw [if_pos c1]; omega
    · rw [if_neg c1]; omega
  · rw [if_neg c, z]; omega
theorem eaT_1 (f : Nat → Int32) (m : Int) (want : Int32) (n : Nat) : (eaT f m want (n + 1)).1 = (eaT f m want n).1 + eaV (eaT f m want n).2 m want (eaT f m want n).1 n := rfl
theorem eaT_2 (f : Nat → Int32) (m : Int) (want : Int32) (n : Nat) : (eaT f m want (n + 1)).2 = upd (eaT f m want n).2 (99 + 6 * n + 5) (wN (eaT f m want n).2 n 5 - eaV (eaT f m want n).2 m want (eaT f m want n).1 n) := rfl
theorem eaT_off (f : Nat → Int32) (m : Int) (want : Int32) : ∀ (n : Nat) {i : Nat}, n ≤ 60 → (i < 99 ∨ 458 < i) → (eaT f m want n).2 i = f i := by
  intro n
  induction n with
  | zero => intro i _ _; rfl
  | succ n ih => intro i hn hi; rw [eaT_2, sp_ne (by omega)]; exact ih (by omega) hi
theorem eaT_w (f : Nat → Int32) (m : Int) (want : Int32) : ∀ (n : Nat) {w k : Nat}, k < 6 → (k ≠ 5 ∨ n ≤ w) → wN (eaT f m want n).2 w k = wN f w k := by
  intro n
  induction n with
  | zero => intro w k _ _; rfl
  | succ n ih => intro w k hk hw; rw [eaT_2, wN_up (by omega)]; exact ih hk (by omega)
/-- what is taken so far is no more than was wanted -/
theorem eaT_ok {f : Nat → Int32} {m : Int} {want : Int32} {q : Int} (h : SIX f q) (hw : want.toInt ≤ 1000 ∧ -9999 ≤ want.toInt) : ∀ n : Nat, n ≤ 60 → SIX (eaT f m want n).2 q ∧ 0 ≤ (eaT f m want n).1.toInt ∧ ((eaT f m want n).1.toInt = 0 ∨ (eaT f m want n).1.toInt ≤ want.toInt) := by
  intro n
  induction n with
  | zero => intro _; exact ⟨h, by show 0 ≤ (0 : Int32).toInt; decide, Or.inl (by show (0 : Int32).toInt = 0; decide)⟩
  | succ n ih =>
    intro hn
    obtain ⟨i1, i2, i3⟩ := ih (by omega)
    have f5 := i1.1.f5 (w := n) (by omega)
    obtain ⟨b1, b2, b3⟩ := eaV_b (f := (eaT f m want n).2) (m := m) (want := want) (taken := (eaT f m want n).1) (n := n) f5.1
    have ts : (want - (eaT f m want n).1).toInt = want.toInt - (eaT f m want n).1.toInt := k_subv rfl rfl (by omega) (by omega)
    have ta : (eaT f m want (n + 1)).1.toInt = (eaT f m want n).1.toInt + (eaV (eaT f m want n).2 m want (eaT f m want n).1 n).toInt := by rw [eaT_1]; exact k_addv rfl rfl (by omega) (by omega)
    have tb : (wN (eaT f m want n).2 n 5 - eaV (eaT f m want n).2 m want (eaT f m want n).1 n).toInt = (wN (eaT f m want n).2 n 5).toInt - (eaV (eaT f m want n).2 m want (eaT f m want n).1 n).toInt := k_subv rfl rfl (by omega) (by omega)
    exact ⟨i1.c5 (by omega) (eaT_2 f m want n) (by omega), by omega, by omega⟩
/-- nothing more is wanted: nothing more is taken -/
theorem eaT_end {f : Nat → Int32} {m : Int} {want : Int32} {q : Int} (h : SIX f q) (hw : want.toInt ≤ 1000 ∧ -9999 ≤ want.toInt) {a : Nat} (ha : want.toInt ≤ (eaT f m want a).1.toInt) : ∀ n : Nat, n ≤ 60 → a ≤ n → (eaT f m want n).1 = (eaT f m want a).1 ∧ (eaT f m want n).2 = (eaT f m want a).2 := by
  intro n
  induction n with
  | zero => intro _ h1; rw [show a = 0 from by omega]; exact ⟨rfl, rfl⟩
  | succ n ih =>
    intro hn h1
    by_cases c : a = n + 1
    · rw [c]; exact ⟨rfl, rfl⟩
    · obtain ⟨e1, e2⟩ := ih (by omega) (by omega)
      obtain ⟨i1, i2, i3⟩ := eaT_ok (m := m) h hw n (by omega)
      have f5 := i1.1.f5 (w := n) (by omega)
      have ts : (want - (eaT f m want n).1).toInt = want.toInt - (eaT f m want n).1.toInt := k_subv rfl rfl (by omega) (by omega)
      have z : eaV (eaT f m want n).2 m want (eaT f m want n).1 n = 0 := eaV_z (by rw [ts, e1]; omega) f5.1
      rw [eaT_1, eaT_2, z, Int32.add_zero, Int32.sub_zero, sp_same (by rfl)]
      exact ⟨e1, e2⟩
/-- no depot in the MILE: nothing is taken -/
theorem eaT_no {f : Nat → Int32} {m : Int} {want : Int32} : ∀ n : Nat, (∀ j : Nat, j < n → (tD f m j).toInt = 0) → (eaT f m want n).1 = 0 ∧ (eaT f m want n).2 = f := by
  intro n
  induction n with
  | zero => intro _; exact ⟨rfl, rfl⟩
  | succ n ih =>
    intro h
    obtain ⟨e1, e2⟩ := ih (fun j hj => h j (by omega))
    have hn := h n (by omega)
    have z : eaV (eaT f m want n).2 m want (eaT f m want n).1 n = 0 := by
      unfold eaV
      rw [e2]
      by_cases c : (wN f n 1).toInt = m ∧ stN f n 5 = 1
      · unfold tD at hn; rw [if_pos c] at hn; exact absurd hn (by decide)
      · rw [if_neg (fun y => c ⟨y.1, y.2.1⟩)]
    rw [eaT_1, eaT_2, z, Int32.add_zero, Int32.sub_zero, sp_same (by rfl)]
    exact ⟨e1, e2⟩
theorem eaV_in {f : Nat → Int32} {m : Int} {want taken part fd d : Int32} {n : Nat} (h1 : (wN f n 1).toInt = m) (h5 : stN f n 5 = 1) (hd : d = want - taken) (h0 : 0 ≤ d.toInt) (hf : fd = wN f n 5) (hp : (d.toInt < fd.toInt ∧ part.toInt = d.toInt) ∨ (fd.toInt ≤ d.toInt ∧ part.toInt = fd.toInt)) : part = eaV f m want taken n := by
  unfold eaV
  rw [← hd, ← hf, if_pos ⟨h1, h5, h0⟩]
  rcases hp with ⟨c, e⟩ | ⟨c, e⟩
  · rw [if_pos c]; exact k_inj e
  · rw [if_neg (by omega)]; exact k_inj e
theorem eaV_no {f : Nat → Int32} {m : Int} {want taken : Int32} {n : Nat} (h : (wN f n 1).toInt ≠ m ∨ stN f n 5 = 0 ∨ (want - taken).toInt < 0) : (0 : Int32) = eaV f m want taken n := by
  unfold eaV
  rw [if_neg]
  rintro ⟨z1, z2, z3⟩
  rcases h with h | h | h
  · exact h z1
  · rw [h] at z2; exact absurd z2 (by decide)
  · omega
/-- one WORK more is asked -/
theorem eaT_s {f g h : Nat → Int32} {m : Int} {want t t1 v x : Int32} {w w1 : Int32} (h0 : 0 ≤ w.toInt) (h1 : w1.toInt = w.toInt + 1) (et : t = (eaT f m want w.toInt.toNat).1) (eg : g = (eaT f m want w.toInt.toNat).2) (ev : v = eaV g m want t w.toInt.toNat) (e1 : t1 = t + v) (ex : x = wW g w 5 - v) (e2 : h = upd g (99 + 6 * w.toInt.toNat + 5) x) : t1 = (eaT f m want w1.toInt.toNat).1 ∧ h = (eaT f m want w1.toInt.toNat).2 := by
  rw [show w1.toInt.toNat = w.toInt.toNat + 1 from by omega, eaT_1, eaT_2, ← et, ← eg, ← ev]
  exact ⟨e1, by rw [e2, ex]; rfl⟩
theorem eaT_s0 {f g : Nat → Int32} {m : Int} {want t : Int32} {w w1 : Int32} (h0 : 0 ≤ w.toInt) (h1 : w1.toInt = w.toInt + 1) (et : t = (eaT f m want w.toInt.toNat).1) (eg : g = (eaT f m want w.toInt.toNat).2) (ev : (0 : Int32) = eaV g m want t w.toInt.toNat) : t = (eaT f m want w1.toInt.toNat).1 ∧ g = (eaT f m want w1.toInt.toNat).2 := by
  rw [show w1.toInt.toNat = w.toInt.toNat + 1 from by omega, eaT_1, eaT_2, ← et, ← eg, ← ev, Int32.add_zero, Int32.sub_zero, sp_same (by rfl)]
  exact ⟨rfl, rfl⟩
theorem SIX.pk {f g : Nat → Int32} {p k : Nat} {q : Int} {x : Int32} (h : SIX f q) (hp : p < 4) (hk : k < 9) (h2 : k ≠ 2) (h8 : k ≠ 8) (e : g = upd f (459 + 9 * p + k) x) (b : (k = 0 → 0 ≤ x.toInt ∧ x.toInt ≤ 39) ∧ (k = 3 → 0 ≤ x.toInt ∧ x.toInt ≤ 50) ∧ (k = 5 → 0 ≤ x.toInt ∧ x.toInt ≤ 9999)) : SIX g q := by
  have t : (Int32.ofNat p).toInt = (p : Int) := nI_toInt (by omega)
  exact SIX.p (w := Int32.ofNat p) h (by rw [t]; exact e) rfl (by omega) (by omega) hk (by omega) (fun z => absurd z h2) (fun z => absurd z h8)
theorem SIX.pm {f g : Nat → Int32} {p : Nat} {x : Int32} (h : SIX f (p : Int)) (hp : p < 4) (e : g = upd f (459 + 9 * p + 2) x) (b : 0 ≤ x.toInt ∧ x.toInt ≤ 50) : SIX g (p : Int) := by
  have t : (Int32.ofNat p).toInt = (p : Int) := nI_toInt (by omega)
  exact SIX.p (w := Int32.ofNat p) h (by rw [t]; exact e) rfl (by omega) (by omega) (by omega) (by omega) (fun _ => Or.inr t.symm) (fun z => absurd z (by decide))
theorem SB.pn {f : Nat → Int32} (h : SB f) {p : Nat} (hp : p < 4) : (0 ≤ (pN f p 0).toInt ∧ (pN f p 0).toInt ≤ 39) ∧ (0 ≤ (pN f p 2).toInt ∧ (pN f p 2).toInt ≤ 50) ∧ (0 ≤ (pN f p 3).toInt ∧ (pN f p 3).toInt ≤ 50) ∧ (0 ≤ (pN f p 5).toInt ∧ (pN f p 5).toInt ≤ 9999) := by
  have t : (Int32.ofNat p).toInt = (p : Int) := nI_toInt (by omega)
  have z0 := h.p0 (p := Int32.ofNat p) (by omega) (by omega)
  have z2 := h.p2 (p := Int32.ofNat p) (by omega) (by omega)
  have z3 := h.p3 (p := Int32.ofNat p) (by omega) (by omega)
  have z5 := h.p5 (p := Int32.ofNat p) (by omega) (by omega)
  unfold pW at z0 z2 z3 z5
  rw [t] at z0 z2 z3 z5
  exact ⟨z0, z2, z3, z5⟩
theorem drk_six {f : Nat → Int32} {p : Nat} (h : SIX f (-1)) (hp : p < 4) (hm : 1 ≤ (pN f p 2).toInt) : SIX (drkS f p) (p : Int) := by
  have h' : SIX f (p : Int) := h.but
  obtain ⟨_, b2, b3, _⟩ := h.1.pn hp
  unfold drkS
  by_cases c : (drkV f p).toInt < 0
  · rw [if_pos c]
    by_cases c1 : 0 < (pN f p 3).toInt
    · rw [if_pos c1]
      have t : (pN f p 3 - 1).toInt = (pN f p 3).toInt - 1 := k_subv rfl (by decide) (by omega) (by omega)
      exact (h'.pk hp (k := 3) (by omega) (by omega) (by omega) rfl (by omega)).pk hp (k := 6) (by omega) (by omega) (by omega) rfl (by omega)
    · rw [if_neg c1]
      have t : (pN f p 2 - 1).toInt = (pN f p 2).toInt - 1 := k_subv rfl (by decide) (by omega) (by omega)
      exact (h'.pm hp rfl (by omega)).pk hp (k := 6) (by omega) (by omega) (by omega) rfl (by omega)
  · rw [if_neg c]
    exact h'.pk hp (k := 6) (by omega) (by omega) (by omega) rfl (by omega)
theorem drk_off {f : Nat → Int32} {p : Nat} {i : Nat} (hi : i < 459 + 9 * p + 2 ∨ 459 + 9 * p + 6 < i) : drkS f p i = f i := by
  unfold drkS
  by_cases c : (drkV f p).toInt < 0
  · rw [if_pos c]
    by_cases c1 : 0 < (pN f p 3).toInt
    · rw [if_pos c1, sp_ne (by omega), sp_ne (by omega)]
    · rw [if_neg c1, sp_ne (by omega), sp_ne (by omega)]
  · rw [if_neg c, sp_ne (by omega)]
theorem mn2_in {a b v : Int32} (h : (b.toInt < a.toInt ∧ v.toInt = b.toInt) ∨ (a.toInt ≤ b.toInt ∧ v.toInt = a.toInt)) : v = mn2 a b := by
  unfold mn2
  rcases h with ⟨c, e⟩ | ⟨c, e⟩
  · rw [if_pos c]; exact k_inj e
  · rw [if_neg (by omega)]; exact k_inj e
theorem mx2_in {a b v : Int32} (h : (a.toInt < b.toInt ∧ v.toInt = b.toInt) ∨ (b.toInt ≤ a.toInt ∧ v.toInt = a.toInt)) : v = mx2 a b := by
  unfold mx2
  rcases h with ⟨c, e⟩ | ⟨c, e⟩
  · rw [if_pos c]; exact k_inj e
  · rw [if_neg (by omega)]; exact k_inj e
theorem drk_in {f : Nat → Int32} {p : Nat} {mi me be ha sp wl va vb vc vd ve vf vl : Int32} (h0 : mi = pN f p 0) (h2 : me = pN f p 2) (h3 : be = pN f p 3) (h6 : ha = pN f p 6) (hs : sp = f (59 + mi.toInt.toNat)) (hw : wl = wlF f mi.toInt) (a1 : va = ha + sp) (b1 : vb = va + wl) (c1 : vc = me + be) (d1 : vd = 50 * vc) (e1 : ve = mn2 vb vd) (f1 : vf = mx2 ve ha) (l1 : vl = vf - (me + 2 * be)) : vl = drkV f p := by
  subst l1 f1 e1 d1 c1 b1 a1 hw hs h6 h3 h2 h0
  rfl
theorem eat_ok {f : Nat → Int32} {p : Nat} (h : SIX f (p : Int)) (hp : p < 4) : SIX (eatF f p).2 (p : Int) ∧ 0 ≤ (eatF f p).1.toInt ∧ ((eatF f p).1.toInt = 0 ∨ (eatF f p).1.toInt ≤ 20 * (pN f p 2).toInt - (pN f p 5).toInt) := by
  obtain ⟨_, b2, _, b5⟩ := h.1.pn hp
  have n1 := h.1.n1
  have tm : (20 * pN f p 2 : Int32).toInt = 20 * (pN f p 2).toInt := k_mulv (by decide) rfl (by omega) (by omega)
  have tw : (20 * pN f p 2 - pN f p 5).toInt = 20 * (pN f p 2).toInt - (pN f p 5).toInt := k_subv tm rfl (by omega) (by omega)
  have z := eaT_ok (m := (pN f p 0).toInt) (want := 20 * pN f p 2 - pN f p 5) h (by omega) (f 1).toInt.toNat (by omega)
  rw [tw] at z
  exact z
theorem eatL_t {f : Nat → Int32} {p : Nat} (h : SIX f (p : Int)) (hp : p < 4) : (eatL f p).toInt = (pN f p 5).toInt + (eatF f p).1.toInt - (pN f p 2).toInt := by
  obtain ⟨_, b2, _, b5⟩ := h.1.pn hp
  obtain ⟨_, i1, i2⟩ := eat_ok h hp
  have t : (pN f p 5 + (eatF f p).1).toInt = (pN f p 5).toInt + (eatF f p).1.toInt := k_addv rfl rfl (by omega) (by omega)
  exact k_subv t rfl (by omega) (by omega)
theorem eat_six {f : Nat → Int32} {p : Nat} (h : SIX f (p : Int)) (hp : p < 4) : SIX (eatP f p) (p : Int) := by
  obtain ⟨_, b2, _, b5⟩ := h.1.pn hp
  obtain ⟨i0, i1, i2⟩ := eat_ok h hp
  have tl := eatL_t h hp
  have z : (0 : Int32).toInt = 0 := by decide
  unfold eatP
  by_cases c : (eatL f p).toInt < 0
  · rw [if_pos c, if_pos c]
    have t : (pN f p 2 - 1).toInt = (pN f p 2).toInt - 1 := k_subv rfl (by decide) (by omega) (by omega)
    exact (i0.pm hp rfl (by omega)).pk hp (k := 5) (by omega) (by omega) (by omega) rfl (by omega)
  · rw [if_neg c, if_neg c]
    exact (i0.pm hp rfl (by omega)).pk hp (k := 5) (by omega) (by omega) (by omega) rfl (by omega)
theorem eat_off {f : Nat → Int32} {p : Nat} {i : Nat} (hn : (f 1).toInt.toNat ≤ 60) (hi : i < 99 ∨ (458 < i ∧ (i < 459 + 9 * p + 2 ∨ 459 + 9 * p + 5 < i))) : eatP f p i = f i := by
  unfold eatP
  rw [sp_ne (by omega), sp_ne (by omega)]
  exact eaT_off _ _ _ _ hn (by omega)
theorem stt_six {f : Nat → Int32} {p : Nat} (h : SIX f (p : Int)) (hp : p < 4) : SIX (sttS f p) (-1) := by
  have t : (Int32.ofNat p).toInt = (p : Int) := nI_toInt (by omega)
  have m : pN f p 2 = pW f (Int32.ofNat p) 2 := by unfold pN pW; rw [t]; rfl
  obtain ⟨_, b2, _, _⟩ := h.1.pn hp
  have h1 : SIX (sttS f p) (Int32.ofNat p).toInt := SIX.p (w := Int32.ofNat p) (by rw [t]; exact h) (by rw [t]; rfl) rfl (by omega) (by omega) (by omega) (by omega) (fun z => absurd z (by decide)) (fun _ => Or.inr (Or.inl rfl))
  refine SIX.all h1 ?_
  have e8 : pW (sttS f p) (Int32.ofNat p) 8 = if (pN f p 2).toInt = 0 then 2 else pN f p 8 := by
    unfold pW; rw [t]; exact sp_at
  have e2 : pW (sttS f p) (Int32.ofNat p) 2 = pN f p 2 := by
    unfold pW; rw [t]; exact sp_ne (by show 459 + 9 * p + 2 ≠ 459 + 9 * p + 8; omega)
  rw [e8, e2]
  by_cases c : (pN f p 2).toInt = 0
  · rw [if_pos c]; exact Or.inl (by decide)
  · exact Or.inr (by omega)
theorem stt_off {f : Nat → Int32} {p : Nat} {i : Nat} (hi : i ≠ 459 + 9 * p + 8) : sttS f p i = f i := by
  unfold sttS; exact sp_ne hi
theorem comS_six {f : Nat → Int32} {k m z t : Int32} (h : SIX f (-1)) (hn : (f 1).toInt < 60) (hk : 0 ≤ k.toInt ∧ k.toInt ≤ 5) (hm : 0 ≤ m.toInt ∧ m.toInt ≤ 39) (ht : 0 ≤ t.toInt ∧ t.toInt ≤ 2001) : SIX (comS f k m z t) (-1) := by
  have n1 := h.1.n1
  have tn : (Int32.ofNat (f 1).toInt.toNat).toInt = (((f 1).toInt.toNat : Nat) : Int) := nI_toInt (by omega)
  have t1 : (f 1 + 1).toInt = (f 1).toInt + 1 := k_addv rfl (by decide) (by omega) (by omega)
  have z0 : (0 : Int32).toInt = 0 := by decide
  have step : ∀ {g : Nat → Int32} (k : Nat) (x : Int32), SIX g (-1) → k < 6 → ((k = 0 → 0 ≤ x.toInt ∧ x.toInt ≤ 5) ∧ (k = 1 → 0 ≤ x.toInt ∧ x.toInt ≤ 39) ∧ (k = 3 → 0 ≤ x.toInt ∧ x.toInt ≤ 2001) ∧ (k = 4 → 0 ≤ x.toInt ∧ x.toInt ≤ 1) ∧ (k = 5 → 0 ≤ x.toInt ∧ x.toInt ≤ 9999)) → SIX (upd g (99 + 6 * (f 1).toInt.toNat + k) x) (-1) :=
    fun {g} k x hg hk b => SIX.w (w := Int32.ofNat (f 1).toInt.toNat) hg (by rw [tn]; rfl) rfl (by omega) hk b
  unfold comS
  refine step 5 _ (step 4 _ (step 3 _ (step 2 _ (step 1 _ (step 0 _ (SIX.n h rfl rfl (by omega) (by omega) (by omega)) ?_ ?_) ?_ ?_) ?_ ?_) ?_ ?_) ?_ ?_) ?_ ?_ <;> omega
theorem SIX.ps {f g : Nat → Int32} {p : Nat} {x : Int32} (h : SIX f (-1)) (hp : p < 4) (hm : 1 ≤ (pN f p 2).toInt) (e : g = upd f (459 + 9 * p + 8) x) : SIX g (-1) := by
  have t : (Int32.ofNat p).toInt = (p : Int) := nI_toInt (by omega)
  have m : pW f (Int32.ofNat p) 2 = pN f p 2 := by unfold pN pW; rw [t]; rfl
  exact SIX.p (w := Int32.ofNat p) h (by rw [t]; exact e) rfl (by omega) (by omega) (by omega) (by omega) (fun z => absurd z (by decide)) (fun _ => Or.inr (Or.inr (by rw [m]; exact hm)))
theorem wrkD_six {f : Nat → Int32} {p : Nat} (h : SIX f (-1)) (hp : p < 4) : SIX (wrkD f p) (-1) := h.pk hp (k := 7) (by omega) (by omega) (by omega) rfl (by omega)
theorem wrk_six {f : Nat → Int32} {p : Nat} (h : SIX f (-1)) (hp : p < 4) (hm : 1 ≤ (pN f p 2).toInt) : SIX (wrkS f p) (-1) := by
  have hD := wrkD_six h hp
  obtain ⟨b0, _, _, _⟩ := h.1.pn hp
  obtain ⟨d0, _, _, _⟩ := hD.1.pn hp
  have n0 := hD.1.n0
  unfold wrkS
  by_cases c : (wdF f (pN f p 0).toInt).toInt = 0
  · rw [if_pos c]
    by_cases c1 : (efN (wrkD f p) (pN f p 0).toInt (rnF (wrkD f p))).toInt ≤ (pN f p 7 + pN f p 2).toInt ∧ 0 < (pN f p 4).toInt ∧ (f 1).toInt < 60
    · rw [if_pos c1]
      have e1 : wrkD f p 1 = f 1 := sp_ne (by omega)
      have t : (wrkD f p 0 + 1).toInt = (wrkD f p 0).toInt + 1 := k_addv rfl (by decide) (by omega) (by omega)
      have hC : SIX (wrkC (wrkD f p) p) (-1) := comS_six hD (by rw [e1]; exact c1.2.2) (by decide) d0 (by omega)
      exact (hC.pk hp (k := 4) (by omega) (by omega) (by omega) rfl (by omega)).pk hp (k := 7) (by omega) (by omega) (by omega) rfl (by omega)
    · rw [if_neg c1]; exact hD
  · rw [if_neg c]
    have m7 : ∀ v : Int32, pN (upd (upd f (459 + 9 * p + 7) 0) (459 + 9 * p + 0) v) p 2 = pN f p 2 := fun v => by
      rw [pN_k (by omega) (by omega) (by omega), pN_k (by omega) (by omega) (by omega)]
    have h7 : SIX (upd f (459 + 9 * p + 7) 0) (-1) := h.pk hp (k := 7) (by omega) (by omega) (by omega) rfl (by omega)
    by_cases c1 : 0 ≤ (pN f p 0 + pN f p 1).toInt ∧ (pN f p 0 + pN f p 1).toInt ≤ 39
    · rw [if_pos c1]
      exact (h7.pk hp (k := 0) (by omega) (by omega) (by omega) rfl (by omega)).ps hp (by rw [m7]; exact hm) rfl
    · rw [if_neg c1]
      exact (h7.pk hp (k := 0) (by omega) (by omega) (by omega) rfl (by omega)).ps hp (by rw [m7]; exact hm) rfl
theorem dyA_y {f : Nat → Int32} {p p1 : Int32} (h0 : 0 ≤ p.toInt) (h1 : p1.toInt = p.toInt + 1) (c : (pW (dyA f p.toInt.toNat) p 8).toInt = 2) : dyA f p.toInt.toNat = dyA f p1.toInt.toNat := by
  rw [show p1.toInt.toNat = p.toInt.toNat + 1 from by omega]
  show _ = if (pN (dyA f p.toInt.toNat) p.toInt.toNat 8).toInt = 2 then dyA f p.toInt.toNat else sttS (eatP (drkS (dyA f p.toInt.toNat) p.toInt.toNat) p.toInt.toNat) p.toInt.toNat
  rw [if_pos (show (pN (dyA f p.toInt.toNat) p.toInt.toNat 8).toInt = 2 from c)]
theorem dyA_n {f : Nat → Int32} {p p1 : Int32} (h0 : 0 ≤ p.toInt) (h1 : p1.toInt = p.toInt + 1) (c : (pW (dyA f p.toInt.toNat) p 8).toInt ≠ 2) : sttS (eatP (drkS (dyA f p.toInt.toNat) p.toInt.toNat) p.toInt.toNat) p.toInt.toNat = dyA f p1.toInt.toNat := by
  rw [show p1.toInt.toNat = p.toInt.toNat + 1 from by omega]
  show _ = if (pN (dyA f p.toInt.toNat) p.toInt.toNat 8).toInt = 2 then dyA f p.toInt.toNat else sttS (eatP (drkS (dyA f p.toInt.toNat) p.toInt.toNat) p.toInt.toNat) p.toInt.toNat
  rw [if_neg (show ¬ (pN (dyA f p.toInt.toNat) p.toInt.toNat 8).toInt = 2 from c)]
theorem dyB_y {f : Nat → Int32} {p p1 : Int32} (h0 : 0 ≤ p.toInt) (h1 : p1.toInt = p.toInt + 1) (c : (pW (dyB f p.toInt.toNat) p 8).toInt = 0) : wrkS (dyB f p.toInt.toNat) p.toInt.toNat = dyB f p1.toInt.toNat := by
  rw [show p1.toInt.toNat = p.toInt.toNat + 1 from by omega]
  show _ = if (pN (dyB f p.toInt.toNat) p.toInt.toNat 8).toInt = 0 then wrkS (dyB f p.toInt.toNat) p.toInt.toNat else dyB f p.toInt.toNat
  rw [if_pos (show (pN (dyB f p.toInt.toNat) p.toInt.toNat 8).toInt = 0 from c)]
theorem dyB_n {f : Nat → Int32} {p p1 : Int32} (h0 : 0 ≤ p.toInt) (h1 : p1.toInt = p.toInt + 1) (c : (pW (dyB f p.toInt.toNat) p 8).toInt ≠ 0) : dyB f p.toInt.toNat = dyB f p1.toInt.toNat := by
  rw [show p1.toInt.toNat = p.toInt.toNat + 1 from by omega]
  show _ = if (pN (dyB f p.toInt.toNat) p.toInt.toNat 8).toInt = 0 then wrkS (dyB f p.toInt.toNat) p.toInt.toNat else dyB f p.toInt.toNat
  rw [if_neg (show ¬ (pN (dyB f p.toInt.toNat) p.toInt.toNat 8).toInt = 0 from c)]
theorem daysF_s {f : Nat → Int32} {k k1 : Int32} (h0 : 0 ≤ k.toInt) (h1 : k1.toInt = k.toInt + 1) : dayS (daysF f k.toInt.toNat) = daysF f k1.toInt.toNat := by
  rw [show k1.toInt.toNat = k.toInt.toNat + 1 from by omega]; rfl
theorem fn_0 {α : Type} {F : Nat → α} {z : Int32} (h : z.toInt = 0) : F z.toInt.toNat = F 0 := by rw [h]; rfl
