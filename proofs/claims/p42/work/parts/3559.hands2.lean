/- THE HANDS: distances to a STATION, told by what they keep; both sides' are alike -/
def WIN (f : Nat → Int32) (w : Int32) : Prop := 0 ≤ w.toInt ∧ w.toInt < (f 1).toInt
def DST (f : Nat → Int32) (b : Int32) (D : Int32 → Int) : Prop :=
  (∀ w : Int32, WIN f w → D w = 0 → w = b) ∧ (stF f b 3 = 1 → D b = 0) ∧
  (∀ w : Int32, WIN f w → 1 ≤ D w → ∃ o : Int32, WIN f o ∧ D o + 1 = D w ∧ crF f w o = 1) ∧
  (∀ w o : Int32, WIN f w → WIN f o → 0 ≤ D o → crF f w o = 1 → 0 ≤ D w ∧ D w ≤ D o + 1)
theorem cr_st {f : Nat → Int32} {a b : Int32} (h : crF f a b = 1) : stF f a 3 = 1 ∧ stF f b 3 = 1 := by
  by_cases u : stF f a 3 = 1 ∧ stF f b 3 = 1
  · exact u
  · unfold crF at h; rw [if_neg u] at h; exact absurd h (by decide)
theorem DST.le {f : Nat → Int32} {b : Int32} {D E : Int32 → Int} (h : DST f b D) (g : DST f b E) : ∀ (k : Nat) (w : Int32), WIN f w → D w = k → (stF f b 3 = 1 ∨ 1 ≤ k) → 0 ≤ E w ∧ E w ≤ k := by
  intro k
  induction k with
  | zero =>
    intro w hw e c
    have q := h.1 w hw e
    have z := g.2.1 (by rcases c with c | c; exact c; exact absurd c (by omega))
    rw [q, z]; omega
  | succ k ih =>
    intro w hw e c
    obtain ⟨o, ho, e1, e2⟩ := h.2.2.1 w hw (by omega)
    have e3 : D o = k := by omega
    have i := ih o ho e3 (by
      by_cases q : k = 0
      · left
        have z := h.1 o ho (by omega)
        rw [← z]; exact (cr_st e2).2
      · right; omega)
    have z := g.2.2.2 w o hw ho i.1 e2
    omega
theorem DST.st {f : Nat → Int32} {b : Int32} {D : Int32 → Int} (h : DST f b D) : ∀ (k : Nat) (w : Int32), WIN f w → D w = k + 1 → stF f b 3 = 1 := by
  intro k
  induction k with
  | zero =>
    intro w hw e
    obtain ⟨o, ho, e1, e2⟩ := h.2.2.1 w hw (by omega)
    have z := h.1 o ho (by omega)
    rw [← z]; exact (cr_st e2).2
  | succ k ih =>
    intro w hw e
    obtain ⟨o, ho, e1, _⟩ := h.2.2.1 w hw (by omega)
    exact ih o ho (by omega)
theorem DST.eq {f : Nat → Int32} {b : Int32} {D E : Int32 → Int} (h : DST f b D) (g : DST f b E) (s : stF f b 3 = 1) {w : Int32} (hw : WIN f w) (d : 0 ≤ D w) : E w = D w := by
  have z := DST.le h g (D w).toNat w hw (by omega) (Or.inl s)
  have y := DST.le g h (E w).toNat w hw (by omega) (Or.inl s)
  omega
def NXT (f : Nat → Int32) (D : Int32 → Int) (w x : Int32) : Prop := WIN f x ∧ D x + 1 = D w ∧ crF f w x = 1 ∧ ∀ o : Int32, 0 ≤ o.toInt → o.toInt < x.toInt → ¬ (D o + 1 = D w ∧ crF f w o = 1)
def HNF (f : Nat → Int32) (a b : Int32) (r : Int) (W : Nat → Int32) : Prop := ∃ D : Int32 → Int, DST f b D ∧ ((D a < 0 ∧ r = 0) ∨ (1 ≤ D a ∧ r = D a + 1 ∧ W 0 = a ∧ ∀ k : Nat, (k : Int) < D a → NXT f D (W k) (W (k + 1))))
theorem NXT.un {f : Nat → Int32} {b : Int32} {D E : Int32 → Int} (h : DST f b D) (g : DST f b E) (s : stF f b 3 = 1) {w x y : Int32} (hw : WIN f w) (d : 1 ≤ D w) (p : NXT f D w x) (q : NXT f E w y) : x = y := by
  have ew := DST.eq h g s hw (by omega)
  have ex := DST.eq h g s p.1 (by have := p.2.1; omega)
  have ey := DST.eq g h s q.1 (by have := q.2.1; omega)
  have p2 := p.2.1
  have q2 := q.2.1
  rcases Int.lt_trichotomy x.toInt y.toInt with c | c | c
  · exact absurd ⟨by omega, p.2.2.1⟩ (q.2.2.2 x p.1.1 c)
  · exact k_inj c
  · exact absurd ⟨by omega, q.2.2.1⟩ (p.2.2.2 y q.1.1 c)
theorem HNF.un {f : Nat → Int32} {a b : Int32} {r t : Int} {W V : Nat → Int32} (ha : WIN f a) (h : HNF f a b r W) (g : HNF f a b t V) : r = t ∧ ∀ k : Nat, (k : Int) < r → W k = V k := by
  obtain ⟨D, hD, h⟩ := h
  obtain ⟨E, gE, g⟩ := g
  rcases h with ⟨h1, h2⟩ | ⟨h1, h2, h3, h4⟩
  · rcases g with ⟨g1, g2⟩ | ⟨g1, g2, g3, g4⟩
    · exact ⟨by omega, fun k hk => absurd hk (by omega)⟩
    · have z := DST.le gE hD (E a).toNat a ha (by omega) (Or.inr (by omega))
      omega
  · rcases g with ⟨g1, g2⟩ | ⟨g1, g2, g3, g4⟩
    · have z := DST.le hD gE (D a).toNat a ha (by omega) (Or.inr (by omega))
      omega
    · have s := DST.st hD ((D a).toNat - 1) a ha (by omega)
      have e := DST.eq hD gE s ha (by omega)
      refine ⟨by omega, fun k => ?_⟩
      have key : ∀ k : Nat, (k : Int) < r → W k = V k ∧ WIN f (W k) ∧ D (W k) = D a - k := by
        intro k
        induction k with
        | zero => intro _; rw [h3, g3]; exact ⟨rfl, ha, by omega⟩
        | succ k ih =>
          intro hk
          obtain ⟨i1, i2, i3⟩ := ih (by omega)
          have p := h4 k (by omega)
          have q := g4 k (by omega)
          rw [← i1] at q
          have z := p.2.1
          exact ⟨NXT.un hD gE s i2 (by omega) p q, p.1, by omega⟩
      exact fun hk => (key k hk).1
def HND (f : Nat → Int32) (a b i r : Int32) : Prop :=
  if 0 ≤ a.toInt ∧ a.toInt < (f 1).toInt ∧ 0 ≤ b.toInt ∧ b.toInt < (f 1).toInt ∧ a.toInt ≠ b.toInt ∧ -1 ≤ i.toInt then
    (if (wW f a 0).toInt = 3 ∧ (wW f b 0).toInt = 3 then
      ∃ (n : Int32) (W : Nat → Int32), HNF f a b n.toInt W ∧ r = if n.toInt = 0 ∨ n.toInt ≤ i.toInt then -1000002 else if i.toInt = -1 then n else W i.toInt.toNat
     else r = -1000005)
  else r = -1000001
theorem HND.un {f : Nat → Int32} {a b i r t : Int32} (h : HND f a b i r) (g : HND f a b i t) : r = t := by
  unfold HND at h g
  by_cases c : 0 ≤ a.toInt ∧ a.toInt < (f 1).toInt ∧ 0 ≤ b.toInt ∧ b.toInt < (f 1).toInt ∧ a.toInt ≠ b.toInt ∧ -1 ≤ i.toInt
  · rw [if_pos c] at h g
    by_cases c1 : (wW f a 0).toInt = 3 ∧ (wW f b 0).toInt = 3
    · rw [if_pos c1] at h g
      obtain ⟨n, W, h1, h2⟩ := h
      obtain ⟨m, V, g1, g2⟩ := g
      obtain ⟨e, k⟩ := HNF.un ⟨c.1, c.2.1⟩ h1 g1
      have em : m = n := k_inj e.symm
      rw [h2, g2, em]
      by_cases z : n.toInt = 0 ∨ n.toInt ≤ i.toInt
      · rw [if_pos z, if_pos z]
      · rw [if_neg z, if_neg z]
        by_cases z1 : i.toInt = -1
        · rw [if_pos z1, if_pos z1]
        · rw [if_neg z1, if_neg z1]; exact k _ (by omega)
    · rw [if_neg c1] at h g; rw [h, g]
  · rw [if_neg c] at h g; rw [h, g]
theorem HND.b {f : Nat → Int32} {a b i : Int32} (c : ¬ (0 ≤ a.toInt ∧ a.toInt < (f 1).toInt ∧ 0 ≤ b.toInt ∧ b.toInt < (f 1).toInt ∧ a.toInt ≠ b.toInt ∧ -1 ≤ i.toInt)) : HND f a b i (-1000001) := by unfold HND; rw [if_neg c]
theorem HND.k {f : Nat → Int32} {a b i : Int32} (c : 0 ≤ a.toInt ∧ a.toInt < (f 1).toInt ∧ 0 ≤ b.toInt ∧ b.toInt < (f 1).toInt ∧ a.toInt ≠ b.toInt ∧ -1 ≤ i.toInt) (d : ¬ ((wW f a 0).toInt = 3 ∧ (wW f b 0).toInt = 3)) : HND f a b i (-1000005) := by unfold HND; rw [if_pos c, if_neg d]
theorem HND.n {f W : Nat → Int32} {a b i n : Int32} (c : 0 ≤ a.toInt ∧ a.toInt < (f 1).toInt ∧ 0 ≤ b.toInt ∧ b.toInt < (f 1).toInt ∧ a.toInt ≠ b.toInt ∧ -1 ≤ i.toInt) (d : (wW f a 0).toInt = 3 ∧ (wW f b 0).toInt = 3) (h : HNF f a b n.toInt W) (z : n.toInt = 0 ∨ n.toInt ≤ i.toInt) : HND f a b i (-1000002) := by unfold HND; rw [if_pos c, if_pos d]; exact ⟨n, W, h, by rw [if_pos z]⟩
theorem HND.c {f W : Nat → Int32} {a b i n : Int32} (c : 0 ≤ a.toInt ∧ a.toInt < (f 1).toInt ∧ 0 ≤ b.toInt ∧ b.toInt < (f 1).toInt ∧ a.toInt ≠ b.toInt ∧ -1 ≤ i.toInt) (d : (wW f a 0).toInt = 3 ∧ (wW f b 0).toInt = 3) (h : HNF f a b n.toInt W) (z : n.toInt ≠ 0 ∧ i.toInt < n.toInt) (z1 : i.toInt = -1) : HND f a b i n := by unfold HND; rw [if_pos c, if_pos d]; exact ⟨n, W, h, by rw [if_neg (by omega), if_pos z1]⟩
theorem HND.v {f W : Nat → Int32} {a b i n v : Int32} (c : 0 ≤ a.toInt ∧ a.toInt < (f 1).toInt ∧ 0 ≤ b.toInt ∧ b.toInt < (f 1).toInt ∧ a.toInt ≠ b.toInt ∧ -1 ≤ i.toInt) (d : (wW f a 0).toInt = 3 ∧ (wW f b 0).toInt = 3) (h : HNF f a b n.toInt W) (z : n.toInt ≠ 0 ∧ i.toInt < n.toInt) (z1 : i.toInt ≠ -1) (e : v = W i.toInt.toNat) : HND f a b i v := by unfold HND; rw [if_pos c, if_pos d]; exact ⟨n, W, h, by rw [if_neg (by omega), if_neg z1, e]⟩
/- the calls' side: from the end outwards, STATION by STATION -/
def cnF (g : Nat → Int32) : Nat → Nat
  | 0 => 0
  | n + 1 => cnF g n + if (g n).toInt = 0 then 0 else 1
theorem cnF_le (g : Nat → Int32) : ∀ n : Nat, cnF g n ≤ n := by
  intro n
  induction n with
  | zero => exact Nat.le_refl 0
  | succ n ih => show cnF g n + (if (g n).toInt = 0 then 0 else 1) ≤ n + 1; split <;> omega
theorem cnF_full {g : Nat → Int32} : ∀ n : Nat, cnF g n = n → ∀ w : Nat, w < n → (g w).toInt ≠ 0 := by
  intro n
  induction n with
  | zero => intro _ w hw; exact absurd hw (by omega)
  | succ n ih =>
    intro e w hw
    have l := cnF_le g n
    have e2 : cnF g n + (if (g n).toInt = 0 then 0 else 1) = n + 1 := e
    by_cases c : (g n).toInt = 0
    · rw [if_pos c] at e2; omega
    · rw [if_neg c] at e2
      by_cases q : w = n
      · rw [q]; exact c
      · exact ih (by omega) w (by omega)
theorem cnF_off {g : Nat → Int32} {i : Nat} {x : Int32} : ∀ n : Nat, n ≤ i → cnF (upd g i x) n = cnF g n := by
  intro n
  induction n with
  | zero => intro _; rfl
  | succ n ih =>
    intro hn
    show cnF (upd g i x) n + (if (upd g i x n).toInt = 0 then 0 else 1) = cnF g n + (if (g n).toInt = 0 then 0 else 1)
    rw [ih (by omega), sp_ne (by omega)]
theorem cnF_upd {g : Nat → Int32} {i : Nat} {x : Int32} (h : (g i).toInt = 0) (hx : x.toInt ≠ 0) : ∀ n : Nat, i < n → cnF (upd g i x) n = cnF g n + 1 := by
  intro n
  induction n with
  | zero => intro hn; exact absurd hn (by omega)
  | succ n ih =>
    intro hn
    show cnF (upd g i x) n + (if (upd g i x n).toInt = 0 then 0 else 1) = cnF g n + (if (g n).toInt = 0 then 0 else 1) + 1
    by_cases q : i = n
    · rw [← q, sp_at, cnF_off i (Nat.le_refl i), if_pos h, if_neg hx]
    · rw [ih (by omega), sp_ne (by omega)]; omega
theorem cnF_z {g : Nat → Int32} : ∀ n : Nat, (∀ w : Nat, w < n → (g w).toInt = 0) → cnF g n = 0 := by
  intro n
  induction n with
  | zero => intro _; rfl
  | succ n ih =>
    intro h
    show cnF g n + (if (g n).toInt = 0 then 0 else 1) = 0
    rw [ih (fun w hw => h w (by omega)), if_pos (h n (by omega))]
def gat (g : Nat → Int32) (w : Int32) : Int := (g w.toInt.toNat).toInt
def BFC (f : Nat → Int32) (b : Int32) (g q : Nat → Int32) (k : Int) : Prop :=
  1 ≤ k ∧
  k ≤ 60 ∧
  (f 1).toInt ≤ 60 ∧
  (∀ w : Int32, 0 ≤ w.toInt → w.toInt ≤ 59 → 0 ≤ gat g w) ∧
  (cnF g 60 : Int) = k ∧
  (∀ j : Nat, (j : Int) < k → WIN f (q j) ∧ (wW f (q j) 0).toInt = 3 ∧ 1 ≤ gat g (q j) ∧ gat g (q j) ≤ j + 1) ∧
  (∀ w : Int32, 0 ≤ w.toInt → w.toInt ≤ 59 → gat g w ≠ 0 → ∃ j : Nat, (j : Int) < k ∧ q j = w) ∧
  (∀ i j : Nat, i ≤ j → (j : Int) < k → gat g (q i) ≤ gat g (q j)) ∧
  WIN f b ∧
  gat g b = 1 ∧
  (∀ w : Int32, 0 ≤ w.toInt → w.toInt ≤ 59 → gat g w = 1 → w = b) ∧
  (∀ w : Int32, 0 ≤ w.toInt → w.toInt ≤ 59 → 2 ≤ gat g w → WIN f w ∧ ∃ o : Int32, WIN f o ∧ gat g o + 1 = gat g w ∧ crF f o w = 1)
theorem BFC.k1 {f : Nat → Int32} {b : Int32} {g q : Nat → Int32} {k : Int} (h : BFC f b g q k) : 1 ≤ k := h.1
theorem BFC.k2 {f : Nat → Int32} {b : Int32} {g q : Nat → Int32} {k : Int} (h : BFC f b g q k) : k ≤ 60 := h.2.1
theorem BFC.n {f : Nat → Int32} {b : Int32} {g q : Nat → Int32} {k : Int} (h : BFC f b g q k) : (f 1).toInt ≤ 60 := h.2.2.1
theorem BFC.p {f : Nat → Int32} {b : Int32} {g q : Nat → Int32} {k : Int} (h : BFC f b g q k) : ∀ w : Int32, 0 ≤ w.toInt → w.toInt ≤ 59 → 0 ≤ gat g w := h.2.2.2.1
theorem BFC.c {f : Nat → Int32} {b : Int32} {g q : Nat → Int32} {k : Int} (h : BFC f b g q k) : (cnF g 60 : Int) = k := h.2.2.2.2.1
theorem BFC.qi {f : Nat → Int32} {b : Int32} {g q : Nat → Int32} {k : Int} (h : BFC f b g q k) : ∀ j : Nat, (j : Int) < k → WIN f (q j) ∧ (wW f (q j) 0).toInt = 3 ∧ 1 ≤ gat g (q j) ∧ gat g (q j) ≤ j + 1 := h.2.2.2.2.2.1
theorem BFC.v {f : Nat → Int32} {b : Int32} {g q : Nat → Int32} {k : Int} (h : BFC f b g q k) : ∀ w : Int32, 0 ≤ w.toInt → w.toInt ≤ 59 → gat g w ≠ 0 → ∃ j : Nat, (j : Int) < k ∧ q j = w := h.2.2.2.2.2.2.1
theorem BFC.s {f : Nat → Int32} {b : Int32} {g q : Nat → Int32} {k : Int} (h : BFC f b g q k) : ∀ i j : Nat, i ≤ j → (j : Int) < k → gat g (q i) ≤ gat g (q j) := h.2.2.2.2.2.2.2.1
theorem BFC.b0 {f : Nat → Int32} {b : Int32} {g q : Nat → Int32} {k : Int} (h : BFC f b g q k) : WIN f b := h.2.2.2.2.2.2.2.2.1
theorem BFC.b1 {f : Nat → Int32} {b : Int32} {g q : Nat → Int32} {k : Int} (h : BFC f b g q k) : gat g b = 1 := h.2.2.2.2.2.2.2.2.2.1
theorem BFC.b2 {f : Nat → Int32} {b : Int32} {g q : Nat → Int32} {k : Int} (h : BFC f b g q k) : ∀ w : Int32, 0 ≤ w.toInt → w.toInt ≤ 59 → gat g w = 1 → w = b := h.2.2.2.2.2.2.2.2.2.2.1
theorem BFC.u {f : Nat → Int32} {b : Int32} {g q : Nat → Int32} {k : Int} (h : BFC f b g q k) : ∀ w : Int32, 0 ≤ w.toInt → w.toInt ≤ 59 → 2 ≤ gat g w → WIN f w ∧ ∃ o : Int32, WIN f o ∧ gat g o + 1 = gat g w ∧ crF f o w = 1 := h.2.2.2.2.2.2.2.2.2.2.2
def BFM (g q : Nat → Int32) (i : Nat) (k : Int) : Prop := ∀ j : Nat, (j : Int) < k → gat g (q j) ≤ gat g (q i) + 1
def BFR (f g : Nat → Int32) (s w : Int32) : Prop := crF f s w = 1 → 1 ≤ gat g w ∧ gat g w ≤ gat g s + 1
def BFD (f g q : Nat → Int32) (i : Nat) : Prop := ∀ j : Nat, j < i → ∀ w : Int32, WIN f w → BFR f g (q j) w
def BFI (f g : Nat → Int32) (s : Int32) (m : Int) : Prop := ∀ w : Int32, WIN f w → w.toInt < m → BFR f g s w
def BFO (f : Nat → Int32) (b : Int32) (g q : Nat → Int32) (i k : Int) : Prop := BFC f b g q k ∧ 0 ≤ i ∧ i ≤ k ∧ (i < k → BFM g q i.toNat k) ∧ BFD f g q i.toNat
def BFN (f : Nat → Int32) (b : Int32) (g q : Nat → Int32) (i k : Int) (s : Int32) (m : Int) : Prop := BFC f b g q k ∧ 0 ≤ i ∧ i < k ∧ s = q i.toNat ∧ BFM g q i.toNat k ∧ BFD f g q i.toNat ∧ BFI f g s m
theorem gat_up {g g1 : Nat → Int32} {w x y : Int32} {v : Int32} (hw : 0 ≤ w.toInt) (hy : 0 ≤ y.toInt) (e : g1 = upd g w.toInt.toNat v) : gat g1 y = if y = w then v.toInt else gat g y := by
  unfold gat
  by_cases c : y = w
  · rw [if_pos c, e, c, sp_at]
  · rw [if_neg c, e, sp_ne (fun z => c (k_inj (by omega)))]
theorem BFO.init {f g g1 q q1 : Nat → Int32} {b x y : Int32} (hb : WIN f b) (hk : (wW f b 0).toInt = 3) (n : (f 1).toInt ≤ 60) (z : ∀ w : Nat, w < 60 → (g w).toInt = 0) (e : g1 = upd g b.toInt.toNat x) (hx : x.toInt = 1) (eq : q1 = upd q 0 y) (hy : y = b) {i k : Int} (hi : i = 0) (hk1 : k = 1) : BFO f b g1 q1 i k := by
  rw [hi, hk1]
  have hb2 := hb.2
  have G : ∀ w : Int32, 0 ≤ w.toInt → w.toInt ≤ 59 → gat g1 w = if w = b then 1 else 0 := fun w h0 h1 => by
    rw [gat_up (x := x) hb.1 h0 e, hx]
    split
    · rfl
    · exact z _ (by omega)
  have q0 : q1 0 = b := by rw [eq, sp_at, hy]
  have gb : gat g1 b = 1 := by rw [G b hb.1 (by omega), if_pos rfl]
  refine ⟨⟨by omega, by omega, n, ?_, ?_, ?_, ?_, ?_, hb, gb, ?_, ?_⟩, by omega, by omega, ?_, ?_⟩
  · intro w h0 h1; rw [G w h0 h1]; split <;> omega
  · rw [e, cnF_upd (z _ (by omega)) (by omega) 60 (by omega), cnF_z 60 z]; rfl
  · intro j hj
    have j0 : j = 0 := by omega
    rw [j0, q0, gb]; exact ⟨hb, hk, by omega, by omega⟩
  · intro w h0 h1 c
    rw [G w h0 h1] at c
    by_cases d : w = b
    · exact ⟨0, by omega, by rw [q0, d]⟩
    · rw [if_neg d] at c; exact absurd rfl c
  · intro i j hi hj
    have j0 : j = 0 := by omega
    have i0 : i = 0 := by omega
    rw [i0, j0]; exact Int.le_refl _
  · intro w h0 h1 c
    rw [G w h0 h1] at c
    by_cases d : w = b
    · exact d
    · rw [if_neg d] at c; omega
  · intro w h0 h1 c
    rw [G w h0 h1] at c
    split at c <;> omega
  · intro _ j hj
    have j0 : j = 0 := by omega
    rw [j0]; show gat g1 (q1 0) ≤ gat g1 (q1 0) + 1; omega
  · intro j hj; exact absurd hj (by omega)
theorem BFN.start {f g q : Nat → Int32} {b s : Int32} {i k : Int} (h : BFO f b g q i k) (c : i < k) (e : s = q i.toNat) {m : Int} (hm0 : m ≤ 0) : BFN f b g q i k s m :=
  ⟨h.1, h.2.1, c, e, h.2.2.2.1 c, h.2.2.2.2, fun w hw hm => absurd hm (by have := hw.1; omega)⟩
theorem BFN.st {f g q : Nat → Int32} {b s : Int32} {i k m : Int} (h : BFN f b g q i k s m) : WIN f s ∧ (wW f s 0).toInt = 3 ∧ 1 ≤ gat g s ∧ gat g s ≤ i + 1 := by
  have z := h.1.qi i.toNat (by have := h.2.1; have := h.2.2.1; omega)
  rw [← h.2.2.2.1] at z
  have := h.2.1
  exact ⟨z.1, z.2.1, z.2.2.1, by omega⟩
theorem BFN.skip {f g q : Nat → Int32} {b s w : Int32} {i k m m1 : Int} (h : BFN f b g q i k s m) (hw : w.toInt = m) (h0 : 0 ≤ m) (h1 : m ≤ 59) (e : m1 = m + 1) (c : gat g w ≠ 0 ∨ crF f s w = 0 ∨ (f 1).toInt ≤ m) : BFN f b g q i k s m1 := by
  obtain ⟨a1, a2, a3, a4, a5, a6, a7⟩ := h
  refine ⟨a1, a2, a3, a4, a5, a6, ?_⟩
  intro x hx hm r
  by_cases d : x.toInt = m
  · have xw : x = w := k_inj (by omega)
    rcases c with c | c | c
    · rw [xw]
      have p := a1.p w (by omega) (by omega)
      obtain ⟨j, hj, ej⟩ := a1.v w (by omega) (by omega) c
      have z := a5 j hj
      rw [ej, ← a4] at z
      exact ⟨by omega, z⟩
    · rw [xw, c] at r; exact absurd r (by decide)
    · have := hx.2; omega
  · exact a7 x hx (by omega) r
theorem BFN.add {f g g1 q q1 : Nat → Int32} {b s w x y : Int32} {i k k1 m m1 : Int} (h : BFN f b g q i k s m) (hw : w.toInt = m) (h0 : 0 ≤ m) (h1 : WIN f w) (h3 : (wW f w 0).toInt = 3) (e : m1 = m + 1) (z : gat g w = 0) (r : crF f s w = 1) (hx : x.toInt = gat g s + 1) (hk : k < 60) (e1 : g1 = upd g w.toInt.toNat x) (hy : y = w) (e2 : q1 = upd q k.toNat y) (ek : k1 = k + 1) : BFN f b g1 q1 i k1 s m1 := by
  obtain ⟨sw, s3, s1, s2⟩ := BFN.st h
  obtain ⟨a1, a2, a3, a4, a5, a6, a7⟩ := h
  have n60 := a1.n
  have k1' := a1.k1
  have w2 := h1.2
  have s9 := sw.2
  have Q : ∀ j : Nat, (j : Int) < k → q1 j = q j := fun j hj => by rw [e2, sp_ne (by omega)]
  have Qk : q1 k.toNat = w := by rw [e2, sp_at, hy]
  have Gn : ∀ o : Int32, 0 ≤ o.toInt → gat g o ≠ 0 → gat g1 o = gat g o := fun o o0 c => by
    rw [gat_up (x := x) (by omega) o0 e1, if_neg (fun d => c (by rw [d]; exact z))]
  have Gw : gat g1 w = gat g s + 1 := by rw [gat_up (x := x) (by omega) (by omega) e1, if_pos rfl, hx]
  have Go : ∀ o : Int32, 0 ≤ o.toInt → o ≠ w → gat g1 o = gat g o := fun o o0 c => by rw [gat_up (x := x) (by omega) o0 e1, if_neg c]
  have Gq : ∀ j : Nat, (j : Int) < k → gat g1 (q1 j) = gat g (q j) := fun j hj => by
    have y := a1.qi j hj
    rw [Q j hj]; exact Gn _ y.1.1 (by omega)
  have Gs : gat g1 s = gat g s := Gn s sw.1 (by omega)
  have Si : q1 i.toNat = q i.toNat := Q _ (by omega)
  have SG : gat g1 (q1 i.toNat) = gat g s := by rw [Gq _ (by omega), ← a4]
  have MK : ∀ j : Nat, (j : Int) < k1 → gat g1 (q1 j) ≤ gat g s + 1 := fun j hj => by
    by_cases d : (j : Int) = k
    · have jk : j = k.toNat := by omega
      rw [jk, Qk, Gw]; omega
    · rw [Gq j (by omega)]
      have y := a5 j (by omega)
      rw [← a4] at y; exact y
  have RR : ∀ (t v : Int32), WIN f v → 0 ≤ t.toInt → 1 ≤ gat g t → BFR f g t v → BFR f g1 t v := fun t v hv t0 t1 c d => by
    have y := c d
    rw [Gn v hv.1 (by omega), Gn t t0 (by omega)]; exact y
  refine ⟨⟨by omega, by omega, n60, ?_, ?_, ?_, ?_, ?_, a1.b0, ?_, ?_, ?_⟩, a2, by omega, by rw [Si]; exact a4, ?_, ?_, ?_⟩
  · intro o o0 o1
    by_cases d : o = w
    · rw [d, Gw]; omega
    · rw [Go o o0 d]; exact a1.p o o0 o1
  · have cc := a1.c
    rw [e1, cnF_upd z (by omega) 60 (by omega)]; omega
  · intro j hj
    by_cases d : (j : Int) = k
    · have jk : j = k.toNat := by omega
      rw [jk, Qk, Gw]; exact ⟨h1, h3, by omega, by omega⟩
    · rw [Gq j (by omega), Q j (by omega)]; exact a1.qi j (by omega)
  · intro o o0 o1 c
    by_cases d : o = w
    · exact ⟨k.toNat, by omega, by rw [Qk, d]⟩
    · rw [Go o o0 d] at c
      obtain ⟨j, hj, ej⟩ := a1.v o o0 o1 c
      exact ⟨j, by omega, by rw [Q j hj]; exact ej⟩
  · intro j l hjl hl
    by_cases d : (l : Int) = k
    · have lk : l = k.toNat := by omega
      rw [lk, Qk, Gw]
      by_cases d2 : (j : Int) = k
      · have jk : j = k.toNat := by omega
        rw [jk, Qk, Gw]; omega
      · exact MK j (by omega)
    · rw [Gq j (by omega), Gq l (by omega)]; exact a1.s j l hjl (by omega)
  · rw [Gn b a1.b0.1 (by have := a1.b1; omega)]; exact a1.b1
  · intro o o0 o1 c
    by_cases d : o = w
    · rw [d, Gw] at c; omega
    · rw [Go o o0 d] at c; exact a1.b2 o o0 o1 c
  · intro o o0 o1 c
    by_cases d : o = w
    · rw [d, Gw]; exact ⟨h1, s, sw, by rw [Gs], r⟩
    · rw [Go o o0 d] at c ⊢
      obtain ⟨y1, t, y2, y3, y4⟩ := a1.u o o0 o1 c
      exact ⟨y1, t, y2, by rw [Gn t y2.1 (by omega)]; exact y3, y4⟩
  · intro j hj; rw [SG]; exact MK j hj
  · intro j hj v hv
    have y := a1.qi j (by omega)
    rw [Q j (by omega)]
    exact RR _ v hv y.1.1 y.2.2.1 (a6 j hj v hv)
  · intro v hv hm d
    by_cases dv : v = w
    · rw [dv, Gw, Gs]; omega
    · have y := a7 v hv (by
        have : v.toInt ≠ w.toInt := fun q => dv (k_inj q)
        omega) d
      rw [Gn v hv.1 (by omega), Gs]; exact y
theorem BFN.done {f g q : Nat → Int32} {b s : Int32} {i i1 k m : Int} (h : BFN f b g q i k s m) (c : 60 ≤ m ∨ 60 ≤ k) (e : i1 = i + 1) : BFO f b g q i1 k := by
  obtain ⟨a1, a2, a3, a4, a5, a6, a7⟩ := h
  have n60 := a1.n
  have k2 := a1.k2
  have all : ∀ w : Int32, WIN f w → BFR f g s w := fun w hw => by
    have w2 := hw.2
    rcases c with c | c
    · exact a7 w hw (by omega)
    · intro _
      have f1 := cnF_full (g := g) 60 (by have := a1.c; omega) w.toInt.toNat (by have := hw.1; omega)
      have p := a1.p w hw.1 (by omega)
      obtain ⟨j, hj, ej⟩ := a1.v w hw.1 (by omega) f1
      have z := a5 j hj
      rw [ej, ← a4] at z
      have f2 : gat g w ≠ 0 := f1
      exact ⟨by omega, z⟩
  refine ⟨a1, by omega, by omega, ?_, ?_⟩
  · intro hk j hj
    have s1 := a1.s i.toNat i1.toNat (by omega) (by omega)
    have s2 := a5 j hj
    omega
  · intro j hj w hw
    by_cases d : j = i.toNat
    · rw [d, ← a4]; exact all w hw
    · exact a6 j (by omega) w hw
def gD (g : Nat → Int32) (w : Int32) : Int := gat g w - 1
theorem BFO.dst {f g q : Nat → Int32} {b : Int32} {i k : Int} (h : BFO f b g q i k) (c : k ≤ i ∨ 60 ≤ i) (cm : ∀ x y : Int32, WIN f x → WIN f y → crF f x y = crF f y x) : DST f b (gD g) := by
  obtain ⟨a1, a2, a3, a4, a5⟩ := h
  have n60 := a1.n
  have k2 := a1.k2
  have E : ∀ w : Int32, gD g w = gat g w - 1 := fun _ => rfl
  refine ⟨?_, ?_, ?_, ?_⟩
  · intro w hw e; rw [E] at e; have := hw.2; exact a1.b2 w hw.1 (by omega) (by omega)
  · intro _; rw [E]; have := a1.b1; omega
  · intro w hw e
    rw [E] at e
    have w2 := hw.2
    obtain ⟨_, o, y2, y3, y4⟩ := a1.u w hw.1 (by omega) (by omega)
    exact ⟨o, y2, by rw [E, E]; omega, by rw [cm w o hw y2]; exact y4⟩
  · intro w o hw ho d r
    rw [E] at d
    rw [E, E]
    have o2 := ho.2
    obtain ⟨j, hj, ej⟩ := a1.v o ho.1 (by omega) (by omega)
    have z := a5 j (by omega) w hw
    rw [ej] at z
    have y := z (by rw [cm o w ho hw]; exact r)
    omega
theorem BFO.in {f g q : Nat → Int32} {b : Int32} {i k : Int} (h : BFO f b g q i k) {w : Int32} (h0 : 0 ≤ w.toInt) (h1 : w.toInt ≤ 59) : 0 ≤ gat g w ∧ gat g w ≤ 60 ∧ (gat g w ≠ 0 → WIN f w ∧ (wW f w 0).toInt = 3) := by
  have p := h.1.p w h0 h1
  have k2 := h.1.k2
  by_cases c : gat g w = 0
  · exact ⟨p, by omega, fun z => absurd c z⟩
  · obtain ⟨j, hj, ej⟩ := h.1.v w h0 h1 c
    have z := h.1.qi j hj
    rw [ej] at z
    exact ⟨p, by omega, fun _ => ⟨z.1, z.2.1⟩⟩
/- the way itself: each time the least of those that are one nearer -/
def NLT (f : Nat → Int32) (D : Int32 → Int) (w : Int32) (m : Int) : Prop := ∀ o : Int32, WIN f o → o.toInt < m → ¬ (D o + 1 = D w ∧ crF f w o = 1)
theorem NLT.z {f : Nat → Int32} {D : Int32 → Int} {w : Int32} {m : Int} (h : m ≤ 0) : NLT f D w m := fun o h0 h1 => absurd h1 (by have := h0.1; omega)
theorem NLT.s {f : Nat → Int32} {D : Int32 → Int} {w x : Int32} {m m1 : Int} (h : NLT f D w m) (hx : x.toInt = m) (e : m1 = m + 1) (c : D x + 1 ≠ D w ∨ crF f w x = 0 ∨ (f 1).toInt ≤ m) : NLT f D w m1 := by
  intro o h0 h1 y
  by_cases d : o.toInt = m
  · have ox : o = x := k_inj (by omega)
    rw [ox] at y
    rcases c with c | c | c
    · exact c y.1
    · rw [c] at y; exact absurd y.2 (by decide)
    · have := h0.2; omega
  · exact h o h0 (by omega) y
theorem NLT.nxt {f : Nat → Int32} {D : Int32 → Int} {w x : Int32} (h : NLT f D w x.toInt) (hx : WIN f x) (d : D x + 1 = D w) (c : crF f w x = 1) : NXT f D w x := ⟨hx, d, c, fun o h0 h1 => h o ⟨h0, by have := hx.2; omega⟩ h1⟩
def NXE (f : Nat → Int32) (D : Int32 → Int) (w : Int32) : Prop := ∃ o : Int32, WIN f o ∧ D o + 1 = D w ∧ crF f w o = 1
theorem NLT.bad {f : Nat → Int32} {D : Int32 → Int} {w : Int32} {m : Int} (h : NLT f D w m) (s : NXE f D w) (c : (f 1).toInt ≤ m) : False := by
  obtain ⟨o, ho, e1, e2⟩ := s
  exact h o ho (by have := ho.2; omega) ⟨e1, e2⟩
theorem gat_e {g : Nat → Int32} {v w : Int32} (e : v = g w.toNatClampNeg) : gat g w = v.toInt := by rw [e]; rfl
theorem gD_0 {g : Nat → Int32} {w : Int32} (h : (g w.toNatClampNeg).toInt = 1) : gD g w = 0 := by
  have z : gat g w = 1 := h
  unfold gD; omega
theorem gD_s {g : Nat → Int32} {x w : Int32} (h : (g x.toNatClampNeg).toInt + 1 = (g w.toNatClampNeg).toInt) : gD g x + 1 = gD g w := by
  have z : gat g x + 1 = gat g w := h
  unfold gD; omega
theorem gD_ne {g : Nat → Int32} {x w : Int32} (h : (g x.toNatClampNeg).toInt + 1 ≠ (g w.toNatClampNeg).toInt) : gD g x + 1 ≠ gD g w := by
  have z : gat g x + 1 ≠ gat g w := h
  unfold gD; omega
theorem gD_n {g : Nat → Int32} {w : Int32} (h : (g w.toNatClampNeg).toInt = 0) : gD g w < 0 := by
  have z : gat g w = 0 := h
  unfold gD; omega
def FAR (f : Nat → Int32) (b : Int32) (g : Nat → Int32) : Prop := DST f b (gD g) ∧ ∀ w : Int32, 0 ≤ w.toInt → w.toInt ≤ 59 → 0 ≤ gat g w ∧ gat g w ≤ 60 ∧ (gat g w ≠ 0 → WIN f w ∧ (wW f w 0).toInt = 3)
theorem BFO.far {f g q : Nat → Int32} {b : Int32} {i k : Int} (h : BFO f b g q i k) (c : k ≤ i ∨ 60 ≤ i) (cm : ∀ x y : Int32, WIN f x → WIN f y → crF f x y = crF f y x) : FAR f b g := ⟨BFO.dst h c cm, fun w h0 h1 => BFO.in h h0 h1⟩
theorem FAR.at {f g : Nat → Int32} {b w : Int32} (h : FAR f b g) (h0 : 0 ≤ w.toInt) (h1 : w.toInt ≤ 59) : 0 ≤ (g w.toNatClampNeg).toInt ∧ (g w.toNatClampNeg).toInt ≤ 60 := ⟨(h.2 w h0 h1).1, (h.2 w h0 h1).2.1⟩
theorem FAR.nxe {f g : Nat → Int32} {b w : Int32} (h : FAR f b g) (h0 : 0 ≤ w.toInt) (h1 : w.toInt < (f 1).toInt) (l : 2 ≤ (g w.toNatClampNeg).toInt) : NXE f (gD g) w := by
  have z : 2 ≤ gat g w := l
  exact h.1.2.2.1 w ⟨h0, h1⟩ (by unfold gD; omega)
theorem BFN.nf {f g q : Nat → Int32} {b s : Int32} {i k m : Int} (h : BFN f b g q i k s m) : 0 ≤ s.toInt ∧ s.toInt < (f 1).toInt ∧ (wW f s 0).toInt = 3 ∧ 1 ≤ (g s.toNatClampNeg).toInt ∧ (g s.toNatClampNeg).toInt ≤ 60 ∧ 1 ≤ k ∧ k ≤ 60 := by
  obtain ⟨a, b, c, d⟩ := BFN.st h
  have c' : 1 ≤ (g s.toNatClampNeg).toInt := c
  have d' : (g s.toNatClampNeg).toInt ≤ i + 1 := d
  have k1 := h.1.k1
  have k2 := h.1.k2
  have ik := h.2.2.1
  exact ⟨a.1, a.2, b, c', by omega, k1, k2⟩
theorem NXT.nf {f g : Nat → Int32} {w x : Int32} (h : NXT f (gD g) w x) : 0 ≤ x.toInt ∧ x.toInt < (f 1).toInt ∧ (wW f x 0).toInt = 3 ∧ (g x.toNatClampNeg).toInt + 1 = (g w.toNatClampNeg).toInt := by
  have z : gat g x - 1 + 1 = gat g w - 1 := h.2.1
  have y : gat g x + 1 = gat g w := by omega
  exact ⟨h.1.1, h.1.2, (st_1 (Or.inl rfl) (cr_st h.2.2.1).2).2, y⟩
theorem st_k0 {f : Nat → Int32} {w : Int32} (h : (wW f w 0).toInt ≠ 3) : stF f w 3 = 0 := by
  unfold stF; rw [mU_35 (Or.inl rfl), if_neg h]
  by_cases c : (wW f w 4).toInt = 0
  · rw [if_pos c]
  · rw [if_neg c]
def ZRL (g : Nat → Int32) (m : Int) : Prop := ∀ w : Nat, (w : Int) < m → (g w).toInt = 0
theorem ZRL.z {g : Nat → Int32} {m : Int} (h : m ≤ 0) : ZRL g m := fun w hw => absurd hw (by omega)
theorem ZRL.s {g h : Nat → Int32} {i x : Int32} {m : Int} (z : ZRL g i.toInt) (i0 : 0 ≤ i.toInt) (e : h = upd g i.toNatClampNeg x) (hx : x.toInt = 0) (hm : m = i.toInt + 1) : ZRL h m := by
  intro w hw
  rw [e]
  by_cases c : w = i.toNatClampNeg
  · rw [c, sp_at]; exact hx
  · rw [sp_ne c]; rw [k_clamp] at c; exact z w (by omega)
def WAY (f : Nat → Int32) (D : Int32 → Int) (a : Int32) (W : Nat → Int32) (l : Int) (s : Int32) : Prop := 1 ≤ l ∧ W 0 = a ∧ s = W (l - 1).toNat ∧ WIN f s ∧ D s + l = D a + 1 ∧ ∀ k : Nat, (k : Int) + 1 < l → NXT f D (W k) (W (k + 1))
theorem WAY.init {f W W1 : Nat → Int32} {D : Int32 → Int} {a x : Int32} {l : Int} (ha : WIN f a) (e : W1 = upd W 0 x) (hx : x = a) (hl : l = 1) : WAY f D a W1 l a :=
  ⟨by omega, by rw [e, sp_at, hx], by rw [show (l - 1).toNat = 0 from by omega, e, sp_at, hx], ha, by omega, fun k hk => absurd hk (by omega)⟩
theorem WAY.step {f W W1 : Nat → Int32} {D : Int32 → Int} {a s x y : Int32} {l l1 : Int} (h : WAY f D a W l s) (n : NXT f D s x) (e : W1 = upd W l.toNat y) (hy : y = x) (hl : l1 = l + 1) : WAY f D a W1 l1 x := by
  obtain ⟨h1, h2, h3, h4, h5, h6⟩ := h
  have e1 : W1 l.toNat = x := by rw [e, sp_at, hy]
  have e2 : ∀ k : Nat, (k : Int) < l → W1 k = W k := fun k hk => by rw [e, sp_ne (by omega)]
  refine ⟨by omega, by rw [e2 0 (by omega)]; exact h2, by rw [show (l1 - 1).toNat = l.toNat from by omega]; exact e1.symm, n.1, by have := n.2.1; omega, ?_⟩
  intro k hk
  rw [e2 k (by omega)]
  by_cases c : (k : Int) + 1 = l
  · rw [show k + 1 = l.toNat from by omega, e1, show k = (l - 1).toNat from by omega, ← h3]; exact n
  · rw [e2 (k + 1) (by omega)]; exact h6 k (by omega)
theorem WAY.hnf {f W : Nat → Int32} {D : Int32 → Int} {a b s : Int32} {l : Int} (h : WAY f D a W l s) (d : DST f b D) (ha : WIN f a) (ne : a.toInt ≠ b.toInt) (z : D s = 0) : HNF f a b l W := by
  obtain ⟨h1, h2, h3, h4, h5, h6⟩ := h
  have n0 : D a ≠ 0 := fun q => ne (by rw [d.1 a ha q])
  exact ⟨D, d, Or.inr ⟨by omega, by omega, h2, fun k hk => h6 k (by omega)⟩⟩
theorem HNF.no {f W : Nat → Int32} {D : Int32 → Int} {a b : Int32} {r : Int} (d : DST f b D) (h : D a < 0) (hr : r = 0) : HNF f a b r W := ⟨D, d, Or.inl ⟨h, hr⟩⟩
/- the reference's side: round by round -/
def HRC (f : Nat → Int32) (b : Int32) (g : Nat → Int32) (t : Int) : Prop :=
  (∀ w : Int32, 0 ≤ w.toInt → w.toInt ≤ 59 → -1 ≤ gat g w ∧ gat g w ≤ t + 1 ∧ (gat g w = 0 → w = b)) ∧ (stF f b 3 = 1 → gat g b = 0) ∧
  (∀ w : Int32, 0 ≤ w.toInt → w.toInt ≤ 59 → 1 ≤ gat g w → ∃ o : Int32, WIN f o ∧ gat g o + 1 = gat g w ∧ crF f w o = 1) ∧
  (∀ w o : Int32, WIN f w → WIN f o → 0 ≤ gat g o → gat g o < t → crF f w o = 1 → 0 ≤ gat g w ∧ gat g w ≤ gat g o + 1)
def HRP (f g : Nat → Int32) (t m : Int) : Prop := ∀ w o : Int32, WIN f w → WIN f o → w.toInt < m → gat g o = t → crF f w o = 1 → 0 ≤ gat g w
def HRI (f g : Nat → Int32) (t : Int) (w : Int32) (m : Int) : Prop := 0 ≤ gat g w ∨ ∀ o : Int32, WIN f o → o.toInt < m → gat g o = t → crF f w o ≠ 1
def HRO (f : Nat → Int32) (b : Int32) (g : Nat → Int32) (t m : Int) : Prop := HRC f b g t ∧ 0 ≤ t ∧ HRP f g t m
def HRN (f : Nat → Int32) (b : Int32) (g : Nat → Int32) (t : Int) (w : Int32) (m : Int) : Prop := HRC f b g t ∧ 0 ≤ t ∧ HRP f g t w.toInt ∧ HRI f g t w m
def HRZ (f : Nat → Int32) (b : Int32) (g : Nat → Int32) (m : Int) : Prop := ∀ w : Int32, 0 ≤ w.toInt → w.toInt < m → (gat g w = 0 ∧ w = b) ∨ (gat g w = -1 ∧ ¬ (w = b ∧ stF f b 3 = 1))
theorem HRZ.z {f g : Nat → Int32} {b : Int32} {m : Int} (h : m ≤ 0) : HRZ f b g m := fun w h0 h1 => absurd h1 (by omega)
theorem HRZ.s {f g g1 : Nat → Int32} {b w x : Int32} {m m1 : Int} (h : HRZ f b g m) (hw : w.toInt = m) (h0 : 0 ≤ m) (e : g1 = upd g w.toInt.toNat x) (hm : m1 = m + 1) (c : (x.toInt = 0 ∧ w.toInt = b.toInt) ∨ (x.toInt = -1 ∧ (w.toInt ≠ b.toInt ∨ stF f b 3 = 0))) : HRZ f b g1 m1 := by
  intro o o0 o1
  rw [gat_up (x := x) (by omega) o0 e]
  by_cases d : o = w
  · rw [if_pos d, d]
    rcases c with ⟨c, c1⟩ | ⟨c, c1⟩
    · exact Or.inl ⟨c, k_inj c1⟩
    · refine Or.inr ⟨c, fun y => ?_⟩
      rcases c1 with c1 | c1
      · exact c1 (by rw [y.1])
      · rw [c1] at y; exact absurd y.2 (by decide)
  · rw [if_neg d]
    exact h o o0 (by
      have : o.toInt ≠ w.toInt := fun q => d (k_inj q)
      omega)
theorem HRO.init {f g : Nat → Int32} {b : Int32} {m t : Int} (h : HRZ f b g m) (hm : 60 ≤ m) (hb : 0 ≤ b.toInt) (hb2 : b.toInt ≤ 59) (ht : t = 0) : HRO f b g t 0 := by
  refine ⟨⟨?_, ?_, ?_, ?_⟩, by omega, ?_⟩
  · intro w h0 h1
    rcases h w h0 (by omega) with ⟨z, y⟩ | ⟨z, y⟩
    · exact ⟨by omega, by omega, fun _ => y⟩
    · exact ⟨by omega, by omega, fun q => absurd q (by omega)⟩
  · intro s
    rcases h b hb (by omega) with ⟨z, y⟩ | ⟨z, y⟩
    · exact z
    · exact absurd ⟨rfl, s⟩ y
  · intro w h0 h1 c
    rcases h w h0 (by omega) with ⟨z, y⟩ | ⟨z, y⟩ <;> omega
  · intro w o _ _ c d; omega
  · intro w o hw _ c; have := hw.1; omega
theorem HRN.start {f g : Nat → Int32} {b w : Int32} {t m k : Int} (h : HRO f b g t m) (hw : w.toInt = m) (hk : k = 0) : HRN f b g t w k := ⟨h.1, h.2.1, by rw [hw]; exact h.2.2, Or.inr (fun o ho c => absurd c (by have := ho.1; omega))⟩
theorem HRN.skip {f g : Nat → Int32} {b w o : Int32} {t m m1 : Int} (h : HRN f b g t w m) (ho : o.toInt = m) (e : m1 = m + 1) (c : gat g o ≠ t ∨ crF f w o = 0) : HRN f b g t w m1 := by
  refine ⟨h.1, h.2.1, h.2.2.1, ?_⟩
  rcases h.2.2.2 with y | y
  · exact Or.inl y
  · refine Or.inr (fun v hv hm d r => ?_)
    by_cases q : v.toInt = m
    · have vo : v = o := k_inj (by omega)
      rw [vo] at d r
      rcases c with c | c
      · exact c d
      · rw [c] at r; exact absurd r (by decide)
    · exact y v hv (by omega) d r
theorem HRN.same {f g g1 : Nat → Int32} {b w x : Int32} {t m : Int} (h : HRN f b g t w m) (e : g1 = upd g w.toInt.toNat x) (hx : x = g w.toInt.toNat) : HRN f b g1 t w m := by
  have hh : g1 = g := by
    rw [e, hx]; funext j
    by_cases q : j = w.toInt.toNat
    · rw [q, upd_at]
    · rw [upd_ne q]
  rw [hh]; exact h
theorem HRN.set {f g g1 : Nat → Int32} {b w o x : Int32} {t m m1 : Int} (h : HRN f b g t w m) (hw : 0 ≤ w.toInt) (hw2 : w.toInt ≤ 59) (n : gat g w < 0) (ho : WIN f o) (d : gat g o = t) (r : crF f w o = 1) (e : g1 = upd g w.toInt.toNat x) (hx : x.toInt = t + 1) : HRN f b g1 t w m1 := by
  obtain ⟨⟨c1, c2, c3, c4⟩, t0, p, _⟩ := h
  have Gn : ∀ v : Int32, 0 ≤ v.toInt → 0 ≤ gat g v → gat g1 v = gat g v := fun v v0 c => by
    rw [gat_up (x := x) hw v0 e, if_neg (fun q => by rw [q] at c; omega)]
  have Gw : gat g1 w = t + 1 := by rw [gat_up (x := x) hw hw e, if_pos rfl, hx]
  have Go : ∀ v : Int32, 0 ≤ v.toInt → v ≠ w → gat g1 v = gat g v := fun v v0 c => by rw [gat_up (x := x) hw v0 e, if_neg c]
  have Gb : ∀ v : Int32, 0 ≤ v.toInt → gat g1 v = gat g v ∨ v = w := fun v v0 => by
    by_cases q : v = w
    · exact Or.inr q
    · exact Or.inl (Go v v0 q)
  refine ⟨⟨?_, ?_, ?_, ?_⟩, t0, ?_, Or.inl (by omega)⟩
  · intro v v0 v1
    by_cases q : v = w
    · rw [q, Gw]; exact ⟨by omega, by omega, fun z => absurd z (by omega)⟩
    · rw [Go v v0 q]; exact c1 v v0 v1
  · intro s
    have z := c2 s
    by_cases q : b = w
    · rw [q] at z; omega
    · unfold gat
      unfold gat at z
      rw [e]
      by_cases y : b.toInt.toNat = w.toInt.toNat
      · unfold gat at n; rw [← y, z] at n; omega
      · rw [sp_ne y]; exact z
  · intro v v0 v1 c
    by_cases q : v = w
    · rw [q, Gw]; exact ⟨o, ho, by rw [Gn o ho.1 (by omega), d], r⟩
    · rw [Go v v0 q] at c ⊢
      obtain ⟨u, u1, u2, u3⟩ := c3 v v0 v1 c
      exact ⟨u, u1, by rw [Gn u u1.1 (by omega)]; exact u2, u3⟩
  · intro v u hv hu d0 d1 rr
    have eu : gat g1 u = gat g u := by
      rcases Gb u hu.1 with y | y
      · exact y
      · rw [y, Gw] at d1; omega
    rw [eu] at d0 d1 ⊢
    have y := c4 v u hv hu d0 d1 rr
    rw [Gn v hv.1 y.1]; exact y
  · intro v u hv hu hm d1 rr
    have eu : gat g1 u = gat g u := by
      rcases Gb u hu.1 with y | y
      · exact y
      · rw [y, Gw] at d1; omega
    rw [eu] at d1
    have y := p v u hv hu hm d1 rr
    rw [Gn v hv.1 y]; exact y
theorem HRN.done {f g : Nat → Int32} {b w : Int32} {t m m1 : Int} (h : HRN f b g t w m) (c : 0 ≤ gat g w ∨ (f 1).toInt ≤ m) (e : m1 = w.toInt + 1) : HRO f b g t m1 := by
  refine ⟨h.1, h.2.1, ?_⟩
  intro v o hv ho hm d r
  by_cases q : v = w
  · rw [q] at r ⊢
    rcases c with c | c
    · exact c
    · rcases h.2.2.2 with y | y
      · exact y
      · exact absurd r (y o ho (by have := ho.2; omega) d)
  · exact h.2.2.1 v o hv ho (by
      have : v.toInt ≠ w.toInt := fun z => q (k_inj z)
      omega) d r
theorem HRO.next {f g : Nat → Int32} {b : Int32} {t t1 m : Int} (h : HRO f b g t m) (c : (f 1).toInt ≤ m) (n : (f 1).toInt ≤ 60) (e : t1 = t + 1) : HRO f b g t1 0 := by
  obtain ⟨⟨c1, c2, c3, c4⟩, t0, p⟩ := h
  refine ⟨⟨?_, c2, c3, ?_⟩, by omega, ?_⟩
  · intro w h0 h1
    have z := c1 w h0 h1
    exact ⟨z.1, by omega, z.2.2⟩
  · intro w o hw ho d0 d1 r
    by_cases q : gat g o = t
    · have y := p w o hw ho (by have := hw.2; omega) q r
      have z := c1 w hw.1 (by have := hw.2; omega)
      omega
    · exact c4 w o hw ho d0 (by omega) r
  · intro w o hw _ c; have := hw.1; omega
theorem HRC.chain {f g : Nat → Int32} {b : Int32} {t : Int} (h : HRC f b g t) (n : (f 1).toInt ≤ 60) : ∀ (d : Nat) (w : Int32), WIN f w → gat g w = d → ∀ k : Nat, k ≤ d → ∃ j : Nat, (j : Int) < (f 1).toInt ∧ (g j).toInt = k := by
  intro d
  induction d with
  | zero => intro w hw e k hk; exact ⟨w.toInt.toNat, by have := hw.1; have := hw.2; omega, by unfold gat at e; omega⟩
  | succ d ih =>
    intro w hw e k hk
    by_cases q : k = d + 1
    · exact ⟨w.toInt.toNat, by have := hw.1; have := hw.2; omega, by unfold gat at e; omega⟩
    · obtain ⟨o, o1, o2, _⟩ := h.2.2.1 w hw.1 (by have := hw.2; omega) (by omega)
      exact ih o o1 (by omega) k (by omega)
theorem HRC.lt {f g : Nat → Int32} {b w : Int32} {t : Int} (h : HRC f b g t) (n : (f 1).toInt ≤ 60) (hw : WIN f w) : gat g w < (f 1).toInt := by
  by_cases q : gat g w < (f 1).toInt
  · exact q
  · have n0 : 0 ≤ (f 1).toInt := by have := hw.1; have := hw.2; omega
    have hc := HRC.chain h n (gat g w).toNat w hw (by omega)
    have hch : ∀ k : Nat, ∃ j : Nat, k ≤ (f 1).toInt.toNat → (j < (f 1).toInt.toNat ∧ (g j).toInt = k) := fun k => by
      by_cases z : k ≤ (f 1).toInt.toNat
      · obtain ⟨j, z1, z2⟩ := hc k (by omega)
        exact ⟨j, fun _ => ⟨by omega, z2⟩⟩
      · exact ⟨0, fun y => absurd y z⟩
    obtain ⟨i, j, h2, h3, h4⟩ := php (f 1).toInt.toNat (fun k => Classical.choose (hch k)) (fun k hk => (Classical.choose_spec (hch k) hk).1)
    have a := (Classical.choose_spec (hch i) (by omega)).2
    have c := (Classical.choose_spec (hch j) (by omega)).2
    have h5 : Classical.choose (hch i) = Classical.choose (hch j) := h4
    rw [h5] at a
    omega
theorem HRO.dst {f g : Nat → Int32} {b : Int32} {t m : Int} (h : HRO f b g t m) (c : (f 1).toInt ≤ t) (n : (f 1).toInt ≤ 60) : DST f b (gat g) := by
  obtain ⟨⟨c1, c2, c3, c4⟩, t0, p⟩ := h
  refine ⟨fun w hw e => (c1 w hw.1 (by have := hw.2; omega)).2.2 e, c2, fun w hw e => c3 w hw.1 (by have := hw.2; omega) e, ?_⟩
  intro w o hw ho d r
  exact c4 w o hw ho d (by have := HRC.lt ⟨c1, c2, c3, c4⟩ n ho; omega) r
theorem gt_ne {g : Nat → Int32} {x w : Int32} (h : (g x.toNatClampNeg).toInt + 1 ≠ (g w.toNatClampNeg).toInt) : gat g x + 1 ≠ gat g w := h
theorem gt_s {g : Nat → Int32} {x w : Int32} (h : (g x.toNatClampNeg).toInt + 1 = (g w.toNatClampNeg).toInt) : gat g x + 1 = gat g w := h
theorem gt_n {g : Nat → Int32} {w : Int32} (h : (g w.toNatClampNeg).toInt < 0) : gat g w < 0 := h
theorem HRO.m {f g : Nat → Int32} {b : Int32} {t m k : Int} (h : HRO f b g t m) (e : k = m) : HRO f b g t k := by rw [e]; exact h
theorem HRO.lt {f g : Nat → Int32} {b w : Int32} {t m : Int} (h : HRO f b g t m) (n : (f 1).toInt ≤ 60) (h0 : 0 ≤ w.toInt) (h1 : w.toInt < (f 1).toInt) : (g w.toNatClampNeg).toInt < (f 1).toInt := HRC.lt h.1 n ⟨h0, h1⟩
theorem DST.nx {f g : Nat → Int32} {b w : Int32} (d : DST f b (gat g)) (h0 : 0 ≤ w.toInt) (h1 : w.toInt < (f 1).toInt) (ne : w.toInt ≠ b.toInt) (p : 0 ≤ (g w.toNatClampNeg).toInt) : ∃ o : Int32, 0 ≤ o.toInt ∧ o.toInt < (f 1).toInt ∧ (g o.toNatClampNeg).toInt + 1 = (g w.toNatClampNeg).toInt ∧ crF f w o = 1 ∧ 1 ≤ (g w.toNatClampNeg).toInt := by
  have p2 : 0 ≤ gat g w := p
  have q : gat g w ≠ 0 := fun z => ne (by rw [d.1 w ⟨h0, h1⟩ z])
  have q2 : 1 ≤ gat g w := by omega
  obtain ⟨o, ho, e1, e2⟩ := d.2.2.1 w ⟨h0, h1⟩ q2
  exact ⟨o, ho.1, ho.2, e1, e2, q2⟩
theorem DST.bz {f g : Nat → Int32} {b w : Int32} (d : DST f b (gat g)) (h0 : 0 ≤ w.toInt) (h1 : w.toInt < (f 1).toInt) (e : w.toInt = b.toInt) (p : 0 ≤ (g w.toNatClampNeg).toInt) : gat g w = 0 := by
  have p2 : 0 ≤ gat g w := p
  by_cases q : gat g w = 0
  · exact q
  · have s := DST.st d ((gat g w).toNat - 1) w ⟨h0, h1⟩ (by omega)
    have z := d.2.1 s
    rw [k_inj e]; exact z
