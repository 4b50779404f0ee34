/- MEETINGS: how long a PARTY takes from MILE to MILE by a row of told rains; the worst of the rows; the least of the worst -/
def mxI (a b : Int32) : Int32 := if a.toInt < b.toInt then b else a
def mtS (f n : Nat → Int32) (o : Nat) (men : Int32) (m : Int) (g : Int32) : Int32 := g + (efN f m (n (o + ((f 0 + g).toInt / 30 % 12).toNat)) + men - 1) / men
def mtG (f n : Nat → Int32) (o : Nat) (men : Int32) (m0 w : Int) : Nat → Int32
  | 0 => 0
  | k + 1 => mtS f n o men (m0 + w * k) (mtG f n o men m0 w k) + 1
def mtA (f n : Nat → Int32) (o : Nat) (men : Int32) (m0 w : Int) (k : Nat) : Int32 := mtS f n o men (m0 + w * k) (mtG f n o men m0 w k)
def mtO (f n : Nat → Int32) (o : Nat) (a : Int32) (x : Int) : Int32 := mtA f n o (pW f a 2) (pW f a 0).toInt 1 (x - (pW f a 0).toInt).toNat
def mtT (f n : Nat → Int32) (o : Nat) (b : Int32) (x : Int) : Int32 := mtA f n o (pW f b 2) (pW f b 0).toInt (-1) ((pW f b 0).toInt - 1 - x).toNat
def wsN (f n : Nat → Int32) (o : Nat) (a b : Int32) (x : Int) : Nat → Int32
  | 0 => 0
  | r + 1 => mxI (mxI (wsN f n o a b x r) (mtO f n (o + 12 * r) a x)) (mtT f n (o + 12 * r) b x)
def bsN (W : Int → Int32) (m0 : Int) : Nat → Int
  | 0 => m0
  | k + 1 => if (W (m0 + k + 1)).toInt < (W (bsN W m0 k)).toInt then m0 + k + 1 else bsN W m0 k
theorem mxk {v a b : Int32} (h : (v.toInt = a.toInt ∧ b.toInt ≤ a.toInt) ∨ (v.toInt = b.toInt ∧ a.toInt ≤ b.toInt)) : v = mxI a b := by
  apply k_inj
  unfold mxI
  by_cases c : a.toInt < b.toInt
  · rw [if_pos c]; omega
  · rw [if_neg c]; omega
theorem mx_t (a b : Int32) : (a.toInt < b.toInt ∧ (mxI a b).toInt = b.toInt) ∨ (b.toInt ≤ a.toInt ∧ (mxI a b).toInt = a.toInt) := by
  unfold mxI
  by_cases c : a.toInt < b.toInt
  · rw [if_pos c]; exact Or.inl ⟨c, rfl⟩
  · rw [if_neg c]; exact Or.inr ⟨by omega, rfl⟩
theorem mx_a (m a b : Int32) : mxI m (mxI a b) = mxI (mxI m a) b := by
  apply k_inj
  have h1 := mx_t a b
  have h2 := mx_t m (mxI a b)
  have h3 := mx_t m a
  have h4 := mx_t (mxI m a) b
  omega
theorem mx3 {v m a b : Int32} (h : (v = m ∧ a.toInt ≤ m.toInt ∧ b.toInt ≤ m.toInt) ∨ (v = a ∧ m.toInt < a.toInt ∧ b.toInt ≤ a.toInt) ∨ (v = b ∧ m.toInt < b.toInt ∧ a.toInt < b.toInt)) : v = mxI (mxI m a) b := by
  have h3 := mx_t m a
  have h4 := mx_t (mxI m a) b
  rcases h with ⟨e, h1, h2⟩ | ⟨e, h1, h2⟩ | ⟨e, h1, h2⟩ <;> subst e <;> exact k_inj (by omega)
theorem mtS_eq {f n n' : Nat → Int32} {o : Nat} {men : Int32} (h : ∀ j : Nat, j < 12 → n (o + j) = n' (o + j)) (m : Int) (g : Int32) : mtS f n o men m g = mtS f n' o men m g := by
  unfold mtS; rw [h _ (by omega)]
theorem mtG_eq {f n n' : Nat → Int32} {o : Nat} {men : Int32} {m0 w : Int} (h : ∀ j : Nat, j < 12 → n (o + j) = n' (o + j)) : ∀ k : Nat, mtG f n o men m0 w k = mtG f n' o men m0 w k := by
  intro k
  induction k with
  | zero => rfl
  | succ k ih => show mtS f n o men (m0 + w * k) (mtG f n o men m0 w k) + 1 = mtS f n' o men (m0 + w * k) (mtG f n' o men m0 w k) + 1; rw [ih, mtS_eq h]
theorem mtA_eq {f n n' : Nat → Int32} {o : Nat} {men : Int32} {m0 w : Int} (h : ∀ j : Nat, j < 12 → n (o + j) = n' (o + j)) (k : Nat) : mtA f n o men m0 w k = mtA f n' o men m0 w k := by
  unfold mtA; rw [mtG_eq h, mtS_eq h]
theorem wsN_eq {f n n' : Nat → Int32} {o : Nat} {a b : Int32} {x : Int} : ∀ r : Nat, (∀ j : Nat, j < 12 * r → n (o + j) = n' (o + j)) → wsN f n o a b x r = wsN f n' o a b x r := by
  intro r
  induction r with
  | zero => intro _; rfl
  | succ r ih =>
    intro h
    have h12 : ∀ j : Nat, j < 12 → n (o + 12 * r + j) = n' (o + 12 * r + j) := fun j hj => by
      have z := h (12 * r + j) (by omega)
      rw [Nat.add_assoc]; exact z
    show mxI (mxI (wsN f n o a b x r) (mtO f n (o + 12 * r) a x)) (mtT f n (o + 12 * r) b x) = mxI (mxI (wsN f n' o a b x r) (mtO f n' (o + 12 * r) a x)) (mtT f n' (o + 12 * r) b x)
    unfold mtO mtT
    rw [ih (fun j hj => h j (by omega)), mtA_eq h12, mtA_eq h12]
theorem bsN_in {W : Int → Int32} {m0 : Int} : ∀ k : Nat, m0 ≤ bsN W m0 k ∧ bsN W m0 k ≤ m0 + k := by
  intro k
  induction k with
  | zero => exact ⟨Int.le_refl _, by show m0 ≤ m0 + ((0 : Nat) : Int); omega⟩
  | succ k ih =>
    show m0 ≤ (if (W (m0 + k + 1)).toInt < (W (bsN W m0 k)).toInt then m0 + k + 1 else bsN W m0 k) ∧ (if (W (m0 + k + 1)).toInt < (W (bsN W m0 k)).toInt then m0 + k + 1 else bsN W m0 k) ≤ m0 + ((k + 1 : Nat) : Int)
    split <;> omega
theorem bsN_eq {W V : Int → Int32} {m0 : Int} : ∀ k : Nat, (∀ x : Int, m0 ≤ x → x ≤ m0 + k → W x = V x) → bsN W m0 k = bsN V m0 k := by
  intro k
  induction k with
  | zero => intro _; rfl
  | succ k ih =>
    intro h
    have i := ih (fun x h0 h1 => h x h0 (by omega))
    have b := bsN_in (W := V) (m0 := m0) k
    show (if (W (m0 + k + 1)).toInt < (W (bsN W m0 k)).toInt then m0 + k + 1 else bsN W m0 k) = (if (V (m0 + k + 1)).toInt < (V (bsN V m0 k)).toInt then m0 + k + 1 else bsN V m0 k)
    rw [i, h _ (by omega) (by omega), h _ b.1 (by omega)]
/- the answers of meeting, judge -/
def MTC (f bs ls n : Nat → Int32) (a b s : Int32) (t : Bool) (V : Int32 → Prop) (r : Int32) : Prop :=
  if 0 ≤ a.toInt ∧ a.toInt < (f 2).toInt ∧ 0 ≤ b.toInt ∧ b.toInt < (f 2).toInt ∧ 0 ≤ s.toInt ∧ s.toInt ≤ 3 ∧ t = true then
    (if (bs s.toInt.toNat).toInt = 0 then r = -1000002
     else if 12 ≤ (ls s.toInt.toNat).toInt ∧ (ls s.toInt.toNat).toInt % 12 = 0 ∧ allB (shv n s) 0 9 (ls s.toInt.toNat).toInt.toNat = true then
       (if (pW f a 8).toInt ≠ 2 ∧ (pW f b 8).toInt ≠ 2 ∧ (pW f a 1).toInt = 1 ∧ (pW f b 1).toInt = -1 ∧ (pW f a 0).toInt < (pW f b 0).toInt then V r else r = -1000003)
     else r = -1000005)
  else r = -1000001
def wsF (f ls n : Nat → Int32) (a b s : Int32) (x : Int) : Int32 := wsN f n (36 * s.toInt.toNat) a b x ((ls s.toInt.toNat).toInt / 12).toNat
def bsF (f ls n : Nat → Int32) (a b s : Int32) : Int := bsN (wsF f ls n a b s) (pW f a 0).toInt ((pW f b 0).toInt - 1 - (pW f a 0).toInt).toNat
def metV (f ls n : Nat → Int32) (a b s c r : Int32) : Prop := if c.toInt = 0 then r.toInt = bsF f ls n a b s else r = wsF f ls n a b s (bsF f ls n a b s)
def judV (f ls n : Nat → Int32) (a b s x d r : Int32) : Prop := if (pW f a 0).toInt ≤ x.toInt ∧ x.toInt < (pW f b 0).toInt then r = (if (wsF f ls n a b s x.toInt).toInt ≤ d.toInt then wsF f ls n a b s x.toInt else -1) else r = -1000001
def MET (f bs ls n : Nat → Int32) (a b s c r : Int32) : Prop := MTC f bs ls n a b s (decide (0 ≤ c.toInt ∧ c.toInt ≤ 1)) (metV f ls n a b s c) r
def JUD (f bs ls n : Nat → Int32) (a b s x d r : Int32) : Prop := MTC f bs ls n a b s (decide (0 ≤ d.toInt ∧ d.toInt ≤ 9999)) (judV f ls n a b s x d) r
theorem wsF_eq {b l n y z w f : Nat → Int32} {p q s : Int32} (h : SRL b l n y z w) (h0 : 0 ≤ s.toInt) (h1 : s.toInt ≤ 3) : wsF f l n p q s = wsF f z w p q s := by
  funext x
  unfold wsF
  have e := h.2.1 s.toInt.toNat (by omega)
  have c := h.2.2.2.2 s.toInt.toNat (by omega)
  rw [← e]
  exact wsN_eq _ (fun j hj => h.2.2.1 _ (by omega))
theorem MTC.un {b l n y z w f : Nat → Int32} {p q s r t : Int32} {u : Bool} {V U : Int32 → Prop} (h : SRL b l n y z w) (e : 0 ≤ s.toInt → s.toInt ≤ 3 → V r → U t → r = t) (g : MTC f b l n p q s u V r) (k : MTC f y z w p q s u U t) : r = t := by
  unfold MTC at g k
  by_cases c : 0 ≤ p.toInt ∧ p.toInt < (f 2).toInt ∧ 0 ≤ q.toInt ∧ q.toInt < (f 2).toInt ∧ 0 ≤ s.toInt ∧ s.toInt ≤ 3 ∧ u = true
  · rw [if_pos c] at g k
    have eb := h.1 s.toInt.toNat (by omega)
    have el := h.2.1 s.toInt.toNat (by omega)
    have en : allB (shv w s) 0 9 (z s.toInt.toNat).toInt.toNat = allB (shv n s) 0 9 (l s.toInt.toNat).toInt.toNat := by
      rw [← el]
      have cl := h.2.2.2.2 s.toInt.toNat (by omega)
      exact allB_eq _ (fun j hj => (h.2.2.1 _ (by omega)).symm)
    rw [en, ← el, ← eb] at k
    by_cases c1 : (b s.toInt.toNat).toInt = 0
    · rw [if_pos c1] at g k; rw [g, k]
    · rw [if_neg c1] at g k
      by_cases c2 : 12 ≤ (l s.toInt.toNat).toInt ∧ (l s.toInt.toNat).toInt % 12 = 0 ∧ allB (shv n s) 0 9 (l s.toInt.toNat).toInt.toNat = true
      · rw [if_pos c2] at g k
        by_cases c3 : (pW f p 8).toInt ≠ 2 ∧ (pW f q 8).toInt ≠ 2 ∧ (pW f p 1).toInt = 1 ∧ (pW f q 1).toInt = -1 ∧ (pW f p 0).toInt < (pW f q 0).toInt
        · rw [if_pos c3] at g k; exact e c.2.2.2.2.1 c.2.2.2.2.2.1 g k
        · rw [if_neg c3] at g k; rw [g, k]
      · rw [if_neg c2] at g k; rw [g, k]
  · rw [if_neg c] at g k; rw [g, k]
theorem MET.un {b l n y z w f : Nat → Int32} {p q s c r t : Int32} (h : SRL b l n y z w) (g : MET f b l n p q s c r) (k : MET f y z w p q s c t) : r = t := by
  refine MTC.un h (fun s0 s3 v u => ?_) g k
  unfold metV bsF at v u
  rw [← wsF_eq h s0 s3] at u
  by_cases d : c.toInt = 0
  · rw [if_pos d] at v u; exact k_inj (by omega)
  · rw [if_neg d] at v u; rw [v, u]
theorem JUD.un {b l n y z w f : Nat → Int32} {p q s x d r t : Int32} (h : SRL b l n y z w) (g : JUD f b l n p q s x d r) (k : JUD f y z w p q s x d t) : r = t := by
  refine MTC.un h (fun s0 s3 v u => ?_) g k
  unfold judV at v u
  rw [← wsF_eq h s0 s3] at u
  by_cases c : (pW f p 0).toInt ≤ x.toInt ∧ x.toInt < (pW f q 0).toInt
  · rw [if_pos c] at v u; rw [v, u]
  · rw [if_neg c] at v u; rw [v, u]
theorem MTC.b {P : Prop} [Decidable P] {f bs ls n : Nat → Int32} {a b s : Int32} {V : Int32 → Prop} (c : ¬ (0 ≤ a.toInt ∧ a.toInt < (f 2).toInt ∧ 0 ≤ b.toInt ∧ b.toInt < (f 2).toInt ∧ 0 ≤ s.toInt ∧ s.toInt ≤ 3 ∧ P)) : MTC f bs ls n a b s (decide P) V (-1000001) := by
  unfold MTC
  rw [if_neg (fun z => c ⟨z.1, z.2.1, z.2.2.1, z.2.2.2.1, z.2.2.2.2.1, z.2.2.2.2.2.1, of_decide_eq_true z.2.2.2.2.2.2⟩)]
theorem MTC.n {P : Prop} [Decidable P] {f bs ls n : Nat → Int32} {a b s : Int32} {V : Int32 → Prop} (c : 0 ≤ a.toInt ∧ a.toInt < (f 2).toInt ∧ 0 ≤ b.toInt ∧ b.toInt < (f 2).toInt ∧ 0 ≤ s.toInt ∧ s.toInt ≤ 3 ∧ P) (d : (bs s.toNatClampNeg).toInt = 0) : MTC f bs ls n a b s (decide P) V (-1000002) := by
  rw [k_clamp] at d
  unfold MTC
  rw [if_pos ⟨c.1, c.2.1, c.2.2.1, c.2.2.2.1, c.2.2.2.2.1, c.2.2.2.2.2.1, decide_eq_true c.2.2.2.2.2.2⟩, if_pos d]
def MTK (ls n : Nat → Int32) (s : Int32) : Prop := 12 ≤ (ls s.toNatClampNeg).toInt ∧ (ls s.toNatClampNeg).toInt % 12 = 0 ∧ allB (shv n s) 0 9 (ls s.toNatClampNeg).toInt.toNat = true
theorem MTC.k {P : Prop} [Decidable P] {f bs ls n : Nat → Int32} {a b s : Int32} {V : Int32 → Prop} (c : 0 ≤ a.toInt ∧ a.toInt < (f 2).toInt ∧ 0 ≤ b.toInt ∧ b.toInt < (f 2).toInt ∧ 0 ≤ s.toInt ∧ s.toInt ≤ 3 ∧ P) (d : (bs s.toNatClampNeg).toInt ≠ 0) (k : ¬ MTK ls n s) : MTC f bs ls n a b s (decide P) V (-1000005) := by
  rw [k_clamp] at d
  unfold MTK at k
  simp only [k_clamp] at k
  unfold MTC
  rw [if_pos ⟨c.1, c.2.1, c.2.2.1, c.2.2.2.1, c.2.2.2.2.1, c.2.2.2.2.2.1, decide_eq_true c.2.2.2.2.2.2⟩, if_neg d, if_neg k]
theorem MTC.s {P : Prop} [Decidable P] {f bs ls n : Nat → Int32} {a b s : Int32} {V : Int32 → Prop} (c : 0 ≤ a.toInt ∧ a.toInt < (f 2).toInt ∧ 0 ≤ b.toInt ∧ b.toInt < (f 2).toInt ∧ 0 ≤ s.toInt ∧ s.toInt ≤ 3 ∧ P) (d : (bs s.toNatClampNeg).toInt ≠ 0) (k : MTK ls n s) (e : ¬ ((pW f a 8).toInt ≠ 2 ∧ (pW f b 8).toInt ≠ 2 ∧ (pW f a 1).toInt = 1 ∧ (pW f b 1).toInt = -1 ∧ (pW f a 0).toInt < (pW f b 0).toInt)) : MTC f bs ls n a b s (decide P) V (-1000003) := by
  rw [k_clamp] at d
  unfold MTK at k
  simp only [k_clamp] at k
  unfold MTC
  rw [if_pos ⟨c.1, c.2.1, c.2.2.1, c.2.2.2.1, c.2.2.2.2.1, c.2.2.2.2.2.1, decide_eq_true c.2.2.2.2.2.2⟩, if_neg d, if_pos k, if_neg e]
theorem MTC.v {P : Prop} [Decidable P] {f bs ls n : Nat → Int32} {a b s r : Int32} {V : Int32 → Prop} (c : 0 ≤ a.toInt ∧ a.toInt < (f 2).toInt ∧ 0 ≤ b.toInt ∧ b.toInt < (f 2).toInt ∧ 0 ≤ s.toInt ∧ s.toInt ≤ 3 ∧ P) (d : (bs s.toNatClampNeg).toInt ≠ 0) (k : MTK ls n s) (e : (pW f a 8).toInt ≠ 2 ∧ (pW f b 8).toInt ≠ 2 ∧ (pW f a 1).toInt = 1 ∧ (pW f b 1).toInt = -1 ∧ (pW f a 0).toInt < (pW f b 0).toInt) (v : V r) : MTC f bs ls n a b s (decide P) V r := by
  rw [k_clamp] at d
  unfold MTK at k
  simp only [k_clamp] at k
  unfold MTC
  rw [if_pos ⟨c.1, c.2.1, c.2.2.1, c.2.2.2.1, c.2.2.2.2.1, c.2.2.2.2.2.1, decide_eq_true c.2.2.2.2.2.2⟩, if_neg d, if_pos k, if_pos e]; exact v
theorem ef_at {f : Nat → Int32} {m s r v : Int32} (hs : s = f (19 + m.toInt.toNat)) (hv : (s.toInt = 1 ∧ v = 40) ∨ (s.toInt = 2 ∧ v = 20 + 10 * r) ∨ (s.toInt ≠ 1 ∧ s.toInt ≠ 2 ∧ v = 10)) (sb : 0 ≤ s.toInt ∧ s.toInt ≤ 2) : v = efN f m.toInt r := by
  unfold efN
  rw [← hs]
  rcases hv with ⟨c, e⟩ | ⟨c, e⟩ | ⟨c, c1, e⟩
  · rw [if_neg (by omega), if_pos c, e]
  · rw [if_neg (by omega), if_neg (by omega), e]
  · rw [if_pos (by omega), e]
theorem ef_t {v r : Int32} (h : v = 20 + 10 * r) (h0 : 0 ≤ r.toInt) (h1 : r.toInt ≤ 9) : 20 ≤ v.toInt ∧ v.toInt ≤ 110 := by
  have m : (10 * r).toInt = 10 * r.toInt := k_mulv (show (10 : Int32).toInt = 10 from by decide) rfl (by omega) (by omega)
  have a : v.toInt = 20 + 10 * r.toInt := (congrArg Int32.toInt h).trans (k_addv (show (20 : Int32).toInt = 20 from by decide) m (by omega) (by omega))
  omega
theorem mt_a {f n : Nat → Int32} {o k : Nat} {men g g1 d mo rain e q : Int32} {m0 w m : Int} (hg : g = mtG f n o men m0 w k) (hd : d = f 0 + g) (hm : mo.toInt = d.toInt / 30 % 12) (hr : rain = n (o + mo.toInt.toNat)) (he : e = efN f m rain) (hmm : m = m0 + w * k) (hq : q = (e + men - 1) / men) (h1 : g1 = g + q) : g1 = mtA f n o men m0 w k := by
  unfold mtA mtS
  rw [← hg, ← hd, ← hm, ← hr, ← hmm, ← he, ← hq, h1]
/- the calls' side -/
def MGW (f n : Nat → Int32) (s row a g x : Int32) : Prop := g = mtG f n (36 * s.toInt.toNat + row.toInt.toNat) (pW f a 2) (pW f a 0).toInt 1 (x.toInt - (pW f a 0).toInt).toNat
theorem MGW.z {f n : Nat → Int32} {s row a g x : Int32} (h : g = 0) (hx : x.toInt = (pW f a 0).toInt) : MGW f n s row a g x := by
  unfold MGW; rw [h, show (x.toInt - (pW f a 0).toInt).toNat = 0 from by omega]; rfl
theorem MGW.a {f n : Nat → Int32} {s row a g g1 d mo rain e q x : Int32} (h : MGW f n s row a g x) (hx : (pW f a 0).toInt ≤ x.toInt) (hd : d = f 0 + g) (hm : mo.toInt = d.toInt / 30 % 12) (hr : rain = n (36 * s.toInt.toNat + row.toInt.toNat + mo.toInt.toNat)) (he : e = efN f x.toInt rain) (hq : q = (e + pW f a 2 - 1) / pW f a 2) (h1 : g1 = g + q) : g1 = mtO f n (36 * s.toInt.toNat + row.toInt.toNat) a x.toInt :=
  mt_a h hd hm hr he (by omega) hq h1
theorem MGW.n {f n : Nat → Int32} {s row a g1 g2 x x1 : Int32} (h : g1 = mtO f n (36 * s.toInt.toNat + row.toInt.toNat) a x.toInt) (e : g2 = g1 + 1) (hx : (pW f a 0).toInt ≤ x.toInt) (e1 : x1.toInt = x.toInt + 1) : MGW f n s row a g2 x1 := by
  unfold MGW
  rw [e, h, show (x1.toInt - (pW f a 0).toInt).toNat = (x.toInt - (pW f a 0).toInt).toNat + 1 from by omega]; rfl
def MDW (f n : Nat → Int32) (s row a : Int32) (g : Nat → Int32) (x : Int32) : Prop := ∀ y : Int, (pW f a 0).toInt ≤ y → y < x.toInt → g y.toNat = mtO f n (36 * s.toInt.toNat + row.toInt.toNat) a y
theorem MDW.z {f n g : Nat → Int32} {s row a x : Int32} (hx : x.toInt = (pW f a 0).toInt) : MDW f n s row a g x := fun y h0 h1 => absurd h1 (by omega)
theorem MDW.s {f n g g1 : Nat → Int32} {s row a x x1 v : Int32} (m0 : 0 ≤ (pW f a 0).toInt) (h : MDW f n s row a g x) (hv : v = mtO f n (36 * s.toInt.toNat + row.toInt.toNat) a x.toInt) (e : g1 = upd g x.toNatClampNeg v) (hx : (pW f a 0).toInt ≤ x.toInt) (e1 : x1.toInt = x.toInt + 1) : MDW f n s row a g1 x1 := by
  intro y h0 h1
  rw [k_clamp] at e
  by_cases c : y = x.toInt
  · rw [c, e, sp_at, hv]
  · rw [e, sp_ne (by omega)]; exact h y h0 (by omega)
def MGB (f n : Nat → Int32) (s row b g x : Int32) : Prop := g = mtG f n (36 * s.toInt.toNat + row.toInt.toNat) (pW f b 2) (pW f b 0).toInt (-1) ((pW f b 0).toInt - 1 - x.toInt).toNat
theorem MGB.z {f n : Nat → Int32} {s row b g x : Int32} (h : g = 0) (hx : x.toInt = (pW f b 0).toInt - 1) : MGB f n s row b g x := by
  unfold MGB; rw [h, show ((pW f b 0).toInt - 1 - x.toInt).toNat = 0 from by omega]; rfl
theorem MGB.a {f n : Nat → Int32} {s row b g g1 d mo rain e q x m : Int32} (h : MGB f n s row b g x) (hx : x.toInt ≤ (pW f b 0).toInt - 1) (hd : d = f 0 + g) (hm : mo.toInt = d.toInt / 30 % 12) (hr : rain = n (36 * s.toInt.toNat + row.toInt.toNat + mo.toInt.toNat)) (he : e = efN f m.toInt rain) (em : m.toInt = x.toInt + 1) (hq : q = (e + pW f b 2 - 1) / pW f b 2) (h1 : g1 = g + q) : g1 = mtT f n (36 * s.toInt.toNat + row.toInt.toNat) b x.toInt :=
  mt_a h hd hm hr he (by omega) hq h1
theorem MGB.n {f n : Nat → Int32} {s row b g1 g2 x x1 : Int32} (h : g1 = mtT f n (36 * s.toInt.toNat + row.toInt.toNat) b x.toInt) (e : g2 = g1 + 1) (hx : x.toInt ≤ (pW f b 0).toInt - 1) (e1 : x1.toInt = x.toInt - 1) : MGB f n s row b g2 x1 := by
  unfold MGB
  rw [e, h, show ((pW f b 0).toInt - 1 - x1.toInt).toNat = ((pW f b 0).toInt - 1 - x.toInt).toNat + 1 from by omega]; rfl
def MWB (f n : Nat → Int32) (s row a b : Int32) (g0 g : Nat → Int32) (x : Int32) : Prop := (∀ y : Int, (pW f a 0).toInt ≤ y → y < (pW f b 0).toInt → x.toInt < y → g y.toNat = mxI (mxI (g0 y.toNat) (mtO f n (36 * s.toInt.toNat + row.toInt.toNat) a y)) (mtT f n (36 * s.toInt.toNat + row.toInt.toNat) b y)) ∧ (∀ y : Int, (pW f a 0).toInt ≤ y → y ≤ x.toInt → g y.toNat = g0 y.toNat)
theorem MWB.z {f n g : Nat → Int32} {s row a b x : Int32} (hx : x.toInt = (pW f b 0).toInt - 1) : MWB f n s row a b g g x := ⟨fun y h0 h1 h2 => absurd h1 (by omega), fun y _ _ => rfl⟩
theorem MWB.s {f n g0 g g1 dn : Nat → Int32} {s row a b x x1 xe u w v gone t : Int32} (m0 : 0 ≤ (pW f a 0).toInt) (h : MWB f n s row a b g0 g x) (hd : MDW f n s row a dn xe) (hxe : x.toInt < xe.toInt) (hx : (pW f a 0).toInt ≤ x.toInt) (hx2 : x.toInt ≤ (pW f b 0).toInt - 1) (hg : gone = mtT f n (36 * s.toInt.toNat + row.toInt.toNat) b x.toInt) (hu : u = dn x.toNatClampNeg) (ht : t = mxI u gone) (hw : w = g x.toNatClampNeg) (hv : v = mxI w t) (e : g1 = upd g x.toNatClampNeg v) (e1 : x1.toInt = x.toInt - 1) : MWB f n s row a b g0 g1 x1 := by
  rw [k_clamp] at hu hw e
  have z := h.2 x.toInt hx (Int.le_refl _)
  have zd := hd x.toInt hx hxe
  refine ⟨fun y h0 h1 h2 => ?_, fun y h0 h1 => ?_⟩
  · by_cases c : y = x.toInt
    · rw [c, e, sp_at, hv, hw, z, ht, hu, zd, hg, mx_a]
    · rw [e, sp_ne (by omega)]; exact h.1 y h0 h1 (by omega)
  · rw [e, sp_ne (by omega)]; exact h.2 y h0 (by omega)
def MWR (f n : Nat → Int32) (s row a b : Int32) (g0 g : Nat → Int32) : Prop := ∀ y : Int, (pW f a 0).toInt ≤ y → y < (pW f b 0).toInt → g y.toNat = mxI (mxI (g0 y.toNat) (mtO f n (36 * s.toInt.toNat + row.toInt.toNat) a y)) (mtT f n (36 * s.toInt.toNat + row.toInt.toNat) b y)
theorem MWB.e {f n g0 g : Nat → Int32} {s row a b x : Int32} (h : MWB f n s row a b g0 g x) (hx : x.toInt < (pW f a 0).toInt) : MWR f n s row a b g0 g := fun y h0 h1 => h.1 y h0 h1 (by omega)
def MWX (f n : Nat → Int32) (s a b : Int32) (g : Nat → Int32) (row : Int32) : Prop := ∀ y : Int, (pW f a 0).toInt ≤ y → y < (pW f b 0).toInt → g y.toNat = wsN f n (36 * s.toInt.toNat) a b y (row.toInt / 12).toNat
theorem MWX.z {f n g : Nat → Int32} {s a b row : Int32} (z : ∀ w : Nat, w < 40 → (g w).toInt = 0) (h0 : 0 ≤ (pW f a 0).toInt) (h1 : (pW f b 0).toInt ≤ 39) (hr : row.toInt = 0) : MWX f n s a b g row := fun y y0 y1 => by
  rw [hr]
  show g y.toNat = 0
  exact k_inj (z _ (by omega))
theorem MWX.s {f n g g1 : Nat → Int32} {s a b row row1 : Int32} (h : MWX f n s a b g row) (r : MWR f n s row a b g g1) (h0 : 0 ≤ row.toInt) (hm : row.toInt % 12 = 0) (e : row1.toInt = row.toInt + 12) : MWX f n s a b g1 row1 := fun y y0 y1 => by
  rw [r y y0 y1, h y y0 y1, show (row1.toInt / 12).toNat = (row.toInt / 12).toNat + 1 from by omega, show row.toInt.toNat = 12 * (row.toInt / 12).toNat from by omega]; rfl
def MWF (f ls n : Nat → Int32) (s a b : Int32) (g : Nat → Int32) : Prop := ∀ y : Int, (pW f a 0).toInt ≤ y → y < (pW f b 0).toInt → g y.toNat = wsF f ls n a b s y
theorem MWX.e {f ls n g : Nat → Int32} {s a b row : Int32} (h : MWX f n s a b g row) (e : row.toInt = (ls s.toNatClampNeg).toInt) : MWF f ls n s a b g := fun y y0 y1 => by
  rw [h y y0 y1, e]; rfl
def BSI (g : Nat → Int32) (m x p : Int32) : Prop := p.toInt = bsN (fun y => g y.toNat) m.toInt (x.toInt - 1 - m.toInt).toNat
theorem BSI.z {g : Nat → Int32} {m x p : Int32} (e : p = m) (h : x.toInt = m.toInt + 1) : BSI g m x p := by
  unfold BSI; rw [e, show (x.toInt - 1 - m.toInt).toNat = 0 from by omega]; rfl
theorem BSI.y {g : Nat → Int32} {m x x1 p u v : Int32} (i : BSI g m x p) (h : m.toInt < x.toInt) (e1 : x1.toInt = x.toInt + 1) (hu : u = g x.toNatClampNeg) (hv : v = g p.toNatClampNeg) (c : u.toInt < v.toInt) : BSI g m x1 x := by
  unfold BSI at i ⊢
  rw [k_clamp] at hu hv
  rw [show (x1.toInt - 1 - m.toInt).toNat = (x.toInt - 1 - m.toInt).toNat + 1 from by omega]
  show x.toInt = if (g (m.toInt + (x.toInt - 1 - m.toInt).toNat + 1).toNat).toInt < (g (bsN (fun y => g y.toNat) m.toInt (x.toInt - 1 - m.toInt).toNat).toNat).toInt then m.toInt + (x.toInt - 1 - m.toInt).toNat + 1 else _
  rw [← i, show m.toInt + (x.toInt - 1 - m.toInt).toNat + 1 = x.toInt from by omega, ← hu, ← hv, if_pos c]
theorem BSI.n {g : Nat → Int32} {m x x1 p u v : Int32} (i : BSI g m x p) (h : m.toInt < x.toInt) (e1 : x1.toInt = x.toInt + 1) (hu : u = g x.toNatClampNeg) (hv : v = g p.toNatClampNeg) (c : v.toInt ≤ u.toInt) : BSI g m x1 p := by
  unfold BSI at i ⊢
  rw [k_clamp] at hu hv
  rw [show (x1.toInt - 1 - m.toInt).toNat = (x.toInt - 1 - m.toInt).toNat + 1 from by omega]
  show p.toInt = if (g (m.toInt + (x.toInt - 1 - m.toInt).toNat + 1).toNat).toInt < (g (bsN (fun y => g y.toNat) m.toInt (x.toInt - 1 - m.toInt).toNat).toNat).toInt then m.toInt + (x.toInt - 1 - m.toInt).toNat + 1 else bsN (fun y => g y.toNat) m.toInt (x.toInt - 1 - m.toInt).toNat
  rw [← i, show m.toInt + (x.toInt - 1 - m.toInt).toNat + 1 = x.toInt from by omega, ← hu, ← hv, if_neg (by omega)]
def BSC (g : Nat → Int32) (m t p : Int32) : Prop := p.toInt = bsN (fun y => g y.toNat) m.toInt (t.toInt - 1 - m.toInt).toNat
theorem BSI.e {g : Nat → Int32} {m x p t : Int32} (i : BSI g m x p) (h : x.toInt = t.toInt) : BSC g m t p := by unfold BSC; rw [← h]; exact i
theorem BSC.bs {f ls n g : Nat → Int32} {a b s m t p : Int32} (h : BSC g m t p) (w : MWF f ls n s a b g) (em : m.toInt = (pW f a 0).toInt) (et : t.toInt = (pW f b 0).toInt) (c : m.toInt < t.toInt) : p.toInt = bsF f ls n a b s ∧ (pW f a 0).toInt ≤ p.toInt ∧ p.toInt < (pW f b 0).toInt := by
  have z : p.toInt = bsN (fun y => g y.toNat) m.toInt (t.toInt - 1 - m.toInt).toNat := h
  have i := bsN_in (W := wsF f ls n a b s) (m0 := (pW f a 0).toInt) ((pW f b 0).toInt - 1 - (pW f a 0).toInt).toNat
  rw [em, et] at z
  rw [bsN_eq (V := wsF f ls n a b s) _ (fun y y0 y1 => w y y0 (by omega))] at z
  refine ⟨z, ?_, ?_⟩ <;> omega
theorem met_0 {f ls n : Nat → Int32} {a b s c r : Int32} (h : c.toInt = 0) (e : r.toInt = bsF f ls n a b s) : metV f ls n a b s c r := by unfold metV; rw [if_pos h]; exact e
theorem met_1 {f ls n : Nat → Int32} {a b s c r : Int32} {p : Int} (h : c.toInt ≠ 0) (e : p = bsF f ls n a b s) (v : r = wsF f ls n a b s p) : metV f ls n a b s c r := by unfold metV; rw [if_neg h, ← e]; exact v
theorem jud_o {f ls n : Nat → Int32} {a b s x d : Int32} (h : ¬ ((pW f a 0).toInt ≤ x.toInt ∧ x.toInt < (pW f b 0).toInt)) : judV f ls n a b s x d (-1000001) := by unfold judV; rw [if_neg h]
theorem jud_y {f ls n : Nat → Int32} {a b s x d r : Int32} (h : (pW f a 0).toInt ≤ x.toInt ∧ x.toInt < (pW f b 0).toInt) (e : r = wsF f ls n a b s x.toInt) (c : r.toInt ≤ d.toInt) : judV f ls n a b s x d r := by unfold judV; rw [if_pos h, ← e, if_pos c]
theorem jud_n {f ls n : Nat → Int32} {a b s x d w : Int32} (h : (pW f a 0).toInt ≤ x.toInt ∧ x.toInt < (pW f b 0).toInt) (e : w = wsF f ls n a b s x.toInt) (c : d.toInt < w.toInt) : judV f ls n a b s x d (-1) := by unfold judV; rw [if_pos h, ← e, if_neg (by omega)]
/- the reference's side -/
def DNI (f n : Nat → Int32) (s row p : Int32) (w k : Int) (day : Int32) : Prop := (k = 0 ∧ day = f 0) ∨ (1 ≤ k ∧ day = f 0 + mtA f n (36 * s.toInt.toNat + 12 * row.toInt.toNat) (pW f p 2) (pW f p 0).toInt w (k - 1).toNat)
theorem DNI.z {f n : Nat → Int32} {s row p day : Int32} {w k : Int} (h : k = 0) (e : day = f 0) : DNI f n s row p w k day := Or.inl ⟨h, e⟩
theorem DNI.s {f n : Nat → Int32} {s row p day d1 d2 z rain j e q : Int32} {w k k1 m : Int} (h : DNI f n s row p w k day) (hz : (k = 0 ∧ z = 0) ∨ (1 ≤ k ∧ z = 1)) (h1 : d1 = day + z) (hr : rain = n (36 * s.toInt.toNat + j.toInt.toNat)) (hj : j.toInt = 12 * row.toInt + d1.toInt / 30 % 12) (r0 : 0 ≤ row.toInt) (d0 : 0 ≤ d1.toInt) (he : e = efN f m rain) (hm : m = (pW f p 0).toInt + w * k) (hq : q = (e + pW f p 2 - 1) / pW f p 2) (h2 : d2 = d1 + q) (hk : k1 = k + 1) : DNI f n s row p w k1 d2 := by
  have hk0 : 0 ≤ k := by rcases hz with c | c <;> omega
  have hd : d1 = f 0 + mtG f n (36 * s.toInt.toNat + 12 * row.toInt.toNat) (pW f p 2) (pW f p 0).toInt w k.toNat := by
    rcases h with ⟨c, e⟩ | ⟨c, e⟩
    · rcases hz with ⟨_, ez⟩ | ⟨c2, _⟩
      · rw [h1, ez, e, show k.toNat = 0 from by omega]; rfl
      · omega
    · rcases hz with ⟨c2, _⟩ | ⟨_, ez⟩
      · omega
      · rw [h1, ez, e, show k.toNat = (k - 1).toNat + 1 from by omega, Int32.add_assoc]; rfl
  have hmo : (Int32.ofNat (d1.toInt / 30 % 12).toNat).toInt = d1.toInt / 30 % 12 := (nI_toInt (by omega)).trans (by omega)
  refine Or.inr ⟨by omega, ?_⟩
  have z := mt_a (g := mtG f n (36 * s.toInt.toNat + 12 * row.toInt.toNat) (pW f p 2) (pW f p 0).toInt w k.toNat) (mo := Int32.ofNat (d1.toInt / 30 % 12).toNat) (m := m) (m0 := (pW f p 0).toInt) (w := w) (k := k.toNat) rfl hd hmo (by rw [hr, hmo]; congr 1; omega) he (by rw [hm, show ((k.toNat : Nat) : Int) = k from by omega]) hq rfl
  rw [show (k1 - 1).toNat = k.toNat from by omega, ← z, h2, hd, Int32.add_assoc]
theorem DNI.o {f n : Nat → Int32} {s row p day r x : Int32} {k : Int} (h : DNI f n s row p 1 k day) (hk : k = x.toInt + 1 - (pW f p 0).toInt) (h1 : 1 ≤ k) (e : r = day - f 0) : r = mtO f n (36 * s.toInt.toNat + 12 * row.toInt.toNat) p x.toInt := by
  rcases h with ⟨c, _⟩ | ⟨_, ed⟩
  · omega
  · unfold mtO
    rw [e, ed, i_addsub2, show (k - 1).toNat = (x.toInt - (pW f p 0).toInt).toNat from by omega]
theorem DNI.t {f n : Nat → Int32} {s row p day r x : Int32} {k y : Int} (h : DNI f n s row p (-1) k day) (hk : k = (pW f p 0).toInt + 1 - x.toInt) (h1 : 1 ≤ k) (e : r = day - f 0) (hy : y = x.toInt - 1) : r = mtT f n (36 * s.toInt.toNat + 12 * row.toInt.toNat) p y := by
  rcases h with ⟨c, _⟩ | ⟨_, ed⟩
  · omega
  · unfold mtT
    rw [e, ed, i_addsub2, show (k - 1).toNat = ((pW f p 0).toInt - 1 - y).toNat from by omega]
def WSI (f n : Nat → Int32) (a b s x m row : Int32) : Prop := m = wsN f n (36 * s.toInt.toNat) a b x.toInt row.toInt.toNat
theorem WSI.z {f n : Nat → Int32} {a b s x m row : Int32} (h : m = 0) (hr : row.toInt = 0) : WSI f n a b s x m row := by unfold WSI; rw [hr, h]; rfl
theorem WSI.s {f n : Nat → Int32} {a b s x m row m1 row1 u v : Int32} {y : Int} (h : WSI f n a b s x m row) (h0 : 0 ≤ row.toInt) (e1 : row1.toInt = row.toInt + 1) (hu : u = mtO f n (36 * s.toInt.toNat + 12 * row.toInt.toNat) a x.toInt) (hv : v = mtT f n (36 * s.toInt.toNat + 12 * row.toInt.toNat) b y) (hy : y = x.toInt) (c : m1 = mxI (mxI m u) v) : WSI f n a b s x m1 row1 := by
  unfold WSI at h ⊢
  rw [show row1.toInt.toNat = row.toInt.toNat + 1 from by omega, c, h, hu, hv, hy]; rfl
theorem WSI.e {f ls n : Nat → Int32} {a b s x m row : Int32} (h : WSI f n a b s x m row) (e : row.toInt = (ls s.toNatClampNeg).toInt / 12) : m = wsF f ls n a b s x.toInt := by
  unfold WSI at h
  rw [e] at h; exact h
def NMI (ls n : Nat → Int32) (s are k : Int32) : Prop := (are.toInt = 1 ∧ 12 ≤ (ls s.toNatClampNeg).toInt ∧ (ls s.toNatClampNeg).toInt % 12 = 0 ∧ allB (shv n s) 0 9 k.toInt.toNat = true) ∨ (are.toInt = 0 ∧ ¬ MTK ls n s)
theorem NMI.y {ls n : Nat → Int32} {s are k k1 a1 x : Int32} (h : NMI ls n s are k) (c : are.toInt ≠ 0) (hx : x = n (36 * s.toInt.toNat + k.toInt.toNat)) (x0 : 0 ≤ x.toInt) (x9 : x.toInt ≤ 9) (h0 : 0 ≤ k.toInt) (e1 : k1.toInt = k.toInt + 1) (ea : a1.toInt = 1) : NMI ls n s a1 k1 := by
  rcases h with ⟨_, h1, h2, h3⟩ | ⟨h1, _⟩
  · exact Or.inl ⟨ea, h1, h2, allB_step h3 h0 e1 hx x0 x9⟩
  · exact absurd h1 c
theorem NMI.n {ls n : Nat → Int32} {s k k1 a1 x : Int32} (hx : x = n (36 * s.toInt.toNat + k.toInt.toNat)) (hb : x.toInt < 0 ∨ 9 < x.toInt) (h0 : 0 ≤ k.toInt) (hk : k.toInt < (ls s.toNatClampNeg).toInt) (ea : a1.toInt = 0) : NMI ls n s a1 k1 :=
  Or.inr ⟨ea, fun z => by
    have z1 := z.2.2
    rw [allB_no (v := shv n s) (x := x) h0 hk hx hb] at z1
    exact absurd z1 (by decide)⟩
theorem NMI.no {ls n : Nat → Int32} {s are k : Int32} (h : NMI ls n s are k) (c : are.toInt = 0) : ¬ MTK ls n s := by
  rcases h with ⟨h1, _⟩ | ⟨_, h1⟩
  · omega
  · exact h1
theorem NMI.ok {ls n : Nat → Int32} {s are k : Int32} (h : NMI ls n s are k) (c : are.toInt ≠ 0) (e : k.toInt = (ls s.toNatClampNeg).toInt) : MTK ls n s := by
  rcases h with ⟨_, h1, h2, h3⟩ | ⟨h1, _⟩
  · rw [e] at h3; exact ⟨h1, h2, h3⟩
  · exact absurd h1 c
def MEI (f ls n : Nat → Int32) (a b s p l x : Int32) : Prop := (x.toInt = (pW f a 0).toInt ∧ p.toInt = -1) ∨ ((pW f a 0).toInt < x.toInt ∧ p.toInt = bsN (wsF f ls n a b s) (pW f a 0).toInt (x.toInt - 1 - (pW f a 0).toInt).toNat ∧ l = wsF f ls n a b s p.toInt)
theorem MEI.y {f ls n : Nat → Int32} {a b s p l x x1 v : Int32} (h : MEI f ls n a b s p l x) (m0 : 0 ≤ (pW f a 0).toInt) (hv : v = wsF f ls n a b s x.toInt) (c : p.toInt < 0 ∨ v.toInt < l.toInt) (e1 : x1.toInt = x.toInt + 1) : MEI f ls n a b s x v x1 := by
  rcases h with ⟨h1, h2⟩ | ⟨h1, h2, h3⟩
  · refine Or.inr ⟨by omega, ?_, hv⟩
    rw [show (x1.toInt - 1 - (pW f a 0).toInt).toNat = 0 from by omega]; exact h1
  · have i := bsN_in (W := wsF f ls n a b s) (m0 := (pW f a 0).toInt) (x.toInt - 1 - (pW f a 0).toInt).toNat
    refine Or.inr ⟨by omega, ?_, hv⟩
    rw [show (x1.toInt - 1 - (pW f a 0).toInt).toNat = (x.toInt - 1 - (pW f a 0).toInt).toNat + 1 from by omega]
    show x.toInt = if (wsF f ls n a b s ((pW f a 0).toInt + (x.toInt - 1 - (pW f a 0).toInt).toNat + 1)).toInt < (wsF f ls n a b s (bsN (wsF f ls n a b s) (pW f a 0).toInt (x.toInt - 1 - (pW f a 0).toInt).toNat)).toInt then (pW f a 0).toInt + (x.toInt - 1 - (pW f a 0).toInt).toNat + 1 else _
    rw [← h2, show (pW f a 0).toInt + (x.toInt - 1 - (pW f a 0).toInt).toNat + 1 = x.toInt from by omega, ← hv, ← h3, if_pos (by omega)]
theorem MEI.n {f ls n : Nat → Int32} {a b s p l x x1 v : Int32} (h : MEI f ls n a b s p l x) (hv : v = wsF f ls n a b s x.toInt) (c : 0 ≤ p.toInt) (c2 : l.toInt ≤ v.toInt) (e1 : x1.toInt = x.toInt + 1) : MEI f ls n a b s p l x1 := by
  rcases h with ⟨h1, h2⟩ | ⟨h1, h2, h3⟩
  · omega
  · refine Or.inr ⟨by omega, ?_, h3⟩
    rw [show (x1.toInt - 1 - (pW f a 0).toInt).toNat = (x.toInt - 1 - (pW f a 0).toInt).toNat + 1 from by omega]
    show p.toInt = if (wsF f ls n a b s ((pW f a 0).toInt + (x.toInt - 1 - (pW f a 0).toInt).toNat + 1)).toInt < (wsF f ls n a b s (bsN (wsF f ls n a b s) (pW f a 0).toInt (x.toInt - 1 - (pW f a 0).toInt).toNat)).toInt then (pW f a 0).toInt + (x.toInt - 1 - (pW f a 0).toInt).toNat + 1 else bsN (wsF f ls n a b s) (pW f a 0).toInt (x.toInt - 1 - (pW f a 0).toInt).toNat
    rw [← h2, show (pW f a 0).toInt + (x.toInt - 1 - (pW f a 0).toInt).toNat + 1 = x.toInt from by omega, ← hv, ← h3, if_neg (by omega)]
theorem MEI.e {f ls n : Nat → Int32} {a b s p l x : Int32} (h : MEI f ls n a b s p l x) (e : x.toInt = (pW f b 0).toInt) (c : (pW f a 0).toInt < (pW f b 0).toInt) : p.toInt = bsF f ls n a b s ∧ l = wsF f ls n a b s p.toInt := by
  rcases h with ⟨h1, h2⟩ | ⟨h1, h2, h3⟩
  · omega
  · rw [e] at h2; exact ⟨h2, h3⟩
