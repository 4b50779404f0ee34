/-! what the calls leave alone of the row; the kept World -/
def RPL (i : Nat) : Prop := i = 3 ∨ i = 4 ∨ (495 ≤ i ∧ i ≤ 1180)
theorem off_rain {f : Nat → Int32} {a b : Int32} {i : Nat} (hi : RPL i) : rainS 7 f a b i = f i := by unfold RPL at hi; exact rainS_off _ _ (by omega)
theorem off_land {f : Nat → Int32} {a b c : Int32} {i : Nat} (hi : RPL i) : landS 59 (landS 19 f a b c b) a b c c i = f i := by
  unfold RPL at hi; rw [landS_off _ _ _ _ (by omega), landS_off _ _ _ _ (by omega)]
theorem off_soil {f y z w : Nat → Int32} {a m : Int32} (hz : ∀ k : Nat, k < 4 → 0 ≤ (z k).toInt ∧ (z k).toInt ≤ 36) {i : Nat} (hi : RPL i) : soilS 19 f y z w a m i = f i := by
  unfold RPL at hi; exact soilS_off a m hz (by omega)
theorem off_work {f : Nat → Int32} {q : Int} {k m z : Int32} (h : SIX f q) {i : Nat} (hi : RPL i) : workS f k m z i = f i := by
  unfold RPL at hi
  have n1 := h.1.n1
  unfold workS
  by_cases c : 0 ≤ k.toInt ∧ k.toInt ≤ 5 ∧ 0 ≤ m.toInt ∧ m.toInt ≤ 39 ∧ 1 ≤ z.toInt ∧ z.toInt ≤ 50 ∧ (f 1).toInt < 60
  · rw [if_pos c]; exact comS_off (by omega) (by omega)
  · rw [if_neg c]
theorem off_fell {f : Nat → Int32} {q : Int} {w : Int32} (h : SIX f q) {i : Nat} (hi : RPL i) : fellS f w i = f i := by
  unfold RPL at hi
  have n1 := h.1.n1
  unfold fellS
  by_cases c : 0 ≤ w.toInt ∧ w.toInt < (f 1).toInt ∧ (wW f w 4).toInt = 0
  · rw [if_pos c]; exact sp_ne (by omega)
  · rw [if_neg c]
theorem off_lay {f : Nat → Int32} {q : Int} {w n : Int32} (h : SIX f q) {i : Nat} (hi : RPL i) : layS f w n i = f i := by
  unfold RPL at hi
  have n1 := h.1.n1
  unfold layS
  by_cases c : 0 ≤ w.toInt ∧ w.toInt < (f 1).toInt ∧ 1 ≤ n.toInt ∧ n.toInt ≤ 9999 ∧ (wW f w 0).toInt = 5 ∧ (wW f w 4).toInt = 0 ∧ (wW f w 5).toInt + n.toInt ≤ 9999
  · rw [if_pos c]; exact sp_ne (by omega)
  · rw [if_neg c]
theorem off_party {f : Nat → Int32} {q : Int} {a w e b : Int32} (h : SIX f q) {i : Nat} (hi : RPL i) : partyS f a w e b i = f i := by
  unfold RPL at hi
  have n2 := h.1.n2
  unfold partyS
  by_cases c : 0 ≤ a.toInt ∧ a.toInt ≤ 39 ∧ (w.toInt = 1 ∨ w.toInt = -1) ∧ 0 ≤ b.toInt ∧ b.toInt ≤ 99 ∧ 100 ≤ e.toInt ∧ e.toInt / 100 ≤ 50 ∧ e.toInt % 100 ≤ 50 ∧ (f 2).toInt < 4
  · rw [if_pos c]
    unfold ptyS
    rw [sp_ne (by omega), sp_ne (by omega), sp_ne (by omega), sp_ne (by omega), sp_ne (by omega)]
    exact OFP.pad (by omega) i (by omega) (by omega)
  · rw [if_neg c]
theorem off_gv {f : Nat → Int32} {p n : Int32} {j : Nat} {m : Int} (h0 : 0 ≤ p.toInt) (h1 : p.toInt ≤ 3) (hj : j < 9) {i : Nat} (hi : RPL i) : gvS f p n j m i = f i := by
  unfold RPL at hi
  unfold gvS
  by_cases c : 1 ≤ n.toInt ∧ n.toInt ≤ m ∧ (pW f p 8).toInt ≠ 2 ∧ (pW f p j + n).toInt ≤ m
  · rw [if_pos c]; exact sp_ne (by omega)
  · rw [if_neg c]
theorem off_give {f : Nat → Int32} {q : Int} {p k n : Int32} (h : SIX f q) {i : Nat} (hi : RPL i) : giveS f p k n i = f i := by
  have n2 := h.1.n2
  unfold giveS
  by_cases c : 0 ≤ p.toInt ∧ p.toInt < (f 2).toInt ∧ 0 ≤ k.toInt ∧ k.toInt ≤ 2
  · rw [if_pos c]
    by_cases c1 : k.toInt = 2
    · rw [if_pos c1]; exact off_gv (by omega) (by omega) (by omega) hi
    · rw [if_neg c1]
      by_cases c2 : k.toInt = 0
      · rw [if_pos c2]; exact off_gv (by omega) (by omega) (by omega) hi
      · rw [if_neg c2]; exact off_gv (by omega) (by omega) (by omega) hi
  · rw [if_neg c]
theorem off_rest {f : Nat → Int32} {q : Int} {p b : Int32} (h : SIX f q) {i : Nat} (hi : RPL i) : rstPS f p b i = f i := by
  unfold RPL at hi
  have n2 := h.1.n2
  unfold rstPS
  by_cases c : 0 ≤ p.toInt ∧ p.toInt < (f 2).toInt ∧ (pW f p 8).toInt ≠ 2
  · rw [if_pos c]; exact sp_ne (by omega)
  · rw [if_neg c]
theorem off_turn {f : Nat → Int32} {q : Int} {p : Int32} (h : SIX f q) {i : Nat} (hi : RPL i) : turnS f p i = f i := by
  unfold RPL at hi
  have n2 := h.1.n2
  unfold turnS
  by_cases c : 0 ≤ p.toInt ∧ p.toInt < (f 2).toInt ∧ (pW f p 8).toInt ≠ 2
  · rw [if_pos c]; exact sp_ne (by omega)
  · rw [if_neg c]
theorem off_hand {f : Nat → Int32} {q : Int} {p r n : Int32} (h : SIX f q) {i : Nat} (hi : RPL i) : handS f p r n i = f i := by
  unfold RPL at hi
  have n2 := h.1.n2
  unfold handS
  by_cases c : 0 ≤ p.toInt ∧ p.toInt < (f 2).toInt ∧ 0 ≤ r.toInt ∧ r.toInt < (f 2).toInt ∧ p.toInt ≠ r.toInt ∧ 1 ≤ n.toInt ∧ n.toInt ≤ 50 ∧ (pW f p 8).toInt ≠ 2 ∧ (pW f r 8).toInt ≠ 2 ∧ (pW f p 0).toInt = (pW f r 0).toInt ∧ n.toInt + 1 ≤ (pW f p 2).toInt ∧ (pW f r 2).toInt + n.toInt ≤ 50
  · rw [if_pos c, sp_ne (by omega), sp_ne (by omega)]
  · rw [if_neg c]
theorem off_reach {f : Nat → Int32} {v : Int32} {i : Nat} (hi : RPL i) : rchS f v i = f i := by
  unfold RPL at hi
  unfold rchS
  by_cases c : 1 ≤ v.toInt ∧ v.toInt ≤ 200
  · rw [if_pos c]; exact sp_ne (by omega)
  · rw [if_neg c]
theorem off_days {f : Nat → Int32} {n : Int32} (h : SIX f (-1)) {i : Nat} (hi : RPL i) : dysS f n i = f i := by
  unfold RPL at hi
  unfold dysS
  by_cases c : 1 ≤ n.toInt ∧ n.toInt ≤ 200 ∧ (f 0).toInt + n.toInt ≤ 2000
  · rw [if_pos c]; exact (days_six h n.toInt.toNat (by omega)).2.1 i (by omega) (by omega) (by omega)
  · rw [if_neg c]
theorem off_tell {f : Nat → Int32} {q : Int} {v : Int32} (h : SIX f q) {i : Nat} (hi : RPL i) : tllS f v i = f i := by
  unfold RPL at hi
  have n5 := h.1.n5
  unfold tllS
  by_cases c : (f 5).toInt < 20
  · rw [if_pos c, sp_ne (by omega), sp_ne (by omega)]
  · rw [if_neg c]
theorem off_chk {f : Nat → Int32} {v : Int32} {i : Nat} (hi : RPL i) : upd f 5 v i = f i := by
  unfold RPL at hi; exact sp_ne (by omega)
theorem fdP_of2 {f : Nat → Int32} {w : Int64} {m : Int32} {i : Nat} (h4 : 0 ≤ (f 4).toInt) (h : i < 1131 ∨ 1180 < i) : fdP f w m i = f i := by
  unfold fdP
  by_cases c : 1 ≤ m.toInt ∧ m.toInt ≤ 8 ∧ (f 4).toInt + m.toInt ≤ 50
  · rw [if_pos c]; exact apT_off _ (by omega)
  · rw [if_neg c]
section WRO
variable {ra so sp wa ki mi si sn fo dn po dr de fa ra1 so1 sp1 wa1 ki1 mi1 si1 sn1 fo1 dn1 po1 dr1 de1 fb ra2 so2 sp2 wa2 ki2 mi2 si2 sn2 fo2 dn2 po2 dr2 de2 fc : Nat → Int32} {wn pn w v d wn1 pm w1 v1 d1 wn2 pl w2 v2 d2 i k : Int32} {x y z : Nat → Int32}
def WRO (i : Int32) (ra so sp wa ki mi si sn fo dn po dr de : Nat → Int32) (wn : Int32) (fa : Nat → Int32) (pn w v d : Int32) (x : Nat → Int32) : Prop := i.toInt = 0 ∨ WR ra so sp wa ki mi si sn fo dn po dr de wn fa pn w v d x
theorem WR.rest (h : WR ra so sp wa ki mi si sn fo dn po dr de wn fa pn w v d x) (h1 : WRO i ra1 so1 sp1 wa1 ki1 mi1 si1 sn1 fo1 dn1 po1 dr1 de1 wn1 fb pm w1 v1 d1 y) (hk : i = k) (a0 : ra2 = ifF i ra ra1) (a1 : so2 = ifF i so so1) (a2 : sp2 = ifF i sp sp1) (a3 : wa2 = ifF i wa wa1) (b0 : ki2 = ifF i ki ki1) (b1 : mi2 = ifF i mi mi1) (b2 : si2 = ifF i si si1) (b3 : sn2 = ifF i sn sn1) (b4 : fo2 = ifF i fo fo1) (b5 : dn2 = ifF i dn dn1) (b6 : po2 = ifF i po po1) (b7 : dr2 = ifF i dr dr1) (b8 : de2 = ifF i de de1) (b9 : wn2 = ifI i wn wn1) (c0 : fc = ifF i fa fb) (c1 : pl = ifI i pn pm) (d0 : w2 = ifI i w w1) (e0 : v2 = ifI i v v1) (f0 : d2 = ifI i d d1) (t : z = ifF k x y) : WR ra2 so2 sp2 wa2 ki2 mi2 si2 sn2 fo2 dn2 po2 dr2 de2 wn2 fc pl w2 v2 d2 z := by
  unfold ifF at a0 a1 a2 a3 b0 b1 b2 b3 b4 b5 b6 b7 b8 c0 t
  unfold ifI at b9 c1 d0 e0 f0
  rw [← hk] at t
  by_cases c : i.toInt = 0
  · rw [if_pos c] at a0 a1 a2 a3 b0 b1 b2 b3 b4 b5 b6 b7 b8 b9 c0 c1 d0 e0 f0 t
    exact h.cp a0 a1 a2 a3 b0 b1 b2 b3 b4 b5 b6 b7 b8 b9 c0 c1 d0 e0 f0 t
  · rw [if_neg c] at a0 a1 a2 a3 b0 b1 b2 b3 b4 b5 b6 b7 b8 b9 c0 c1 d0 e0 f0 t
    exact (Or.resolve_left h1 c).cp a0 a1 a2 a3 b0 b1 b2 b3 b4 b5 b6 b7 b8 b9 c0 c1 d0 e0 f0 t
theorem restR_w (h : WRO i ra so sp wa ki mi si sn fo dn po dr de wn fa pn w v d x) (hk : i = k) : restR i d = restR k (x 0) := by
  unfold restR
  rw [← hk]
  by_cases c : i.toInt = 0
  · rw [if_pos c, if_pos c]
  · rw [if_neg c, if_neg c]; exact (Or.resolve_left h c).dd
theorem WR.feed (h : WR ra so sp wa ki mi si sn fo dn po dr de wn fa pn w v d x) {u : Int64} {m : Int32} (h4 : 0 ≤ (x 4).toInt) (e : ∀ j : Nat, j ≠ 4 → y j = fdP x u m j) : WR ra so sp wa ki mi si sn fo dn po dr de wn fa pn w v d y :=
  h.at (fun j _ j4 hj => by rw [e j j4]; exact fdP_of2 h4 (by omega))
theorem WR.rate (h : WR ra so sp wa ki mi si sn fo dn po dr de wn fa pn w v d x) {u t : Int32} (e : RTX x y u t) (h3 : (x 3).toInt ≤ 11 ∨ (y 3).toInt = (x 3).toInt) (h0 : 0 ≤ (x 3).toInt) : WR ra so sp wa ki mi si sn fo dn po dr de wn fa pn w v d y :=
  h.at (fun j j3 j4 hj => e.1 j j3 j4 (by omega))
theorem WR.price_d (h : WR ra so sp wa ki mi si sn fo dn po dr de wn fa pn w v d x) : d = x 0 := h.dd
end WRO
theorem k_rt {a b c : Int32} (h : c.toInt ≤ 12) (e : c.toInt = a.toInt ∨ c.toInt = a.toInt + 1) : a.toInt ≤ 11 ∨ c.toInt = a.toInt := by omega
theorem RTR.lt {g : Int → Int32} {n k u d r n1 k1 : Int32} (h : RTR g n k u d r n1 k1) : k.toInt ≤ 11 ∨ k1.toInt = k.toInt := by
  rcases h with ⟨_, _, _, z⟩ | ⟨_, _, _, _, z⟩ | ⟨_, z, _⟩
  · exact Or.inr z
  · exact Or.inr z
  · exact Or.inl (by omega)
