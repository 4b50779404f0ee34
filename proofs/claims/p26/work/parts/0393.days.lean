/-! a World of the calls' side against the reference's row -/
def OFW (y x : Nat → Int32) : Prop := ∀ i : Nat, i ≠ 1 → (i < 99 ∨ 458 < i) → y i = x i
def OFP (y x : Nat → Int32) : Prop := ∀ i : Nat, i ≠ 2 → (i < 459 ∨ 494 < i) → y i = x i
def dnS (f : Nat → Int32) (w : Int32) : Nat → Int32 := if (wW f w 4).toInt = 0 then upd f (99 + 6 * w.toInt.toNat + 4) 1 else f
theorem dnS_y {f : Nat → Int32} {w : Int32} (h : (wW f w 4).toInt = 0) : dnS f w = upd f (99 + 6 * w.toInt.toNat + 4) 1 := by
  unfold dnS; rw [if_pos h]
theorem dnS_n {f : Nat → Int32} {w : Int32} (h : (wW f w 4).toInt ≠ 0) : dnS f w = f := by
  unfold dnS; rw [if_neg h]
theorem OFW.up {f : Nat → Int32} {i : Nat} {v : Int32} (h : i = 1 ∨ (99 ≤ i ∧ i ≤ 458)) : OFW (upd f i v) f := fun j h1 h2 => sp_ne (by omega)
theorem OFP.up {f : Nat → Int32} {i : Nat} {v : Int32} (h : i = 2 ∨ (459 ≤ i ∧ i ≤ 494)) : OFP (upd f i v) f := fun j h1 h2 => sp_ne (by omega)
theorem OFW.com {f : Nat → Int32} {k m z t : Int32} (hn : (f 1).toInt.toNat < 60) : OFW (comS f k m z t) f := fun _ h1 h2 => comS_off hn ⟨h1, h2⟩
theorem OFW.dn {f : Nat → Int32} {w : Int32} (h0 : 0 ≤ w.toInt) (h1 : w.toInt ≤ 59) : OFW (dnS f w) f := by
  unfold dnS
  by_cases c : (wW f w 4).toInt = 0
  · rw [if_pos c]; exact OFW.up (by omega)
  · rw [if_neg c]; exact fun _ _ _ => rfl
theorem OFW.eat {f : Nat → Int32} {m : Int} {want : Int32} {n : Nat} (h : n ≤ 60) : OFW (eaT f m want n).2 f := fun _ _ h2 => eaT_off f m want n h h2
section WRS
variable {ra so sp wa ki mi si sn fo dn po dr de fa ki1 mi1 si1 sn1 fo1 dn1 po1 dr1 de1 fb r1 s1 p1 : Nat → Int32} {wn pn w v d wn1 pm w1 v1 d1 : Int32} {x y : Nat → Int32}
theorem WR.kw (h : WR ra so sp wa ki mi si sn fo dn po dr de wn fa pn w v d x) : WKR ki mi si sn fo dn po dr de wn x := h.2.2.1
theorem WR.kp (h : WR ra so sp wa ki mi si sn fo dn po dr de wn fa pn w v d x) : PTR fa pn x := h.2.2.2
theorem WR.dd (h : WR ra so sp wa ki mi si sn fo dn po dr de wn fa pn w v d x) : d = x 0 := h.1.d
theorem WR.ww (h : WR ra so sp wa ki mi si sn fo dn po dr de wn fa pn w v d x) : w = x 5 := h.1.w
theorem WR.vv (h : WR ra so sp wa ki mi si sn fo dn po dr de wn fa pn w v d x) : v = x 6 := h.1.v
theorem WR.qso (h : WR ra so sp wa ki mi si sn fo dn po dr de wn fa pn w v d x) {m : Int32} (h0 : 0 ≤ m.toInt) (h1 : m.toInt ≤ 39) : so m.toNatClampNeg = x (19 + m.toInt.toNat) := by
  have z := h.1.2.1 m.toInt.toNat (by omega)
  rw [Nat.zero_add] at z
  rw [k_clamp]; exact z
theorem WR.qsp (h : WR ra so sp wa ki mi si sn fo dn po dr de wn fa pn w v d x) {m : Int32} (h0 : 0 ≤ m.toInt) (h1 : m.toInt ≤ 39) : sp m.toNatClampNeg = x (59 + m.toInt.toNat) := by
  have z := h.1.2.2.1 m.toInt.toNat (by omega)
  rw [Nat.zero_add] at z
  rw [k_clamp]; exact z
theorem WR.rn (h : WR ra so sp wa ki mi si sn fo dn po dr de wn fa pn w v d x) {m : Int32} (h0 : 0 ≤ m.toInt) (h1 : m.toInt ≤ 11) : ra m.toNatClampNeg = x (7 + m.toInt.toNat) := by
  have z := h.1.1 m.toInt.toNat (by omega)
  rw [Nat.zero_add] at z
  rw [k_clamp]; exact z
theorem WR.wt (h : WR ra so sp wa ki mi si sn fo dn po dr de wn fa pn w v d x) {m : Int32} (h0 : 0 ≤ m.toInt) (h1 : m.toInt ≤ 19) : wa m.toNatClampNeg = x (1181 + m.toInt.toNat) := by
  rw [k_clamp]; exact h.2.1 m.toInt.toNat (by omega)
theorem WR.ofW (h : WR ra so sp wa ki mi si sn fo dn po dr de wn fa pn w v d x) (hk : WKR ki1 mi1 si1 sn1 fo1 dn1 po1 dr1 de1 wn1 y) (o : OFW y x) : WR ra so sp wa ki1 mi1 si1 sn1 fo1 dn1 po1 dr1 de1 wn1 fa pn w v d y :=
  ⟨h.1.at (fun i hi => o i (by omega) (by omega)), h.2.1.at (fun i _ _ => o i (by omega) (by omega)), hk, h.2.2.2.at (fun i hi => o i (by omega) (by omega))⟩
theorem WR.ofP (h : WR ra so sp wa ki mi si sn fo dn po dr de wn fa pn w v d x) (hp : PTR fb pm y) (o : OFP y x) : WR ra so sp wa ki mi si sn fo dn po dr de wn fb pm w v d y := by
  obtain ⟨⟨h1, h2, h3, h4, h5, h6, h7⟩, ht, hk, _⟩ := h
  exact ⟨⟨h1.at (fun j a b => o j (by omega) (by omega)), h2.at (fun j a b => o j (by omega) (by omega)), h3.at (fun j a b => o j (by omega) (by omega)), h4.trans (o 5 (by omega) (by omega)).symm, h5.trans (o 6 (by omega) (by omega)).symm, h6.trans (o 0 (by omega) (by omega)).symm, hp.1⟩, ht.at (fun i _ _ => o i (by omega) (by omega)), hk.at (fun i hi => o i (by omega) (by omega)), hp⟩
def OFR (y x : Nat → Int32) : Prop := ∀ i : Nat, (i = 1 ∨ i = 2 ∨ (99 ≤ i ∧ i ≤ 494) ∨ 1181 ≤ i) → y i = x i
theorem WR.ofR (h : WR ra so sp wa ki mi si sn fo dn po dr de wn fa pn w v d x) (hr : REL r1 s1 p1 w1 v1 d1 pn y) (o : OFR y x) : WR r1 s1 p1 wa ki mi si sn fo dn po dr de wn fa pn w1 v1 d1 y :=
  ⟨hr, h.2.1.at (fun i _ _ => o i (by omega)), h.2.2.1.at (fun i hi => o i (by omega)), h.2.2.2.at (fun i hi => o i (by omega))⟩
theorem OFR.up {f : Nat → Int32} {i : Nat} {v : Int32} (h : i = 0 ∨ (3 ≤ i ∧ i ≤ 98) ∨ (495 ≤ i ∧ i ≤ 1180)) : OFR (upd f i v) f := fun j hj => sp_ne (by omega)
theorem WR.gt (h : WR ra so sp wa ki mi si sn fo dn po dr de wn fa pn w v d x) (e : y = x) : WR ra so sp wa ki mi si sn fo dn po dr de wn fa pn w v d y := by rw [e]; exact h
theorem WKR.gt (h : WKR ki mi si sn fo dn po dr de wn x) (e : y = x) : WKR ki mi si sn fo dn po dr de wn y := by rw [e]; exact h
theorem PTR.gt (h : PTR fa pn x) (e : y = x) : PTR fa pn y := by rw [e]; exact h
theorem WR.at (h : WR ra so sp wa ki mi si sn fo dn po dr de wn fa pn w v d x) (o : ∀ i : Nat, i ≠ 3 → i ≠ 4 → (i < 495 ∨ 1180 < i) → y i = x i) : WR ra so sp wa ki mi si sn fo dn po dr de wn fa pn w v d y :=
  ⟨h.1.at (fun i hi => o i (by omega) (by omega) (by omega)), h.2.1.at (fun i _ _ => o i (by omega) (by omega) (by omega)), h.2.2.1.at (fun i hi => o i (by omega) (by omega) (by omega)), h.2.2.2.at (fun i hi => o i (by omega) (by omega) (by omega))⟩
theorem WR.day (h : WR ra so sp wa ki mi si sn fo dn po dr de wn fa pn w v d x) (e : d1 = d + 1) : WR ra so sp wa ki mi si sn fo dn po dr de wn fa pn w v d1 (upd x 0 (x 0 + 1)) := by
  refine h.ofR ?_ (OFR.up (by omega))
  obtain ⟨h1, h2, h3, h4, h5, h6, h7⟩ := h.1
  have o : ∀ i : Nat, i ≠ 0 → upd x 0 (x 0 + 1) i = x i := fun i hi => sp_ne hi
  exact ⟨h1.at (fun j a b => o j (by omega)), h2.at (fun j a b => o j (by omega)), h3.at (fun j a b => o j (by omega)), h4.trans (o 5 (by omega)).symm, h5.trans (o 6 (by omega)).symm, by rw [sp_at, e, h6], h7.trans (o 2 (by omega)).symm⟩
theorem WR.rain {a b : Int32} (h : WR ra so sp wa ki mi si sn fo dn po dr de wn fa pn w v d x) (e : r1 = rainS 0 ra a b) : WR r1 so sp wa ki mi si sn fo dn po dr de wn fa pn w v d (rainS 7 x a b) :=
  h.ofR (h.1.rain e rfl) (fun i hi => rainS_off a b (by omega))
theorem WR.land {a b c : Int32} (h : WR ra so sp wa ki mi si sn fo dn po dr de wn fa pn w v d x) (e : s1 = landS 0 so a b c b) (e1 : p1 = landS 0 sp a b c c) : WR ra s1 p1 wa ki mi si sn fo dn po dr de wn fa pn w v d (landS 59 (landS 19 x a b c b) a b c c) :=
  h.ofR (h.1.land e e1 rfl) (fun i hi => by rw [landS_off a b c c (by omega), landS_off a b c b (by omega)])
theorem WR.soil {b l m f g i : Nat → Int32} {a c : Int32} (h : WR ra so sp wa ki mi si sn fo dn po dr de wn fa pn w v d x) (q : SRL b l m f g i) (e : s1 = soilS 0 so b l m a c) : WR ra s1 sp wa ki mi si sn fo dn po dr de wn fa pn w v d (soilS 19 x f g i a c) :=
  h.ofR (h.1.soil q e rfl) (fun j hj => soilS_off a c (fun k hk => by rw [← q.2.1 k hk]; exact q.2.2.2.2 k hk) (by omega))
theorem WR.v6 (h : WR ra so sp wa ki mi si sn fo dn po dr de wn fa pn w v d x) : WR ra so sp wa ki mi si sn fo dn po dr de wn fa pn w v1 d (upd x 6 v1) := by
  refine h.ofR ?_ (OFR.up (by omega))
  obtain ⟨h1, h2, h3, h4, h5, h6, h7⟩ := h.1
  have o : ∀ i : Nat, i ≠ 6 → upd x 6 v1 i = x i := fun i hi => sp_ne hi
  exact ⟨h1.at (fun j a b => o j (by omega)), h2.at (fun j a b => o j (by omega)), h3.at (fun j a b => o j (by omega)), h4.trans (o 5 (by omega)).symm, sp_at.symm, h6.trans (o 0 (by omega)).symm, h7.trans (o 2 (by omega)).symm⟩
theorem WR.w5 (h : WR ra so sp wa ki mi si sn fo dn po dr de wn fa pn w v d x) : WR ra so sp wa ki mi si sn fo dn po dr de wn fa pn w1 v d (upd x 5 w1) := by
  refine h.ofR ?_ (OFR.up (by omega))
  obtain ⟨h1, h2, h3, h4, h5, h6, h7⟩ := h.1
  have o : ∀ i : Nat, i ≠ 5 → upd x 5 w1 i = x i := fun i hi => sp_ne hi
  exact ⟨h1.at (fun j a b => o j (by omega)), h2.at (fun j a b => o j (by omega)), h3.at (fun j a b => o j (by omega)), sp_at.symm, h5.trans (o 6 (by omega)).symm, h6.trans (o 0 (by omega)).symm, h7.trans (o 2 (by omega)).symm⟩
theorem WR.wait {wb : Nat → Int32} {i z : Int32} (h : WR ra so sp wa ki mi si sn fo dn po dr de wn fa pn w v d x) (h0 : 0 ≤ i.toInt) (h1 : i.toInt ≤ 19) (e : wb = upd wa i.toNatClampNeg z) : WR ra so sp wb ki mi si sn fo dn po dr de wn fa pn w v d (upd x (1181 + i.toInt.toNat) z) := by
  have o : ∀ j : Nat, j < 1181 → upd x (1181 + i.toInt.toNat) z j = x j := fun j hj => sp_ne (by omega)
  refine ⟨h.1.at (fun j hj => o j (by omega)), fun j hj => ?_, h.2.2.1.at (fun j hj => o j (by omega)), h.2.2.2.at (fun j hj => o j (by omega))⟩
  rw [e, k_clamp]
  by_cases q : j = i.toInt.toNat
  · rw [q, sp_at, sp_at]
  · rw [sp_ne q, sp_ne (by omega)]; exact h.2.1 j hj
theorem WR.cp {ra1 so1 sp1 wa1 : Nat → Int32} (h : WR ra so sp wa ki mi si sn fo dn po dr de wn fa pn w v d x) (a0 : ra1 = ra) (a1 : so1 = so) (a2 : sp1 = sp) (a3 : wa1 = wa) (b0 : ki1 = ki) (b1 : mi1 = mi) (b2 : si1 = si) (b3 : sn1 = sn) (b4 : fo1 = fo) (b5 : dn1 = dn) (b6 : po1 = po) (b7 : dr1 = dr) (b8 : de1 = de) (b9 : wn1 = wn) (c0 : fb = fa) (c1 : pm = pn) (d0 : w1 = w) (e0 : v1 = v) (f0 : d1 = d) (t : y = x) : WR ra1 so1 sp1 wa1 ki1 mi1 si1 sn1 fo1 dn1 po1 dr1 de1 wn1 fb pm w1 v1 d1 y := by
  rw [a0, a1, a2, a3, b0, b1, b2, b3, b4, b5, b6, b7, b8, b9, c0, c1, d0, e0, f0, t]; exact h
theorem WKR.wd1 (h : WKR ki mi si sn fo dn po dr de wn x) {m : Int32} (h0 : 0 ≤ m.toInt) (h1 : m.toInt ≤ 39) (hp : 0 < (po m.toNatClampNeg).toInt) : wdF x m.toInt = 1 := by
  rcases h.wd h0 h1 with z | z
  · exact z.2
  · exact absurd z.1 (by omega)
theorem WKR.wd0 (h : WKR ki mi si sn fo dn po dr de wn x) {m : Int32} (h0 : 0 ≤ m.toInt) (h1 : m.toInt ≤ 39) (hp : (po m.toNatClampNeg).toInt ≤ 0) : wdF x m.toInt = 0 := by
  rcases h.wd h0 h1 with z | z
  · exact absurd z.1 (by omega)
  · exact z.2
theorem WKR.none (h : WKR ki mi si sn fo dn po dr de wn x) {m : Int32} (h0 : 0 ≤ m.toInt) (h1 : m.toInt ≤ 39) (hp : (de m.toNatClampNeg).toInt = 0) : ∀ j : Nat, j < (x 1).toInt.toNat → (tD x m.toInt j).toInt = 0 := by
  have hn := h.n0
  have z := h.qde h0 h1
  obtain ⟨_, _, i3, _⟩ := sumN_cnt (g := tD x m.toInt) wn.toInt.toNat (by omega) (fun j _ => tD_01 x m.toInt j)
  rw [← h.qn]
  exact i3 (by rw [← z]; exact hp)
end WRS
theorem up_rd {f g : Nat → Int32} {i w v : Int32} (e : g = upd f i.toNatClampNeg v) (h : w.toInt = i.toInt) : g w.toNatClampNeg = v := by
  rw [e, k_clamp, k_clamp, h, sp_at]
theorem mn2_e {a b v : Int32} (e : v = if b < a then b else a) : v = mn2 a b := by
  rw [e]; unfold mn2
  by_cases c : b < a
  · rw [if_pos c, if_pos (Int32.lt_iff_toInt_lt.mp c)]
  · rw [if_neg c, if_neg (fun z => c (Int32.lt_iff_toInt_lt.mpr z))]
theorem mx2_e {a b v : Int32} (e : v = if a < b then b else a) : v = mx2 a b := by
  rw [e]; unfold mx2
  by_cases c : a < b
  · rw [if_pos c, if_pos (Int32.lt_iff_toInt_lt.mp c)]
  · rw [if_neg c, if_neg (fun z => c (Int32.lt_iff_toInt_lt.mpr z))]
def awN (f : Nat → Int32) (a : Int) : Nat → Bool
  | 0 => true
  | n + 1 => awN f a n && decide (wdF f (a + n) = 1)
theorem awN_0 {f : Nat → Int32} {a m : Int} (h : m = a) : awN f a (m - a).toNat = true := by
  rw [h, show (a - a).toNat = 0 from by omega]; rfl
theorem awN_y {f : Nat → Int32} {a : Int} {m m1 : Int32} (h : awN f a (m.toInt - a).toNat = true) (ha : a ≤ m.toInt) (h1 : m1.toInt = m.toInt + 1) (hw : wdF f m.toInt = 1) : awN f a (m1.toInt - a).toNat = true := by
  rw [show (m1.toInt - a).toNat = (m.toInt - a).toNat + 1 from by omega]
  show (awN f a (m.toInt - a).toNat && decide (wdF f (a + ((m.toInt - a).toNat : Int)) = 1)) = true
  rw [h, show a + ((m.toInt - a).toNat : Int) = m.toInt from by omega, hw] <;> rfl
theorem awN_n {f : Nat → Int32} {a : Int} {m : Int32} (ha : a ≤ m.toInt) (hw : wdF f m.toInt = 0) : ∀ n : Nat, m.toInt < a + n → awN f a n = false := by
  intro n
  induction n with
  | zero => intro h; exact absurd h (by omega)
  | succ n ih =>
    intro h
    show (awN f a n && decide (wdF f (a + (n : Int)) = 1)) = false
    by_cases c : m.toInt < a + n
    · rw [ih c, Bool.false_and]
    · rw [show a + (n : Int) = m.toInt from by omega, hw, decide_eq_false (by decide), Bool.and_false]
def awF (f : Nat → Int32) (a b : Int) : Bool := awN f a (b + 1 - a).toNat
theorem wdF_01 (f : Nat → Int32) (m : Int) : wdF f m = 1 ∨ wdF f m = 0 := (WD_01 (f := f) (m := m) _).symm
def wmN (f : Nat → Int32) : Nat → Int32
  | 0 => 0
  | n + 1 => if wdF f n = 1 then wmN f n + 1 else wmN f n
theorem wmN_y {f : Nat → Int32} {m m1 t t1 : Int32} (h : t = wmN f m.toInt.toNat) (h0 : 0 ≤ m.toInt) (h1 : m1.toInt = m.toInt + 1) (hw : wdF f m.toInt = 1) (e : t1 = t + 1) : t1 = wmN f m1.toInt.toNat := by
  rw [show m1.toInt.toNat = m.toInt.toNat + 1 from by omega]
  show t1 = if wdF f (m.toInt.toNat : Int) = 1 then wmN f m.toInt.toNat + 1 else wmN f m.toInt.toNat
  rw [show (m.toInt.toNat : Int) = m.toInt from by omega, if_pos hw, e, h]
theorem wmN_n {f : Nat → Int32} {m m1 t : Int32} (h : t = wmN f m.toInt.toNat) (h0 : 0 ≤ m.toInt) (h1 : m1.toInt = m.toInt + 1) (hw : wdF f m.toInt = 0) : t = wmN f m1.toInt.toNat := by
  rw [show m1.toInt.toNat = m.toInt.toNat + 1 from by omega]
  show t = if wdF f (m.toInt.toNat : Int) = 1 then wmN f m.toInt.toNat + 1 else wmN f m.toInt.toNat
  rw [show (m.toInt.toNat : Int) = m.toInt from by omega, if_neg (by rw [hw]; decide), h]
/-! what the calls tell and leave -/
def workR (f : Nat → Int32) (k m z : Int32) : Int32 := if 0 ≤ k.toInt ∧ k.toInt ≤ 5 ∧ 0 ≤ m.toInt ∧ m.toInt ≤ 39 ∧ 1 ≤ z.toInt ∧ z.toInt ≤ 50 then (if (f 1).toInt < 60 then f 1 else (-1000004)) else (-1000001)
def workS (f : Nat → Int32) (k m z : Int32) : Nat → Int32 := if 0 ≤ k.toInt ∧ k.toInt ≤ 5 ∧ 0 ≤ m.toInt ∧ m.toInt ≤ 39 ∧ 1 ≤ z.toInt ∧ z.toInt ≤ 50 ∧ (f 1).toInt < 60 then comS f k m z (f 0) else f
def asR (f : Nat → Int32) (w k : Int32) : Int32 := if 0 ≤ w.toInt ∧ w.toInt < (f 1).toInt ∧ 0 ≤ k.toInt ∧ k.toInt ≤ 5 then (if mU (wW f w 0).toInt k.toInt = 1 then wW f w 2 else (-1000005)) else (-1000001)
def fellR (f : Nat → Int32) (w : Int32) : Int32 := if 0 ≤ w.toInt ∧ w.toInt < (f 1).toInt then (if (wW f w 4).toInt = 0 then 1 else (-1000003)) else (-1000001)
def fellS (f : Nat → Int32) (w : Int32) : Nat → Int32 := if 0 ≤ w.toInt ∧ w.toInt < (f 1).toInt ∧ (wW f w 4).toInt = 0 then upd f (99 + 6 * w.toInt.toNat + 4) 1 else f
def layR (f : Nat → Int32) (w n : Int32) : Int32 := if 0 ≤ w.toInt ∧ w.toInt < (f 1).toInt ∧ 1 ≤ n.toInt ∧ n.toInt ≤ 9999 then (if (wW f w 0).toInt = 5 then (if (wW f w 4).toInt = 0 then (if (wW f w 5).toInt + n.toInt ≤ 9999 then wW f w 5 + n else (-1000004)) else (-1000003)) else (-1000005)) else (-1000001)
def layS (f : Nat → Int32) (w n : Int32) : Nat → Int32 := if 0 ≤ w.toInt ∧ w.toInt < (f 1).toInt ∧ 1 ≤ n.toInt ∧ n.toInt ≤ 9999 ∧ (wW f w 0).toInt = 5 ∧ (wW f w 4).toInt = 0 ∧ (wW f w 5).toInt + n.toInt ≤ 9999 then upd f (99 + 6 * w.toInt.toNat + 5) (wW f w 5 + n) else f
def mileR (f : Nat → Int32) (m k : Int32) : Int32 := if 0 ≤ m.toInt ∧ m.toInt ≤ 39 then (if k.toInt = 0 then f (19 + m.toInt.toNat) else if k.toInt = 1 then f (59 + m.toInt.toNat) else if k.toInt = 2 then wdF f m.toInt else if k.toInt = 3 then lkF f m.toInt else if k.toInt = 4 then efN f m.toInt (rnF f) else if k.toInt = 5 then wlF f m.toInt else (-1000001)) else (-1000001)
def pzN (f : Nat → Int32) (p : Nat) : Nat → (Nat → Int32)
  | 0 => f
  | n + 1 => upd (pzN f p n) (459 + 9 * p + n) 0
def padS (f : Nat → Int32) : Nat → Int32 := upd (pzN f (f 2).toInt.toNat 9) 2 (f 2 + 1)
def ptyS (f : Nat → Int32) (m w e b q : Int32) : Nat → Int32 := upd (upd (upd (upd (upd (padS f) (459 + 9 * (f 2).toInt.toNat + 0) m) (459 + 9 * (f 2).toInt.toNat + 1) w) (459 + 9 * (f 2).toInt.toNat + 2) e) (459 + 9 * (f 2).toInt.toNat + 3) b) (459 + 9 * (f 2).toInt.toNat + 4) q
def partyS (f : Nat → Int32) (a w e q : Int32) : Nat → Int32 := if 0 ≤ a.toInt ∧ a.toInt ≤ 39 ∧ (w.toInt = 1 ∨ w.toInt = -1) ∧ 0 ≤ q.toInt ∧ q.toInt ≤ 99 ∧ 100 ≤ e.toInt ∧ e.toInt / 100 ≤ 50 ∧ e.toInt % 100 ≤ 50 ∧ (f 2).toInt < 4 then ptyS f a w (e / 100) (e - e / 100 * 100) q else f
def ptIR (f : Nat → Int32) (p k : Int32) : Int32 := if 0 ≤ p.toInt ∧ p.toInt < (f 2).toInt ∧ 0 ≤ k.toInt ∧ k.toInt ≤ 8 then f (459 + 9 * p.toInt.toNat + k.toInt.toNat) else (-1000001)
def gvR (f : Nat → Int32) (p n : Int32) (j : Nat) (most : Int) : Int32 := if 1 ≤ n.toInt ∧ n.toInt ≤ most then (if (pW f p 8).toInt = 2 then (-1000003) else if most < (pW f p j + n).toInt then (-1000004) else pW f p j + n) else (-1000001)
def giveR (f : Nat → Int32) (p k n : Int32) : Int32 := if 0 ≤ p.toInt ∧ p.toInt < (f 2).toInt ∧ 0 ≤ k.toInt ∧ k.toInt ≤ 2 then (if k.toInt = 2 then gvR f p n 4 99 else if k.toInt = 0 then gvR f p n 5 9999 else gvR f p n 6 9999) else (-1000001)
def gvS (f : Nat → Int32) (p n : Int32) (j : Nat) (most : Int) : Nat → Int32 := if 1 ≤ n.toInt ∧ n.toInt ≤ most ∧ (pW f p 8).toInt ≠ 2 ∧ (pW f p j + n).toInt ≤ most then upd f (459 + 9 * p.toInt.toNat + j) (pW f p j + n) else f
def giveS (f : Nat → Int32) (p k n : Int32) : Nat → Int32 := if 0 ≤ p.toInt ∧ p.toInt < (f 2).toInt ∧ 0 ≤ k.toInt ∧ k.toInt ≤ 2 then (if k.toInt = 2 then gvS f p n 4 99 else if k.toInt = 0 then gvS f p n 5 9999 else gvS f p n 6 9999) else f
def rstPR (f : Nat → Int32) (p b : Int32) : Int32 := if 0 ≤ p.toInt ∧ p.toInt < (f 2).toInt then (if (pW f p 8).toInt = 2 then (-1000003) else if b.toInt = 0 then (if (pW f p 8).toInt = 0 then 0 else 1) else (if (pW f p 8).toInt = 1 then 0 else 1)) else (-1000001)
def rstPS (f : Nat → Int32) (p b : Int32) : Nat → Int32 := if 0 ≤ p.toInt ∧ p.toInt < (f 2).toInt ∧ (pW f p 8).toInt ≠ 2 then upd f (459 + 9 * p.toInt.toNat + 8) (if b.toInt = 0 then 0 else 1) else f
def turnR (f : Nat → Int32) (p : Int32) : Int32 := if 0 ≤ p.toInt ∧ p.toInt < (f 2).toInt then (if (pW f p 8).toInt = 2 then (-1000003) else -(pW f p 1)) else (-1000001)
def turnS (f : Nat → Int32) (p : Int32) : Nat → Int32 := if 0 ≤ p.toInt ∧ p.toInt < (f 2).toInt ∧ (pW f p 8).toInt ≠ 2 then upd f (459 + 9 * p.toInt.toNat + 1) (-(pW f p 1)) else f
def handR (f : Nat → Int32) (p q n : Int32) : Int32 := if 0 ≤ p.toInt ∧ p.toInt < (f 2).toInt ∧ 0 ≤ q.toInt ∧ q.toInt < (f 2).toInt ∧ p.toInt ≠ q.toInt ∧ 1 ≤ n.toInt ∧ n.toInt ≤ 50 then (if (pW f p 8).toInt = 2 ∨ (pW f q 8).toInt = 2 ∨ (pW f p 0).toInt ≠ (pW f q 0).toInt ∨ (pW f p 2).toInt < n.toInt + 1 then (-1000003) else if 50 < (pW f q 2).toInt + n.toInt then (-1000004) else pW f q 2 + n) else (-1000001)
def handS (f : Nat → Int32) (p q n : Int32) : Nat → Int32 := if 0 ≤ p.toInt ∧ p.toInt < (f 2).toInt ∧ 0 ≤ q.toInt ∧ q.toInt < (f 2).toInt ∧ p.toInt ≠ q.toInt ∧ 1 ≤ n.toInt ∧ n.toInt ≤ 50 ∧ (pW f p 8).toInt ≠ 2 ∧ (pW f q 8).toInt ≠ 2 ∧ (pW f p 0).toInt = (pW f q 0).toInt ∧ n.toInt + 1 ≤ (pW f p 2).toInt ∧ (pW f q 2).toInt + n.toInt ≤ 50 then upd (upd f (459 + 9 * p.toInt.toNat + 2) (pW f p 2 - n)) (459 + 9 * q.toInt.toNat + 2) (pW f q 2 + n) else f
def rchS (f : Nat → Int32) (v : Int32) : Nat → Int32 := if 1 ≤ v.toInt ∧ v.toInt ≤ 200 then upd f 6 v else f
def dysS (f : Nat → Int32) (n : Int32) : Nat → Int32 := if 1 ≤ n.toInt ∧ n.toInt ≤ 200 ∧ (f 0).toInt + n.toInt ≤ 2000 then daysF f n.toInt.toNat else f
def tllS (f : Nat → Int32) (v : Int32) : Nat → Int32 := if (f 5).toInt < 20 then upd (upd f (1181 + (f 5).toInt.toNat) v) 5 (f 5 + 1) else f
def chkN (f : Nat → Int32) : Nat → Bool
  | 0 => true
  | n + 1 => chkN f n && decide ((f (1181 + n)).toInt = (lkF f n).toInt)
def chkF (f : Nat → Int32) : Nat → Nat → Int32
  | _, 0 => 0
  | k, n + 1 => if (f (1181 + k)).toInt = (lkF f k).toInt then chkF f (k + 1) n else Int32.ofNat (k + 1)
def chkR (f : Nat → Int32) : Int32 := chkF f 0 (f 5).toInt.toNat
def ahdR (f : Nat → Int32) (n k i : Int32) : Int32 := if 0 ≤ n.toInt ∧ n.toInt ≤ 200 ∧ (f 0).toInt + n.toInt ≤ 2000 ∧ 0 ≤ k.toInt ∧ k.toInt ≤ 10 ∧ (9 ≤ k.toInt ∨ (0 ≤ i.toInt ∧ i.toInt < (f 2).toInt)) then (if k.toInt = 9 then wmN (daysF f n.toInt.toNat) 40 else if k.toInt = 10 then daysF f n.toInt.toNat 1 else daysF f n.toInt.toNat (459 + 9 * i.toInt.toNat + k.toInt.toNat)) else (-1000001)
def jnF (f : Nat → Int32) (a b : Int) : Nat → Int32
  | 0 => if awF f a b = true then f 0 else (-1000002)
  | n + 1 => if awF f a b = true then f 0 else jnF (dayS f) a b n
def joinR (f : Nat → Int32) (a b : Int32) : Int32 := if 0 ≤ a.toInt ∧ a.toInt ≤ 39 ∧ 0 ≤ b.toInt ∧ b.toInt ≤ 39 ∧ a.toInt ≤ b.toInt then jnF f a.toInt b.toInt (if 2000 < (f 0).toInt + 200 then 2000 - (f 0).toInt else 200).toNat else (-1000001)
/-! how one day goes, as the calls' side does it -/
theorem lif_in {f : Nat → Int32} {w m s : Int32} (hm : m = wW f w 1) (hs : s = f (19 + m.toInt.toNat)) : lifN f w.toInt.toNat = if s.toInt = 0 then 60 else 120 := by
  subst hs; subst hm; rfl
theorem eatN_sx {f g : Nat → Int32} {q : Int} {n : Nat} (h : SIX f q) (e : g = eatN f n) (hn : n ≤ 60) : SIX g q := by rw [e]; exact eatN_six h n hn
theorem eat_n {f g : Nat → Int32} {w w1 : Int32} (hg : g = eatN f w.toInt.toNat) (h0 : 0 ≤ w.toInt) (h1 : w1.toInt = w.toInt + 1) (c : (wW g w 0).toInt ≠ 1 ∨ (wW g w 4).toInt ≠ 0) : g = eatN f w1.toInt.toNat := by
  refine hg.trans (eatN_no h0 h1 ?_)
  rw [← hg, eo_n c]
  intro z; exact absurd z.1 (by decide)
theorem eat_l {f g : Nat → Int32} {w w1 li : Int32} (hg : g = eatN f w.toInt.toNat) (h0 : 0 ≤ w.toInt) (h1 : w1.toInt = w.toInt + 1) (hb : w.toInt ≤ 59) (sb : SB g) (hk : (wW g w 0).toInt = 1) (hd : (wW g w 4).toInt = 0) (hl : li = lifN g w.toInt.toNat) (c : (g 0).toInt + 1 - (wW g w 3).toInt < li.toInt) : g = eatN f w1.toInt.toNat := by
  refine hg.trans (eatN_no h0 h1 ?_)
  rw [← hg]
  intro z
  have y := (eo_y sb h0 hb hk hd hl).mp z
  omega
theorem eat_y {f g h : Nat → Int32} {w w1 li : Int32} (hg : g = eatN f w.toInt.toNat) (h0 : 0 ≤ w.toInt) (h1 : w1.toInt = w.toInt + 1) (hb : w.toInt ≤ 59) (sb : SB g) (hk : (wW g w 0).toInt = 1) (hd : (wW g w 4).toInt = 0) (hl : li = lifN g w.toInt.toNat) (c : li.toInt ≤ (g 0).toInt + 1 - (wW g w 3).toInt) (e : h = dnS g w) : h = eatN f w1.toInt.toNat := by
  have y := (eo_y sb h0 hb hk hd hl).mpr c
  rw [e, dnS_y hd, hg]
  exact eatN_yes h0 h1 (by rw [← hg]; exact y)
theorem i_sub1 (a : Int32) : a + (-1) = a - 1 := (Int32.sub_eq_add_neg a 1).symm
theorem drk_cl {f : Nat → Int32} {p mi me be ha sp wl va vb vc vd ve vf vg vh vl : Int32} (h0 : mi = pW f p 0) (h2 : me = pW f p 2) (h3 : be = pW f p 3) (h6 : ha = pW f p 6) (hs : sp = f (59 + mi.toInt.toNat)) (hw : wl = wlF f mi.toInt) (a1 : va = ha + sp) (b1 : vb = va + wl) (c1 : vc = me + be) (d1 : vd = 50 * vc) (e1 : ve = if vd < vb then vd else vb) (f1 : vf = if ha < ve then ve else ha) (g1 : vg = vf - me) (i1 : vh = 2 * be) (l1 : vl = vg - vh) : vl = drkV f p.toInt.toNat := by
  have e2 := mn2_e e1
  have f2 : vf = mx2 ha ve := mx2_e f1
  have f3 : vf = mx2 ve ha := by
    rw [f2]; unfold mx2
    by_cases c : ha.toInt < ve.toInt
    · rw [if_pos c, if_neg (by omega)]
    · rw [if_neg c]
      by_cases c2 : ve.toInt < ha.toInt
      · rw [if_pos c2]
      · rw [if_neg c2]; exact k_inj (by omega)
  refine drk_in (f := f) (p := p.toInt.toNat) h0 h2 h3 h6 hs hw a1 b1 c1 d1 e2 f3 ?_
  rw [l1, g1, i1, Int32.sub_sub]
theorem pW_up {f : Nat → Int32} {p v : Int32} {k m : Nat} (h : k ≠ m) (hk : k < 9) (hm : m < 9) : pW (upd f (459 + 9 * p.toInt.toNat + m) v) p k = pW f p k := pN_k (Or.inr h) hk hm
theorem drk_y {f g : Nat → Int32} {p vl v : Int32} (hl : vl = drkV f p.toInt.toNat) (h0 : 0 ≤ vl.toInt) (hv : v.toInt = vl.toInt) (e : g = upd f (459 + 9 * p.toInt.toNat + 6) v) : drkS f p.toInt.toNat = g := by
  unfold drkS
  rw [← hl, if_neg (by omega), e, k_inj hv]
theorem drk_b {f g g1 : Nat → Int32} {p vl v be : Int32} (hl : vl = drkV f p.toInt.toNat) (h0 : vl.toInt < 0) (hv : v.toInt = 0) (e : g1 = upd f (459 + 9 * p.toInt.toNat + 6) v) (hb : be = pW f p 3) (h3 : 0 < be.toInt) (e1 : g = upd g1 (459 + 9 * p.toInt.toNat + 3) (pW g1 p 3 + (-1))) : drkS f p.toInt.toNat = g := by
  have z : 0 < (pN f p.toInt.toNat 3).toInt := by rw [hb] at h3; exact h3
  unfold drkS
  rw [← hl, if_pos h0, if_pos z, e1, e, pW_up (by omega) (by omega) (by omega), i_sub1, show v = 0 from k_inj hv, sp_swap (by omega)]
  rfl
theorem drk_m {f g g1 : Nat → Int32} {p vl v be : Int32} (hl : vl = drkV f p.toInt.toNat) (h0 : vl.toInt < 0) (hv : v.toInt = 0) (e : g1 = upd f (459 + 9 * p.toInt.toNat + 6) v) (hb : be = pW f p 3) (h3 : be.toInt ≤ 0) (e1 : g = upd g1 (459 + 9 * p.toInt.toNat + 2) (pW g1 p 2 + (-1))) : drkS f p.toInt.toNat = g := by
  have z : ¬ 0 < (pN f p.toInt.toNat 3).toInt := by rw [hb] at h3; exact Int.not_lt.mpr h3
  unfold drkS
  rw [← hl, if_pos h0, if_neg z, e1, e, pW_up (by omega) (by omega) (by omega), i_sub1, show v = 0 from k_inj hv, sp_swap (by omega)]
  rfl
/-- eating: what is left, and what stands then -/
theorem eat_w {f : Nat → Int32} {p mi me fo a b : Int32} (h0 : mi = pW f p 0) (h2 : me = pW f p 2) (h5 : fo = pW f p 5) (ha : a = 20 * me) (hb : b = a - fo) : eaT f mi.toInt b (f 1).toInt.toNat = eatF f p.toInt.toNat := by
  subst hb; subst ha; subst h5; subst h2; subst h0; rfl
theorem eat_L {f : Nat → Int32} {p me fo t a b : Int32} (h2 : me = pW f p 2) (h5 : fo = pW f p 5) (ht : t = (eatF f p.toInt.toNat).1) (ha : a = fo + t) (hb : b = a - me) : b = eatL f p.toInt.toNat := by
  subst hb; subst ha; subst ht; subst h5; subst h2; rfl
theorem eat_c0 {f g g1 : Nat → Int32} {p l v : Int32} (hn : (f 1).toInt.toNat ≤ 60) (hp : p.toInt.toNat < 4) (hl : l = eatL f p.toInt.toNat) (h0 : 0 ≤ l.toInt) (hv : v.toInt = l.toInt) (e : g = (eatF f p.toInt.toNat).2) (e1 : g1 = upd g (459 + 9 * p.toInt.toNat + 5) v) : g1 = eatP f p.toInt.toNat := by
  have hm : pN f p.toInt.toNat 2 = (eatF f p.toInt.toNat).2 (459 + 9 * p.toInt.toNat + 2) := (eaT_off _ _ _ _ (i := 459 + 9 * p.toInt.toNat + 2) hn (by omega)).symm
  unfold eatP
  rw [← hl, if_neg (by omega), if_neg (by omega), e1, e, k_inj hv, sp_same hm]
theorem eat_c1 {f g g1 g2 : Nat → Int32} {p l v : Int32} (hn : (f 1).toInt.toNat ≤ 60) (hp : p.toInt.toNat < 4) (hl : l = eatL f p.toInt.toNat) (h0 : l.toInt < 0) (hv : v.toInt = 0) (e : g = (eatF f p.toInt.toNat).2) (e1 : g1 = upd g (459 + 9 * p.toInt.toNat + 5) v) (e2 : g2 = upd g1 (459 + 9 * p.toInt.toNat + 2) (pW g1 p 2 + (-1))) : g2 = eatP f p.toInt.toNat := by
  have hm : pW (eatF f p.toInt.toNat).2 p 2 = pN f p.toInt.toNat 2 := eaT_off _ _ _ _ hn (by omega)
  unfold eatP
  rw [← hl, if_pos h0, if_pos h0, e2, e1, e, pW_up (by omega) (by omega) (by omega), hm, i_sub1, show v = 0 from k_inj hv, sp_swap (by omega)]
theorem stt_y {f g h : Nat → Int32} {p m : Int32} (e : g = f) (hm : m = pW g p 2) (h0 : m.toInt ≤ 0) (hs : 0 ≤ (pN f p.toInt.toNat 2).toInt) (e1 : h = upd g (459 + 9 * p.toInt.toNat + 8) 2) : sttS f p.toInt.toNat = h := by
  have y : (pN f p.toInt.toNat 2).toInt ≤ 0 := by rw [hm, e] at h0; exact h0
  have z : (pN f p.toInt.toNat 2).toInt = 0 := by omega
  unfold sttS
  rw [if_pos z, e1, e]
theorem stt_n {f g : Nat → Int32} {p m : Int32} (e : g = f) (hm : m = pW g p 2) (h0 : m.toInt ≠ 0) : sttS f p.toInt.toNat = g := by
  have z : ¬ (pN f p.toInt.toNat 2).toInt = 0 := by rw [hm, e] at h0; exact h0
  unfold sttS
  rw [if_neg z, e]; exact sp_same rfl
theorem eat_pos {f : Nat → Int32} {p : Int32} (h : SIX f p.toInt) (h0 : 0 ≤ p.toInt) (h1 : p.toInt ≤ 3) : 0 ≤ (pN (eatP f p.toInt.toNat) p.toInt.toNat 2).toInt := by
  have z : SIX f ((p.toInt.toNat : Nat) : Int) := by rw [show ((p.toInt.toNat : Nat) : Int) = p.toInt from by omega]; exact h
  exact ((eat_six z (by omega)).1.pn (by omega)).2.1.1
theorem ef_in {f : Nat → Int32} {m s r v : Int32} (hs : s = f (19 + m.toInt.toNat)) (hr : r = rnF f) (hv : (s.toInt = 1 ∧ v = 40) ∨ (s.toInt = 2 ∧ v = 20 + 10 * r) ∨ (s.toInt ≠ 1 ∧ s.toInt ≠ 2 ∧ v = 10)) (sb : 0 ≤ s.toInt ∧ s.toInt ≤ 2) : v = efN f m.toInt (rnF f) := by
  unfold efN
  rw [← hs, ← hr]
  rcases hv with ⟨c, e⟩ | ⟨c, e⟩ | ⟨c, c1, e⟩
  · rw [if_neg (by omega), if_pos c, e]
  · rw [if_neg (by omega), if_neg (by omega), e]
  · rw [if_pos (by omega), e]
/-- labour, by what it comes to -/
def digF (f : Nat → Int32) (p : Nat) : Nat → Int32 := if (efN (wrkD f p) (pN f p 0).toInt (rnF (wrkD f p))).toInt ≤ (pN f p 7 + pN f p 2).toInt ∧ 0 < (pN f p 4).toInt ∧ (f 1).toInt < 60 then wrkE (wrkC (wrkD f p) p) p else wrkD f p
def goF (f : Nat → Int32) (p : Nat) (m : Int32) : Nat → Int32 := if 0 ≤ m.toInt ∧ m.toInt ≤ 39 then upd (upd f (459 + 9 * p + 7) 0) (459 + 9 * p + 0) m else upd (upd f (459 + 9 * p + 7) 0) (459 + 9 * p + 8) 1
theorem goF_y {f g g1 : Nat → Int32} {p m : Int32} (e : g = upd f (459 + 9 * p.toInt.toNat + 7) 0) (e1 : g1 = upd g (459 + 9 * p.toInt.toNat + 0) m) (h0 : 0 ≤ m.toInt) (h1 : m.toInt ≤ 39) : goF f p.toInt.toNat m = g1 := by
  unfold goF; rw [if_pos ⟨h0, h1⟩, e1, e]
theorem goF_n {f g g1 : Nat → Int32} {p m : Int32} (e : g = upd f (459 + 9 * p.toInt.toNat + 7) 0) (e1 : g1 = upd g (459 + 9 * p.toInt.toNat + 8) 1) (h : m.toInt < 0 ∨ 39 < m.toInt) : goF f p.toInt.toNat m = g1 := by
  unfold goF; rw [if_neg (by omega), e1, e]
theorem wrkD_in {f g : Nat → Int32} {p me : Int32} (h2 : me = pW f p 2) (e : g = upd f (459 + 9 * p.toInt.toNat + 7) (pW f p 7 + me)) : g = wrkD f p.toInt.toNat := by
  rw [e, h2]; rfl
theorem dig_n {f g : Nat → Int32} {p m du ef po n : Int32} (hm : m = pW f p 0) (e : g = wrkD f p.toInt.toNat) (hd : du = pW g p 7) (he : ef = efN g m.toInt (rnF g)) (hp : po = pW g p 4) (hn : n = g 1) (c : du.toInt < ef.toInt ∨ po.toInt ≤ 0 ∨ 60 ≤ n.toInt) : digF f p.toInt.toNat = g := by
  have d7 : pW g p 7 = pN f p.toInt.toNat 7 + pN f p.toInt.toNat 2 := by rw [e]; exact pN_e
  have d4 : pW g p 4 = pN f p.toInt.toNat 4 := by rw [e]; exact pN_k (by omega) (by omega) (by omega)
  have d1 : g 1 = f 1 := by rw [e]; exact sp_ne (by omega)
  unfold digF
  rw [if_neg, e]
  rw [← e, ← d7, ← d4, ← d1, show (pN f p.toInt.toNat 0) = m from hm.symm, ← hd, ← he, ← hp, ← hn]
  omega
theorem dig_y {f g g1 g2 g3 : Nat → Int32} {p m du ef po n t : Int32} (hm : m = pW f p 0) (e : g = wrkD f p.toInt.toNat) (hd : du = pW g p 7) (he : ef = efN g m.toInt (rnF g)) (hp : po = pW g p 4) (hn : n = g 1) (c : ef.toInt ≤ du.toInt ∧ 0 < po.toInt ∧ n.toInt < 60) (ht : t = g 0 + 1) (e1 : g1 = comS g 1 m 1 t) (e2 : g2 = upd g1 (459 + 9 * p.toInt.toNat + 4) (pW g1 p 4 + (-1))) (e3 : g3 = upd g2 (459 + 9 * p.toInt.toNat + 7) 0) : digF f p.toInt.toNat = g3 := by
  have d7 : pW g p 7 = pN f p.toInt.toNat 7 + pN f p.toInt.toNat 2 := by rw [e]; exact pN_e
  have d4 : pW g p 4 = pN f p.toInt.toNat 4 := by rw [e]; exact pN_k (by omega) (by omega) (by omega)
  have d0 : pN g p.toInt.toNat 0 = pN f p.toInt.toNat 0 := by rw [e]; exact pN_k (by omega) (by omega) (by omega)
  have d1 : g 1 = f 1 := by rw [e]; exact sp_ne (by omega)
  unfold digF
  rw [if_pos]
  · unfold wrkE wrkC
    rw [← e, d0, show (pN f p.toInt.toNat 0) = m from hm.symm, ← ht, ← e1, e3, e2, i_sub1]; rfl
  · rw [← e, ← d7, ← d4, ← d1, show (pN f p.toInt.toNat 0) = m from hm.symm, ← hd, ← he, ← hp, ← hn]
    exact c
theorem wrk_dig {f : Nat → Int32} {p m : Int32} (hm : m = pW f p 0) (h : wdF f m.toInt = 0) : wrkS f p.toInt.toNat = digF f p.toInt.toNat := by
  have z : (wdF f (pN f p.toInt.toNat 0).toInt).toInt = 0 := by rw [show (pN f p.toInt.toNat 0) = m from hm.symm, h]; decide
  unfold wrkS
  rw [if_pos z]; rfl
theorem wrk_go {f : Nat → Int32} {p m w t : Int32} (hm : m = pW f p 0) (h : wdF f m.toInt = 1) (hw : w = pW f p 1) (ht : t = m + w) (h8 : (pW f p 8).toInt = 0) : wrkS f p.toInt.toNat = goF f p.toInt.toNat t := by
  have z : ¬ (wdF f (pN f p.toInt.toNat 0).toInt).toInt = 0 := by rw [show (pN f p.toInt.toNat 0) = m from hm.symm, h]; decide
  have z8 : pN f p.toInt.toNat 8 = 0 := k_inj (by rw [show (pN f p.toInt.toNat 8) = pW f p 8 from rfl, h8]; decide)
  unfold wrkS goF
  rw [if_neg z, show pN f p.toInt.toNat 0 + pN f p.toInt.toNat 1 = t from by rw [ht, hm, hw]; rfl]
  by_cases c : 0 ≤ t.toInt ∧ t.toInt ≤ 39
  · rw [if_pos c, if_pos c]
    refine sp_same ?_
    rw [sp_ne (by omega), sp_ne (by omega)]; exact z8.symm
  · rw [if_neg c, if_neg c]
    refine congrArg (fun g => upd g (459 + 9 * p.toInt.toNat + 8) 1) (sp_same ?_)
    rw [sp_ne (by omega)]; rfl
theorem dyA_six {f : Nat → Int32} (h : SIX f (-1)) : ∀ n : Nat, n ≤ 4 → (n : Int) ≤ (f 2).toInt → SIX (dyA f n) (-1) ∧ (∀ i : Nat, (i < 99 ∨ 494 < i) → dyA f n i = f i) := by
  intro n
  induction n with
  | zero => intro _ _; exact ⟨h, fun _ _ => rfl⟩
  | succ n ih =>
    intro hn h2
    obtain ⟨i1, i2⟩ := ih (by omega) (by omega)
    have t : (Int32.ofNat n).toInt = (n : Int) := nI_toInt (by omega)
    have e2 : dyA f n 2 = f 2 := i2 2 (by omega)
    show SIX (if (pN (dyA f n) n 8).toInt = 2 then dyA f n else sttS (eatP (drkS (dyA f n) n) n) n) (-1) ∧ (∀ i : Nat, (i < 99 ∨ 494 < i) → (if (pN (dyA f n) n 8).toInt = 2 then dyA f n else sttS (eatP (drkS (dyA f n) n) n) n) i = f i)
    by_cases c : (pN (dyA f n) n 8).toInt = 2
    · rw [if_pos c]; exact ⟨i1, i2⟩
    · rw [if_neg c]
      have m : 1 ≤ (pN (dyA f n) n 2).toInt := by
        have z := SIX.men i1 (p := Int32.ofNat n) (by omega) (by omega) (by rw [e2]; omega) (by unfold pW; rw [t]; exact c)
        unfold pW at z; rw [t] at z; exact z
      have s1 := drk_six i1 (p := n) (by omega) m
      have s2 := eat_six s1 (by omega)
      refine ⟨stt_six s2 (by omega), fun i hi => ?_⟩
      have n1 := s1.1.n1
      rw [stt_off (by omega), eat_off (by omega) (by omega), drk_off (by omega)]; exact i2 i hi
theorem wrk_off {f : Nat → Int32} {p : Nat} {i : Nat} (hp : p < 4) (h1 : i ≠ 1) (hi : i < 99 ∨ 494 < i) : wrkS f p i = f i := by
  have eD : wrkD f p i = f i := sp_ne (by omega)
  have e1 : wrkD f p 1 = f 1 := sp_ne (by omega)
  unfold wrkS
  by_cases c : (wdF f (pN f p 0).toInt).toInt = 0
  · rw [if_pos c]
    by_cases c1 : (efN (wrkD f p) (pN f p 0).toInt (rnF (wrkD f p))).toInt ≤ (pN f p 7 + pN f p 2).toInt ∧ 0 < (pN f p 4).toInt ∧ (f 1).toInt < 60
    · rw [if_pos c1]
      have hn := c1.2.2
      unfold wrkE
      rw [sp_ne (by omega), sp_ne (by omega)]
      exact (comS_off (by rw [e1]; omega) ⟨h1, by omega⟩).trans eD
    · rw [if_neg c1]; exact eD
  · rw [if_neg c]
    by_cases c1 : 0 ≤ (pN f p 0 + pN f p 1).toInt ∧ (pN f p 0 + pN f p 1).toInt ≤ 39
    · rw [if_pos c1, sp_ne (by omega), sp_ne (by omega), sp_ne (by omega)]
    · rw [if_neg c1, sp_ne (by omega), sp_ne (by omega), sp_ne (by omega)]
theorem dyB_six {f : Nat → Int32} (h : SIX f (-1)) : ∀ n : Nat, n ≤ 4 → (n : Int) ≤ (f 2).toInt → SIX (dyB f n) (-1) ∧ (∀ i : Nat, i ≠ 1 → (i < 99 ∨ 494 < i) → dyB f n i = f i) := by
  intro n
  induction n with
  | zero => intro _ _; exact ⟨h, fun _ _ _ => rfl⟩
  | succ n ih =>
    intro hn h2
    obtain ⟨i1, i2⟩ := ih (by omega) (by omega)
    have t : (Int32.ofNat n).toInt = (n : Int) := nI_toInt (by omega)
    have e2 : dyB f n 2 = f 2 := i2 2 (by omega) (by omega)
    show SIX (if (pN (dyB f n) n 8).toInt = 0 then wrkS (dyB f n) n else dyB f n) (-1) ∧ (∀ i : Nat, i ≠ 1 → (i < 99 ∨ 494 < i) → (if (pN (dyB f n) n 8).toInt = 0 then wrkS (dyB f n) n else dyB f n) i = f i)
    by_cases c : (pN (dyB f n) n 8).toInt = 0
    · rw [if_pos c]
      have m : 1 ≤ (pN (dyB f n) n 2).toInt := by
        have z := SIX.men i1 (p := Int32.ofNat n) (by omega) (by omega) (by rw [e2]; omega) (by unfold pW; rw [t]; show (pN (dyB f n) n 8).toInt ≠ 2; omega)
        unfold pW at z; rw [t] at z; exact z
      refine ⟨wrk_six i1 (by omega) m, fun i h1 hi => ?_⟩
      have n1 := i1.1.n1
      rw [wrk_off (by omega) h1 hi]; exact i2 i h1 hi
    · rw [if_neg c]; exact ⟨i1, i2⟩
theorem day_six {f : Nat → Int32} (h : SIX f (-1)) (hd : (f 0).toInt ≤ 1999) : SIX (dayS f) (-1) ∧ (∀ i : Nat, i ≠ 0 → i ≠ 1 → (i < 99 ∨ 494 < i) → dayS f i = f i) ∧ (dayS f 0).toInt = (f 0).toInt + 1 := by
  have n1 := h.1.n1
  have n2 := h.1.n2
  have n0 := h.1.n0
  have a0 : SIX (eatS f) (-1) := eatN_six h _ (by omega)
  have b0 : ∀ i : Nat, (i < 99 ∨ 458 < i) → eatS f i = f i := fun i hi => eatN_at f _ hi (by omega)
  obtain ⟨a1, b1⟩ := dyA_six a0 (f 2).toInt.toNat (by omega) (by rw [b0 2 (by omega)]; omega)
  obtain ⟨a2, b2⟩ := dyB_six a1 (f 2).toInt.toNat (by omega) (by rw [b1 2 (by omega), b0 2 (by omega)]; omega)
  have e0 : dayC f 0 = f 0 := by unfold dayC; rw [b2 0 (by omega) (by omega), b1 0 (by omega), b0 0 (by omega)]
  have t : (dayC f 0 + 1).toInt = (f 0).toInt + 1 := by rw [e0]; exact k_addv rfl (by decide) (by omega) (by omega)
  refine ⟨SIX.n (i := 0) (x := dayC f 0 + 1) a2 rfl rfl (by omega) (by omega) (by omega), fun i h0 h1 hi => ?_, ?_⟩
  · unfold dayS; rw [sp_ne h0]; unfold dayC; rw [b2 i h1 hi, b1 i hi, b0 i (by omega)]
  · unfold dayS; rw [sp_at]; exact t
theorem days_six {f : Nat → Int32} (h : SIX f (-1)) : ∀ n : Nat, (f 0).toInt + n ≤ 2000 → SIX (daysF f n) (-1) ∧ (∀ i : Nat, i ≠ 0 → i ≠ 1 → (i < 99 ∨ 494 < i) → daysF f n i = f i) ∧ (daysF f n 0).toInt = (f 0).toInt + n := by
  intro n
  induction n with
  | zero => intro _; exact ⟨h, fun _ _ _ _ => rfl, by show (f 0).toInt = (f 0).toInt + ((0 : Nat) : Int); omega⟩
  | succ n ih =>
    intro hn
    obtain ⟨i1, i2, i3⟩ := ih (by omega)
    obtain ⟨j1, j2, j3⟩ := day_six i1 (by omega)
    exact ⟨j1, fun i h0 h1 hi => (j2 i h0 h1 hi).trans (i2 i h0 h1 hi), by show (dayS (daysF f n) 0).toInt = _; omega⟩
theorem OFP.pad {f : Nat → Int32} (h : (f 2).toInt.toNat < 4) : OFP (padS f) f := by
  have z : ∀ (p n : Nat), p < 4 → n ≤ 9 → ∀ i : Nat, (i < 459 ∨ 494 < i) → pzN f p n i = f i := by
    intro p n hp
    induction n with
    | zero => intro _ i _; rfl
    | succ n ih => intro hn i hi; show upd (pzN f p n) (459 + 9 * p + n) 0 i = f i; rw [sp_ne (by omega)]; exact ih (by omega) i hi
  intro i h2 hi
  unfold padS
  rw [sp_ne h2]; exact z _ 9 h (by omega) i hi
theorem tf_k {f : Nat → Int32} {w : Int32} (h : (wW f w 0).toInt ≠ 5) : stF f w 5 = 0 := by
  unfold stF
  by_cases c : (wW f w 4).toInt = 0
  · rw [if_pos c]; exact mU_n (by omega)
  · rw [if_neg c]
theorem tf_y {f : Nat → Int32} {w d k : Int32} (hd : d = wW f w 4) (hk : k = wW f w 0) (h0 : d.toInt = 0) (h1 : k.toInt = 5) : stF f w 5 = 1 := stF_y hd h0 hk (mU_y (by omega))
theorem PTR.rv {fa : Nat → Int32} {n p v i k : Int32} {x : Nat → Int32} (h : PTR fa n x) (h0 : 0 ≤ p.toInt) (h1 : p.toInt ≤ 3) (hk : 0 ≤ k.toInt) (hk1 : k.toInt ≤ 8) (e : v = fa i.toNatClampNeg) (t : i.toInt = 9 * p.toInt + k.toInt) : v = x (459 + 9 * p.toInt.toNat + k.toInt.toNat) := by
  rw [e, k_clamp]
  have z := h.2.2 (9 * p.toInt.toNat + k.toInt.toNat) (by omega)
  rw [show i.toInt.toNat = 9 * p.toInt.toNat + k.toInt.toNat from by omega, z, Nat.add_assoc]
theorem pz_step {g h f : Nat → Int32} {p : Nat} {k k1 x : Int32} (hg : ∀ j : Nat, j < 36 → g j = pzN f p k.toInt.toNat (459 + j)) (hp : p < 4) (h0 : 0 ≤ k.toInt ∧ k.toInt ≤ 8) (h1 : k1.toInt = k.toInt + 1) (e : h = upd g x.toNatClampNeg 0) (hx : x.toInt = 9 * p + k.toInt) : ∀ j : Nat, j < 36 → h j = pzN f p k1.toInt.toNat (459 + j) := by
  intro j hj
  rw [show k1.toInt.toNat = k.toInt.toNat + 1 from by omega, e, k_clamp]
  show _ = upd (pzN f p k.toInt.toNat) (459 + 9 * p + k.toInt.toNat) 0 (459 + j)
  by_cases q : j = x.toInt.toNat
  · rw [q, sp_at, show 459 + x.toInt.toNat = 459 + 9 * p + k.toInt.toNat from by omega, sp_at]
  · rw [sp_ne q, sp_ne (by omega)]; exact hg j hj
theorem pad_in {fa g : Nat → Int32} {n n1 : Int32} {f : Nat → Int32} (h : PTR fa n f) (hn : n.toInt < 4) (hg : ∀ j : Nat, j < 36 → g j = pzN f n.toInt.toNat 9 (459 + j)) (e : n1 = n + 1) : PTR g n1 (padS f) := by
  have hb := h.2.1
  have t : n1.toInt = n.toInt + 1 := by rw [e]; exact k_addv rfl (by decide) (by omega) (by omega)
  refine ⟨?_, by omega, fun j hj => ?_⟩
  · unfold padS; rw [sp_at, e, h.1]
  · unfold padS; rw [sp_ne (by omega), ← h.1]; exact hg j hj
theorem SB.fr {f : Nat → Int32} {p k : Nat} {v : Int32} (h : SB f) (hp : p < 4) (hk : k = 1 ∨ k = 4 ∨ k = 6 ∨ k = 7 ∨ k = 8) : SB (upd f (459 + 9 * p + k) v) := by
  refine h.put (x := v) rfl rfl (fun _ => ?_)
  rw [sL_p hp (by omega), sH_p hp (by omega)]
  have lo := k_lo v
  have hi := k_hi v
  rcases hk with z | z | z | z | z <;> subst z <;> simp <;> omega
theorem eatS_six {f : Nat → Int32} {q : Int} (h : SIX f q) : SIX (eatS f) q := by
  have n1 := h.1.n1
  exact eatN_six h _ (by omega)
theorem eatS_2 {f : Nat → Int32} {q : Int} (h : SIX f q) : eatS f 2 = f 2 := by
  have n1 := h.1.n1
  exact eatN_at f _ (by omega) (by omega)
theorem dyA_2 {f : Nat → Int32} (h : SIX f (-1)) : dyA (eatS f) (f 2).toInt.toNat 2 = f 2 := by
  have n2 := h.1.n2
  rw [(dyA_six (eatS_six h) (f 2).toInt.toNat (by omega) (by rw [eatS_2 h]; omega)).2 2 (by omega), eatS_2 h]
theorem drk_sixI {f : Nat → Int32} {p : Int32} (h : SIX f (-1)) (h0 : 0 ≤ p.toInt) (h1 : p.toInt ≤ 3) (h2 : p.toInt < (f 2).toInt) (h3 : (pW f p 8).toInt ≠ 2) : SIX (drkS f p.toInt.toNat) p.toInt := by
  have m := SIX.men h h0 h1 h2 h3
  have z := drk_six h (p := p.toInt.toNat) (by omega) m
  rw [show ((p.toInt.toNat : Nat) : Int) = p.toInt from by omega] at z
  exact z
theorem day_eq {f g : Nat → Int32} {i : Int32} (e : g = dyB (dyA (eatS f) (f 2).toInt.toNat) i.toInt.toNat) (hi : i.toInt.toNat = (f 2).toInt.toNat) : dayS f = upd g 0 (g 0 + 1) := by rw [e, hi]; rfl
theorem eo_1 {f : Nat → Int32} (h : SB f) {w s li a b v : Int32} (h0 : 0 ≤ w.toInt) (h1 : w.toInt ≤ 59) (hk : (wW f w 0).toInt = 1) (hd : (wW f w 4).toInt = 0) (hl : li = lifN f w.toInt.toNat) (hs : s = wW f w 3) (ha : a = f 0 + 1) (hb : b = s + li) (hv : v = if a < b then b else a) : v = eoN f w.toInt.toNat := by
  have d0 := h.n0
  have s3 := h.w3 h0 h1
  have lb : li.toInt = 60 ∨ li.toInt = 120 := by
    rw [hl]; unfold lifN
    by_cases c : (f (19 + (wN f w.toInt.toNat 1).toInt.toNat)).toInt = 0
    · rw [if_pos c]; exact Or.inl (by decide)
    · rw [if_neg c]; exact Or.inr (by decide)
  have e1 : stN f w.toInt.toNat 1 = 1 := by rw [stN_eq (k := 1) hk hd]; exact mU_y (by omega)
  have e2 : stN f w.toInt.toNat 2 = 0 := by rw [stN_eq (k := 1) hk hd]; exact mU_n (by omega)
  have tb : b.toInt = s.toInt + li.toInt := by rw [hb]; exact k_addv rfl rfl (by rw [hs]; omega) (by rw [hs]; omega)
  have ta : a.toInt = (f 0).toInt + 1 := by rw [ha]; exact k_addv rfl (by decide) (by omega) (by omega)
  have eb : wN f w.toInt.toNat 3 + lifN f w.toInt.toNat = b := by rw [hb, hs, hl]; rfl
  unfold eoN
  rw [if_pos ⟨e1, e2⟩, eb, ← ha, hv]
  by_cases c : a < b
  · have c1 := Int32.lt_iff_toInt_lt.mp c
    rw [if_pos c, if_pos (by omega)]
  · have c1 : ¬ a.toInt < b.toInt := fun z => c (Int32.lt_iff_toInt_lt.mpr z)
    rw [if_neg c]
    by_cases c2 : (f 0).toInt < b.toInt
    · rw [if_pos c2]; exact k_inj (by omega)
    · rw [if_neg c2]
theorem lk_none {f : Nat → Int32} {m : Int} (h : wdF f m = 0) : lkF f m = -1 := by
  have z := (WD_z (f := f) (m := m) (f 1).toInt.toNat).1 h
  have n1 : ((f 1).toInt.toNat : Int) ≤ 2147483647 := by have := k_hi (f 1); omega
  have key : ∀ n : Nat, n ≤ (f 1).toInt.toNat → LK f m n = -1 := by
    intro n
    induction n with
    | zero => intro _; rfl
    | succ n ih =>
      intro hn
      have t : (Int32.ofNat n).toInt = (n : Int) := nI_toInt (by omega)
      have y := z n (by omega)
      show lkStep f m (Int32.ofNat n) (LK f m n) = -1
      rw [ih (by omega)]
      unfold lkStep
      rw [if_neg]
      rintro ⟨c1, c2⟩
      have d1 : (wN f n 1).toInt = m := by have q := c1; unfold wW at q; rw [t] at q; exact q
      have d2 : stN f n 1 = 1 := by have q := c2; unfold stF wW at q; rw [t] at q; exact q
      unfold tP at y
      rw [if_pos ⟨d1, d2⟩] at y
      exact absurd y (by decide)
  exact key _ (Nat.le_refl _)
section LKS
variable {ki mi si sn fo dn po dr de : Nat → Int32} {n : Int32} {x : Nat → Int32}
theorem WKR.pole (h : WKR ki mi si sn fo dn po dr de n x) {w : Int32} (h0 : 0 ≤ w.toInt) (h1 : w.toInt ≤ 59) (hd : (dn w.toNatClampNeg).toInt = 0) (hk : (ki w.toNatClampNeg).toInt = 1 ∨ (ki w.toNatClampNeg).toInt = 2 ∨ (ki w.toNatClampNeg).toInt = 3) : stF x w 1 = 1 := by
  rw [h.r4 h0 h1] at hd
  rw [h.r0 h0 h1] at hk
  unfold stF
  rw [if_pos hd]; exact mU_y (by omega)
theorem WKR.pole0 (h : WKR ki mi si sn fo dn po dr de n x) {w : Int32} (h0 : 0 ≤ w.toInt) (h1 : w.toInt ≤ 59) (hk : (dn w.toNatClampNeg).toInt ≠ 0 ∨ ((ki w.toNatClampNeg).toInt ≠ 1 ∧ (ki w.toNatClampNeg).toInt ≠ 2 ∧ (ki w.toNatClampNeg).toInt ≠ 3)) : stF x w 1 = 0 := by
  rw [h.r4 h0 h1, h.r0 h0 h1] at hk
  unfold stF
  by_cases c : (wW x w 4).toInt = 0
  · rw [if_pos c]; exact mU_n (by omega)
  · rw [if_neg c]
theorem WKR.iron (h : WKR ki mi si sn fo dn po dr de n x) {w k : Int32} (h0 : 0 ≤ w.toInt) (h1 : w.toInt ≤ 59) (hd : (dn w.toNatClampNeg).toInt = 0) (hk : k = wW x w 0) : ((k.toInt = 2 ∨ k.toInt = 3) → stF x w 2 = 1) ∧ ((k.toInt ≠ 2 ∧ k.toInt ≠ 3) → stF x w 2 = 0) := by
  rw [h.r4 h0 h1] at hd
  unfold stF
  rw [if_pos hd, ← hk]
  exact ⟨fun c => mU_y (by omega), fun c => mU_n (by omega)⟩
end LKS
theorem lk_9 {v1 v2 : Int32} (e : v2 = if v1 < 9 then v1 else 9) : (9 < v1.toInt ∧ v2 = 9) ∨ (v1.toInt ≤ 9 ∧ v2 = v1) := by
  have z : (9 : Int32).toInt = 9 := by decide
  by_cases c : v1 < 9
  · have c1 := Int32.lt_iff_toInt_lt.mp c
    rw [if_pos c] at e; exact Or.inr ⟨by omega, e⟩
  · have c1 : ¬ v1.toInt < (9 : Int32).toInt := fun q => c (Int32.lt_iff_toInt_lt.mpr q)
    rw [if_neg c] at e
    by_cases c2 : v1.toInt = 9
    · exact Or.inr ⟨by omega, by rw [e]; exact k_inj (by omega)⟩
    · exact Or.inl ⟨by omega, e⟩
theorem lk_b {b v b1 : Int32} (h : 0 ≤ b.toInt) (e : b1 = if v < b then v else b) : ((b.toInt < 0 ∨ v.toInt < b.toInt) ∧ b1 = v) ∨ (0 ≤ b.toInt ∧ b.toInt ≤ v.toInt ∧ b1 = b) := by
  by_cases c : v < b
  · rw [if_pos c] at e; exact Or.inl ⟨Or.inr (Int32.lt_iff_toInt_lt.mp c), e⟩
  · have c1 : ¬ v.toInt < b.toInt := fun q => c (Int32.lt_iff_toInt_lt.mpr q)
    rw [if_neg c] at e; exact Or.inr ⟨h, by omega, e⟩
theorem pty_in {f g0 g1 g2 g3 g4 g5 : Nat → Int32} {p a w e q m b : Int32} (c : 0 ≤ a.toInt ∧ a.toInt ≤ 39 ∧ (w.toInt = 1 ∨ w.toInt = -1) ∧ 0 ≤ q.toInt ∧ q.toInt ≤ 99 ∧ 100 ≤ e.toInt ∧ e.toInt / 100 ≤ 50 ∧ e.toInt % 100 ≤ 50 ∧ (f 2).toInt < 4) (hp : p.toInt = (f 2).toInt) (hm : m = e / 100) (hb : b = e - e / 100 * 100) (e0 : g0 = padS f) (e1 : g1 = upd g0 (459 + 9 * p.toInt.toNat + 0) a) (e2 : g2 = upd g1 (459 + 9 * p.toInt.toNat + 1) w) (e3 : g3 = upd g2 (459 + 9 * p.toInt.toNat + 2) m) (e4 : g4 = upd g3 (459 + 9 * p.toInt.toNat + 3) b) (e5 : g5 = upd g4 (459 + 9 * p.toInt.toNat + 4) q) : partyS f a w e q = g5 := by
  unfold partyS
  rw [if_pos c, e5, e4, e3, e2, e1, e0, hm, hb, hp]; rfl
theorem hnd_v {f g1 : Nat → Int32} {p q n v : Int32} (hp0 : 0 ≤ p.toInt) (hq0 : 0 ≤ q.toInt) (hpq : p.toInt ≠ q.toInt) (e1 : g1 = upd f (459 + 9 * p.toInt.toNat + 2) v) : pW g1 q 2 = pW f q 2 := by
  rw [e1]; unfold pW; rw [sp_ne (by omega)]
theorem i_addneg (a b : Int32) : a + -b = a - b := (Int32.sub_eq_add_neg a b).symm
theorem lkF_at {f g : Nat → Int32} {m : Int} (e : ∀ i : Nat, (i = 0 ∨ i = 1 ∨ (7 ≤ i ∧ i ≤ 18) ∨ (99 ≤ i ∧ i ≤ 458)) → g i = f i) (hn : (f 1).toInt ≤ 60) (h0 : 0 ≤ (f 0).toInt) : lkF g m = lkF f m := by
  have e1 : g 1 = f 1 := e 1 (by omega)
  have e0 : g 0 = f 0 := e 0 (by omega)
  have er : rnF g = rnF f := by unfold rnF; rw [e0]; exact e _ (by omega)
  have key : ∀ n : Nat, n ≤ 60 → LK g m n = LK f m n := by
    intro n
    induction n with
    | zero => intro _; rfl
    | succ n ih =>
      intro hn
      have t : (Int32.ofNat n).toInt = (n : Int) := nI_toInt (by omega)
      have ew : ∀ k : Nat, k < 6 → wW g (Int32.ofNat n) k = wW f (Int32.ofNat n) k := fun k hk => by unfold wW; rw [t]; exact e _ (by omega)
      show lkStep g m (Int32.ofNat n) (LK g m n) = lkStep f m (Int32.ofNat n) (LK f m n)
      rw [ih (by omega)]
      unfold lkStep stF
      rw [ew 0 (by omega), ew 1 (by omega), ew 3 (by omega), ew 4 (by omega), er, e0]
  unfold lkF
  rw [e1]; exact key _ (by omega)
theorem chk_y {f : Nat → Int32} {k k1 : Int32} {n : Int} (h0 : 0 ≤ k.toInt) (h1 : k1.toInt = k.toInt + 1) (hn : k.toInt < n) (c : (f (1181 + k.toInt.toNat)).toInt = (lkF f k.toInt).toInt) : chkF f k.toInt.toNat (n - k.toInt).toNat = chkF f k1.toInt.toNat (n - k1.toInt).toNat := by
  rw [show (n - k.toInt).toNat = (n - k1.toInt).toNat + 1 from by omega, show k1.toInt.toNat = k.toInt.toNat + 1 from by omega]
  show (if (f (1181 + k.toInt.toNat)).toInt = (lkF f (k.toInt.toNat : Int)).toInt then chkF f (k.toInt.toNat + 1) (n - k1.toInt).toNat else Int32.ofNat (k.toInt.toNat + 1)) = _
  rw [show (k.toInt.toNat : Int) = k.toInt from by omega, if_pos c]
theorem chk_n {f : Nat → Int32} {k v : Int32} {n : Int} (h0 : 0 ≤ k.toInt) (h1 : v.toInt = 1 + k.toInt) (hn : k.toInt < n) (hk : k.toInt ≤ 100) (c : (f (1181 + k.toInt.toNat)).toInt ≠ (lkF f k.toInt).toInt) : chkF f k.toInt.toNat (n - k.toInt).toNat = v := by
  rw [show (n - k.toInt).toNat = (n - k.toInt).toNat - 1 + 1 from by omega]
  show (if (f (1181 + k.toInt.toNat)).toInt = (lkF f (k.toInt.toNat : Int)).toInt then chkF f (k.toInt.toNat + 1) ((n - k.toInt).toNat - 1) else Int32.ofNat (k.toInt.toNat + 1)) = _
  rw [show (k.toInt.toNat : Int) = k.toInt from by omega, if_neg c]
  exact k_inj (by rw [show (Int32.ofNat (k.toInt.toNat + 1)).toInt = ((k.toInt.toNat + 1 : Nat) : Int) from nI_toInt (by omega)]; omega)
theorem chk_e {f : Nat → Int32} {k : Int32} {n : Int} (h : n ≤ k.toInt) : chkF f k.toInt.toNat (n - k.toInt).toNat = 0 := by
  rw [show (n - k.toInt).toNat = 0 from by omega]; rfl
theorem jn_y {f : Nat → Int32} {a b : Int} {n : Nat} (h : awF f a b = true) : jnF f a b n = f 0 := by
  cases n with
  | zero => show (if awF f a b = true then f 0 else (-1000002)) = f 0; rw [if_pos h]
  | succ n => show (if awF f a b = true then f 0 else jnF (dayS f) a b n) = f 0; rw [if_pos h]
theorem jn_n {f : Nat → Int32} {a b : Int} {n m : Nat} (h : awF f a b = false) (e : n = m + 1) : jnF f a b n = jnF (dayS f) a b m := by
  rw [e]
  show (if awF f a b = true then f 0 else jnF (dayS f) a b m) = _
  rw [if_neg (by rw [h]; decide)]
theorem jn_e {f : Nat → Int32} {a b : Int} {n : Nat} (h : awF f a b = false) (e : n = 0) : jnF f a b n = (-1000002) := by
  rw [e]
  show (if awF f a b = true then f 0 else (-1000002)) = _
  rw [if_neg (by rw [h]; decide)]
