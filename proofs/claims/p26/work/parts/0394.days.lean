/-! how one day goes, as the reference does it -/
theorem ref_eo0 {f : Nat → Int32} {w : Int32} (h : stF f w 1 = 0 ∨ stF f w 2 = 1) : (-1 : Int32) = eoN f w.toInt.toNat := by
  unfold eoN
  rw [if_neg]
  rintro ⟨z1, z2⟩
  rcases h with h | h
  · exact absurd (show stF f w 1 = 1 from z1) (by rw [h]; decide)
  · exact absurd (show stF f w 2 = 0 from z2) (by rw [h]; decide)
theorem ref_eo1 {f : Nat → Int32} {w mi so sn li d v : Int32} (h1 : stF f w 1 = 1) (h2 : stF f w 2 = 0) (hm : mi = wW f w 1) (hs : so = f (19 + mi.toInt.toNat)) (hn : sn = wW f w 3) (hl : (so.toInt = 0 ∧ li = 60) ∨ (so.toInt ≠ 0 ∧ li = 120)) (hd : d = sn + li) (hv : ((f 0).toInt < d.toInt ∧ v = d) ∨ (d.toInt ≤ (f 0).toInt ∧ v = f 0 + 1)) : v = eoN f w.toInt.toNat := by
  have el : lifN f w.toInt.toNat = li := by
    rw [lif_in hm hs]
    rcases hl with ⟨z, e⟩ | ⟨z, e⟩
    · rw [if_pos z, e]
    · rw [if_neg z, e]
  have ed : wN f w.toInt.toNat 3 + lifN f w.toInt.toNat = d := by
    rw [el, hd, hn]; rfl
  unfold eoN
  rw [if_pos (show stN f w.toInt.toNat 1 = 1 ∧ stN f w.toInt.toNat 2 = 0 from ⟨h1, h2⟩), ed]
  rcases hv with ⟨z, e⟩ | ⟨z, e⟩
  · rw [if_pos z, e]
  · rw [if_neg (by omega), e]
theorem ref_ey {f g h : Nat → Int32} {w w1 d : Int32} (hg : g = eatN f w.toInt.toNat) (h0 : 0 ≤ w.toInt) (h1 : w1.toInt = w.toInt + 1) (hd : d = eoN g w.toInt.toNat) (c0 : 0 ≤ d.toInt) (c1 : d.toInt ≤ (g 0).toInt + 1) (e : h = upd g (99 + 6 * w.toInt.toNat + 4) 1) : h = eatN f w1.toInt.toNat := by
  rw [e, hg]; exact eatN_yes h0 h1 (by rw [← hg, ← hd]; exact ⟨c0, c1⟩)
theorem ref_en {f g : Nat → Int32} {w w1 d : Int32} (hg : g = eatN f w.toInt.toNat) (h0 : 0 ≤ w.toInt) (h1 : w1.toInt = w.toInt + 1) (hd : d = eoN g w.toInt.toNat) (c : d.toInt < 0 ∨ (g 0).toInt + 1 < d.toInt) : g = eatN f w1.toInt.toNat :=
  hg.trans (eatN_no h0 h1 (by rw [← hg, ← hd]; omega))
theorem WD_s {f : Nat → Int32} {m : Int} {b b1 w w1 : Int32} (hb : b = WD f m w.toInt.toNat) (h0 : 0 ≤ w.toInt) (h1 : w1.toInt = w.toInt + 1) (c : (b.toInt ≠ 0 ∧ b1 = 1) ∨ (b.toInt = 0 ∧ (wW f w 1).toInt = m ∧ stF f w 1 = 1 ∧ b1 = 1) ∨ (b.toInt = 0 ∧ (wW f w 1).toInt ≠ m ∧ b1 = 0) ∨ (b.toInt = 0 ∧ stF f w 1 = 0 ∧ b1 = 0)) : b1 = WD f m w1.toInt.toNat := by
  rw [show w1.toInt.toNat = w.toInt.toNat + 1 from by omega]
  show b1 = if (WD f m w.toInt.toNat).toInt ≠ 0 ∨ tP f m w.toInt.toNat = 1 then (1 : Int32) else 0
  rw [← hb]
  rcases c with ⟨z, e⟩ | ⟨z, z1, z2, e⟩ | ⟨z, z1, e⟩ | ⟨z, z1, e⟩
  · rw [if_pos (Or.inl z), e]
  · rw [if_pos (Or.inr (by unfold tP; rw [if_pos (show (wN f w.toInt.toNat 1).toInt = m ∧ stN f w.toInt.toNat 1 = 1 from ⟨z1, z2⟩)])), e]
  · rw [if_neg, e]
    rintro (y | y)
    · exact y z
    · unfold tP at y
      rw [if_neg (fun q => z1 q.1)] at y; exact absurd y (by decide)
  · rw [if_neg, e]
    rintro (y | y)
    · exact y z
    · unfold tP at y
      rw [if_neg (fun q => by have q2 : stF f w 1 = 1 := q.2; rw [z1] at q2; exact absurd q2 (by decide))] at y; exact absurd y (by decide)
theorem wm_n0 {f : Nat → Int32} {m m1 t t1 : Int32} (h : t = wmN f m.toInt.toNat) (h0 : 0 ≤ m.toInt) (h1 : m1.toInt = m.toInt + 1) (hw : wdF f m.toInt = 0) (e : t1 = t + 0) : t1 = wmN f m1.toInt.toNat := by
  rw [e, Int32.add_zero]; exact wmN_n h h0 h1 hw
theorem wl_s {f : Nat → Int32} {m : Int} {t t1 v w w1 : Int32} (ht : t = sumN (tL f m) w.toInt.toNat) (h0 : 0 ≤ w.toInt) (h1 : w1.toInt = w.toInt + 1) (c : ((wW f w 1).toInt = m ∧ (wW f w 4).toInt = 0 ∧ (wW f w 0).toInt = 4 ∧ v = wW f w 2) ∨ (((wW f w 1).toInt ≠ m ∨ (wW f w 4).toInt ≠ 0 ∨ (wW f w 0).toInt ≠ 4) ∧ v = 0)) (e : t1 = t + v) : t1 = sumN (tL f m) w1.toInt.toNat := by
  rw [show w1.toInt.toNat = w.toInt.toNat + 1 from by omega]
  show t1 = sumN (tL f m) w.toInt.toNat + tL f m w.toInt.toNat
  rw [← ht, e]
  refine congrArg (fun z => t + z) ?_
  unfold tL
  rcases c with ⟨z1, z2, z3, z4⟩ | ⟨z, z4⟩
  · rw [if_pos (show (wN f w.toInt.toNat 1).toInt = m ∧ (wN f w.toInt.toNat 4).toInt = 0 ∧ (wN f w.toInt.toNat 0).toInt = 4 from ⟨z1, z2, z3⟩)]; exact z4
  · rw [if_neg, z4]
    rintro ⟨y1, y2, y3⟩
    rcases z with z | z | z
    · exact z y1
    · exact z y2
    · exact z y3
theorem com_in {f g1 g2 g3 g4 g5 g6 g7 : Nat → Int32} {w v k m z t : Int32} (hw : w = f 1) (hv : v = f 1 + 1) (e1 : g1 = upd f 1 v) (e2 : g2 = upd g1 (99 + 6 * w.toInt.toNat + 0) k) (e3 : g3 = upd g2 (99 + 6 * w.toInt.toNat + 1) m) (e4 : g4 = upd g3 (99 + 6 * w.toInt.toNat + 2) z) (e5 : g5 = upd g4 (99 + 6 * w.toInt.toNat + 3) t) (e6 : g6 = upd g5 (99 + 6 * w.toInt.toNat + 4) 0) (e7 : g7 = upd g6 (99 + 6 * w.toInt.toNat + 5) 0) : g7 = comS f k m z t := by
  rw [e7, e6, e5, e4, e3, e2, e1, hv, hw]; rfl
theorem ref_dV {f : Nat → Int32} {p mi me be ha sp wl va vb vc vd ve vf vg vh vl : Int32} (h0 : mi = pW f p 0) (h2 : me = pW f p 2) (h3 : be = pW f p 3) (h6 : ha = pW f p 6) (hs : sp = f (59 + mi.toInt.toNat)) (hw : wl = wlF f mi.toInt) (a1 : va = ha + sp) (b1 : vb = va + wl) (c1 : vc = me + be) (d1 : vd = 50 * vc) (e1 : (vd.toInt < vb.toInt ∧ ve = vd) ∨ (vb.toInt ≤ vd.toInt ∧ ve = vb)) (f1 : (ve.toInt < ha.toInt ∧ vf = ha) ∨ (ha.toInt ≤ ve.toInt ∧ vf = ve)) (i1 : vh = 2 * be) (g1 : vg = me + vh) (l1 : vl = vf - vg) : vl = drkV f p.toInt.toNat := by
  have e2 : ve = mn2 vb vd := by
    unfold mn2
    rcases e1 with ⟨c, e⟩ | ⟨c, e⟩
    · rw [if_pos c, e]
    · rw [if_neg (by omega), e]
  have f2 : vf = mx2 ve ha := by
    unfold mx2
    rcases f1 with ⟨c, e⟩ | ⟨c, e⟩
    · rw [if_pos c, e]
    · rw [if_neg (by omega), e]
  refine drk_in (f := f) (p := p.toInt.toNat) h0 h2 h3 h6 hs hw a1 b1 c1 d1 e2 f2 ?_
  rw [l1, g1, i1]
theorem ref_dy {f g : Nat → Int32} {p vl : Int32} (hl : vl = drkV f p.toInt.toNat) (h0 : 0 ≤ vl.toInt) (e : g = upd f (459 + 9 * p.toInt.toNat + 6) vl) : g = drkS f p.toInt.toNat := by
  unfold drkS; rw [← hl, if_neg (by omega), e]
theorem ref_db {f g g1 : Nat → Int32} {p vl be x : Int32} (hl : vl = drkV f p.toInt.toNat) (h0 : vl.toInt < 0) (hb : be = pW f p 3) (h3 : 0 < be.toInt) (hx : x = be - 1) (e1 : g1 = upd f (459 + 9 * p.toInt.toNat + 3) x) (e : g = upd g1 (459 + 9 * p.toInt.toNat + 6) 0) : g = drkS f p.toInt.toNat := by
  have z : 0 < (pN f p.toInt.toNat 3).toInt := by rw [hb] at h3; exact h3
  unfold drkS
  rw [← hl, if_pos h0, if_pos z, e, e1, hx, hb]; rfl
theorem ref_dm {f g g1 : Nat → Int32} {p vl be me x : Int32} (hl : vl = drkV f p.toInt.toNat) (h0 : vl.toInt < 0) (hb : be = pW f p 3) (h3 : be.toInt ≤ 0) (hm : me = pW f p 2) (hx : x = me - 1) (e1 : g1 = upd f (459 + 9 * p.toInt.toNat + 2) x) (e : g = upd g1 (459 + 9 * p.toInt.toNat + 6) 0) : g = drkS f p.toInt.toNat := by
  have z : ¬ 0 < (pN f p.toInt.toNat 3).toInt := by rw [hb] at h3; exact Int.not_lt.mpr h3
  unfold drkS
  rw [← hl, if_pos h0, if_neg z, e, e1, hx, hm]; rfl
def eaM (f : Nat → Int32) (p : Int32) (n : Nat) : Int32 × (Nat → Int32) := eaT f (pW f p 0).toInt (20 * pW f p 2 - pW f p 5) n
theorem ref_es {f g h : Nat → Int32} {p me a food n room x food1 w w1 fo fd mi pm : Int32} (hp : 0 ≤ p.toInt ∧ p.toInt ≤ 3) (hw : w.toInt ≤ 59) (hg : g = (eaM f p w.toInt.toNat).2) (hf : food = fo + (eaM f p w.toInt.toNat).1) (hfo : fo = pW f p 5) (hme : me = pW f p 2) (ha : a = 20 * me) (hr : room = a - food) (hfd : fd = wW g w 5) (hpm : pm = pW g p 0) (hmi : mi = wW g w 1) (h0 : 0 ≤ w.toInt) (h1 : w1.toInt = w.toInt + 1)
    (c : (mi.toInt = pm.toInt ∧ stF g w 5 = 1 ∧ 0 ≤ room.toInt ∧ ((room.toInt < fd.toInt ∧ n = room) ∨ (fd.toInt ≤ room.toInt ∧ n = fd))) ∨ ((mi.toInt ≠ pm.toInt ∨ stF g w 5 = 0 ∨ room.toInt < 0) ∧ n = 0)) (e1 : food1 = food + n) (ex : x = fd - n) (e2 : h = upd g (99 + 6 * w.toInt.toNat + 5) x) : food1 = fo + (eaM f p w1.toInt.toNat).1 ∧ h = (eaM f p w1.toInt.toNat).2 := by
  have em : pm = pW f p 0 := by rw [hpm, hg]; exact eaT_off _ _ _ _ (by omega) (by omega)
  have er : room = 20 * pW f p 2 - pW f p 5 - (eaM f p w.toInt.toNat).1 := by rw [hr, ha, hme, hf, hfo, Int32.sub_sub]
  have ev : n = eaV g (pW f p 0).toInt (20 * pW f p 2 - pW f p 5) (eaM f p w.toInt.toNat).1 w.toInt.toNat := by
    rcases c with ⟨z1, z2, z3, z4⟩ | ⟨z, z4⟩
    · refine eaV_in (d := room) (fd := fd) (by show (wW g w 1).toInt = _; rw [← hmi, z1, em]) z2 er z3 hfd ?_
      rcases z4 with ⟨y, e⟩ | ⟨y, e⟩
      · exact Or.inl ⟨y, by rw [e]⟩
      · exact Or.inr ⟨y, by rw [e]⟩
    · rw [z4]
      refine eaV_no ?_
      rcases z with z | z | z
      · exact Or.inl (by show (wW g w 1).toInt ≠ _; rw [← hmi, ← em]; exact z)
      · exact Or.inr (Or.inl z)
      · exact Or.inr (Or.inr (by rw [← er]; exact z))
  have s := eaT_s (f := f) (m := (pW f p 0).toInt) (want := 20 * pW f p 2 - pW f p 5) (t1 := (eaM f p w.toInt.toNat).1 + n) h0 h1 rfl hg ev rfl (by rw [ex, hfd]) e2
  exact ⟨by rw [e1, hf, Int32.add_assoc, s.1]; rfl, s.2⟩
theorem ref_eP {f g g1 g2 : Nat → Int32} {p fo me food l x y : Int32} (hn : (f 1).toInt.toNat ≤ 60) (hp : p.toInt.toNat < 4) (hg : g = (eaM f p (f 1).toInt.toNat).2) (hf : food = fo + (eaM f p (f 1).toInt.toNat).1) (hfo : fo = pW f p 5) (hme : me = pW f p 2) (hl : l = food - me) (hx : (l.toInt < 0 ∧ x = me - 1) ∨ (0 ≤ l.toInt ∧ x = me)) (hy : (l.toInt < 0 ∧ y = 0) ∨ (0 ≤ l.toInt ∧ y = l)) (e1 : g1 = upd g (459 + 9 * p.toInt.toNat + 2) x) (e2 : g2 = upd g1 (459 + 9 * p.toInt.toNat + 5) y) : g2 = eatP f p.toInt.toNat := by
  have el : l = eatL f p.toInt.toNat := by rw [hl, hf, hfo, hme]; rfl
  have eg : g = (eatF f p.toInt.toNat).2 := hg
  unfold eatP
  rw [← el, ← eg, e2, e1]
  rcases hx with ⟨z, e⟩ | ⟨z, e⟩
  · rcases hy with ⟨z1, e3⟩ | ⟨z1, e3⟩
    · rw [if_pos z, if_pos z, e, e3, hme]; rfl
    · exact absurd z (by omega)
  · rcases hy with ⟨z1, e3⟩ | ⟨z1, e3⟩
    · exact absurd z1 (by omega)
    · rw [if_neg (by omega), if_neg (by omega), e, e3, hme]; rfl
theorem ref_st {f g : Nat → Int32} {p m t x : Int32} (hm : m = pW f p 2) (ht : t = pW f p 8) (hx : (m.toInt = 0 ∧ x = 2) ∨ (m.toInt ≠ 0 ∧ x = t)) (e : g = upd f (459 + 9 * p.toInt.toNat + 8) x) : g = sttS f p.toInt.toNat := by
  unfold sttS
  rcases hx with ⟨z, e1⟩ | ⟨z, e1⟩
  · rw [if_pos (show (pN f p.toInt.toNat 2).toInt = 0 from by rw [hm] at z; exact z), e, e1]
  · rw [if_neg (show ¬ (pN f p.toInt.toNat 2).toInt = 0 from by rw [hm] at z; exact z), e, e1, ht]; rfl
theorem ref_w0 {f g : Nat → Int32} {p mi du me d : Int32} (h0 : mi = pW f p 0) (hw : wdF f mi.toInt = 0) (h7 : du = pW f p 7) (h2 : me = pW f p 2) (hd : d = du + me) (e : g = upd f (459 + 9 * p.toInt.toNat + 7) d) {ef r po n : Int32} (hr : r = rnF g) (he : ef = efN g mi.toInt r) (hp : po = pW g p 4) (hn : n = g 1) (c : d.toInt < ef.toInt ∨ po.toInt ≤ 0 ∨ 60 ≤ n.toInt) : g = wrkS f p.toInt.toNat := by
  have eD : g = wrkD f p.toInt.toNat := by rw [e, hd, h7, h2]; rfl
  rw [wrk_dig h0 hw]
  refine (dig_n (du := d) (ef := ef) (po := po) (n := n) h0 eD ?_ (by rw [he, hr]) hp hn c).symm
  rw [e]; exact sp_at.symm
theorem ref_w1 {f g g1 g2 g3 : Nat → Int32} {p mi du me d : Int32} (h0 : mi = pW f p 0) (hw : wdF f mi.toInt = 0) (h7 : du = pW f p 7) (h2 : me = pW f p 2) (hd : d = du + me) (e : g = upd f (459 + 9 * p.toInt.toNat + 7) d) {ef r po n t p4 x : Int32} (hr : r = rnF g) (he : ef = efN g mi.toInt r) (hp : po = pW g p 4) (hn : n = g 1) (c : ef.toInt ≤ d.toInt ∧ 0 < po.toInt ∧ n.toInt < 60) (ht : t = g 0 + 1) (e1 : g1 = comS g 1 mi 1 t) (h4 : p4 = pW g1 p 4) (hx : x = p4 - 1) (e2 : g2 = upd g1 (459 + 9 * p.toInt.toNat + 4) x) (e3 : g3 = upd g2 (459 + 9 * p.toInt.toNat + 7) 0) : g3 = wrkS f p.toInt.toNat := by
  have eD : g = wrkD f p.toInt.toNat := by rw [e, hd, h7, h2]; rfl
  rw [wrk_dig h0 hw]
  refine (dig_y (du := d) (ef := ef) (po := po) (n := n) (t := t) h0 eD ?_ (by rw [he, hr]) hp hn c ht e1 (by rw [e2, hx, h4, i_sub1]) e3).symm
  rw [e]; exact sp_at.symm
theorem ref_wg {f g1 g2 g3 : Nat → Int32} {p mi w t x y : Int32} (h0 : mi = pW f p 0) (hw : wdF f mi.toInt = 1) (h1 : w = pW f p 1) (ht : t = mi + w) (hx : (0 ≤ t.toInt ∧ t.toInt ≤ 39 ∧ x = t ∧ y = 0) ∨ ((t.toInt < 0 ∨ 39 < t.toInt) ∧ x = mi ∧ y = 1)) (e1 : g1 = upd f (459 + 9 * p.toInt.toNat + 7) 0) (e2 : g2 = upd g1 (459 + 9 * p.toInt.toNat + 0) x) (e3 : g3 = upd g2 (459 + 9 * p.toInt.toNat + 8) y) : g3 = wrkS f p.toInt.toNat := by
  have z : ¬ (wdF f (pN f p.toInt.toNat 0).toInt).toInt = 0 := by rw [show (pN f p.toInt.toNat 0) = mi from h0.symm, hw]; decide
  have et : pN f p.toInt.toNat 0 + pN f p.toInt.toNat 1 = t := by rw [ht, h0, h1]; rfl
  unfold wrkS
  rw [if_neg z, et, e3, e2, e1]
  rcases hx with ⟨c0, c1, ex, ey⟩ | ⟨c, ex, ey⟩
  · rw [if_pos ⟨c0, c1⟩, ex, ey]
  · rw [if_neg (by omega), ex, ey, h0]; rfl
theorem pty_ref {f g0 g1 g2 g3 g4 g5 g6 : Nat → Int32} {p v a w e q m b : Int32} (c : 0 ≤ a.toInt ∧ a.toInt ≤ 39 ∧ (w.toInt = 1 ∨ w.toInt = -1) ∧ 0 ≤ q.toInt ∧ q.toInt ≤ 99 ∧ 100 ≤ e.toInt ∧ e.toInt / 100 ≤ 50 ∧ e.toInt % 100 ≤ 50 ∧ (f 2).toInt < 4) (hp : p = f 2) (hv : v = f 2 + 1) (h2 : 0 ≤ (f 2).toInt) (hm : m = e / 100) (hb : b = e - e / 100 * 100) (e0 : g0 = upd f 2 v) (ez : g1 = pzN g0 p.toInt.toNat 9) (e1 : g2 = upd g1 (459 + 9 * p.toInt.toNat + 0) a) (e2 : g3 = upd g2 (459 + 9 * p.toInt.toNat + 1) w) (e3 : g4 = upd g3 (459 + 9 * p.toInt.toNat + 2) m) (e4 : g5 = upd g4 (459 + 9 * p.toInt.toNat + 3) b) (e5 : g6 = upd g5 (459 + 9 * p.toInt.toNat + 4) q) : g6 = partyS f a w e q := by
  have hz : ∀ n : Nat, n ≤ 9 → pzN (upd f 2 (f 2 + 1)) (f 2).toInt.toNat n = upd (pzN f (f 2).toInt.toNat n) 2 (f 2 + 1) := by
    intro n
    induction n with
    | zero => intro _; rfl
    | succ n ih =>
      intro hn
      show upd (pzN (upd f 2 (f 2 + 1)) (f 2).toInt.toNat n) (459 + 9 * (f 2).toInt.toNat + n) 0 = upd (upd (pzN f (f 2).toInt.toNat n) (459 + 9 * (f 2).toInt.toNat + n) 0) 2 (f 2 + 1)
      rw [ih (by omega), sp_swap (by omega)]
  have eg : g1 = padS f := by rw [ez, e0, hv, hp]; exact hz 9 (by omega)
  exact (pty_in c (by rw [hp]) hm hb eg e1 e2 e3 e4 e5).symm
theorem pz_s {g h f : Nat → Int32} {p k k1 : Int32} (hg : g = pzN f p.toInt.toNat k.toInt.toNat) (h0 : 0 ≤ k.toInt) (h1 : k1.toInt = k.toInt + 1) (e : h = upd g (459 + 9 * p.toInt.toNat + k.toInt.toNat) 0) : h = pzN f p.toInt.toNat k1.toInt.toNat := by
  rw [show k1.toInt.toNat = k.toInt.toNat + 1 from by omega, e, hg]; rfl
