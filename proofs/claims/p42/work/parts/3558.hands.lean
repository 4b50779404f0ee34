/- THE HANDS: sums ahead of each MILE against the reference's walk over the MILES between -/
def plV (x : Int32) : Int32 := if x.toInt < 0 then 0 else x
def ngV (x : Int32) : Int32 := if x.toInt < 0 then 1 else 0
def SVY (f L G : Nat → Int32) : Prop := ∀ m : Nat, m < 40 → L (m + 1) = L m + plV (lkF f m) ∧ G (m + 1) = G m + ngV (lkF f m)
theorem crs_ofNat {a : Int32} {n : Nat} (h0 : 0 ≤ a.toInt) (h : a.toInt + n ≤ 2147483647) : (Int32.ofNat (a.toInt.toNat + n)).toInt = a.toInt + n := by
  have z := nI_toInt (n := a.toInt.toNat + n) (by omega)
  exact z.trans (by omega)
theorem i_ofNat_s (k : Nat) : Int32.ofNat (k + 1) = Int32.ofNat k + 1 := by rw [Int32.ofNat_add]; rfl
theorem svy_g {f L G : Nat → Int32} (h : SVY f L G) {a b : Int32} (h0 : 0 ≤ a.toInt) : ∀ n : Nat, a.toInt + n ≤ 40 → ∃ k : Nat, k ≤ n ∧ G (a.toInt.toNat + n) = G a.toInt.toNat + Int32.ofNat k ∧ ((k = 0 ∧ (CRS f a b n).1 = 1) ∨ (1 ≤ k ∧ (CRS f a b n).1 = 0)) := by
  intro n
  induction n with
  | zero => intro _; exact ⟨0, Nat.le_refl 0, by rw [Nat.add_zero]; exact (Int32.add_zero _).symm, Or.inl ⟨rfl, rfl⟩⟩
  | succ n ih =>
    intro hn
    obtain ⟨k, hk, e, c⟩ := ih (by omega)
    have s := (h (a.toInt.toNat + n) (by omega)).2
    have t := crs_ofNat (a := a) (n := n) h0 (by omega)
    have m1 : lkF f (Int32.ofNat (a.toInt.toNat + n)).toInt = lkF f ((a.toInt.toNat + n : Nat) : Int) := by rw [t]; congr 1; omega
    show ∃ k : Nat, k ≤ n + 1 ∧ G (a.toInt.toNat + n + 1) = _ ∧ ((k = 0 ∧ (crStep f (Int32.ofNat (a.toInt.toNat + n)) a b (CRS f a b n)).1 = 1) ∨ (1 ≤ k ∧ (crStep f (Int32.ofNat (a.toInt.toNat + n)) a b (CRS f a b n)).1 = 0))
    unfold crStep
    rw [m1, s, e]
    by_cases q : (lkF f ((a.toInt.toNat + n : Nat) : Int)).toInt < 0
    · refine ⟨k + 1, by omega, ?_, Or.inr ⟨by omega, ?_⟩⟩
      · unfold ngV; rw [if_pos q, i_ofNat_s, Int32.add_assoc]
      · exact if_neg (fun z => by have z2 := z.2; omega)
    · refine ⟨k, by omega, ?_, ?_⟩
      · unfold ngV; rw [if_neg q, Int32.add_zero]
      · rcases c with ⟨c0, c1⟩ | ⟨c0, c1⟩
        · exact Or.inl ⟨c0, if_pos ⟨by rw [c1]; decide, by omega⟩⟩
        · exact Or.inr ⟨c0, if_neg (fun z => by have z1 := z.1; rw [c1] at z1; exact z1 (by decide))⟩
theorem svy_l {f L G : Nat → Int32} (h : SVY f L G) {a b : Int32} (h0 : 0 ≤ a.toInt) : ∀ n : Nat, a.toInt + (n + 1) ≤ b.toInt → b.toInt ≤ 39 → (CRS f a b (n + 1)).1 = 1 → (CRS f a b (n + 1)).2 = L (a.toInt.toNat + (n + 1)) - L (a.toInt.toNat + 1) := by
  intro n
  induction n with
  | zero =>
    intro hn hb c
    show 0 + (if a.toInt < (Int32.ofNat (a.toInt.toNat + 0)).toInt ∧ (Int32.ofNat (a.toInt.toNat + 0)).toInt < b.toInt then lkF f (Int32.ofNat (a.toInt.toNat + 0)).toInt else 0) = _
    have t := crs_ofNat (a := a) (n := 0) h0 (by omega)
    rw [if_neg (by rw [t]; omega), Int32.sub_self]; rfl
  | succ n ih =>
    intro hn hb c
    have t := crs_ofNat (a := a) (n := n + 1) h0 (by omega)
    have c1 : (CRS f a b (n + 1)).1 = 1 ∧ 0 ≤ (lkF f (Int32.ofNat (a.toInt.toNat + (n + 1))).toInt).toInt := by
      have z : (if (CRS f a b (n + 1)).1.toInt ≠ 0 ∧ 0 ≤ (lkF f (Int32.ofNat (a.toInt.toNat + (n + 1))).toInt).toInt then (1 : Int32) else 0) = 1 := c
      by_cases q : (CRS f a b (n + 1)).1.toInt ≠ 0 ∧ 0 ≤ (lkF f (Int32.ofNat (a.toInt.toNat + (n + 1))).toInt).toInt
      · refine ⟨?_, q.2⟩
        obtain ⟨k, _, _, y⟩ := svy_g h (b := b) h0 (n + 1) (by omega)
        rcases y with y | y
        · exact y.2
        · exact absurd (by rw [y.2]; decide) q.1
      · rw [if_neg q] at z; exact absurd z (by decide)
    have i := ih (by omega) hb c1.1
    show (CRS f a b (n + 1)).2 + (if a.toInt < (Int32.ofNat (a.toInt.toNat + (n + 1))).toInt ∧ (Int32.ofNat (a.toInt.toNat + (n + 1))).toInt < b.toInt then lkF f (Int32.ofNat (a.toInt.toNat + (n + 1))).toInt else 0) = _
    have s := (h (a.toInt.toNat + (n + 1)) (by omega)).1
    rw [if_pos (by rw [t]; omega), i]
    have m1 : (Int32.ofNat (a.toInt.toNat + (n + 1))).toInt = ((a.toInt.toNat + (n + 1) : Nat) : Int) := by rw [t]; omega
    rw [m1] at c1 ⊢
    have p : plV (lkF f ((a.toInt.toNat + (n + 1) : Nat) : Int)) = lkF f ((a.toInt.toNat + (n + 1) : Nat) : Int) := if_neg (by omega)
    rw [p] at s
    rw [show a.toInt.toNat + (n + 1 + 1) = a.toInt.toNat + (n + 1) + 1 from by omega, s]
    rw [Int32.sub_eq_add_neg, Int32.sub_eq_add_neg, Int32.add_assoc, Int32.add_assoc, Int32.add_comm (-_)]
theorem cr_sums {f L G : Nat → Int32} (h : SVY f L G) {a b : Int32} (h0 : 0 ≤ a.toInt) (hab : a.toInt < b.toInt) (hb : b.toInt ≤ 39) : crEnd f a b = if G (b.toInt.toNat + 1) = G a.toInt.toNat ∧ (L b.toInt.toNat - L (a.toInt.toNat + 1)).toInt ≤ (f 6).toInt then 1 else 0 := by
  obtain ⟨n, hn⟩ : ∃ n : Nat, b.toInt = a.toInt + (n + 1) := ⟨(b.toInt - a.toInt).toNat - 1, by omega⟩
  obtain ⟨k, hk, e, c⟩ := svy_g h (b := b) h0 (n + 2) (by omega)
  have t := crs_ofNat (a := a) (n := n + 1) h0 (by omega)
  have en : (b.toInt + 1 - a.toInt).toNat = n + 2 := by omega
  have eb : b.toInt.toNat + 1 = a.toInt.toNat + (n + 2) := by omega
  have e2 : (CRS f a b (n + 2)).2 = (CRS f a b (n + 1)).2 := by
    show (CRS f a b (n + 1)).2 + (if a.toInt < (Int32.ofNat (a.toInt.toNat + (n + 1))).toInt ∧ (Int32.ofNat (a.toInt.toNat + (n + 1))).toInt < b.toInt then lkF f (Int32.ofNat (a.toInt.toNat + (n + 1))).toInt else 0) = _
    rw [if_neg (by rw [t]; omega), Int32.add_zero]
  have ko : (Int32.ofNat k).toInt = k := nI_toInt (by omega)
  unfold crEnd
  rw [en, eb, e2]
  rcases c with ⟨c0, c1⟩ | ⟨c0, c1⟩
  · have d1 : (CRS f a b (n + 1)).1 = 1 := by
      have z : (if (CRS f a b (n + 1)).1.toInt ≠ 0 ∧ 0 ≤ (lkF f (Int32.ofNat (a.toInt.toNat + (n + 1))).toInt).toInt then (1 : Int32) else 0) = 1 := c1
      by_cases q : (CRS f a b (n + 1)).1.toInt ≠ 0 ∧ 0 ≤ (lkF f (Int32.ofNat (a.toInt.toNat + (n + 1))).toInt).toInt
      · obtain ⟨k, _, _, y⟩ := svy_g h (b := b) h0 (n + 1) (by omega)
        rcases y with y | y
        · exact y.2
        · exact absurd (by rw [y.2]; decide) q.1
      · rw [if_neg q] at z; exact absurd z (by decide)
    have l := svy_l h h0 n (by omega) hb d1
    rw [c1, l, show a.toInt.toNat + (n + 1) = b.toInt.toNat from by omega]
    have g : G (a.toInt.toNat + (n + 2)) = G a.toInt.toNat := by rw [e, c0]; exact Int32.add_zero _
    by_cases q : (L b.toInt.toNat - L (a.toInt.toNat + 1)).toInt ≤ (f 6).toInt
    · rw [if_pos ⟨by decide, q⟩, if_pos ⟨g, q⟩]
    · rw [if_neg (fun z => q z.2), if_neg (fun z => q z.2)]
  · rw [c1, if_neg (fun z => z.1 (by decide)), if_neg (fun z => by
      have y := z.1
      rw [e] at y
      have y2 : Int32.ofNat k = 0 := by
        have w := congrArg (fun q => q - G a.toInt.toNat) y
        simp only [Int32.sub_self] at w
        rw [Int32.add_comm, Int32.add_sub_cancel] at w; exact w
      rw [y2] at ko
      have : (0 : Int32).toInt = 0 := by decide
      omega)]
/- what keeps leaks from being below 0: RAIN, REACH, since when a WORK stands -/
def SNC (f : Nat → Int32) (d : Int) : Prop := ∀ w : Nat, w < (f 1).toInt.toNat → (wN f w 3).toInt ≤ d
def NNG (f : Nat → Int32) : Prop := 0 ≤ (f 6).toInt ∧ (∀ j : Nat, j < 12 → 0 ≤ (f (7 + j)).toInt ∧ (f (7 + j)).toInt ≤ 9) ∧ SNC f (f 0).toInt
theorem SNC.at {f g : Nat → Int32} {d : Int} (b : (f 1).toInt ≤ 60) (h : SNC f d) (e : ∀ i : Nat, (i = 1 ∨ (99 ≤ i ∧ i < 459 ∧ (i - 99) % 6 = 3)) → g i = f i) : SNC g d := by
  intro w hw
  rw [e 1 (by omega)] at hw
  unfold wN
  rw [e (99 + 6 * w + 3) (by omega)]; exact h w hw
theorem NNG.at {f g : Nat → Int32} (b : (f 1).toInt ≤ 60) (h : NNG f) (e : ∀ i : Nat, (i < 2 ∨ (6 ≤ i ∧ i < 19) ∨ (99 ≤ i ∧ i < 459 ∧ (i - 99) % 6 = 3)) → g i = f i) : NNG g := by
  refine ⟨by rw [e 6 (by omega)]; exact h.1, fun j hj => by rw [e (7 + j) (by omega)]; exact h.2.1 j hj, ?_⟩
  rw [e 0 (by omega)]
  exact SNC.at b h.2.2 (fun i hi => e i (by omega))
theorem SNC.com {f : Nat → Int32} {d : Int} {k m z t : Int32} (b : (f 1).toInt < 60) (b0 : 0 ≤ (f 1).toInt) (h : SNC f d) (ht : t.toInt ≤ d) : SNC (comS f k m z t) d := by
  intro w hw
  by_cases c : w = (f 1).toInt.toNat
  · have e : wN (comS f k m z t) w 3 = t := by
      rw [c]; unfold wN comS
      rw [sp_ne (by omega), sp_ne (by omega), sp_at]
    rw [e]; exact ht
  · rw [comS_w c (by omega)]
    have e1 : comS f k m z t 1 = f 1 + 1 := by
      unfold comS
      rw [sp_ne (by omega), sp_ne (by omega), sp_ne (by omega), sp_ne (by omega), sp_ne (by omega), sp_ne (by omega), sp_at]
    rw [e1, k_addv rfl zl_1 (by omega) (by omega)] at hw
    exact h w (by omega)
theorem SNC.wrk {f : Nat → Int32} {p : Nat} {d : Int} (hp : p < 4) (b : SB f) (h : SNC f d) (hd : (f 0 + 1).toInt ≤ d) : SNC (wrkS f p) d := by
  have n1 := b.n1
  have eD : ∀ i : Nat, i < 459 → wrkD f p i = f i := fun i hi => sp_ne (by omega)
  have hD : SNC (wrkD f p) d := SNC.at n1.2 h (fun i hi => eD i (by omega))
  have e1 : wrkD f p 1 = f 1 := eD 1 (by omega)
  unfold wrkS
  by_cases c : (wdF f (pN f p 0).toInt).toInt = 0
  · rw [if_pos c]
    by_cases c1 : (efN (wrkD f p) (pN f p 0).toInt (rnF (wrkD f p))).toInt ≤ (pN f p 7 + pN f p 2).toInt ∧ 0 < (pN f p 4).toInt ∧ (f 1).toInt < 60
    · rw [if_pos c1]
      have hn := c1.2.2
      have hC : SNC (wrkC (wrkD f p) p) d := SNC.com (by rw [e1]; exact hn) (by rw [e1]; exact n1.1) hD (by rw [eD 0 (by omega)]; exact hd)
      have eC : wrkC (wrkD f p) p 1 = f 1 + 1 := by
        unfold wrkC comS
        rw [sp_ne (by omega), sp_ne (by omega), sp_ne (by omega), sp_ne (by omega), sp_ne (by omega), sp_ne (by omega), sp_at, e1]
      unfold wrkE
      exact SNC.at (by rw [eC, k_addv rfl zl_1 (by omega) (by omega)]; omega) hC (fun i hi => by rw [sp_ne (by omega), sp_ne (by omega)])
    · rw [if_neg c1]; exact hD
  · rw [if_neg c]
    by_cases c1 : 0 ≤ (pN f p 0 + pN f p 1).toInt ∧ (pN f p 0 + pN f p 1).toInt ≤ 39
    · rw [if_pos c1]; exact SNC.at n1.2 h (fun i hi => by rw [sp_ne (by omega), sp_ne (by omega), sp_ne (by omega)])
    · rw [if_neg c1]; exact SNC.at n1.2 h (fun i hi => by rw [sp_ne (by omega), sp_ne (by omega), sp_ne (by omega)])
theorem SNC.dB {f : Nat → Int32} {d : Int} (s : SIX f (-1)) (h : SNC f d) (hd : (f 0 + 1).toInt ≤ d) : ∀ n : Nat, n ≤ 4 → (n : Int) ≤ (f 2).toInt → SNC (dyB f n) d := by
  intro n
  induction n with
  | zero => intro _ _; exact h
  | succ n ih =>
    intro hn h2
    have i := ih (by omega) (by omega)
    obtain ⟨z1, z2⟩ := dyB_six s n (by omega) (by omega)
    show SNC (if (pN (dyB f n) n 8).toInt = 0 then _ else _) d
    by_cases c : (pN (dyB f n) n 8).toInt = 0
    · rw [if_pos c]; exact SNC.wrk (by omega) z1.1 i (by rw [z2 0 (by omega) (by omega)]; exact hd)
    · rw [if_neg c]; exact i
theorem snc_eat {f : Nat → Int32} {p : Nat} {i : Nat} (hn : (f 1).toInt.toNat ≤ 60) (hi : i < 459) (h3 : 99 ≤ i → (i - 99) % 6 ≠ 5) : eatP f p i = f i := by
  by_cases c : i < 99
  · exact eat_off hn (Or.inl c)
  · have z := eaT_w f (pN f p 0).toInt (20 * pN f p 2 - pN f p 5) (f 1).toInt.toNat (w := (i - 99) / 6) (k := (i - 99) % 6) (by omega) (Or.inl (h3 (by omega)))
    unfold wN at z
    rw [show 99 + 6 * ((i - 99) / 6) + (i - 99) % 6 = i from by omega] at z
    rw [← z]
    unfold eatP
    rw [sp_ne (by omega), sp_ne (by omega)]; rfl
theorem SNC.dA {f : Nat → Int32} {d : Int} (s : SIX f (-1)) (h : SNC f d) : ∀ n : Nat, n ≤ 4 → (n : Int) ≤ (f 2).toInt → SNC (dyA f n) d := by
  intro n
  induction n with
  | zero => intro _ _; exact h
  | succ n ih =>
    intro hn h2
    have i := ih (by omega) (by omega)
    obtain ⟨z1, z2⟩ := dyA_six s n (by omega) (by omega)
    show SNC (if (pN (dyA f n) n 8).toInt = 2 then dyA f n else sttS (eatP (drkS (dyA f n) n) n) n) d
    by_cases c : (pN (dyA f n) n 8).toInt = 2
    · rw [if_pos c]; exact i
    · rw [if_neg c]
      have b := z1.1.n1
      have e1 : drkS (dyA f n) n 1 = dyA f n 1 := drk_off (by omega)
      exact SNC.at b.2 i (fun j hj => by rw [stt_off (by omega), snc_eat (by rw [e1]; omega) (by omega) (by omega), drk_off (by omega)])
theorem NNG.day {f : Nat → Int32} (s : SIX f (-1)) (h : NNG f) (hd : (f 0).toInt ≤ 1999) : NNG (dayS f) := by
  obtain ⟨s1, s2, s3⟩ := day_six s hd
  have n0 := s.1.n0
  have n1 := s.1.n1
  have n2 := s.1.n2
  refine ⟨by rw [s2 6 (by omega) (by omega) (by omega)]; exact h.1, fun j hj => by rw [s2 (7 + j) (by omega) (by omega) (by omega)]; exact h.2.1 j hj, ?_⟩
  rw [s3]
  have a0 : SIX (eatS f) (-1) := eatS_six s
  have e2 : eatS f 2 = f 2 := eatS_2 s
  have a1 : SNC (eatS f) ((f 0).toInt + 1) := by
    intro w hw
    have e1 : eatS f 1 = f 1 := eatN_at f (f 1).toInt.toNat (i := 1) (Or.inl (by omega)) (by omega)
    rw [e1] at hw
    have e3 : wN (eatS f) w 3 = wN f w 3 := eatN_w _ (by omega) (Or.inl (by omega))
    rw [e3]
    have z := h.2.2 w hw
    omega
  have e0 : eatS f 0 = f 0 := eatN_at f (f 1).toInt.toNat (i := 0) (Or.inl (by omega)) (by omega)
  have t : (f 0 + 1).toInt = (f 0).toInt + 1 := k_addv rfl zl_1 (by omega) (by omega)
  have b0 := dyA_six a0 (f 2).toInt.toNat (by omega) (by rw [e2]; omega)
  have b1 := SNC.dA a0 a1 (f 2).toInt.toNat (by omega) (by rw [e2]; omega)
  have eA2 : dyA (eatS f) (f 2).toInt.toNat 2 = f 2 := (b0.2 2 (by omega)).trans e2
  have eA0 : dyA (eatS f) (f 2).toInt.toNat 0 = f 0 := (b0.2 0 (by omega)).trans e0
  have c1 := SNC.dB b0.1 b1 (by rw [eA0, t]; omega) (f 2).toInt.toNat (by omega) (by rw [eA2]; omega)
  have c0 := (dyB_six b0.1 (f 2).toInt.toNat (by omega) (by rw [eA2]; omega)).1.1.n1
  exact SNC.at c0.2 c1 (fun i hi => by show upd (dayC f) 0 (dayC f 0 + 1) i = _; rw [sp_ne (by omega)]; rfl)
theorem NNG.days {f : Nat → Int32} (s : SIX f (-1)) (h : NNG f) : ∀ n : Nat, (f 0).toInt + n ≤ 2000 → NNG (daysF f n) := by
  intro n
  induction n with
  | zero => intro _; exact h
  | succ n ih =>
    intro hn
    obtain ⟨z1, _, z3⟩ := days_six s n (by omega)
    exact NNG.day z1 (ih (by omega)) (by omega)
theorem NNG.dys {f : Nat → Int32} {n : Int32} (s : SIX f (-1)) (h : NNG f) : NNG (dysS f n) := by
  unfold dysS
  split
  · rename_i c; exact NNG.days s h _ (by omega)
  · exact h
theorem NNG.rain {f : Nat → Int32} {a v : Int32} (s : SB f) (h : NNG f) : NNG (rainS 7 f a v) := by
  unfold rainS
  split
  · rename_i c
    refine ⟨by rw [sp_ne (by omega)]; exact h.1, fun j hj => ?_, ?_⟩
    · by_cases q : j = a.toInt.toNat
      · rw [q, sp_at]; exact c.2.2
      · rw [sp_ne (by omega)]; exact h.2.1 j hj
    · rw [sp_ne (by omega)]
      exact SNC.at s.n1.2 h.2.2 (fun i hi => sp_ne (by omega))
  · exact h
theorem NNG.rch {f : Nat → Int32} {v : Int32} (s : SB f) (h : NNG f) : NNG (rchS f v) := by
  unfold rchS
  split
  · rename_i c
    refine ⟨by rw [sp_at]; omega, fun j hj => by rw [sp_ne (by omega)]; exact h.2.1 j hj, ?_⟩
    rw [sp_ne (by omega)]
    exact SNC.at s.n1.2 h.2.2 (fun i hi => sp_ne (by omega))
  · exact h
theorem NNG.work {f : Nat → Int32} {k m z : Int32} (s : SB f) (h : NNG f) : NNG (workS f k m z) := by
  have n1 := s.n1
  unfold workS
  split
  · rename_i c
    have o : ∀ i : Nat, i ≠ 1 → i < 99 → comS f k m z (f 0) i = f i := fun i h1 h2 => comS_off (by omega) ⟨h1, Or.inl h2⟩
    refine ⟨by rw [o 6 (by omega) (by omega)]; exact h.1, fun j hj => by rw [o (7 + j) (by omega) (by omega)]; exact h.2.1 j hj, ?_⟩
    rw [o 0 (by omega) (by omega)]
    exact SNC.com (by omega) n1.1 h.2.2 (Int.le_refl _)
  · exact h
theorem NNG.fell {f : Nat → Int32} {w : Int32} (s : SB f) (h : NNG f) : NNG (fellS f w) := by
  have n1 := s.n1
  unfold fellS
  split
  · exact NNG.at n1.2 h (fun i hi => sp_ne (by omega))
  · exact h
theorem NNG.lay {f : Nat → Int32} {w n : Int32} (s : SB f) (h : NNG f) : NNG (layS f w n) := by
  have n1 := s.n1
  unfold layS
  split
  · exact NNG.at n1.2 h (fun i hi => sp_ne (by omega))
  · exact h
theorem NNG.rest {f g x : Nat → Int32} {i : Int32} (h : NNG f) (h1 : i.toInt = 0 ∨ NNG g) (e : x = ifF i f g) : NNG x := by
  rw [e]; unfold ifF
  split
  · exact h
  · rename_i c; rcases h1 with z | z
    · exact absurd z c
    · exact z
/- a STATION's own MILE is WIRED, and what leaks isn't below 0 -/
theorem lk_v1 {f : Nat → Int32} (s : SB f) (h : NNG f) {w : Int32} (w0 : 0 ≤ w.toInt) (w1 : w.toInt < (f 1).toInt) : 1 ≤ (1 + rnF f + (f 0 - wW f w 3) / 30).toInt ∧ (1 + rnF f + (f 0 - wW f w 3) / 30).toInt ≤ 2147483647 := by
  have n0 := s.n0
  have n1 := s.n1
  have b := SB.w3 s w0 (by omega)
  have c : (wW f w 3).toInt ≤ (f 0).toInt := h.2.2 w.toInt.toNat (by omega)
  have r := h.2.1 ((f 0).toInt / 30 % 12).toNat (by omega)
  have er : rnF f = f (7 + ((f 0).toInt / 30 % 12).toNat) := rfl
  have d : (f 0 - wW f w 3).toInt = (f 0).toInt - (wW f w 3).toInt := k_subv rfl rfl (by omega) (by omega)
  have q : ((f 0 - wW f w 3) / 30).toInt = ((f 0).toInt - (wW f w 3).toInt) / 30 := (k_divv (w := 0) rfl (show (30 : Int32).toInt = 30 from by decide) (by omega) (by decide)).trans (by rw [d])
  have a : (1 + rnF f).toInt = 1 + (rnF f).toInt := k_addv zl_1 rfl (by rw [er]; omega) (by rw [er]; omega)
  have v : (1 + rnF f + (f 0 - wW f w 3) / 30).toInt = 1 + (rnF f).toInt + ((f 0).toInt - (wW f w 3).toInt) / 30 := k_addv a q (by rw [er]; omega) (by rw [er]; omega)
  rw [v, er]; omega
theorem lk_wired {f : Nat → Int32} (s : SB f) (h : NNG f) {m : Int} : ∀ n : Nat, n ≤ (f 1).toInt.toNat → (∃ w : Nat, w < n ∧ (wW f (Int32.ofNat w) 1).toInt = m ∧ stF f (Int32.ofNat w) 1 = 1) → 0 ≤ (LK f m n).toInt := by
  intro n
  induction n with
  | zero => intro _ ⟨w, hw, _⟩; exact absurd hw (by omega)
  | succ n ih =>
    intro hn ⟨w, hw, e1, e2⟩
    have n1 := s.n1
    have t : (Int32.ofNat n).toInt = (n : Int) := nI_toInt (by omega)
    show 0 ≤ (lkStep f m (Int32.ofNat n) (LK f m n)).toInt
    unfold lkStep
    by_cases c : (wW f (Int32.ofNat n) 1).toInt = m ∧ stF f (Int32.ofNat n) 1 = 1
    · rw [if_pos c]
      have v := lk_v1 s h (w := Int32.ofNat n) (by omega) (by omega)
      generalize 1 + rnF f + (f 0 - wW f (Int32.ofNat n) 3) / 30 = v1 at v ⊢
      have v2 : 1 ≤ (if 9 < v1.toInt then (9 : Int32) else v1).toInt := by
        split
        · decide
        · omega
      dsimp only
      generalize (if 9 < v1.toInt then (9 : Int32) else v1) = y at v2 ⊢
      have v3 : 0 ≤ (if stF f (Int32.ofNat n) 2 = 1 then y / 2 else y).toInt := by
        split
        · rw [k_divv (v := y / 2) (w := 0) rfl (show (2 : Int32).toInt = 2 from by decide) (by omega) (by decide)]; omega
        · omega
      generalize (if stF f (Int32.ofNat n) 2 = 1 then y / 2 else y) = z at v3 ⊢
      split <;> omega
    · rw [if_neg c]
      refine ih (by omega) ⟨w, ?_, e1, e2⟩
      by_cases q : w = n
      · exact absurd ⟨by rw [← q]; exact e1, by rw [← q]; exact e2⟩ c
      · omega
theorem lk_own {f : Nat → Int32} (s : SB f) (h : NNG f) {w : Int32} (w0 : 0 ≤ w.toInt) (w1 : w.toInt < (f 1).toInt) (e : stF f w 1 = 1) : 0 ≤ (lkF f (wW f w 1).toInt).toInt := by
  refine lk_wired s h _ (Nat.le_refl _) ⟨w.toInt.toNat, by omega, ?_, ?_⟩
  · rw [k_ofNat w0]
  · rw [k_ofNat w0]; exact e
theorem st_31 {f : Nat → Int32} {w : Int32} (h : stF f w 3 = 1) : stF f w 1 = 1 := by
  obtain ⟨h4, h0⟩ := st_1 (Or.inl rfl) h
  unfold stF mU; rw [if_pos h4, if_pos (by omega)]
theorem st_33 {f : Nat → Int32} {w : Int32} (h0 : (wW f w 0).toInt = 3) (h4 : (wW f w 4).toInt = 0) : stF f w 3 = 1 := by
  unfold stF mU; rw [if_pos h4, if_pos (Or.inl h0)]
theorem st_30 {f : Nat → Int32} {w : Int32} {o : Int} (h4 : (wW f w 4).toInt ≠ 0) : stF f w o = 0 := by
  unfold stF; rw [if_neg h4]
theorem i_addsub (x y : Int32) : x + y - y = x := by rw [Int32.add_sub_cancel]
theorem i_addsub2 (x y : Int32) : x + y - x = y := by rw [Int32.add_comm, Int32.add_sub_cancel]
theorem cr_same {f : Nat → Int32} (s : SB f) (h : NNG f) {a b : Int32} (b0 : 0 ≤ b.toInt) (b1 : b.toInt < (f 1).toInt) (ua : stF f a 3 = 1) (ub : stF f b 3 = 1) (e : (wW f a 1).toInt = (wW f b 1).toInt) : crF f a b = 1 := by
  have n1 := s.n1
  have l := lk_own s h b0 b1 (st_31 ub)
  have r := SB.w1 s b0 (by omega)
  unfold crF
  rw [if_pos ⟨ua, ub⟩, if_neg (by omega), i_addsub, k_inj e]
  generalize wW f b 1 = x at l r
  unfold crEnd
  rw [show (x.toInt + 1 - x.toInt).toNat = 1 from by omega]
  have t : Int32.ofNat (x.toInt.toNat + 0) = x := k_ofNat r.1
  refine if_pos ⟨?_, ?_⟩
  · show (if (1 : Int32).toInt ≠ 0 ∧ 0 ≤ (lkF f (Int32.ofNat (x.toInt.toNat + 0)).toInt).toInt then (1 : Int32) else 0).toInt ≠ 0
    rw [t, if_pos ⟨by decide, l⟩]; decide
  · show (0 + (if x.toInt < (Int32.ofNat (x.toInt.toNat + 0)).toInt ∧ (Int32.ofNat (x.toInt.toNat + 0)).toInt < x.toInt then lkF f (Int32.ofNat (x.toInt.toNat + 0)).toInt else 0)).toInt ≤ (f 6).toInt
    rw [t, if_neg (by omega)]; exact h.1
theorem cr_far {f L G : Nat → Int32} (s : SB f) (v : SVY f L G) {a b lo hi : Int32} (ua : stF f a 3 = 1) (ub : stF f b 3 = 1) (a0 : 0 ≤ a.toInt) (a1 : a.toInt ≤ 59) (b0 : 0 ≤ b.toInt) (b1 : b.toInt ≤ 59) (e : (lo = wW f a 1 ∧ hi = wW f b 1) ∨ (lo = wW f b 1 ∧ hi = wW f a 1)) (hl : lo.toInt < hi.toInt) : crF f a b = if G (hi.toInt.toNat + 1) = G lo.toInt.toNat ∧ (L hi.toInt.toNat - L (lo.toInt.toNat + 1)).toInt ≤ (f 6).toInt then 1 else 0 := by
  have ra := SB.w1 s a0 a1
  have rb := SB.w1 s b0 b1
  unfold crF
  rw [if_pos ⟨ua, ub⟩]
  rcases e with ⟨e1, e2⟩ | ⟨e1, e2⟩
  · rw [← e1, ← e2, if_pos hl, i_addsub2]; exact cr_sums v (by rw [e1]; exact ra.1) hl (by rw [e2]; exact rb.2)
  · rw [← e1, ← e2, if_neg (by omega), i_addsub]; exact cr_sums v (by rw [e1]; exact rb.1) hl (by rw [e2]; exact ra.2)
theorem cr_y {f L G : Nat → Int32} (s : SB f) (v : SVY f L G) {a b lo hi g1 g2 l1 l2 d : Int32} (ua : stF f a 3 = 1) (ub : stF f b 3 = 1) (a0 : 0 ≤ a.toInt) (a1 : a.toInt ≤ 59) (b0 : 0 ≤ b.toInt) (b1 : b.toInt ≤ 59) (e : (lo = wW f a 1 ∧ hi = wW f b 1) ∨ (lo = wW f b 1 ∧ hi = wW f a 1)) (hl : lo.toInt < hi.toInt) (eg1 : g1 = G (hi.toInt.toNat + 1)) (eg2 : g2 = G lo.toInt.toNat) (el1 : l1 = L hi.toInt.toNat) (el2 : l2 = L (lo.toInt.toNat + 1)) (ed : d = l1 - l2) (c : g1.toInt = g2.toInt) (c2 : d.toInt ≤ (f 6).toInt) : crF f a b = 1 := by
  rw [cr_far s v ua ub a0 a1 b0 b1 e hl, ← eg1, ← eg2, ← el1, ← el2, ← ed, if_pos ⟨k_inj c, c2⟩]
theorem cr_ng {f L G : Nat → Int32} (s : SB f) (v : SVY f L G) {a b lo hi g1 g2 : Int32} (ua : stF f a 3 = 1) (ub : stF f b 3 = 1) (a0 : 0 ≤ a.toInt) (a1 : a.toInt ≤ 59) (b0 : 0 ≤ b.toInt) (b1 : b.toInt ≤ 59) (e : (lo = wW f a 1 ∧ hi = wW f b 1) ∨ (lo = wW f b 1 ∧ hi = wW f a 1)) (hl : lo.toInt < hi.toInt) (eg1 : g1 = G (hi.toInt.toNat + 1)) (eg2 : g2 = G lo.toInt.toNat) (c : g1.toInt ≠ g2.toInt) : crF f a b = 0 := by
  rw [cr_far s v ua ub a0 a1 b0 b1 e hl, ← eg1, ← eg2, if_neg (fun z => c (by rw [z.1]))]
theorem cr_nl {f L G : Nat → Int32} (s : SB f) (v : SVY f L G) {a b lo hi l1 l2 d : Int32} (ua : stF f a 3 = 1) (ub : stF f b 3 = 1) (a0 : 0 ≤ a.toInt) (a1 : a.toInt ≤ 59) (b0 : 0 ≤ b.toInt) (b1 : b.toInt ≤ 59) (e : (lo = wW f a 1 ∧ hi = wW f b 1) ∨ (lo = wW f b 1 ∧ hi = wW f a 1)) (hl : lo.toInt < hi.toInt) (el1 : l1 = L hi.toInt.toNat) (el2 : l2 = L (lo.toInt.toNat + 1)) (ed : d = l1 - l2) (c2 : (f 6).toInt < d.toInt) : crF f a b = 0 := by
  rw [cr_far s v ua ub a0 a1 b0 b1 e hl, ← el1, ← el2, ← ed, if_neg (fun z => by have := z.2; omega)]
theorem cr_comm {f L G : Nat → Int32} (s : SB f) (h : NNG f) (v : SVY f L G) {a b : Int32} (a0 : 0 ≤ a.toInt) (a1 : a.toInt < (f 1).toInt) (b0 : 0 ≤ b.toInt) (b1 : b.toInt < (f 1).toInt) : crF f a b = crF f b a := by
  have n1 := s.n1
  by_cases u : stF f a 3 = 1 ∧ stF f b 3 = 1
  · rcases Int.lt_trichotomy (wW f a 1).toInt (wW f b 1).toInt with c | c | c
    · rw [cr_far s v u.1 u.2 a0 (by omega) b0 (by omega) (Or.inl ⟨rfl, rfl⟩) c, cr_far s v u.2 u.1 b0 (by omega) a0 (by omega) (Or.inr ⟨rfl, rfl⟩) c]
    · rw [cr_same s h b0 b1 u.1 u.2 c, cr_same s h a0 a1 u.2 u.1 c.symm]
    · rw [cr_far s v u.1 u.2 a0 (by omega) b0 (by omega) (Or.inr ⟨rfl, rfl⟩) c, cr_far s v u.2 u.1 b0 (by omega) a0 (by omega) (Or.inl ⟨rfl, rfl⟩) c]
  · unfold crF; rw [if_neg u, if_neg (fun z => u ⟨z.2, z.1⟩)]
def SVN (f L G : Nat → Int32) (n : Nat) : Prop := ∀ m : Nat, m < n → L (m + 1) = L m + plV (lkF f m) ∧ G (m + 1) = G m + ngV (lkF f m)
theorem SVN.z {f L G : Nat → Int32} {z : Int32} (h : z.toInt = 0) : SVN f L G z.toInt.toNat := fun m hm => absurd hm (by omega)
theorem SVN.s {f L G L1 G1 : Nat → Int32} {i i1 j1 j2 lk a b x y u v : Int32} (h : SVN f L G i.toInt.toNat) (h0 : 0 ≤ i.toInt) (h1 : i1.toInt = i.toInt + 1) (hk : lk = lkF f i.toInt) (t1 : j1.toInt = i.toInt + 1) (t2 : j2.toInt = i.toInt + 1) (ea : a = L i.toNatClampNeg) (ex : x = a + u) (eu : u = plV lk) (e1 : L1 = upd L j1.toNatClampNeg x) (eb : b = G i.toNatClampNeg) (ey : y = b + v) (ev : v = ngV lk) (e2 : G1 = upd G j2.toNatClampNeg y) : SVN f L1 G1 i1.toInt.toNat := by
  intro m hm
  have E1 : L1 = upd L (i.toInt.toNat + 1) x := up_in e1 (by omega)
  have E2 : G1 = upd G (i.toInt.toNat + 1) y := up_in e2 (by omega)
  rw [k_clamp] at ea eb
  by_cases c : m = i.toInt.toNat
  · have hm2 : (m : Int) = i.toInt := by omega
    rw [hm2, ← hk, E1, E2, c, sp_at, sp_at, sp_ne (by omega), sp_ne (by omega), ex, ey, ea, eb, eu, ev]; exact ⟨rfl, rfl⟩
  · rw [E1, E2, sp_ne (by omega), sp_ne (by omega), sp_ne (by omega), sp_ne (by omega)]; exact h m (by omega)
theorem SVN.e {f L G : Nat → Int32} {i : Int32} (h : SVN f L G i.toInt.toNat) (h1 : 40 ≤ i.toInt) : SVY f L G := fun m hm => h m (by omega)
theorem cr_e {x y lo hi : Int32} (e : (lo.toInt = x.toInt ∧ hi.toInt = y.toInt) ∨ (lo.toInt = y.toInt ∧ hi.toInt = x.toInt)) : (lo = x ∧ hi = y) ∨ (lo = y ∧ hi = x) := by
  rcases e with ⟨a, b⟩ | ⟨a, b⟩
  · exact Or.inl ⟨k_inj a, k_inj b⟩
  · exact Or.inr ⟨k_inj a, k_inj b⟩
def rdsR (f : Nat → Int32) (a b : Int32) : Int32 := if 0 ≤ a.toInt ∧ a.toInt < (f 1).toInt ∧ 0 ≤ b.toInt ∧ b.toInt < (f 1).toInt ∧ a.toInt ≠ b.toInt then (if (wW f a 0).toInt = 3 ∧ (wW f b 0).toInt = 3 then crF f a b else (-1000005)) else (-1000001)
def NPL (i : Nat) : Prop := i < 2 ∨ (6 ≤ i ∧ i < 19) ∨ (99 ≤ i ∧ i < 459)
theorem nof_land {f : Nat → Int32} {a b c : Int32} {i : Nat} (hi : NPL i) : landS 59 (landS 19 f a b c b) a b c c i = f i := by
  unfold NPL at hi; rw [landS_off _ _ _ _ (by omega), landS_off _ _ _ _ (by omega)]
theorem nof_soil {f y z w : Nat → Int32} {a m : Int32} (hz : ∀ k : Nat, k < 4 → 0 ≤ (z k).toInt ∧ (z k).toInt ≤ 36) {i : Nat} (hi : NPL i) : soilS 19 f y z w a m i = f i := by
  unfold NPL at hi; exact soilS_off a m hz (by omega)
theorem nof_party {f : Nat → Int32} {q : Int} {a w e b : Int32} (h : SIX f q) {i : Nat} (hi : NPL i) : partyS f a w e b i = f i := by
  unfold NPL at hi
  have n2 := h.1.n2
  unfold partyS
  by_cases c : 0 ≤ a.toInt ∧ a.toInt ≤ 39 ∧ (w.toInt = 1 ∨ w.toInt = -1) ∧ 0 ≤ b.toInt ∧ b.toInt ≤ 99 ∧ 100 ≤ e.toInt ∧ e.toInt / 100 ≤ 50 ∧ e.toInt % 100 ≤ 50 ∧ (f 2).toInt < 4
  · rw [if_pos c]
    unfold ptyS
    rw [sp_ne (by omega), sp_ne (by omega), sp_ne (by omega), sp_ne (by omega), sp_ne (by omega)]
    exact OFP.pad (by omega) i (by omega) (by omega)
  · rw [if_neg c]
theorem nof_gv {f : Nat → Int32} {p n : Int32} {j : Nat} {m : Int} (h0 : 0 ≤ p.toInt) (h1 : p.toInt ≤ 3) (hj : j < 9) {i : Nat} (hi : NPL i) : gvS f p n j m i = f i := by
  unfold NPL at hi
  unfold gvS
  by_cases c : 1 ≤ n.toInt ∧ n.toInt ≤ m ∧ (pW f p 8).toInt ≠ 2 ∧ (pW f p j + n).toInt ≤ m
  · rw [if_pos c]; exact sp_ne (by omega)
  · rw [if_neg c]
theorem nof_give {f : Nat → Int32} {q : Int} {p k n : Int32} (h : SIX f q) {i : Nat} (hi : NPL i) : giveS f p k n i = f i := by
  have n2 := h.1.n2
  unfold giveS
  by_cases c : 0 ≤ p.toInt ∧ p.toInt < (f 2).toInt ∧ 0 ≤ k.toInt ∧ k.toInt ≤ 2
  · rw [if_pos c]
    by_cases c1 : k.toInt = 2
    · rw [if_pos c1]; exact nof_gv (by omega) (by omega) (by omega) hi
    · rw [if_neg c1]
      by_cases c2 : k.toInt = 0
      · rw [if_pos c2]; exact nof_gv (by omega) (by omega) (by omega) hi
      · rw [if_neg c2]; exact nof_gv (by omega) (by omega) (by omega) hi
  · rw [if_neg c]
theorem nof_rest {f : Nat → Int32} {q : Int} {p b : Int32} (h : SIX f q) {i : Nat} (hi : NPL i) : rstPS f p b i = f i := by
  unfold NPL at hi
  have n2 := h.1.n2
  unfold rstPS
  by_cases c : 0 ≤ p.toInt ∧ p.toInt < (f 2).toInt ∧ (pW f p 8).toInt ≠ 2
  · rw [if_pos c]; exact sp_ne (by omega)
  · rw [if_neg c]
theorem nof_turn {f : Nat → Int32} {q : Int} {p : Int32} (h : SIX f q) {i : Nat} (hi : NPL i) : turnS f p i = f i := by
  unfold NPL at hi
  have n2 := h.1.n2
  unfold turnS
  by_cases c : 0 ≤ p.toInt ∧ p.toInt < (f 2).toInt ∧ (pW f p 8).toInt ≠ 2
  · rw [if_pos c]; exact sp_ne (by omega)
  · rw [if_neg c]
theorem nof_hand {f : Nat → Int32} {q : Int} {p r n : Int32} (h : SIX f q) {i : Nat} (hi : NPL i) : handS f p r n i = f i := by
  unfold NPL at hi
  have n2 := h.1.n2
  unfold handS
  by_cases c : 0 ≤ p.toInt ∧ p.toInt < (f 2).toInt ∧ 0 ≤ r.toInt ∧ r.toInt < (f 2).toInt ∧ p.toInt ≠ r.toInt ∧ 1 ≤ n.toInt ∧ n.toInt ≤ 50 ∧ (pW f p 8).toInt ≠ 2 ∧ (pW f r 8).toInt ≠ 2 ∧ (pW f p 0).toInt = (pW f r 0).toInt ∧ n.toInt + 1 ≤ (pW f p 2).toInt ∧ (pW f r 2).toInt + n.toInt ≤ 50
  · rw [if_pos c, sp_ne (by omega), sp_ne (by omega)]
  · rw [if_neg c]
theorem nof_tell {f : Nat → Int32} {v : Int32} (h : SB f) {i : Nat} (hi : NPL i) : tllS f v i = f i := by
  unfold NPL at hi
  have n5 := h.n5
  unfold tllS
  split
  · rw [sp_ne (by omega), sp_ne (by omega)]
  · rfl
theorem NNG.fr {f g : Nat → Int32} (s : SB f) (h : NNG f) (o : ∀ i : Nat, NPL i → g i = f i) : NNG g := NNG.at s.n1.2 h (fun i hi => o i (by unfold NPL; omega))
theorem NNG.ck {f : Nat → Int32} (s : SB f) (h : NNG f) : NNG (upd f 5 0) := NNG.fr s h (fun i hi => by unfold NPL at hi; exact sp_ne (by omega))
theorem NNG.feed {f y : Nat → Int32} {u : Int64} {m : Int32} (s : SB f) (h : NNG f) (e : ∀ j : Nat, j ≠ 4 → y j = fdP f u m j) : NNG y := NNG.fr s h (fun i hi => by unfold NPL at hi; rw [e i (by omega)]; exact fdP_of2 s.n4.1 (by omega))
theorem NNG.rate {f y : Nat → Int32} {u t : Int32} (s : SB f) (h : NNG f) (e : RTX f y u t) : NNG y := NNG.fr s h (fun i hi => by unfold NPL at hi; exact e.1 i (by omega) (by omega) (by omega))
theorem NNG.z : NNG (fun _ => (0 : Int32)) := ⟨by decide, fun _ _ => (show 0 ≤ (0 : Int32).toInt ∧ (0 : Int32).toInt ≤ 9 from ⟨by decide, by decide⟩), fun w hw => absurd hw (by rw [show (0 : Int32).toInt.toNat = 0 from by decide]; omega)⟩

