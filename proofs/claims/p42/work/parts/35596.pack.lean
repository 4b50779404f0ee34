/- LOADS: rows of digits to the base 4; the best of them; what is chosen from the first THING on -/
def dgt (Q j : Nat) : Nat := Q / 4 ^ j % 4
def ldS (w : Nat → Int) (T Q : Nat) : Nat → Int
  | 0 => 0
  | k + 1 => ldS w T Q k + (dgt Q (T - 1 - k) : Int) * w k
def sfx (w : Nat → Int) (T Q : Nat) : Nat → Int
  | 0 => 0
  | m + 1 => (dgt Q m : Int) * w (T - 1 - m) + sfx w T Q m
def ldF (h c : Nat → Int) (T : Nat) (C : Int) (Q : Nat) : Prop := (∀ k : Nat, k < T → (dgt Q (T - 1 - k) : Int) ≤ c k) ∧ ldS h T Q T ≤ C
def ldV (h d : Nat → Int) (T Q : Nat) : Int := 1024 * ldS d T Q T - ldS h T Q T
def LDB (h d c : Nat → Int) (T : Nat) (C : Int) (R : Nat) : Prop := R < 4 ^ T ∧ ldF h c T C R ∧ ∀ Q : Nat, Q < 4 ^ T → ldF h c T C Q → ldV h d T Q < ldV h d T R ∨ (ldV h d T Q = ldV h d T R ∧ Q ≤ R)
theorem LDB.un {h d c : Nat → Int} {T : Nat} {C : Int} {R S : Nat} (a : LDB h d c T C R) (b : LDB h d c T C S) : R = S := by
  have x := a.2.2 S b.1 b.2.1
  have y := b.2.2 R a.1 a.2.1
  omega
theorem dgt_lt (Q j : Nat) : dgt Q j < 4 := Nat.mod_lt _ (by omega)
theorem dgt_top {Q m : Nat} (h : Q < 4 ^ (m + 1)) : dgt Q m = Q / 4 ^ m ∧ Q / 4 ^ m < 4 := by
  have l : Q / 4 ^ m < 4 := by
    rw [Nat.div_lt_iff_lt_mul (Nat.pow_pos (by omega))]
    rw [Nat.pow_succ] at h; omega
  exact ⟨Nat.mod_eq_of_lt l, l⟩
theorem dgt_mod {Q m j : Nat} (h : j < m) : dgt (Q % 4 ^ m) j = dgt Q j := by
  unfold dgt
  have e : 4 ^ m = 4 ^ j * 4 ^ (m - j) := by rw [← Nat.pow_add]; congr 1; omega
  rw [e, Nat.mod_mul_right_div_self]
  exact Nat.mod_mod_of_dvd _ ⟨4 ^ (m - j - 1), by rw [← Nat.pow_succ']; congr 1; omega⟩
theorem sfx_mod {w : Nat → Int} {T Q n : Nat} : ∀ m : Nat, m ≤ n → sfx w T (Q % 4 ^ n) m = sfx w T Q m := by
  intro m
  induction m with
  | zero => intro _; rfl
  | succ m ih =>
    intro hm
    show (dgt (Q % 4 ^ n) m : Int) * w (T - 1 - m) + sfx w T (Q % 4 ^ n) m = (dgt Q m : Int) * w (T - 1 - m) + sfx w T Q m
    rw [dgt_mod (by omega), ih (by omega)]
theorem join_lt {n X m : Nat} (hn : n < 4) (hX : X < 4 ^ m) : n * 4 ^ m + X < 4 ^ (m + 1) := by
  rw [Nat.pow_succ]
  have z : n * 4 ^ m ≤ 3 * 4 ^ m := Nat.mul_le_mul_right _ (by omega)
  omega
theorem join_mod {n X m : Nat} (hX : X < 4 ^ m) : (n * 4 ^ m + X) % 4 ^ m = X := by
  rw [Nat.add_comm, Nat.add_mul_mod_self_right]; exact Nat.mod_eq_of_lt hX
theorem join_div {n X m : Nat} (hX : X < 4 ^ m) : (n * 4 ^ m + X) / 4 ^ m = n := by
  rw [Nat.add_comm, Nat.add_mul_div_right _ _ (Nat.pow_pos (by omega)), Nat.div_eq_of_lt hX, Nat.zero_add]
theorem split_eq (Q m : Nat) : Q = Q / 4 ^ m * 4 ^ m + Q % 4 ^ m := by
  have z := Nat.div_add_mod Q (4 ^ m)
  rw [Nat.mul_comm] at z; exact z.symm
theorem pre_sfx {w : Nat → Int} {T Q : Nat} : ∀ m : Nat, m ≤ T → ldS w T Q (T - m) + sfx w T Q m = ldS w T Q T := by
  intro m
  induction m with
  | zero => intro _; rw [Nat.sub_zero]; show ldS w T Q T + 0 = ldS w T Q T; omega
  | succ m ih =>
    intro hm
    have i := ih (by omega)
    rw [show T - m = (T - (m + 1)) + 1 from by omega] at i
    have e : ldS w T Q (T - (m + 1) + 1) = ldS w T Q (T - (m + 1)) + (dgt Q (T - 1 - (T - (m + 1))) : Int) * w (T - (m + 1)) := rfl
    rw [e, show T - 1 - (T - (m + 1)) = m from by omega, show T - (m + 1) = T - 1 - m from by omega] at i
    show ldS w T Q (T - (m + 1)) + ((dgt Q m : Int) * w (T - 1 - m) + sfx w T Q m) = ldS w T Q T
    rw [show T - (m + 1) = T - 1 - m from by omega]
    omega
theorem sfx_T {w : Nat → Int} {T Q : Nat} : sfx w T Q T = ldS w T Q T := by
  have z := pre_sfx (w := w) (T := T) (Q := Q) T (Nat.le_refl T)
  rw [Nat.sub_self] at z
  have e : ldS w T Q 0 = 0 := rfl
  omega
theorem sfx_uv {h d : Nat → Int} {T Q : Nat} : ∀ m : Nat, sfx (fun k => 1024 * d k - h k) T Q m = 1024 * sfx d T Q m - sfx h T Q m := by
  intro m
  induction m with
  | zero => rfl
  | succ m ih =>
    show (dgt Q m : Int) * (1024 * d (T - 1 - m) - h (T - 1 - m)) + sfx _ T Q m = 1024 * ((dgt Q m : Int) * d (T - 1 - m) + sfx d T Q m) - ((dgt Q m : Int) * h (T - 1 - m) + sfx h T Q m)
    rw [ih, Int.mul_sub, Int.mul_left_comm]
    omega
def fsM (h c : Nat → Int) (T m : Nat) (r : Int) (Q : Nat) : Prop := Q < 4 ^ m ∧ (∀ j : Nat, j < m → (dgt Q j : Int) ≤ c (T - 1 - j)) ∧ sfx h T Q m ≤ r
def DPK (h d c : Nat → Int) (T m : Nat) (r B : Int) : Prop := (∃ Q : Nat, fsM h c T m r Q ∧ sfx (fun k => 1024 * d k - h k) T Q m = B) ∧ ∀ Q : Nat, fsM h c T m r Q → sfx (fun k => 1024 * d k - h k) T Q m ≤ B
def GRM (h d c : Nat → Int) (T m : Nat) (r : Int) (R : Nat) : Prop := fsM h c T m r R ∧ ∀ Q : Nat, fsM h c T m r Q → sfx (fun k => 1024 * d k - h k) T Q m < sfx (fun k => 1024 * d k - h k) T R m ∨ (sfx (fun k => 1024 * d k - h k) T Q m = sfx (fun k => 1024 * d k - h k) T R m ∧ Q ≤ R)
theorem fs_join {h c : Nat → Int} {T m n X : Nat} {r : Int} (hn : n < 4) (hc : (n : Int) ≤ c (T - 1 - m)) (f : fsM h c T m (r - (n : Int) * h (T - 1 - m)) X) : fsM h c T (m + 1) r (n * 4 ^ m + X) := by
  obtain ⟨a, b, e⟩ := f
  have d := dgt_top (join_lt hn a)
  rw [join_div a] at d
  refine ⟨join_lt hn a, fun j hj => ?_, ?_⟩
  · by_cases q : j = m
    · rw [q, d.1]; exact hc
    · rw [← dgt_mod (m := m) (by omega), join_mod a]; exact b j (by omega)
  · show (dgt (n * 4 ^ m + X) m : Int) * h (T - 1 - m) + sfx h T (n * 4 ^ m + X) m ≤ r
    rw [d.1, ← sfx_mod m (Nat.le_refl m), join_mod a]; omega
theorem sv_join {w : Nat → Int} {T m n X : Nat} (hn : n < 4) (a : X < 4 ^ m) : sfx w T (n * 4 ^ m + X) (m + 1) = (n : Int) * w (T - 1 - m) + sfx w T X m := by
  have d := dgt_top (join_lt hn a)
  rw [join_div a] at d
  show (dgt (n * 4 ^ m + X) m : Int) * w (T - 1 - m) + sfx w T (n * 4 ^ m + X) m = _
  rw [d.1, ← sfx_mod m (Nat.le_refl m), join_mod a]
theorem fs_split {h c : Nat → Int} {T m Q : Nat} {r : Int} (f : fsM h c T (m + 1) r Q) : ((Q / 4 ^ m : Nat) : Int) ≤ c (T - 1 - m) ∧ Q / 4 ^ m < 4 ∧ fsM h c T m (r - ((Q / 4 ^ m : Nat) : Int) * h (T - 1 - m)) (Q % 4 ^ m) := by
  obtain ⟨a, b, e⟩ := f
  have d := dgt_top a
  have e2 : (dgt Q m : Int) * h (T - 1 - m) + sfx h T Q m ≤ r := e
  refine ⟨?_, d.2, Nat.mod_lt _ (Nat.pow_pos (by omega)), fun j hj => ?_, ?_⟩
  · rw [← d.1]; exact b m (by omega)
  · rw [dgt_mod hj]; exact b j (by omega)
  · rw [sfx_mod m (Nat.le_refl m), ← d.1]; omega
theorem sv_split {w : Nat → Int} {T m Q : Nat} (a : Q < 4 ^ (m + 1)) : sfx w T Q (m + 1) = ((Q / 4 ^ m : Nat) : Int) * w (T - 1 - m) + sfx w T (Q % 4 ^ m) m := by
  show (dgt Q m : Int) * w (T - 1 - m) + sfx w T Q m = _
  rw [(dgt_top a).1, sfx_mod m (Nat.le_refl m)]
theorem sfx_0 {w : Nat → Int} {T Q : Nat} (hw : ∀ k : Nat, k < T → 0 ≤ w k) : ∀ m : Nat, m ≤ T → 0 ≤ sfx w T Q m := by
  intro m
  induction m with
  | zero => intro _; exact Int.le_refl 0
  | succ m ih =>
    intro hm
    have i := ih (by omega)
    have z := Int.mul_nonneg (show (0 : Int) ≤ (dgt Q m : Int) by omega) (hw (T - 1 - m) (by omega))
    show 0 ≤ (dgt Q m : Int) * w (T - 1 - m) + sfx w T Q m
    omega
theorem DPK.z {h d c : Nat → Int} {T : Nat} {r B : Int} (hr : 0 ≤ r) (e : B = 0) : DPK h d c T 0 r B :=
  ⟨⟨0, ⟨by decide, fun j hj => absurd hj (by omega), hr⟩, e.symm⟩, fun Q _ => by rw [e]; exact Int.le_refl 0⟩
/-- a THING more -/
theorem DPK.s {h d c : Nat → Int} {T m : Nat} {r M : Int} {B : Int → Int} (ht : m + 1 ≤ T) (hp : ∀ k : Nat, k < T → 0 ≤ h k ∧ 0 ≤ c k ∧ c k ≤ 3) (hB : ∀ x : Int, 0 ≤ x → x ≤ r → DPK h d c T m x (B x)) (at_ : ∃ n : Int, 0 ≤ n ∧ n ≤ c (T - 1 - m) ∧ n * h (T - 1 - m) ≤ r ∧ M = n * (1024 * d (T - 1 - m) - h (T - 1 - m)) + B (r - n * h (T - 1 - m))) (ub : ∀ n : Int, 0 ≤ n → n ≤ c (T - 1 - m) → n * h (T - 1 - m) ≤ r → n * (1024 * d (T - 1 - m) - h (T - 1 - m)) + B (r - n * h (T - 1 - m)) ≤ M) : DPK h d c T (m + 1) r M := by
  have p := hp (T - 1 - m) (by omega)
  constructor
  · obtain ⟨n, n0, nc, nr, e⟩ := at_
    obtain ⟨k, ek⟩ : ∃ k : Nat, n = (k : Int) := ⟨n.toNat, by omega⟩
    rw [ek] at n0 nc nr e
    have kh := Int.mul_nonneg n0 p.1
    obtain ⟨X, fX, eX⟩ := (hB (r - (k : Int) * h (T - 1 - m)) (by omega) (by omega)).1
    refine ⟨k * 4 ^ m + X, fs_join (by omega) nc fX, ?_⟩
    rw [sv_join (by omega) fX.1, eX, e]
  · intro Q f
    obtain ⟨s1, s2, s3⟩ := fs_split f
    have kh := Int.mul_nonneg (Int.natCast_nonneg (Q / 4 ^ m)) p.1
    have s4 := sfx_0 (w := h) (T := T) (Q := Q % 4 ^ m) (fun k hk => (hp k hk).1) m (by omega)
    have s5 := s3.2.2
    have z := (hB (r - ((Q / 4 ^ m : Nat) : Int) * h (T - 1 - m)) (by omega) (by omega)).2 _ s3
    have y := ub ((Q / 4 ^ m : Nat) : Int) (Int.natCast_nonneg (Q / 4 ^ m)) s1 (by omega)
    rw [sv_split f.1]; omega
theorem GRM.z {h d c : Nat → Int} {T : Nat} {r : Int} (hr : 0 ≤ r) : GRM h d c T 0 r 0 :=
  ⟨⟨by decide, fun j hj => absurd hj (by omega), hr⟩, fun Q q => Or.inr ⟨rfl, by have z := q.1; rw [Nat.pow_zero] at z; omega⟩⟩
theorem GRM.s {h d c : Nat → Int} {T m X : Nat} {r M n : Int} {B : Int → Int} (ht : m + 1 ≤ T) (hp : ∀ k : Nat, k < T → 0 ≤ h k ∧ 0 ≤ c k ∧ c k ≤ 3) (hB : ∀ x : Int, 0 ≤ x → x ≤ r → DPK h d c T m x (B x)) (hM : DPK h d c T (m + 1) r M) (n0 : 0 ≤ n) (nc : n ≤ c (T - 1 - m)) (nr : n * h (T - 1 - m) ≤ r) (e : n * (1024 * d (T - 1 - m) - h (T - 1 - m)) + B (r - n * h (T - 1 - m)) = M) (big : ∀ k : Int, n < k → k ≤ c (T - 1 - m) → k * h (T - 1 - m) ≤ r → k * (1024 * d (T - 1 - m) - h (T - 1 - m)) + B (r - k * h (T - 1 - m)) ≠ M) (g : GRM h d c T m (r - n * h (T - 1 - m)) X) : GRM h d c T (m + 1) r (n.toNat * 4 ^ m + X) := by
  have p := hp (T - 1 - m) (by omega)
  obtain ⟨k, ek⟩ : ∃ k : Nat, n = (k : Int) := ⟨n.toNat, by omega⟩
  subst ek
  rw [show ((k : Int)).toNat = k from by omega]
  have kh := Int.mul_nonneg n0 p.1
  have dB := hB (r - (k : Int) * h (T - 1 - m)) (by omega) (by omega)
  have eX : sfx (fun k => 1024 * d k - h k) T X m = B (r - (k : Int) * h (T - 1 - m)) := by
    obtain ⟨Y, fY, eY⟩ := dB.1
    have u := dB.2 X g.1
    have v := g.2 Y fY
    omega
  refine ⟨fs_join (by omega) nc g.1, fun Q f => ?_⟩
  obtain ⟨s1, s2, s3⟩ := fs_split f
  have qh := Int.mul_nonneg (Int.natCast_nonneg (Q / 4 ^ m)) p.1
  have s4 := sfx_0 (w := h) (T := T) (Q := Q % 4 ^ m) (fun k hk => (hp k hk).1) m (by omega)
  have s5 := s3.2.2
  have z := (hB (r - ((Q / 4 ^ m : Nat) : Int) * h (T - 1 - m)) (by omega) (by omega)).2 _ s3
  have y := hM.2 Q f
  rw [sv_split f.1] at y ⊢
  rw [sv_join (by omega) g.1.1, eX, e]
  by_cases c1 : ((Q / 4 ^ m : Nat) : Int) * (1024 * d (T - 1 - m) - h (T - 1 - m)) + sfx (fun k => 1024 * d k - h k) T (Q % 4 ^ m) m = M
  · refine Or.inr ⟨c1, ?_⟩
    obtain ⟨Y, fY, eY⟩ := (hB (r - ((Q / 4 ^ m : Nat) : Int) * h (T - 1 - m)) (by omega) (by omega)).1
    have y2 := hM.2 _ (fs_join s2 s1 fY)
    rw [sv_join s2 fY.1, eY] at y2
    have le : Q / 4 ^ m ≤ k := by
      by_cases c2 : (k : Int) < ((Q / 4 ^ m : Nat) : Int)
      · exact absurd (by omega) (big _ c2 s1 (by omega))
      · omega
    have sq := split_eq Q m
    by_cases c3 : Q / 4 ^ m = k
    · rw [c3] at s3 z c1
      have w := g.2 _ s3
      rw [c3] at sq
      omega
    · have l := Nat.mul_le_mul_right (4 ^ m) (show Q / 4 ^ m + 1 ≤ k by omega)
      rw [Nat.add_mul] at l
      have md := Nat.mod_lt Q (show 0 < 4 ^ m from Nat.pow_pos (by omega))
      omega
  · exact Or.inl (by omega)
theorem GRM.ld {h d c : Nat → Int} {T R : Nat} {C : Int} (g : GRM h d c T T C R) : LDB h d c T C R := by
  have fs : ∀ Q : Nat, Q < 4 ^ T → ldF h c T C Q → fsM h c T T C Q := fun Q hQ f => ⟨hQ, fun j hj => by
    have z := f.1 (T - 1 - j) (by omega)
    rw [show T - 1 - (T - 1 - j) = j from by omega] at z; exact z, by rw [sfx_T]; exact f.2⟩
  refine ⟨g.1.1, ⟨fun k hk => ?_, by rw [← sfx_T]; exact g.1.2.2⟩, fun Q hQ f => ?_⟩
  · have z := g.1.2.1 (T - 1 - k) (by omega)
    rw [show T - 1 - (T - 1 - k) = k from by omega] at z; exact z
  · have z := g.2 Q (fs Q hQ f)
    rw [sfx_uv, sfx_uv, sfx_T, sfx_T, sfx_T, sfx_T] at z
    exact z
/- THINGS of a SHEET -/
def thH (n : Nat → Int32) (s : Int32) (k : Nat) : Int := if k < 12 then (n (36 * s.toInt.toNat + 3 * k)).toInt else 0
def thD (n : Nat → Int32) (s : Int32) (k : Nat) : Int := if k < 12 then (n (36 * s.toInt.toNat + 3 * k + 1)).toInt else 0
def thC (n : Nat → Int32) (s : Int32) (k : Nat) : Int := if k < 12 then (n (36 * s.toInt.toNat + 3 * k + 2)).toInt else 0
def thO (n : Nat → Int32) (s : Int32) (k : Nat) : Prop := 1 ≤ thH n s k ∧ thH n s k ≤ 40 ∧ 0 ≤ thD n s k ∧ thD n s k ≤ 999 ∧ 1 ≤ thC n s k ∧ thC n s k ≤ 3
def THG (n : Nat → Int32) (s : Int32) (T : Int) : Prop := ∀ k : Nat, (k : Int) < T → thO n s k
theorem THG.z {n : Nat → Int32} {s : Int32} {T : Int} (h : T ≤ 0) : THG n s T := fun k hk => absurd hk (by omega)
theorem THG.s {n : Nat → Int32} {s i x y z : Int32} {T T1 : Int} (h : THG n s T) (hi : i.toInt = 3 * T) (h0 : 0 ≤ T) (h1 : T < 12) (ex : x = n (36 * s.toInt.toNat + i.toInt.toNat)) (ey : y = n (36 * s.toInt.toNat + (i.toInt.toNat + 1))) (ez : z = n (36 * s.toInt.toNat + (i.toInt.toNat + 2))) (bx : 1 ≤ x.toInt ∧ x.toInt ≤ 40) (b_y : 0 ≤ y.toInt ∧ y.toInt ≤ 999) (bz : 1 ≤ z.toInt ∧ z.toInt ≤ 3) (e : T1 = T + 1) : THG n s T1 := by
  intro k hk
  by_cases c : (k : Int) = T
  · have k12 : k < 12 := by omega
    have e1 : i.toInt.toNat = 3 * k := by omega
    rw [e1] at ex ey ez
    refine ⟨?_, ?_, ?_, ?_, ?_, ?_⟩ <;> first | (unfold thH; rw [if_pos k12, ← ex]; omega) | (unfold thD; rw [if_pos k12, Nat.add_assoc, ← ey]; omega) | (unfold thC; rw [if_pos k12, Nat.add_assoc, ← ez]; omega)
  · exact h k (by omega)
theorem THG.hp {n : Nat → Int32} {s : Int32} {T : Int} (h : THG n s T) : ∀ k : Nat, k < T.toNat → 0 ≤ thH n s k ∧ 0 ≤ thC n s k ∧ thC n s k ≤ 3 := fun k hk => by
  obtain ⟨a, b, c, d, e, f⟩ := h k (by omega)
  exact ⟨by omega, by omega, f⟩
def bat (b : Nat → Int32) (t : Nat) (x : Int) : Int := (b (601 * t + x.toNat)).toInt
theorem sfx_hi {h d : Nat → Int} {T Q : Nat} (hp : ∀ k : Nat, k < T → 0 ≤ h k ∧ h k ≤ 40 ∧ 0 ≤ d k ∧ d k ≤ 999) : ∀ m : Nat, m ≤ T → sfx (fun k => 1024 * d k - h k) T Q m ≤ 3068928 * m := by
  intro m
  induction m with
  | zero => intro _; exact Int.le_refl 0
  | succ m ih =>
    intro hm
    have i := ih (by omega)
    have p := hp (T - 1 - m) (by omega)
    have g := dgt_lt Q m
    have z := Int.mul_le_mul (show ((dgt Q m : Nat) : Int) ≤ 3 by omega) (show 1024 * d (T - 1 - m) - h (T - 1 - m) ≤ 1022976 by omega) 
    show (dgt Q m : Int) * (1024 * d (T - 1 - m) - h (T - 1 - m)) + sfx _ T Q m ≤ 3068928 * ((m + 1 : Nat) : Int)
    have y : (dgt Q m : Int) * (1024 * d (T - 1 - m) - h (T - 1 - m)) ≤ 3068928 := by
      rcases (show dgt Q m = 0 ∨ dgt Q m = 1 ∨ dgt Q m = 2 ∨ dgt Q m = 3 by omega) with q | q | q | q <;> rw [q] <;> omega
    omega
theorem sfx_z {w : Nat → Int} {T : Nat} : ∀ m : Nat, sfx w T 0 m = 0 := by
  intro m
  induction m with
  | zero => rfl
  | succ m ih =>
    show (dgt 0 m : Int) * w (T - 1 - m) + sfx w T 0 m = 0
    have e : dgt 0 m = 0 := by unfold dgt; rw [Nat.zero_div]
    rw [ih, e]
    show (0 : Int) * w (T - 1 - m) + 0 = 0
    rw [Int.zero_mul]; rfl
theorem DPK.bd {n : Nat → Int32} {s : Int32} {T m : Nat} {r B : Int} (g : THG n s T) (hm : m ≤ T) (h0 : 0 ≤ r) (h : DPK (thH n s) (thD n s) (thC n s) T m r B) : 0 ≤ B ∧ B ≤ 3068928 * m := by
  constructor
  · have z := h.2 0 ⟨Nat.pow_pos (by omega), fun j hj => by
      have e : dgt 0 j = 0 := by unfold dgt; rw [Nat.zero_div]
      rw [e]
      have q := g (T - 1 - j) (by omega)
      have := q.2.2.2.2.1
      show (0 : Int) ≤ _
      omega, by rw [sfx_z]; exact h0⟩
    rw [sfx_z] at z; exact z
  · obtain ⟨Q, f, e⟩ := h.1
    rw [← e]
    exact sfx_hi (fun k hk => by
      obtain ⟨a, b, c, d, _, _⟩ := g k (by omega)
      exact ⟨by omega, b, c, d⟩) m hm
def DPR (b n : Nat → Int32) (s tn C t0 : Int32) : Prop := ∀ t : Nat, t0.toInt < (t : Int) → (t : Int) ≤ tn.toInt → ∀ x : Int, 0 ≤ x → x ≤ C.toInt → DPK (thH n s) (thD n s) (thC n s) tn.toInt.toNat (tn.toInt.toNat - t) x (bat b t x)
def DPP (b n : Nat → Int32) (s tn C t0 room : Int32) : Prop := DPR b n s tn C t0 ∧ ∀ x : Int, 0 ≤ x → x < room.toInt → DPK (thH n s) (thD n s) (thC n s) tn.toInt.toNat (tn.toInt.toNat - t0.toInt.toNat) x (bat b t0.toInt.toNat x)
def PZR (b : Nat → Int32) (tn room : Int32) : Prop := ∀ x : Int, 0 ≤ x → x < room.toInt → bat b tn.toInt.toNat x = 0
theorem PZR.z {b : Nat → Int32} {tn room : Int32} (h : room.toInt ≤ 0) : PZR b tn room := fun x h0 h1 => absurd h1 (by omega)
theorem PZR.s {b b1 : Nat → Int32} {tn room room1 i v : Int32} (h : PZR b tn room) (h0 : 0 ≤ room.toInt) (e : b1 = upd b i.toNatClampNeg v) (ei : i.toInt = 601 * tn.toInt + room.toInt) (t0 : 0 ≤ tn.toInt) (hv : v.toInt = 0) (e1 : room1.toInt = room.toInt + 1) : PZR b1 tn room1 := by
  intro x x0 x1
  rw [k_clamp] at e
  unfold bat
  by_cases c : x = room.toInt
  · rw [e, show 601 * tn.toInt.toNat + x.toNat = i.toInt.toNat from by omega, sp_at]; exact hv
  · rw [e, sp_ne (by omega)]; exact h x x0 (by omega)
theorem PZR.e {b n : Nat → Int32} {s tn C room t : Int32} (h : PZR b tn room) (hr : C.toInt < room.toInt) (ht : t.toInt = tn.toInt - 1) : DPR b n s tn C t := by
  intro k k0 k1 x x0 x1
  have e : k = tn.toInt.toNat := by omega
  rw [e, Nat.sub_self]
  exact DPK.z x0 (h x x0 (by omega))
def BDR (b : Nat → Int32) (t room : Int32) : Prop := ∀ x : Int, 0 ≤ x → x ≤ room.toInt → 0 ≤ bat b (t.toInt.toNat + 1) x ∧ bat b (t.toInt.toNat + 1) x ≤ 24551424
theorem DPR.bd {b n : Nat → Int32} {s tn C t room : Int32} (h : DPR b n s tn C t) (g : THG n s tn.toInt) (t0 : 0 ≤ t.toInt) (t1 : t.toInt < tn.toInt) (t8 : tn.toInt ≤ 8) (hr : room.toInt ≤ C.toInt) : BDR b t room := by
  intro x x0 x1
  have z := DPK.bd (by rw [show ((tn.toInt.toNat : Nat) : Int) = tn.toInt from by omega]; exact g) (by omega) x0 (h (t.toInt.toNat + 1) (by omega) (by omega) x x0 (by omega))
  omega
def MXW (b : Nat → Int32) (t room hv dr : Int32) (n : Int) (m : Int32) : Prop := (∃ k : Int, 0 ≤ k ∧ k < n ∧ k * hv.toInt ≤ room.toInt ∧ m.toInt = k * (1024 * dr.toInt - hv.toInt) + bat b (t.toInt.toNat + 1) (room.toInt - k * hv.toInt)) ∧ ∀ k : Int, 0 ≤ k → k < n → k * hv.toInt ≤ room.toInt → k * (1024 * dr.toInt - hv.toInt) + bat b (t.toInt.toNat + 1) (room.toInt - k * hv.toInt) ≤ m.toInt
theorem bat_e {b : Nat → Int32} {t x t1 r : Int32} (h : r = b (601 * t1.toInt.toNat + x.toInt.toNat)) (e : t1.toInt = t.toInt + 1) (h0 : 0 ≤ t.toInt) {y : Int} (hy : x.toInt = y) : r.toInt = bat b (t.toInt.toNat + 1) y := by
  unfold bat; rw [h, ← hy, show t1.toInt.toNat = t.toInt.toNat + 1 from by omega]
theorem MXW.z {b : Nat → Int32} {t room hv dr m : Int32} {n : Int} (hn : n = 1) (hr : 0 ≤ room.toInt) (e : m.toInt = bat b (t.toInt.toNat + 1) room.toInt) : MXW b t room hv dr n m := by
  refine ⟨⟨0, by omega, by omega, by omega, by rw [e, Int.zero_mul, Int.zero_mul, Int.zero_add, Int.sub_zero]⟩, fun k k0 k1 _ => ?_⟩
  rw [show k = 0 from by omega, e, Int.zero_mul, Int.zero_mul, Int.zero_add, Int.sub_zero]; exact Int.le_refl _
theorem MXW.s {b : Nat → Int32} {t room hv dr m m1 v : Int32} {n n1 : Int} (h : MXW b t room hv dr n m) (h0 : 0 ≤ n) (hn : n * hv.toInt ≤ room.toInt) (hv1 : v.toInt = n * (1024 * dr.toInt - hv.toInt) + bat b (t.toInt.toNat + 1) (room.toInt - n * hv.toInt)) (hm : (m1.toInt = m.toInt ∧ v.toInt ≤ m.toInt) ∨ (m1.toInt = v.toInt ∧ m.toInt ≤ v.toInt)) (e : n1 = n + 1) : MXW b t room hv dr n1 m1 := by
  constructor
  · rcases hm with ⟨c, d⟩ | ⟨c, d⟩
    · obtain ⟨k, a1, a2, a3, a4⟩ := h.1
      exact ⟨k, a1, by omega, a3, by rw [c]; exact a4⟩
    · exact ⟨n, h0, by omega, hn, by rw [c]; exact hv1⟩
  · intro k k0 k1 kr
    by_cases c : k = n
    · rw [c, ← hv1]; rcases hm with z | z <;> omega
    · have z := h.2 k k0 (by omega) kr
      rcases hm with y | y <;> omega
theorem MXW.e {b : Nat → Int32} {t room hv dr m th : Int32} {n : Int} (h : MXW b t room hv dr n m) (h1 : 1 ≤ n) (c : (th.toInt < n ∧ n ≤ th.toInt + 1) ∨ (n ≤ th.toInt ∧ room.toInt < n * hv.toInt)) (hh : 0 ≤ hv.toInt) : MXW b t room hv dr (th.toInt + 1) m := by
  rcases c with c | c
  · rw [show th.toInt + 1 = n from by omega]; exact h
  · refine ⟨?_, fun k k0 k1 kr => ?_⟩
    · obtain ⟨k, a1, a2, a3, a4⟩ := h.1
      exact ⟨k, a1, by omega, a3, a4⟩
    · by_cases q : k < n
      · exact h.2 k k0 q kr
      · have z := Int.mul_le_mul_of_nonneg_right (show n ≤ k by omega) hh
        omega
theorem DPP.z {b n : Nat → Int32} {s tn C t room : Int32} (h : DPR b n s tn C t) (hr : room.toInt ≤ 0) : DPP b n s tn C t room := ⟨h, fun x x0 x1 => absurd x1 (by omega)⟩
theorem DPP.s {b b1 n : Nat → Int32} {s tn C t room room1 i m hv dr th : Int32} (h : DPP b n s tn C t room) (g : THG n s tn.toInt) (t0 : 0 ≤ t.toInt) (t1 : t.toInt < tn.toInt) (t8 : tn.toInt ≤ 8) (r0 : 0 ≤ room.toInt) (rC : room.toInt ≤ C.toInt) (c6 : C.toInt ≤ 600) (w : MXW b t room hv dr (th.toInt + 1) m) (eh : hv.toInt = thH n s t.toInt.toNat) (ed : dr.toInt = thD n s t.toInt.toNat) (ec : th.toInt = thC n s t.toInt.toNat) (e : b1 = upd b i.toNatClampNeg m) (ei : i.toInt = 601 * t.toInt + room.toInt) (e1 : room1.toInt = room.toInt + 1) : DPP b1 n s tn C t room1 := by
  rw [k_clamp] at e
  have off : ∀ (k : Nat) (x : Int), 0 ≤ x → x ≤ 600 → ¬ ((k : Int) = t.toInt ∧ x = room.toInt) → bat b1 k x = bat b k x := fun k x x0 x1 c => by
    unfold bat
    rw [e, sp_ne (by omega)]
  refine ⟨fun k k0 k1 x x0 x1 => ?_, fun x x0 x1 => ?_⟩
  · rw [off k x x0 (by omega) (by omega)]; exact h.1 k k0 k1 x x0 x1
  · by_cases c : x = room.toInt
    · have em : bat b1 t.toInt.toNat x = m.toInt := by
        unfold bat
        rw [e, show 601 * t.toInt.toNat + x.toNat = i.toInt.toNat from by omega, sp_at]
      rw [em]
      have hm : tn.toInt.toNat - t.toInt.toNat = tn.toInt.toNat - (t.toInt.toNat + 1) + 1 := by omega
      have ix : tn.toInt.toNat - 1 - (tn.toInt.toNat - (t.toInt.toNat + 1)) = t.toInt.toNat := by omega
      rw [hm]
      refine DPK.s (B := fun y => bat b (t.toInt.toNat + 1) y) (by omega) (THG.hp g) (fun y y0 y1 => h.1 (t.toInt.toNat + 1) (by omega) (by omega) y y0 (by omega)) ?_ ?_
      · rw [ix, ← eh, ← ed, ← ec]
        obtain ⟨k, a1, a2, a3, a4⟩ := w.1
        exact ⟨k, a1, by omega, by rw [c]; exact a3, by rw [c]; exact a4⟩
      · rw [ix, ← eh, ← ed, ← ec, c]
        intro k k0 k1 k2
        exact w.2 k k0 (by omega) k2
    · rw [off _ x x0 (by omega) (by omega)]; exact h.2 x x0 (by omega)
theorem DPP.e {b n : Nat → Int32} {s tn C t t1 room : Int32} (h : DPP b n s tn C t room) (h0 : 0 ≤ t.toInt) (hr : C.toInt < room.toInt) (e : t1.toInt = t.toInt - 1) : DPR b n s tn C t1 := by
  intro k k0 k1 x x0 x1
  by_cases c : (k : Int) = t.toInt
  · rw [show k = t.toInt.toNat from by omega]; exact h.2 x x0 (by omega)
  · exact h.1 k (by omega) k1 x x0 x1
def BST (b : Nat → Int32) (t room : Int32) (hv dr n : Int) : Prop := n * hv ≤ room.toInt ∧ n * (1024 * dr - hv) + bat b (t.toInt.toNat + 1) (room.toInt - n * hv) = bat b t.toInt.toNat room.toInt
def NBK (b : Nat → Int32) (t room : Int32) (hv dr n th : Int) : Prop := ∀ k : Int, n < k → k ≤ th → ¬ BST b t room hv dr k
theorem NBK.z {b : Nat → Int32} {t room : Int32} {hv dr n th : Int} (h : th ≤ n) : NBK b t room hv dr n th := fun k k0 k1 => absurd k1 (by omega)
theorem NBK.s {b : Nat → Int32} {t room : Int32} {hv dr n n1 th : Int} (h : NBK b t room hv dr n th) (e : n1 = n - 1) (c : ¬ BST b t room hv dr n) : NBK b t room hv dr n1 th := fun k k0 k1 => by
  by_cases q : k = n
  · rw [q]; exact c
  · exact h k (by omega) k1
theorem ldS_push {w : Nat → Int} {t P n : Nat} (hn : n < 4) : ∀ i : Nat, i ≤ t → ldS w (t + 1) (4 * P + n) i = ldS w t P i := by
  have dg : ∀ j : Nat, dgt (4 * P + n) (j + 1) = dgt P j := fun j => by
    unfold dgt
    rw [Nat.pow_succ', ← Nat.div_div_eq_div_mul, show (4 * P + n) / 4 = P from by omega]
  intro i
  induction i with
  | zero => intro _; rfl
  | succ i ih =>
    intro hi
    show ldS w (t + 1) (4 * P + n) i + (dgt (4 * P + n) (t + 1 - 1 - i) : Int) * w i = ldS w t P i + (dgt P (t - 1 - i) : Int) * w i
    rw [ih (by omega), show t + 1 - 1 - i = (t - 1 - i) + 1 from by omega, dg]
def CHI (b n : Nat → Int32) (s tn C : Int32) (tk : Nat → Int32) (wo we room t : Int32) : Prop := ∃ P : Nat, (∀ X : Nat, GRM (thH n s) (thD n s) (thC n s) tn.toInt.toNat (tn.toInt.toNat - t.toInt.toNat) room.toInt X → GRM (thH n s) (thD n s) (thC n s) tn.toInt.toNat tn.toInt.toNat C.toInt (P * 4 ^ (tn.toInt.toNat - t.toInt.toNat) + X)) ∧ (∀ i : Nat, i < t.toInt.toNat → (tk i).toInt = (dgt P (t.toInt.toNat - 1 - i) : Int)) ∧ wo.toInt = ldS (thD n s) t.toInt.toNat P t.toInt.toNat ∧ we.toInt = ldS (thH n s) t.toInt.toNat P t.toInt.toNat
theorem CHI.z {b n tk : Nat → Int32} {s tn C wo we room t : Int32} (ht : t.toInt = 0) (hr : room.toInt = C.toInt) (h1 : wo.toInt = 0) (h2 : we.toInt = 0) : CHI b n s tn C tk wo we room t := by
  refine ⟨0, fun X g => ?_, fun i hi => absurd hi (by omega), ?_, ?_⟩
  · rw [ht] at g
    rw [Nat.zero_mul, Nat.zero_add, ← hr]; exact g
  · rw [h1, ht]; rfl
  · rw [h2, ht]; rfl
/-- none that is more than none is best: none is -/
theorem BST.zero {b n : Nat → Int32} {s tn C t tb room : Int32} (D : DPR b n s tn C tb) (htb : tb.toInt < 0) (g : THG n s tn.toInt) (t0 : 0 ≤ t.toInt) (t1 : t.toInt < tn.toInt) (r0 : 0 ≤ room.toInt) (rC : room.toInt ≤ C.toInt) (nb : NBK b t room (thH n s t.toInt.toNat) (thD n s t.toInt.toNat) 0 (thC n s t.toInt.toNat)) : BST b t room (thH n s t.toInt.toNat) (thD n s t.toInt.toNat) 0 := by
  have hm : tn.toInt.toNat - t.toInt.toNat = tn.toInt.toNat - (t.toInt.toNat + 1) + 1 := by omega
  have ix : tn.toInt.toNat - 1 - (tn.toInt.toNat - (t.toInt.toNat + 1)) = t.toInt.toNat := by omega
  have M := D t.toInt.toNat (by omega) (by omega) room.toInt r0 rC
  rw [hm] at M
  obtain ⟨Q, f, e⟩ := M.1
  obtain ⟨s1, s2, s3⟩ := fs_split f
  have p := THG.hp g t.toInt.toNat (by omega)
  have s4 := sfx_0 (w := thH n s) (T := tn.toInt.toNat) (Q := Q % 4 ^ (tn.toInt.toNat - (t.toInt.toNat + 1))) (fun k hk => (THG.hp g k hk).1) (tn.toInt.toNat - (t.toInt.toNat + 1)) (by omega)
  have s5 := s3.2.2
  rw [ix] at s1 s3 s5
  have kh := Int.mul_nonneg (Int.natCast_nonneg (Q / 4 ^ (tn.toInt.toNat - (t.toInt.toNat + 1)))) p.1
  generalize hk : Q / 4 ^ (tn.toInt.toNat - (t.toInt.toNat + 1)) = k at s1 s2 s3 s5 kh
  have B1 := D (t.toInt.toNat + 1) (by omega) (by omega) (room.toInt - (k : Int) * thH n s t.toInt.toNat) (by omega) (by omega)
  have z := B1.2 _ s3
  obtain ⟨Y, fY, eY⟩ := B1.1
  have f2 := fs_join (n := k) (T := tn.toInt.toNat) (m := tn.toInt.toNat - (t.toInt.toNat + 1)) (c := thC n s) s2 (by rw [ix]; exact s1) (by rw [ix]; exact fY)
  have y := M.2 _ f2
  rw [sv_join s2 fY.1, ix, eY] at y
  rw [sv_split f.1, ix, hk] at e
  have bk : BST b t room (thH n s t.toInt.toNat) (thD n s t.toInt.toNat) (k : Int) := ⟨by omega, by omega⟩
  by_cases q : k = 0
  · rw [q] at bk; exact bk
  · exact absurd bk (nb (k : Int) (by omega) s1)
theorem CHI.s {b n tk tk1 : Nat → Int32} {s tn C tb wo we room t wo1 we1 room1 t1 v : Int32} (h : CHI b n s tn C tk wo we room t) (D : DPR b n s tn C tb) (htb : tb.toInt < 0) (g : THG n s tn.toInt) (t0 : 0 ≤ t.toInt) (tT : t.toInt < tn.toInt) (r0 : 0 ≤ room.toInt) (rC : room.toInt ≤ C.toInt) (v0 : 0 ≤ v.toInt) (vc : v.toInt ≤ thC n s t.toInt.toNat) (nb : NBK b t room (thH n s t.toInt.toNat) (thD n s t.toInt.toNat) v.toInt (thC n s t.toInt.toNat)) (be : v.toInt ≤ 0 ∨ BST b t room (thH n s t.toInt.toNat) (thD n s t.toInt.toNat) v.toInt) (e : tk1 = upd tk t.toNatClampNeg v) (er : room1.toInt = room.toInt - v.toInt * thH n s t.toInt.toNat) (ew : wo1.toInt = wo.toInt + v.toInt * thD n s t.toInt.toNat) (ee : we1.toInt = we.toInt + v.toInt * thH n s t.toInt.toNat) (et : t1.toInt = t.toInt + 1) : CHI b n s tn C tk1 wo1 we1 room1 t1 := by
  have be2 : BST b t room (thH n s t.toInt.toNat) (thD n s t.toInt.toNat) v.toInt := by
    rcases be with c | c
    · have v00 : v.toInt = 0 := by omega
      rw [v00] at nb ⊢
      exact BST.zero D htb g t0 tT r0 rC nb
    · exact c
  obtain ⟨P, h1, h2, h3, h4⟩ := h
  have hm : tn.toInt.toNat - t.toInt.toNat = tn.toInt.toNat - t1.toInt.toNat + 1 := by omega
  have ix : tn.toInt.toNat - 1 - (tn.toInt.toNat - t1.toInt.toNat) = t.toInt.toNat := by omega
  have et1 : t1.toInt.toNat = t.toInt.toNat + 1 := by omega
  have p := g t.toInt.toNat (by omega)
  have c3 := p.2.2.2.2.2
  have v3 : v.toInt.toNat < 4 := by omega
  have M := D t.toInt.toNat (by omega) (by omega) room.toInt r0 rC
  rw [hm] at M
  have B1 : ∀ x : Int, 0 ≤ x → x ≤ room.toInt → DPK (thH n s) (thD n s) (thC n s) tn.toInt.toNat (tn.toInt.toNat - t1.toInt.toNat) x (bat b (t.toInt.toNat + 1) x) := fun x x0 x1 => by
    rw [et1]; exact D (t.toInt.toNat + 1) (by omega) (by omega) x x0 (by omega)
  refine ⟨4 * P + v.toInt.toNat, fun X gX => ?_, fun i hi => ?_, ?_, ?_⟩
  · have g2 := GRM.s (n := v.toInt) (X := X) (M := bat b t.toInt.toNat room.toInt) (B := fun x => bat b (t.toInt.toNat + 1) x) (by omega) (THG.hp g) B1 M v0 (by rw [ix]; exact vc) (by rw [ix]; exact be2.1) (by rw [ix]; exact be2.2) (fun k k0 k1 k2 k3 => by
      rw [ix] at k1 k2 k3
      exact nb k k0 k1 ⟨k2, k3⟩) (by rw [ix, ← er]; exact gX)
    rw [hm] at h1
    have g3 := h1 _ g2
    have ea : P * 4 ^ (tn.toInt.toNat - t1.toInt.toNat + 1) + (v.toInt.toNat * 4 ^ (tn.toInt.toNat - t1.toInt.toNat) + X) = (4 * P + v.toInt.toNat) * 4 ^ (tn.toInt.toNat - t1.toInt.toNat) + X := by
      rw [Nat.pow_succ, Nat.add_mul, ← Nat.mul_assoc, Nat.mul_comm 4 P, Nat.mul_assoc P 4, Nat.mul_comm 4, ← Nat.mul_assoc]
      omega
    rw [ea] at g3; exact g3
  · rw [k_clamp] at e
    have dg : ∀ j : Nat, dgt (4 * P + v.toInt.toNat) (j + 1) = dgt P j := fun j => by
      unfold dgt
      rw [Nat.pow_succ', ← Nat.div_div_eq_div_mul, show (4 * P + v.toInt.toNat) / 4 = P from by omega]
    by_cases c : i = t.toInt.toNat
    · rw [c, e, sp_at, show t1.toInt.toNat - 1 - t.toInt.toNat = 0 from by omega]
      unfold dgt
      rw [Nat.pow_zero, Nat.div_one]; omega
    · rw [e, sp_ne c, show t1.toInt.toNat - 1 - i = (t.toInt.toNat - 1 - i) + 1 from by omega, dg]; exact h2 i (by omega)
  · rw [et1]
    show wo1.toInt = ldS (thD n s) (t.toInt.toNat + 1) (4 * P + v.toInt.toNat) t.toInt.toNat + (dgt (4 * P + v.toInt.toNat) (t.toInt.toNat + 1 - 1 - t.toInt.toNat) : Int) * thD n s t.toInt.toNat
    have d0 : dgt (4 * P + v.toInt.toNat) 0 = v.toInt.toNat := by unfold dgt; rw [Nat.pow_zero, Nat.div_one]; omega
    rw [ldS_push v3 _ (Nat.le_refl _), ← h3, show t.toInt.toNat + 1 - 1 - t.toInt.toNat = 0 from by omega, d0, show ((v.toInt.toNat : Nat) : Int) = v.toInt from by omega]; exact ew
  · rw [et1]
    show we1.toInt = ldS (thH n s) (t.toInt.toNat + 1) (4 * P + v.toInt.toNat) t.toInt.toNat + (dgt (4 * P + v.toInt.toNat) (t.toInt.toNat + 1 - 1 - t.toInt.toNat) : Int) * thH n s t.toInt.toNat
    have d0 : dgt (4 * P + v.toInt.toNat) 0 = v.toInt.toNat := by unfold dgt; rw [Nat.pow_zero, Nat.div_one]; omega
    rw [ldS_push v3 _ (Nat.le_refl _), ← h4, show t.toInt.toNat + 1 - 1 - t.toInt.toNat = 0 from by omega, d0, show ((v.toInt.toNat : Nat) : Int) = v.toInt from by omega]; exact ee
/-- what both sides tell of the best row -/
def LDA (n : Nat → Int32) (s : Int32) (T : Nat) (C : Int) (tk : Nat → Int32) (wo we : Int32) : Prop := ∃ R : Nat, LDB (thH n s) (thD n s) (thC n s) T C R ∧ wo.toInt = ldS (thD n s) T R T ∧ we.toInt = ldS (thH n s) T R T ∧ ∀ i : Nat, i < T → (tk i).toInt = (dgt R (T - 1 - i) : Int)
theorem CHI.e {b n tk : Nat → Int32} {s tn C wo we room t : Int32} (h : CHI b n s tn C tk wo we room t) (e : t.toInt = tn.toInt) (r0 : 0 ≤ room.toInt) : LDA n s tn.toInt.toNat C.toInt tk wo we := by
  obtain ⟨P, h1, h2, h3, h4⟩ := h
  rw [e] at h1 h2 h3 h4
  rw [Nat.sub_self] at h1
  have g := h1 0 (GRM.z r0)
  rw [Nat.pow_zero, Nat.mul_one, Nat.add_zero] at g
  exact ⟨P, GRM.ld g, h3, h4, h2⟩
theorem LDA.un {n : Nat → Int32} {s : Int32} {T : Nat} {C : Int} {tk tl : Nat → Int32} {wo we wp wf : Int32} (h : LDA n s T C tk wo we) (g : LDA n s T C tl wp wf) : wo = wp ∧ we = wf ∧ ∀ i : Nat, i < T → tk i = tl i := by
  obtain ⟨R, h1, h2, h3, h4⟩ := h
  obtain ⟨S, g1, g2, g3, g4⟩ := g
  have e := LDB.un h1 g1
  subst e
  exact ⟨k_inj (by omega), k_inj (by omega), fun i hi => k_inj (by rw [h4 i hi, g4 i hi])⟩
def LDK (ls n : Nat → Int32) (s : Int32) : Prop := 3 ≤ (ls s.toNatClampNeg).toInt ∧ (ls s.toNatClampNeg).toInt ≤ 24 ∧ (ls s.toNatClampNeg).toInt % 3 = 0 ∧ THG n s ((ls s.toNatClampNeg).toInt / 3)
def LOD (f bs ls n : Nat → Int32) (a s i r : Int32) : Prop :=
  if 0 ≤ a.toInt ∧ a.toInt < (f 2).toInt ∧ 0 ≤ s.toInt ∧ s.toInt ≤ 3 ∧ -2 ≤ i.toInt then
    (if (bs s.toNatClampNeg).toInt = 0 then r = -1000002
     else (¬ LDK ls n s ∧ r = -1000005) ∨ (LDK ls n s ∧ (((ls s.toNatClampNeg).toInt / 3 ≤ i.toInt ∧ r = -1000003) ∨ (i.toInt < (ls s.toNatClampNeg).toInt / 3 ∧ ∃ (tk : Nat → Int32) (wo we : Int32), LDA n s ((ls s.toNatClampNeg).toInt / 3).toNat (12 * (pW f a 3).toInt) tk wo we ∧ r = if i.toInt = -1 then wo else if i.toInt = -2 then we else tk i.toInt.toNat))))
  else r = -1000001
theorem th_eq {b l n y z w : Nat → Int32} {s : Int32} (h : SRL b l n y z w) (h0 : 0 ≤ s.toInt) (h1 : s.toInt ≤ 3) : thH n s = thH w s ∧ thD n s = thD w s ∧ thC n s = thC w s := by
  refine ⟨?_, ?_, ?_⟩ <;> funext k <;> (first | unfold thH | unfold thD | unfold thC) <;> by_cases c : k < 12 <;> first | (rw [if_pos c, if_pos c, h.2.2.1 _ (by omega)]) | (rw [if_neg c, if_neg c])
theorem THG.eq {b l n y z w : Nat → Int32} {s : Int32} (h : SRL b l n y z w) (h0 : 0 ≤ s.toInt) (h1 : s.toInt ≤ 3) {T : Int} (g : THG w s T) : THG n s T := by
  obtain ⟨e1, e2, e3⟩ := th_eq h h0 h1
  intro k hk
  unfold thO
  rw [e1, e2, e3]; exact g k hk
theorem THG.qe {b l n y z w : Nat → Int32} {s : Int32} (h : SRL b l n y z w) (h0 : 0 ≤ s.toInt) (h1 : s.toInt ≤ 3) {T : Int} (g : THG n s T) : THG w s T := by
  obtain ⟨e1, e2, e3⟩ := th_eq h h0 h1
  intro k hk
  unfold thO
  rw [← e1, ← e2, ← e3]; exact g k hk
theorem LOD.un {b l n y z w f : Nat → Int32} {a s i r t : Int32} (h : SRL b l n y z w) (g : LOD f b l n a s i r) (k : LOD f y z w a s i t) : r = t := by
  unfold LOD at g k
  by_cases c : 0 ≤ a.toInt ∧ a.toInt < (f 2).toInt ∧ 0 ≤ s.toInt ∧ s.toInt ≤ 3 ∧ -2 ≤ i.toInt
  · rw [if_pos c] at g k
    have s0 := c.2.2.1
    have s3 := c.2.2.2.1
    rw [← SRL.b h s0 s3, ← SRL.l h s0 s3] at k
    have kk : LDK z w s ↔ LDK l n s := by
      unfold LDK
      rw [← SRL.l h s0 s3]
      exact ⟨fun q => ⟨q.1, q.2.1, q.2.2.1, THG.eq h s0 s3 q.2.2.2⟩, fun q => ⟨q.1, q.2.1, q.2.2.1, THG.qe h s0 s3 q.2.2.2⟩⟩
    rw [kk] at k
    by_cases c1 : (b s.toNatClampNeg).toInt = 0
    · rw [if_pos c1] at g k; rw [g, k]
    · rw [if_neg c1] at g k
      rcases g with ⟨g1, g2⟩ | ⟨g1, g2⟩
      · rcases k with ⟨_, k2⟩ | ⟨k1, _⟩
        · rw [g2, k2]
        · exact absurd k1 g1
      · rcases k with ⟨k1, _⟩ | ⟨_, k2⟩
        · exact absurd g1 k1
        · rcases g2 with ⟨g3, g4⟩ | ⟨g3, g4⟩
          · rcases k2 with ⟨_, k4⟩ | ⟨k3, _⟩
            · rw [g4, k4]
            · omega
          · rcases k2 with ⟨k3, _⟩ | ⟨_, k4⟩
            · omega
            · obtain ⟨tk, wo, we, a1, a2⟩ := g4
              obtain ⟨tl, wp, wf, b1, b2⟩ := k4
              have e := th_eq h s0 s3
              unfold LDA at b1
              rw [← e.1, ← e.2.1, ← e.2.2] at b1
              obtain ⟨u1, u2, u3⟩ := LDA.un a1 b1
              rw [a2, b2, u1, u2]
              by_cases i1 : i.toInt = -1
              · rw [if_pos i1, if_pos i1]
              · rw [if_neg i1, if_neg i1]
                by_cases i2 : i.toInt = -2
                · rw [if_pos i2, if_pos i2]
                · rw [if_neg i2, if_neg i2]; exact u3 _ (by omega)
  · rw [if_neg c] at g k; rw [g, k]
theorem LOD.b {f bs ls n : Nat → Int32} {a s i : Int32} (c : ¬ (0 ≤ a.toInt ∧ a.toInt < (f 2).toInt ∧ 0 ≤ s.toInt ∧ s.toInt ≤ 3 ∧ -2 ≤ i.toInt)) : LOD f bs ls n a s i (-1000001) := by unfold LOD; rw [if_neg c]
theorem LOD.n {f bs ls n : Nat → Int32} {a s i : Int32} (c : 0 ≤ a.toInt ∧ a.toInt < (f 2).toInt ∧ 0 ≤ s.toInt ∧ s.toInt ≤ 3 ∧ -2 ≤ i.toInt) (d : (bs s.toNatClampNeg).toInt = 0) : LOD f bs ls n a s i (-1000002) := by unfold LOD; rw [if_pos c, if_pos d]
theorem LOD.k {f bs ls n : Nat → Int32} {a s i : Int32} (c : 0 ≤ a.toInt ∧ a.toInt < (f 2).toInt ∧ 0 ≤ s.toInt ∧ s.toInt ≤ 3 ∧ -2 ≤ i.toInt) (d : (bs s.toNatClampNeg).toInt ≠ 0) (k : ¬ LDK ls n s) : LOD f bs ls n a s i (-1000005) := by unfold LOD; rw [if_pos c, if_neg d]; exact Or.inl ⟨k, rfl⟩
theorem LOD.s {f bs ls n : Nat → Int32} {a s i : Int32} (c : 0 ≤ a.toInt ∧ a.toInt < (f 2).toInt ∧ 0 ≤ s.toInt ∧ s.toInt ≤ 3 ∧ -2 ≤ i.toInt) (d : (bs s.toNatClampNeg).toInt ≠ 0) (k : LDK ls n s) (e : (ls s.toNatClampNeg).toInt / 3 ≤ i.toInt) : LOD f bs ls n a s i (-1000003) := by unfold LOD; rw [if_pos c, if_neg d]; exact Or.inr ⟨k, Or.inl ⟨e, rfl⟩⟩
theorem LOD.v {f bs ls n tk : Nat → Int32} {a s i r wo we : Int32} {T : Nat} {C : Int} (c : 0 ≤ a.toInt ∧ a.toInt < (f 2).toInt ∧ 0 ≤ s.toInt ∧ s.toInt ≤ 3 ∧ -2 ≤ i.toInt) (d : (bs s.toNatClampNeg).toInt ≠ 0) (k : LDK ls n s) (e : i.toInt < (ls s.toNatClampNeg).toInt / 3) (l : LDA n s T C tk wo we) (eT : (T : Int) = (ls s.toNatClampNeg).toInt / 3) (eC : C = 12 * (pW f a 3).toInt) (er : (i.toInt = -1 ∧ r = wo) ∨ (i.toInt = -2 ∧ r = we) ∨ (0 ≤ i.toInt ∧ r = tk i.toNatClampNeg)) : LOD f bs ls n a s i r := by
  unfold LOD; rw [if_pos c, if_neg d]
  refine Or.inr ⟨k, Or.inr ⟨e, tk, wo, we, ?_, ?_⟩⟩
  · rw [← eT, ← eC, show ((T : Int)).toNat = T from by omega]; exact l
  · rcases er with ⟨x, y⟩ | ⟨x, y⟩ | ⟨x, y⟩
    · rw [if_pos x]; exact y
    · rw [if_neg (by omega), if_pos x]; exact y
    · rw [if_neg (by omega), if_neg (by omega)]; exact y
/- numbers of few -/
theorem k_m3 {v x y : Int32} {lo hi : Int} (e : v = x * y) (x0 : 0 ≤ x.toInt) (x3 : x.toInt ≤ 3) (y0 : lo ≤ y.toInt) (y1 : y.toInt ≤ hi) (l0 : lo ≤ 0) (h0 : 0 ≤ hi) (b0 : -700000000 ≤ lo) (b1 : hi ≤ 700000000) : v.toInt = x.toInt * y.toInt ∧ 3 * lo ≤ v.toInt ∧ v.toInt ≤ 3 * hi := by
  have z : x.toInt * y.toInt ≤ 3 * hi ∧ 3 * lo ≤ x.toInt * y.toInt := by
    rcases (show x.toInt = 0 ∨ x.toInt = 1 ∨ x.toInt = 2 ∨ x.toInt = 3 by omega) with q | q | q | q <;> rw [q] <;> omega
  have t : v.toInt = x.toInt * y.toInt := by rw [e]; exact k_mul (by omega) (by omega)
  exact ⟨t, by omega, by omega⟩
theorem BDR.r {b : Nat → Int32} {t t1 x room r : Int32} (h : BDR b t room) (e : r = b (601 * t1.toInt.toNat + x.toInt.toNat)) (et : t1.toInt = t.toInt + 1) (t0 : 0 ≤ t.toInt) (x0 : 0 ≤ x.toInt) (x1 : x.toInt ≤ room.toInt) : r.toInt = bat b (t.toInt.toNat + 1) x.toInt ∧ 0 ≤ r.toInt ∧ r.toInt ≤ 24551424 := by
  have z := h x.toInt x0 x1
  have y : r.toInt = bat b (t.toInt.toNat + 1) x.toInt := bat_e e et t0 rfl
  exact ⟨y, by omega, by omega⟩
theorem MXW.v {b : Nat → Int32} {t room hv dr n p w r x pv v : Int32} (q : p.toInt = n.toInt * w.toInt) (hw : w.toInt = 1024 * dr.toInt - hv.toInt) (hr : r.toInt = bat b (t.toInt.toNat + 1) x.toInt) (qv : pv.toInt = n.toInt * hv.toInt) (hx : x.toInt = room.toInt - pv.toInt) (hv2 : v.toInt = p.toInt + r.toInt) : v.toInt = n.toInt * (1024 * dr.toInt - hv.toInt) + bat b (t.toInt.toNat + 1) (room.toInt - n.toInt * hv.toInt) := by
  rw [hv2, q, hr, hx, qv, hw]
theorem BST.y {b : Nat → Int32} {t room v r2 : Int32} {hv dr n : Int} (h : n * hv ≤ room.toInt) (e : v.toInt = n * (1024 * dr - hv) + bat b (t.toInt.toNat + 1) (room.toInt - n * hv)) (h2 : r2 = b (601 * t.toInt.toNat + room.toInt.toNat)) (c : v.toInt = r2.toInt) : BST b t room hv dr n := by
  refine ⟨h, ?_⟩
  rw [← e, c, h2]; rfl
theorem BST.n1 {b : Nat → Int32} {t room : Int32} {hv dr n : Int} (h : room.toInt < n * hv) : ¬ BST b t room hv dr n := fun z => by have := z.1; omega
theorem BST.n2 {b : Nat → Int32} {t room v r2 : Int32} {hv dr n : Int} (e : v.toInt = n * (1024 * dr - hv) + bat b (t.toInt.toNat + 1) (room.toInt - n * hv)) (h2 : r2 = b (601 * t.toInt.toNat + room.toInt.toNat)) (c : v.toInt ≠ r2.toInt) : ¬ BST b t room hv dr n := fun z => by
  have y := z.2
  rw [← e] at y
  exact c (by rw [y, h2]; rfl)
theorem th_h {n : Nat → Int32} {s i r t : Int32} {T : Int} (g : THG n s T) (e : r = n (36 * s.toInt.toNat + i.toInt.toNat)) (t0 : 0 ≤ t.toInt) (t1 : t.toInt < T) (t8 : T ≤ 12) (hi : i.toInt = 3 * t.toInt) : r.toInt = thH n s t.toInt.toNat ∧ 1 ≤ r.toInt ∧ r.toInt ≤ 40 := by
  have z : r.toInt = thH n s t.toInt.toNat := by unfold thH; rw [if_pos (by omega), e, show i.toInt.toNat = 3 * t.toInt.toNat from by omega]
  have p := g t.toInt.toNat (by omega)
  exact ⟨z, by have := p.1; omega, by have := p.2.1; omega⟩
theorem th_d {n : Nat → Int32} {s i r t : Int32} {T : Int} (g : THG n s T) (e : r = n (36 * s.toInt.toNat + i.toInt.toNat)) (t0 : 0 ≤ t.toInt) (t1 : t.toInt < T) (t8 : T ≤ 12) (hi : i.toInt = 3 * t.toInt + 1) : r.toInt = thD n s t.toInt.toNat ∧ 0 ≤ r.toInt ∧ r.toInt ≤ 999 := by
  have z : r.toInt = thD n s t.toInt.toNat := by unfold thD; rw [if_pos (by omega), e, show 36 * s.toInt.toNat + 3 * t.toInt.toNat + 1 = 36 * s.toInt.toNat + i.toInt.toNat from by omega]
  have p := g t.toInt.toNat (by omega)
  exact ⟨z, by have := p.2.2.1; omega, by have := p.2.2.2.1; omega⟩
theorem th_c {n : Nat → Int32} {s i r t : Int32} {T : Int} (g : THG n s T) (e : r = n (36 * s.toInt.toNat + i.toInt.toNat)) (t0 : 0 ≤ t.toInt) (t1 : t.toInt < T) (t8 : T ≤ 12) (hi : i.toInt = 3 * t.toInt + 2) : r.toInt = thC n s t.toInt.toNat ∧ 1 ≤ r.toInt ∧ r.toInt ≤ 3 := by
  have z : r.toInt = thC n s t.toInt.toNat := by unfold thC; rw [if_pos (by omega), e, show 36 * s.toInt.toNat + 3 * t.toInt.toNat + 2 = 36 * s.toInt.toNat + i.toInt.toNat from by omega]
  have p := g t.toInt.toNat (by omega)
  exact ⟨z, by have := p.2.2.2.2.1; omega, by have := p.2.2.2.2.2; omega⟩
theorem DPR.m {b n : Nat → Int32} {s tn C t t1 : Int32} (h : DPR b n s tn C t) (e : t1.toInt = t.toInt) : DPR b n s tn C t1 := fun k k0 k1 => h k (by omega) k1
theorem LDK.bx {ls n : Nat → Int32} {s i x : Int32} (i0 : 0 ≤ i.toInt) (im : i.toInt % 3 = 0) (il : i.toInt < (ls s.toNatClampNeg).toInt) (e : x = n (36 * s.toInt.toNat + i.toInt.toNat)) (c : x.toInt < 1 ∨ 40 < x.toInt) : ¬ LDK ls n s := fun z => by
  obtain ⟨z1, z2, z3, z4⟩ := z
  have p := z4 (i.toInt / 3).toNat (by omega)
  have q : thH n s (i.toInt / 3).toNat = x.toInt := by unfold thH; rw [if_pos (by omega), e, show i.toInt.toNat = 3 * (i.toInt / 3).toNat from by omega]
  have p1 := p.1
  have p2 := p.2.1
  omega
theorem LDK.b_y {ls n : Nat → Int32} {s i x : Int32} (i0 : 0 ≤ i.toInt) (im : i.toInt % 3 = 1) (il : i.toInt < (ls s.toNatClampNeg).toInt) (e : x = n (36 * s.toInt.toNat + i.toInt.toNat)) (c : x.toInt < 0 ∨ 999 < x.toInt) : ¬ LDK ls n s := fun z => by
  obtain ⟨z1, z2, z3, z4⟩ := z
  have p := z4 (i.toInt / 3).toNat (by omega)
  have q : thD n s (i.toInt / 3).toNat = x.toInt := by unfold thD; rw [if_pos (by omega), e, show 36 * s.toInt.toNat + 3 * (i.toInt / 3).toNat + 1 = 36 * s.toInt.toNat + i.toInt.toNat from by omega]
  have p1 := p.2.2.1
  have p2 := p.2.2.2.1
  omega
theorem LDK.bz {ls n : Nat → Int32} {s i x : Int32} (i0 : 0 ≤ i.toInt) (im : i.toInt % 3 = 2) (il : i.toInt < (ls s.toNatClampNeg).toInt) (e : x = n (36 * s.toInt.toNat + i.toInt.toNat)) (c : x.toInt < 1 ∨ 3 < x.toInt) : ¬ LDK ls n s := fun z => by
  obtain ⟨z1, z2, z3, z4⟩ := z
  have p := z4 (i.toInt / 3).toNat (by omega)
  have q : thC n s (i.toInt / 3).toNat = x.toInt := by unfold thC; rw [if_pos (by omega), e, show 36 * s.toInt.toNat + 3 * (i.toInt / 3).toNat + 2 = 36 * s.toInt.toNat + i.toInt.toNat from by omega]
  have p1 := p.2.2.2.2.1
  have p2 := p.2.2.2.2.2
  omega
theorem DPR.m2 {b n : Nat → Int32} {s tn C t t1 : Int32} (h : DPR b n s tn C t) (e : t.toInt ≤ t1.toInt) : DPR b n s tn C t1 := fun k k0 k1 => h k (by omega) k1
/- the reference's side: row by row, from the greatest on -/
theorem sh_m {x y v : Int32} {m : Nat} (hm : m < 8) (ey : y.toInt = 2 * m) (h0 : 0 ≤ x.toInt) (e : v = x >>> (y &&& 31)) : v.toInt = x.toInt / 4 ^ m := by
  have y2 : y = nI (2 * m) := k_inj (by rw [nI_toInt (by omega)]; omega)
  have t : v.toBitVec = x.toBitVec.sshiftRight (2 * m) := by
    rw [e, y2, Int32.toBitVec_shiftRight]
    show x.toBitVec.sshiftRight ((nI (2 * m) &&& 31).toBitVec.smod 32).toNat = _
    rw [s_l (2 * m) (by omega)]
  have a : v.toInt = x.toInt >>> (2 * m) := by
    show v.toBitVec.toInt = x.toBitVec.toInt >>> (2 * m)
    rw [t, BitVec.toInt_sshiftRight]
  rw [a, Int.shiftRight_eq_div_pow, Nat.pow_mul]; rfl
theorem an_3 {v u : Int32} (h0 : 0 ≤ v.toInt) (e : u = v &&& 3) : u.toInt = v.toInt % 4 := by
  have n1 : (u.toBitVec.toNat) = v.toBitVec.toNat % 4 := by
    rw [e]
    show (v.toBitVec &&& (3 : Int32).toBitVec).toNat = _
    rw [BitVec.toNat_and]
    exact Nat.and_two_pow_sub_one_eq_mod _ 2
  have n2 : v.toBitVec.toNat < 2 ^ 31 := by
    have z : 0 ≤ v.toBitVec.toInt := h0
    rw [BitVec.toInt_eq_toNat_cond] at z
    have l := v.toBitVec.isLt
    split at z <;> omega
  have a : u.toInt = (u.toBitVec.toNat : Int) := BitVec.toInt_eq_toNat_of_lt (by omega)
  have b : v.toInt = (v.toBitVec.toNat : Int) := BitVec.toInt_eq_toNat_of_lt (by omega)
  rw [a, b, n1]; omega
def DGQ (row k tn r : Int32) : Prop := r.toInt = (dgt row.toInt.toNat (tn.toInt.toNat - 1 - k.toInt.toNat) : Int)
theorem DGQ.of {row k tn y v u : Int32} (h0 : 0 ≤ row.toInt) (k0 : 0 ≤ k.toInt) (k1 : k.toInt < tn.toInt) (t8 : tn.toInt ≤ 8) (ey : y.toInt = 2 * (tn.toInt - 1 - k.toInt)) (e : v = row >>> (y &&& 31)) (e2 : u = v &&& 3) : DGQ row k tn u ∧ 0 ≤ u.toInt ∧ u.toInt ≤ 3 := by
  have a := sh_m (m := tn.toInt.toNat - 1 - k.toInt.toNat) (by omega) (by omega) h0 e
  have v0 : 0 ≤ v.toInt := by rw [a]; exact Int.ediv_nonneg h0 (by exact_mod_cast Nat.zero_le _)
  have b := an_3 v0 e2
  refine ⟨?_, by omega, by omega⟩
  unfold DGQ dgt
  rw [b, a]
  obtain ⟨q, hq⟩ : ∃ q : Nat, row.toInt = (q : Int) := ⟨row.toInt.toNat, by omega⟩
  rw [hq, show ((q : Int)).toNat = q from by omega]
  push_cast
  rfl
theorem sh_1 {y v : Int32} {T : Nat} (hT : T ≤ 8) (ey : y.toInt = 2 * T) (e : v = 1 <<< (y &&& 31)) : v.toInt = ((4 ^ T : Nat) : Int) := by
  have y2 : y = nI (2 * T) := k_inj (by rw [nI_toInt (by omega)]; omega)
  rw [e, y2]
  rcases (show T = 0 ∨ T = 1 ∨ T = 2 ∨ T = 3 ∨ T = 4 ∨ T = 5 ∨ T = 6 ∨ T = 7 ∨ T = 8 by omega) with h | h | h | h | h | h | h | h | h <;> rw [h] <;> decide
theorem p4_le {T : Nat} (hT : T ≤ 8) : 4 ^ T ≤ 65536 := by
  rcases (show T = 0 ∨ T = 1 ∨ T = 2 ∨ T = 3 ∨ T = 4 ∨ T = 5 ∨ T = 6 ∨ T = 7 ∨ T = 8 by omega) with h | h | h | h | h | h | h | h | h <;> rw [h] <;> decide
def FLI (n : Nat → Int32) (s C tn : Int32) (bk : Nat → Int32) (bw bg row : Int32) : Prop := row.toInt < ((4 ^ tn.toInt.toNat : Nat) : Int) ∧ ((bw.toInt = -1 ∧ ∀ Q : Nat, Q < 4 ^ tn.toInt.toNat → row.toInt < (Q : Int) → ¬ ldF (thH n s) (thC n s) tn.toInt.toNat C.toInt Q) ∨ ∃ R : Nat, row.toInt < (R : Int) ∧ R < 4 ^ tn.toInt.toNat ∧ ldF (thH n s) (thC n s) tn.toInt.toNat C.toInt R ∧ bw.toInt = ldS (thD n s) tn.toInt.toNat R tn.toInt.toNat ∧ bg.toInt = ldS (thH n s) tn.toInt.toNat R tn.toInt.toNat ∧ (∀ i : Nat, i < tn.toInt.toNat → (bk i).toInt = (dgt R (tn.toInt.toNat - 1 - i) : Int)) ∧ ∀ Q : Nat, Q < 4 ^ tn.toInt.toNat → row.toInt < (Q : Int) → ldF (thH n s) (thC n s) tn.toInt.toNat C.toInt Q → ldV (thH n s) (thD n s) tn.toInt.toNat Q < ldV (thH n s) (thD n s) tn.toInt.toNat R ∨ (ldV (thH n s) (thD n s) tn.toInt.toNat Q = ldV (thH n s) (thD n s) tn.toInt.toNat R ∧ Q ≤ R))
theorem FLI.z {n bk : Nat → Int32} {s C tn bw bg row : Int32} (h : row.toInt = ((4 ^ tn.toInt.toNat : Nat) : Int) - 1) (hb : bw.toInt = -1) : FLI n s C tn bk bw bg row := ⟨by omega, Or.inl ⟨hb, fun Q hQ hr => absurd hr (by omega)⟩⟩
theorem FLI.no {n bk : Nat → Int32} {s C tn bw bg row row1 : Int32} (h : FLI n s C tn bk bw bg row) (r0 : 0 ≤ row.toInt) (e : row1.toInt = row.toInt - 1) (c : ¬ ldF (thH n s) (thC n s) tn.toInt.toNat C.toInt row.toInt.toNat) : FLI n s C tn bk bw bg row1 := by
  refine ⟨by have := h.1; omega, ?_⟩
  have key : ∀ Q : Nat, row1.toInt < (Q : Int) → ldF (thH n s) (thC n s) tn.toInt.toNat C.toInt Q → row.toInt < (Q : Int) := fun Q hr f => by
    by_cases q : (Q : Int) = row.toInt
    · rw [show Q = row.toInt.toNat from by omega] at f; exact absurd f c
    · omega
  rcases h.2 with ⟨h1, h2⟩ | ⟨R, h1, h2, h3, h4, h5, h6, h7⟩
  · exact Or.inl ⟨h1, fun Q hQ hr f => h2 Q hQ (key Q hr f) f⟩
  · exact Or.inr ⟨R, by omega, h2, h3, h4, h5, h6, fun Q hQ hr f => h7 Q hQ (key Q hr f) f⟩
theorem FLI.le {n bk : Nat → Int32} {s C tn bw bg row row1 wo we : Int32} (h : FLI n s C tn bk bw bg row) (r0 : 0 ≤ row.toInt) (e : row1.toInt = row.toInt - 1) (c6 : C.toInt ≤ 600) (f0 : ldF (thH n s) (thC n s) tn.toInt.toNat C.toInt row.toInt.toNat) (ew : wo.toInt = ldS (thD n s) tn.toInt.toNat row.toInt.toNat tn.toInt.toNat) (ee : we.toInt = ldS (thH n s) tn.toInt.toNat row.toInt.toNat tn.toInt.toNat) (w0 : 0 ≤ wo.toInt) (e0 : 0 ≤ we.toInt) (hn : 0 ≤ bg.toInt) (c : wo.toInt < bw.toInt ∨ (wo.toInt = bw.toInt ∧ bg.toInt ≤ we.toInt)) : FLI n s C tn bk bw bg row1 := by
  refine ⟨by have := h.1; omega, ?_⟩
  have hr0 := h.1
  rcases h.2 with ⟨h1, h2⟩ | ⟨R, h1, h2, h3, h4, h5, h6, h7⟩
  · omega
  · refine Or.inr ⟨R, by omega, h2, h3, h4, h5, h6, fun Q hQ hr f => ?_⟩
    by_cases q : (Q : Int) = row.toInt
    · have eQ : Q = row.toInt.toNat := by omega
      have b1 := f0.2
      have b2 := h3.2
      subst eQ
      unfold ldV
      rw [← ew, ← ee, ← h4, ← h5]
      rw [← ee] at b1
      rw [← h5] at b2
      omega
    · exact h7 Q hQ (by omega) f
theorem FLI.yes {n bk b1 : Nat → Int32} {s C tn bw bg row row1 wo we : Int32} (h : FLI n s C tn bk bw bg row) (r0 : 0 ≤ row.toInt) (e : row1.toInt = row.toInt - 1) (c6 : C.toInt ≤ 600) (f0 : ldF (thH n s) (thC n s) tn.toInt.toNat C.toInt row.toInt.toNat) (ew : wo.toInt = ldS (thD n s) tn.toInt.toNat row.toInt.toNat tn.toInt.toNat) (ee : we.toInt = ldS (thH n s) tn.toInt.toNat row.toInt.toNat tn.toInt.toNat) (e0 : 0 ≤ we.toInt) (hn : 0 ≤ bg.toInt) (hb : ∀ i : Nat, i < tn.toInt.toNat → (b1 i).toInt = (dgt row.toInt.toNat (tn.toInt.toNat - 1 - i) : Int)) (c : bw.toInt < wo.toInt ∨ (wo.toInt = bw.toInt ∧ we.toInt < bg.toInt)) : FLI n s C tn b1 wo we row1 := by
  have hr0 := h.1
  refine ⟨by omega, Or.inr ⟨row.toInt.toNat, by omega, by omega, f0, ew, ee, hb, fun Q hQ hr f => ?_⟩⟩
  by_cases q : (Q : Int) = row.toInt
  · exact Or.inr ⟨by rw [show Q = row.toInt.toNat from by omega], by omega⟩
  · left
    rcases h.2 with ⟨h1, h2⟩ | ⟨R, h1, h2, h3, h4, h5, h6, h7⟩
    · exact absurd f (h2 Q hQ (by omega))
    · have z := h7 Q hQ (by omega) f
      have b1 := f0.2
      have b2 := h3.2
      rw [← ee] at b1
      rw [← h5] at b2
      have v1 : ldV (thH n s) (thD n s) tn.toInt.toNat row.toInt.toNat = 1024 * wo.toInt - we.toInt := by unfold ldV; rw [ew, ee]
      have v2 : ldV (thH n s) (thD n s) tn.toInt.toNat R = 1024 * bw.toInt - bg.toInt := by unfold ldV; rw [h4, h5]
      rw [v1]
      rw [v2] at z
      omega
theorem ldS_z {w : Nat → Int} {T : Nat} : ∀ k : Nat, ldS w T 0 k = 0 := by
  intro k
  induction k with
  | zero => rfl
  | succ k ih =>
    show ldS w T 0 k + (dgt 0 (T - 1 - k) : Int) * w k = 0
    have e : dgt 0 (T - 1 - k) = 0 := by unfold dgt; rw [Nat.zero_div]
    rw [ih, e]
    show 0 + (0 : Int) * w k = 0
    rw [Int.zero_mul]; rfl
theorem FLI.e {n bk : Nat → Int32} {s C tn bw bg row : Int32} (h : FLI n s C tn bk bw bg row) (e : row.toInt = -1) (g : THG n s tn.toInt) (C0 : 0 ≤ C.toInt) : LDA n s tn.toInt.toNat C.toInt bk bw bg := by
  rcases h.2 with ⟨h1, h2⟩ | ⟨R, h1, h2, h3, h4, h5, h6, h7⟩
  · refine absurd ?_ (h2 0 (Nat.pow_pos (by omega)) (by omega))
    refine ⟨fun k hk => ?_, by rw [ldS_z]; exact C0⟩
    have z : dgt 0 (tn.toInt.toNat - 1 - k) = 0 := by unfold dgt; rw [Nat.zero_div]
    rw [z]
    have p := (g k (by omega)).2.2.2.2.1
    show (0 : Int) ≤ _
    omega
  · exact ⟨R, ⟨h2, h3, fun Q hQ f => h7 Q hQ (by omega) f⟩, h4, h5, h6⟩
def FLJ (n : Nat → Int32) (s tn row we wo can k : Int32) : Prop := (can.toInt = 1 ∧ (∀ i : Nat, (i : Int) < k.toInt → (dgt row.toInt.toNat (tn.toInt.toNat - 1 - i) : Int) ≤ thC n s i) ∧ we.toInt = ldS (thH n s) tn.toInt.toNat row.toInt.toNat k.toInt.toNat ∧ wo.toInt = ldS (thD n s) tn.toInt.toNat row.toInt.toNat k.toInt.toNat) ∨ (can.toInt = 0 ∧ ∃ i : Nat, (i : Int) < tn.toInt ∧ thC n s i < (dgt row.toInt.toNat (tn.toInt.toNat - 1 - i) : Int))
theorem FLJ.z {n : Nat → Int32} {s tn row we wo can k : Int32} (hc : can.toInt = 1) (hk : k.toInt = 0) (h1 : we.toInt = 0) (h2 : wo.toInt = 0) : FLJ n s tn row we wo can k := Or.inl ⟨hc, fun i hi => absurd hi (by omega), by rw [hk, h1]; rfl, by rw [hk, h2]; rfl⟩
theorem FLJ.y {n : Nat → Int32} {s tn row we wo can k we1 wo1 can1 k1 v h d c p q : Int32} (j : FLJ n s tn row we wo can k) (cn : can.toInt ≠ 0) (k0 : 0 ≤ k.toInt) (e : k1.toInt = k.toInt + 1) (g : DGQ row k tn v) (eh : h.toInt = thH n s k.toInt.toNat) (ed : d.toInt = thD n s k.toInt.toNat) (ec : c.toInt = thC n s k.toInt.toNat) (le : v.toInt ≤ c.toInt) (ep : p.toInt = v.toInt * h.toInt) (eq : q.toInt = v.toInt * d.toInt) (e1 : we1.toInt = we.toInt + p.toInt) (e2 : wo1.toInt = wo.toInt + q.toInt) (ec1 : can1.toInt = 1) : FLJ n s tn row we1 wo1 can1 k1 := by
  rcases j with ⟨j1, j2, j3, j4⟩ | ⟨j1, _⟩
  · have ek : k1.toInt.toNat = k.toInt.toNat + 1 := by omega
    unfold DGQ at g
    refine Or.inl ⟨ec1, fun i hi => ?_, ?_, ?_⟩
    · by_cases z : (i : Int) = k.toInt
      · rw [show i = k.toInt.toNat from by omega, ← g, ← ec]; exact le
      · exact j2 i (by omega)
    · rw [ek]
      show we1.toInt = ldS (thH n s) tn.toInt.toNat row.toInt.toNat k.toInt.toNat + (dgt row.toInt.toNat (tn.toInt.toNat - 1 - k.toInt.toNat) : Int) * thH n s k.toInt.toNat
      rw [← j3, ← g, ← eh, ← ep]; exact e1
    · rw [ek]
      show wo1.toInt = ldS (thD n s) tn.toInt.toNat row.toInt.toNat k.toInt.toNat + (dgt row.toInt.toNat (tn.toInt.toNat - 1 - k.toInt.toNat) : Int) * thD n s k.toInt.toNat
      rw [← j4, ← g, ← ed, ← eq]; exact e2
  · exact absurd j1 cn
theorem FLJ.n {n : Nat → Int32} {s tn row k we1 wo1 can1 k1 v c : Int32} (k0 : 0 ≤ k.toInt) (kT : k.toInt < tn.toInt) (g : DGQ row k tn v) (ec : c.toInt = thC n s k.toInt.toNat) (le : c.toInt < v.toInt) (ec1 : can1.toInt = 0) : FLJ n s tn row we1 wo1 can1 k1 := by
  unfold DGQ at g
  exact Or.inr ⟨ec1, k.toInt.toNat, by omega, by rw [← g, ← ec]; exact le⟩
theorem FLJ.no {n : Nat → Int32} {s C tn row we wo can k : Int32} (j : FLJ n s tn row we wo can k) (h : can.toInt = 0) : ¬ ldF (thH n s) (thC n s) tn.toInt.toNat C.toInt row.toInt.toNat := by
  rcases j with ⟨j1, _⟩ | ⟨_, i, i1, i2⟩
  · omega
  · exact fun f => by have z := f.1 i (by omega); omega
theorem FLJ.hv {n : Nat → Int32} {s C tn row we wo can k : Int32} (j : FLJ n s tn row we wo can k) (h : can.toInt ≠ 0) (e : k.toInt = tn.toInt) (c : C.toInt < we.toInt) : ¬ ldF (thH n s) (thC n s) tn.toInt.toNat C.toInt row.toInt.toNat := by
  rcases j with ⟨_, _, j3, _⟩ | ⟨j1, _⟩
  · rw [e] at j3
    exact fun f => by have z := f.2; omega
  · exact absurd j1 h
theorem FLJ.ok {n : Nat → Int32} {s C tn row we wo can k : Int32} (j : FLJ n s tn row we wo can k) (h : can.toInt ≠ 0) (e : k.toInt = tn.toInt) (c : we.toInt ≤ C.toInt) : ldF (thH n s) (thC n s) tn.toInt.toNat C.toInt row.toInt.toNat ∧ wo.toInt = ldS (thD n s) tn.toInt.toNat row.toInt.toNat tn.toInt.toNat ∧ we.toInt = ldS (thH n s) tn.toInt.toNat row.toInt.toNat tn.toInt.toNat := by
  rcases j with ⟨_, j2, j3, j4⟩ | ⟨j1, _⟩
  · rw [e] at j2 j3 j4
    exact ⟨⟨fun k hk => j2 k (by omega), by rw [← j3]; exact c⟩, j4, j3⟩
  · exact absurd j1 h
def FLB (tn row : Int32) (bk : Nat → Int32) (k : Int32) : Prop := ∀ i : Nat, (i : Int) < k.toInt → (bk i).toInt = (dgt row.toInt.toNat (tn.toInt.toNat - 1 - i) : Int)
theorem FLB.z {tn row k : Int32} {bk : Nat → Int32} (h : k.toInt ≤ 0) : FLB tn row bk k := fun i hi => absurd hi (by omega)
theorem FLB.s {tn row k k1 v : Int32} {bk b1 : Nat → Int32} (h : FLB tn row bk k) (k0 : 0 ≤ k.toInt) (g : DGQ row k tn v) (e : b1 = upd bk k.toNatClampNeg v) (e1 : k1.toInt = k.toInt + 1) : FLB tn row b1 k1 := by
  intro i hi
  rw [k_clamp] at e
  by_cases c : (i : Int) = k.toInt
  · rw [show i = k.toInt.toNat from by omega, e, sp_at]; exact g
  · rw [e, sp_ne (by omega)]; exact h i (by omega)
theorem FLB.e {tn row k : Int32} {bk : Nat → Int32} (h : FLB tn row bk k) (e : tn.toInt ≤ k.toInt) : ∀ i : Nat, i < tn.toInt.toNat → (bk i).toInt = (dgt row.toInt.toNat (tn.toInt.toNat - 1 - i) : Int) := fun i hi => h i (by omega)
def nbO (n : Nat → Int32) (s : Int32) (j : Nat) : Prop := (j % 3 = 0 → 1 ≤ (n (36 * s.toInt.toNat + j)).toInt ∧ (n (36 * s.toInt.toNat + j)).toInt ≤ 40) ∧ (j % 3 = 1 → 0 ≤ (n (36 * s.toInt.toNat + j)).toInt ∧ (n (36 * s.toInt.toNat + j)).toInt ≤ 999) ∧ (j % 3 = 2 → 1 ≤ (n (36 * s.toInt.toNat + j)).toInt ∧ (n (36 * s.toInt.toNat + j)).toInt ≤ 3)
def ATI (ls n : Nat → Int32) (s are k : Int32) : Prop := (are.toInt = 1 ∧ 3 ≤ (ls s.toNatClampNeg).toInt ∧ (ls s.toNatClampNeg).toInt ≤ 24 ∧ (ls s.toNatClampNeg).toInt % 3 = 0 ∧ ∀ j : Nat, (j : Int) < k.toInt → nbO n s j) ∨ (are.toInt = 0 ∧ ¬ LDK ls n s)
theorem ATI.z1 {ls n : Nat → Int32} {s are k : Int32} (h : are.toInt = 1) (h1 : 3 ≤ (ls s.toNatClampNeg).toInt) (h2 : (ls s.toNatClampNeg).toInt ≤ 24) (h3 : (ls s.toNatClampNeg).toInt % 3 = 0) (hk : k.toInt ≤ 0) : ATI ls n s are k := Or.inl ⟨h, h1, h2, h3, fun j hj => absurd hj (by omega)⟩
theorem ATI.z0 {ls n : Nat → Int32} {s are k : Int32} (h : are.toInt = 0) (c : (ls s.toNatClampNeg).toInt < 3 ∨ 24 < (ls s.toNatClampNeg).toInt ∨ (ls s.toNatClampNeg).toInt % 3 ≠ 0) : ATI ls n s are k := Or.inr ⟨h, fun z => by
  obtain ⟨z1, z2, z3, _⟩ := z
  omega⟩
theorem ATI.y {ls n : Nat → Int32} {s are k are1 k1 x : Int32} (h : ATI ls n s are k) (c0 : are.toInt ≠ 0) (k0 : 0 ≤ k.toInt) (e1 : k1.toInt = k.toInt + 1) (ex : x = n (36 * s.toInt.toNat + k.toInt.toNat)) (c : (k.toInt % 3 = 0 ∧ 1 ≤ x.toInt ∧ x.toInt ≤ 40) ∨ (k.toInt % 3 = 1 ∧ 0 ≤ x.toInt ∧ x.toInt ≤ 999) ∨ (k.toInt % 3 = 2 ∧ 1 ≤ x.toInt ∧ x.toInt ≤ 3)) (ea : are1.toInt = 1) : ATI ls n s are1 k1 := by
  rcases h with ⟨_, h1, h2, h3, h4⟩ | ⟨h1, _⟩
  · refine Or.inl ⟨ea, h1, h2, h3, fun j hj => ?_⟩
    by_cases q : (j : Int) = k.toInt
    · have ej : j = k.toInt.toNat := by omega
      unfold nbO
      rw [ej, ← ex]
      exact ⟨fun _ => by omega, fun _ => by omega, fun _ => by omega⟩
    · exact h4 j (by omega)
  · exact absurd h1 c0
theorem ATI.n {ls n : Nat → Int32} {s k are1 k1 x : Int32} (k0 : 0 ≤ k.toInt) (kl : k.toInt < (ls s.toNatClampNeg).toInt) (ex : x = n (36 * s.toInt.toNat + k.toInt.toNat)) (c : (k.toInt % 3 = 0 ∧ (x.toInt < 1 ∨ 40 < x.toInt)) ∨ (k.toInt % 3 = 1 ∧ (x.toInt < 0 ∨ 999 < x.toInt)) ∨ (k.toInt % 3 = 2 ∧ (x.toInt < 1 ∨ 3 < x.toInt))) (ea : are1.toInt = 0) : ATI ls n s are1 k1 := by
  refine Or.inr ⟨ea, ?_⟩
  rcases c with ⟨c1, c2⟩ | ⟨c1, c2⟩ | ⟨c1, c2⟩
  · exact LDK.bx k0 c1 kl ex c2
  · exact LDK.b_y k0 c1 kl ex c2
  · exact LDK.bz k0 c1 kl ex c2
theorem ATI.no {ls n : Nat → Int32} {s are k : Int32} (h : ATI ls n s are k) (c : are.toInt = 0) : ¬ LDK ls n s := by
  rcases h with ⟨h1, _⟩ | ⟨_, h1⟩
  · omega
  · exact h1
theorem ATI.ok {ls n : Nat → Int32} {s are k : Int32} (h : ATI ls n s are k) (c : are.toInt ≠ 0) (e : (ls s.toNatClampNeg).toInt ≤ k.toInt) : LDK ls n s := by
  rcases h with ⟨_, h1, h2, h3, h4⟩ | ⟨h1, _⟩
  · refine ⟨h1, h2, h3, fun k2 hk => ?_⟩
    have a := (h4 (3 * k2) (by omega)).1 (by omega)
    have b := (h4 (3 * k2 + 1) (by omega)).2.1 (by omega)
    have d := (h4 (3 * k2 + 2) (by omega)).2.2 (by omega)
    have k12 : k2 < 12 := by omega
    unfold thO thH thD thC
    rw [if_pos k12, if_pos k12, if_pos k12]
    exact ⟨a.1, a.2, b.1, b.2, d.1, d.2⟩
  · exact absurd h1 c
