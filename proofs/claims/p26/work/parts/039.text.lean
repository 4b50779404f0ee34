/-! TEXTS. Kinds of what is read: 0 either, 1 both, 2 compared, 3 sum, 4 product, 5 part; 10, 11, 13, 14: what follows behind the first 1, 2, 4, 5 of one -/
def tG (t : Nat → Int32) (d : Nat) (n : Int32) (p : Int) : Int32 := if 0 ≤ p ∧ p < n.toInt then t (d + p.toNat) else (-1)
def tx_nm (u c : Int32) : Int :=
  if u.toInt = 0 then (if c.toInt = 110 then 0 else if c.toInt = 99 then 1 else if c.toInt = 109 then 2 else -1)
  else if u.toInt = 1 then (if c.toInt = 108 then 0 else if c.toInt = 100 then 1 else -1)
  else (if c.toInt = 107 then 0 else if c.toInt = 115 then 1 else if c.toInt = 103 then 2 else -1)
def tx_num (g : Int → Int32) : Nat → Int32 → Int → Int32 × Int
  | 0, v, p => (v, p)
  | n + 1, v, p => if 48 ≤ (g p).toInt ∧ (g p).toInt ≤ 57 then tx_num g n (10 * v + g p - 48) (p + 1) else (v, p)
def tx_then (r : Int32 × Int × Bool) (h : Int32 → Int → Int32 × Int × Bool) : Int32 × Int × Bool := if r.2.2 = true then (0, r.2.1, true) else h r.1 r.2.1
def tx_mul (c v w : Int32) : Int32 := if c.toInt = 42 then v * w else if w.toInt = 0 then 0 else v - v / w * w
def tx_add (c v w : Int32) : Int32 := if c.toInt = 43 then v + w else v - w
def tx_cmp (c v w : Int32) : Int32 := if c.toInt = 60 then (if v.toInt < w.toInt then 1 else 0) else if c.toInt = 61 then (if v.toInt = w.toInt then 1 else 0) else (if w.toInt < v.toInt then 1 else 0)
def tx_and (v w : Int32) : Int32 := if v.toInt ≠ 0 ∧ w.toInt ≠ 0 then 1 else 0
def tx_or (v w : Int32) : Int32 := if v.toInt ≠ 0 ∨ w.toInt ≠ 0 then 1 else 0
def tx (g : Int → Int32) (u A B C : Int32) : Nat → Nat → Int → Int32 → Int → Int32 × Int × Bool
  | 0, _, _, _, p => (0, p, true)
  | f + 1, k, o, v, p =>
    if k = 5 then
      (if 48 ≤ (g p).toInt ∧ (g p).toInt ≤ 57 then ((tx_num g 4 0 p).1, (tx_num g 4 0 p).2, false)
       else if (g p).toInt = 45 ∨ (g p).toInt = 33 ∨ (g p).toInt = 40 then
         (if 4 ≤ o then (0, p, true)
          else if (g p).toInt = 45 then tx_then (tx g u A B C f 5 (o + 1) 0 (p + 1)) (fun w q => (-w, q, false))
          else if (g p).toInt = 33 then tx_then (tx g u A B C f 5 (o + 1) 0 (p + 1)) (fun w q => (if w.toInt = 0 then 1 else 0, q, false))
          else tx_then (tx g u A B C f 0 (o + 1) 0 (p + 1)) (fun w q => if (g q).toInt = 41 then (w, q + 1, false) else (0, q, true)))
       else if tx_nm u (g p) < 0 then (0, p, true)
       else (if tx_nm u (g p) = 0 then A else if tx_nm u (g p) = 1 then B else C, p + 1, false))
    else if k = 14 then (if (g p).toInt = 42 ∨ (g p).toInt = 37 then tx_then (tx g u A B C f 5 o 0 (p + 1)) (fun w q => tx g u A B C f 14 o (tx_mul (g p) v w) q) else (v, p, false))
    else if k = 13 then (if (g p).toInt = 43 ∨ (g p).toInt = 45 then tx_then (tx g u A B C f 4 o 0 (p + 1)) (fun w q => tx g u A B C f 13 o (tx_add (g p) v w) q) else (v, p, false))
    else if k = 11 then (if (g p).toInt = 38 then tx_then (tx g u A B C f 2 o 0 (p + 1)) (fun w q => tx g u A B C f 11 o (tx_and v w) q) else (v, p, false))
    else if k = 10 then (if (g p).toInt = 124 then tx_then (tx g u A B C f 1 o 0 (p + 1)) (fun w q => tx g u A B C f 10 o (tx_or v w) q) else (v, p, false))
    else if k = 4 then tx_then (tx g u A B C f 5 o 0 p) (fun w q => tx g u A B C f 14 o w q)
    else if k = 3 then tx_then (tx g u A B C f 4 o 0 p) (fun w q => tx g u A B C f 13 o w q)
    else if k = 2 then tx_then (tx g u A B C f 3 o 0 p) (fun w q => if (g q).toInt = 60 ∨ (g q).toInt = 61 ∨ (g q).toInt = 62 then tx_then (tx g u A B C f 3 o 0 (q + 1)) (fun z s => (tx_cmp (g q) w z, s, false)) else (w, q, false))
    else if k = 1 then tx_then (tx g u A B C f 2 o 0 p) (fun w q => tx g u A B C f 11 o w q)
    else tx_then (tx g u A B C f 1 o 0 p) (fun w q => tx g u A B C f 10 o w q)
/-- told with as many steps as it takes -/
def TXE (g : Int → Int32) (u A B C : Int32) (k : Nat) (o : Int) (v : Int32) (p : Int) (r : Int32) (q : Int) (b : Bool) : Prop := ∃ n : Nat, ∀ f : Nat, n ≤ f → tx g u A B C f k o v p = (r, q, b)
theorem TXE.one {g : Int → Int32} {u A B C : Int32} {k : Nat} {o : Int} {v r s : Int32} {p q t : Int} {b d : Bool} (h : TXE g u A B C k o v p r q b) (h1 : TXE g u A B C k o v p s t d) : r = s ∧ q = t ∧ b = d := by
  obtain ⟨n, hn⟩ := h
  obtain ⟨m, hm⟩ := h1
  have e := (hn (n + m) (by omega)).symm.trans (hm (n + m) (by omega))
  exact ⟨congrArg (fun z => z.1) e, congrArg (fun z => z.2.1) e, congrArg (fun z => z.2.2) e⟩
theorem TXE.up {g : Int → Int32} {u A B C : Int32} {k : Nat} {o : Int} {v r : Int32} {p q : Int} {b : Bool} (n : Nat) (h : ∀ f : Nat, n ≤ f → tx g u A B C (f + 1) k o v p = (r, q, b)) : TXE g u A B C k o v p r q b :=
  ⟨n + 1, fun f hf => by obtain ⟨f, rfl⟩ : ∃ x, f = x + 1 := ⟨f - 1, by omega⟩; exact h f (by omega)⟩
/-- of the two programs: what bad (b) says, too; once bad nothing moves -/
def TXQ (g : Int → Int32) (u A B C : Int32) (k : Nat) (o : Int) (b0 v : Int32) (p : Int) (r : Int32) (q : Int) (b : Int32) : Prop :=
  (b0.toInt ≠ 0 ∧ q = p ∧ b.toInt ≠ 0) ∨ (b0.toInt = 0 ∧ ((b.toInt = 0 ∧ TXE g u A B C k o v p r q false) ∨ (b.toInt ≠ 0 ∧ TXE g u A B C k o v p 0 q true)))
section TXR
variable {g : Int → Int32} {u A B C : Int32} {o : Int}
theorem tx_then_t {r : Int32 × Int × Bool} {q : Int} {h : Int32 → Int → Int32 × Int × Bool} (e : r = (0, q, true)) : tx_then r h = (0, q, true) := by rw [e]; rfl
theorem tx_then_f {r : Int32 × Int × Bool} {w : Int32} {q : Int} {h : Int32 → Int → Int32 × Int × Bool} (e : r = (w, q, false)) : tx_then r h = h w q := by rw [e]; rfl
/-- what is bad stays so -/
theorem TXQ.bad {k : Nat} {b0 v r : Int32} {p : Int} {b : Int32} (h : b0.toInt ≠ 0) (hb : b.toInt ≠ 0) : TXQ g u A B C k o b0 v p r p b := Or.inl ⟨h, rfl, hb⟩
/-- one, then what follows: by the two kinds' own equations -/
theorem TXQ.seq {k k1 k2 : Nat} {b0 b1 r1 : Int32} {p p1 : Int} (hk : ∀ (f : Nat) (v : Int32), tx g u A B C (f + 1) k o v p = tx_then (tx g u A B C f k1 o 0 p) (fun w q => tx g u A B C f k2 o w q)) (h : TXQ g u A B C k1 o b0 0 p r1 p1 b1) :
    ∀ (v r : Int32) (q : Int) (b : Int32), TXQ g u A B C k2 o b1 r1 p1 r q b → TXQ g u A B C k o b0 v p r q b := by
  intro v r q b h2
  rcases h with ⟨z0, z1, z2⟩ | ⟨z0, ⟨z1, n, hn⟩ | ⟨z1, n, hn⟩⟩
  · rcases h2 with ⟨y0, y1, y2⟩ | ⟨y0, _⟩
    · exact Or.inl ⟨z0, y1.trans z1, y2⟩
    · exact absurd y0 z2
  · rcases h2 with ⟨y0, _⟩ | ⟨_, ⟨y1, m, hm⟩ | ⟨y1, m, hm⟩⟩
    · exact absurd z1 y0
    · exact Or.inr ⟨z0, Or.inl ⟨y1, TXE.up (n + m) (fun f hf => by rw [hk, tx_then_f (hn f (by omega))]; exact hm f (by omega))⟩⟩
    · exact Or.inr ⟨z0, Or.inr ⟨y1, TXE.up (n + m) (fun f hf => by rw [hk, tx_then_f (hn f (by omega))]; exact hm f (by omega))⟩⟩
  · rcases h2 with ⟨_, y1, y2⟩ | ⟨y0, _⟩
    · refine Or.inr ⟨z0, Or.inr ⟨y2, TXE.up n (fun f hf => ?_)⟩⟩
      rw [hk, tx_then_t (hn f hf), y1]
    · exact absurd y0 z1
/-- nothing follows -/
theorem TXQ.stop {k : Nat} {b0 v : Int32} {p : Int} (hk : ∀ f : Nat, tx g u A B C (f + 1) k o v p = (v, p, false)) : TXQ g u A B C k o b0 v p v p b0 := by
  by_cases z : b0.toInt = 0
  · exact Or.inr ⟨z, Or.inl ⟨z, TXE.up 0 (fun f _ => hk f)⟩⟩
  · exact Or.inl ⟨z, rfl, z⟩
/-- one more follows -/
theorem TXQ.more {k k1 : Nat} {b0 b1 bz v v1 w : Int32} {p p1 : Int} (op : Int32 → Int32) (hb : b0.toInt = 0) (hz : bz.toInt = 0) (hk : ∀ f : Nat, tx g u A B C (f + 1) k o v p = tx_then (tx g u A B C f k1 o 0 (p + 1)) (fun w q => tx g u A B C f k o (op w) q)) (h : TXQ g u A B C k1 o bz 0 (p + 1) w p1 b1) (hv : b1.toInt = 0 → v1 = op w) :
    ∀ (r : Int32) (q : Int) (b : Int32), TXQ g u A B C k o b1 v1 p1 r q b → TXQ g u A B C k o b0 v p r q b := by
  intro r q b h2
  rcases h with ⟨z0, _⟩ | ⟨_, ⟨z1, n, hn⟩ | ⟨z1, n, hn⟩⟩
  · exact absurd hz z0
  · have e := hv z1
    rcases h2 with ⟨y0, _⟩ | ⟨_, ⟨y1, m, hm⟩ | ⟨y1, m, hm⟩⟩
    · exact absurd z1 y0
    · exact Or.inr ⟨hb, Or.inl ⟨y1, TXE.up (n + m) (fun f hf => by rw [hk, tx_then_f (hn f (by omega)), ← e]; exact hm f (by omega))⟩⟩
    · exact Or.inr ⟨hb, Or.inr ⟨y1, TXE.up (n + m) (fun f hf => by rw [hk, tx_then_f (hn f (by omega)), ← e]; exact hm f (by omega))⟩⟩
  · rcases h2 with ⟨_, y1, y2⟩ | ⟨y0, _⟩
    · refine Or.inr ⟨hb, Or.inr ⟨y2, TXE.up n (fun f hf => ?_)⟩⟩
      rw [hk, tx_then_t (hn f hf), y1]
    · exact absurd y0 z1
theorem tx_e4 (f : Nat) (v : Int32) (p : Int) : tx g u A B C (f + 1) 4 o v p = tx_then (tx g u A B C f 5 o 0 p) (fun w q => tx g u A B C f 14 o w q) := rfl
theorem tx_e3 (f : Nat) (v : Int32) (p : Int) : tx g u A B C (f + 1) 3 o v p = tx_then (tx g u A B C f 4 o 0 p) (fun w q => tx g u A B C f 13 o w q) := rfl
theorem tx_e1 (f : Nat) (v : Int32) (p : Int) : tx g u A B C (f + 1) 1 o v p = tx_then (tx g u A B C f 2 o 0 p) (fun w q => tx g u A B C f 11 o w q) := rfl
theorem tx_e0 (f : Nat) (v : Int32) (p : Int) : tx g u A B C (f + 1) 0 o v p = tx_then (tx g u A B C f 1 o 0 p) (fun w q => tx g u A B C f 10 o w q) := rfl
theorem tx_n14 {v : Int32} {p : Int} (h1 : (g p).toInt ≠ 42) (h2 : (g p).toInt ≠ 37) (f : Nat) : tx g u A B C (f + 1) 14 o v p = (v, p, false) := by
  show (if (g p).toInt = 42 ∨ (g p).toInt = 37 then _ else (v, p, false)) = _
  rw [if_neg (by omega)]
theorem tx_n13 {v : Int32} {p : Int} (h1 : (g p).toInt ≠ 43) (h2 : (g p).toInt ≠ 45) (f : Nat) : tx g u A B C (f + 1) 13 o v p = (v, p, false) := by
  show (if (g p).toInt = 43 ∨ (g p).toInt = 45 then _ else (v, p, false)) = _
  rw [if_neg (by omega)]
theorem tx_n11 {v : Int32} {p : Int} (h1 : (g p).toInt ≠ 38) (f : Nat) : tx g u A B C (f + 1) 11 o v p = (v, p, false) := by
  show (if (g p).toInt = 38 then _ else (v, p, false)) = _
  rw [if_neg h1]
theorem tx_n10 {v : Int32} {p : Int} (h1 : (g p).toInt ≠ 124) (f : Nat) : tx g u A B C (f + 1) 10 o v p = (v, p, false) := by
  show (if (g p).toInt = 124 then _ else (v, p, false)) = _
  rw [if_neg h1]
theorem tx_y14 {v : Int32} {p : Int} (h : (g p).toInt = 42 ∨ (g p).toInt = 37) (f : Nat) : tx g u A B C (f + 1) 14 o v p = tx_then (tx g u A B C f 5 o 0 (p + 1)) (fun w q => tx g u A B C f 14 o (tx_mul (g p) v w) q) := by
  show (if (g p).toInt = 42 ∨ (g p).toInt = 37 then _ else (v, p, false)) = _
  rw [if_pos h]
theorem tx_y13 {v : Int32} {p : Int} (h : (g p).toInt = 43 ∨ (g p).toInt = 45) (f : Nat) : tx g u A B C (f + 1) 13 o v p = tx_then (tx g u A B C f 4 o 0 (p + 1)) (fun w q => tx g u A B C f 13 o (tx_add (g p) v w) q) := by
  show (if (g p).toInt = 43 ∨ (g p).toInt = 45 then _ else (v, p, false)) = _
  rw [if_pos h]
theorem tx_y11 {v : Int32} {p : Int} (h : (g p).toInt = 38) (f : Nat) : tx g u A B C (f + 1) 11 o v p = tx_then (tx g u A B C f 2 o 0 (p + 1)) (fun w q => tx g u A B C f 11 o (tx_and v w) q) := by
  show (if (g p).toInt = 38 then _ else (v, p, false)) = _
  rw [if_pos h]
theorem tx_y10 {v : Int32} {p : Int} (h : (g p).toInt = 124) (f : Nat) : tx g u A B C (f + 1) 10 o v p = tx_then (tx g u A B C f 1 o 0 (p + 1)) (fun w q => tx g u A B C f 10 o (tx_or v w) q) := by
  show (if (g p).toInt = 124 then _ else (v, p, false)) = _
  rw [if_pos h]
-- a part
theorem tx_five (f : Nat) (v : Int32) (p : Int) : tx g u A B C (f + 1) 5 o v p =
      (if 48 ≤ (g p).toInt ∧ (g p).toInt ≤ 57 then ((tx_num g 4 0 p).1, (tx_num g 4 0 p).2, false)
       else if (g p).toInt = 45 ∨ (g p).toInt = 33 ∨ (g p).toInt = 40 then
         (if 4 ≤ o then (0, p, true)
          else if (g p).toInt = 45 then tx_then (tx g u A B C f 5 (o + 1) 0 (p + 1)) (fun w q => (-w, q, false))
          else if (g p).toInt = 33 then tx_then (tx g u A B C f 5 (o + 1) 0 (p + 1)) (fun w q => (if w.toInt = 0 then 1 else 0, q, false))
          else tx_then (tx g u A B C f 0 (o + 1) 0 (p + 1)) (fun w q => if (g q).toInt = 41 then (w, q + 1, false) else (0, q, true)))
       else if tx_nm u (g p) < 0 then (0, p, true)
       else (if tx_nm u (g p) = 0 then A else if tx_nm u (g p) = 1 then B else C, p + 1, false)) := rfl
theorem tx_num_step {n : Nat} {v : Int32} {p : Int} (h : 48 ≤ (g p).toInt) (h1 : (g p).toInt ≤ 57) : tx_num g (n + 1) v p = tx_num g n (10 * v + g p - 48) (p + 1) := by
  show (if 48 ≤ (g p).toInt ∧ (g p).toInt ≤ 57 then tx_num g n (10 * v + g p - 48) (p + 1) else (v, p)) = _
  rw [if_pos ⟨h, h1⟩]
theorem tx_num_end {n : Nat} {v : Int32} {p : Int} (h : n = 0 ∨ (g p).toInt < 48 ∨ 57 < (g p).toInt) : tx_num g n v p = (v, p) := by
  cases n with
  | zero => rfl
  | succ n =>
    show (if 48 ≤ (g p).toInt ∧ (g p).toInt ≤ 57 then tx_num g n (10 * v + g p - 48) (p + 1) else (v, p)) = _
    rw [if_neg (by omega)]
theorem TXQ.num {b0 v r b : Int32} {p q : Int} (hb : b0.toInt = 0) (h : 48 ≤ (g p).toInt) (h1 : (g p).toInt ≤ 57) (e : tx_num g 4 0 p = (r, q)) (h2 : b.toInt = 0) : TXQ g u A B C 5 o b0 v p r q b :=
  Or.inr ⟨hb, Or.inl ⟨h2, TXE.up 0 (fun f _ => by rw [tx_five, if_pos ⟨h, h1⟩, e])⟩⟩
theorem TXQ.fail {b0 v r b : Int32} {p : Int} (hb : b0.toInt = 0) (h : ((g p).toInt < 48 ∨ 57 < (g p).toInt)) (h1 : (((g p).toInt = 45 ∨ (g p).toInt = 33 ∨ (g p).toInt = 40) ∧ 4 ≤ o) ∨ ((g p).toInt ≠ 45 ∧ (g p).toInt ≠ 33 ∧ (g p).toInt ≠ 40 ∧ tx_nm u (g p) < 0)) (h2 : b.toInt ≠ 0) : TXQ g u A B C 5 o b0 v p r p b :=
  Or.inr ⟨hb, Or.inr ⟨h2, TXE.up 0 (fun f _ => by
    rw [tx_five, if_neg (by omega)]
    rcases h1 with ⟨z, y⟩ | ⟨z1, z2, z3, y⟩
    · rw [if_pos z, if_pos y]
    · rw [if_neg (by omega), if_pos y])⟩⟩
theorem TXQ.name {b0 v r b : Int32} {p : Int} (hb : b0.toInt = 0) (h : ((g p).toInt < 48 ∨ 57 < (g p).toInt)) (h1 : (g p).toInt ≠ 45 ∧ (g p).toInt ≠ 33 ∧ (g p).toInt ≠ 40) (h3 : (tx_nm u (g p) = 0 ∧ r = A) ∨ (tx_nm u (g p) = 1 ∧ r = B) ∨ (2 ≤ tx_nm u (g p) ∧ r = C)) (h2 : b.toInt = 0) : TXQ g u A B C 5 o b0 v p r (p + 1) b :=
  Or.inr ⟨hb, Or.inl ⟨h2, TXE.up 0 (fun f _ => by
    rw [tx_five, if_neg (by omega), if_neg (by omega)]
    rcases h3 with ⟨z, y⟩ | ⟨z, y⟩ | ⟨z, y⟩
    · rw [if_neg (by omega), if_pos z, y]
    · rw [if_neg (by omega), if_neg (by omega), if_pos z, y]
    · rw [if_neg (by omega), if_neg (by omega), if_neg (by omega), y])⟩⟩
theorem TXQ.un {b0 bz b v w r : Int32} {p q : Int} (hb : b0.toInt = 0) (hz : bz.toInt = 0) (ho : o < 4) (hs : (g p).toInt = 45 ∨ (g p).toInt = 33) (h : TXQ g u A B C 5 (o + 1) bz 0 (p + 1) w q b) (hr : b.toInt = 0 → r = if (g p).toInt = 45 then -w else if w.toInt = 0 then 1 else 0) : TXQ g u A B C 5 o b0 v p r q b := by
  rcases h with ⟨z0, _⟩ | ⟨_, ⟨z1, n, hn⟩ | ⟨z1, n, hn⟩⟩
  · exact absurd hz z0
  · refine Or.inr ⟨hb, Or.inl ⟨z1, TXE.up n (fun f hf => ?_)⟩⟩
    rw [tx_five, if_neg (by omega), if_pos (by omega), if_neg (by omega), hr z1]
    by_cases c : (g p).toInt = 45
    · rw [if_pos c, if_pos c, tx_then_f (hn f hf)]
    · rw [if_neg c, if_neg c, if_pos (by omega), tx_then_f (hn f hf)]
  · refine Or.inr ⟨hb, Or.inr ⟨z1, TXE.up n (fun f hf => ?_)⟩⟩
    rw [tx_five, if_neg (by omega), if_pos (by omega), if_neg (by omega)]
    by_cases c : (g p).toInt = 45
    · rw [if_pos c, tx_then_t (hn f hf)]
    · rw [if_neg c, if_pos (by omega), tx_then_t (hn f hf)]
theorem tx_par {f : Nat} {v : Int32} {p : Int} (ho : o < 4) (hs : (g p).toInt = 40) : tx g u A B C (f + 1) 5 o v p = tx_then (tx g u A B C f 0 (o + 1) 0 (p + 1)) (fun w q => if (g q).toInt = 41 then (w, q + 1, false) else (0, q, true)) := by
  rw [tx_five, if_neg (by omega), if_pos (by omega), if_neg (by omega), if_neg (by omega), if_neg (by omega)]
theorem TXQ.par_ok {b0 bz b b1 v w : Int32} {p q : Int} (hb : b0.toInt = 0) (hz : bz.toInt = 0) (ho : o < 4) (hs : (g p).toInt = 40) (h : TXQ g u A B C 0 (o + 1) bz 0 (p + 1) w q b) (h0 : b.toInt = 0) (hq : (g q).toInt = 41) (h1 : b1.toInt = 0) : TXQ g u A B C 5 o b0 v p w (q + 1) b1 := by
  rcases h with ⟨z0, _⟩ | ⟨_, ⟨z1, n, hn⟩ | ⟨z1, n, hn⟩⟩
  · exact absurd hz z0
  · exact Or.inr ⟨hb, Or.inl ⟨h1, TXE.up n (fun f hf => by rw [tx_par ho hs, tx_then_f (hn f hf), if_pos hq])⟩⟩
  · exact absurd h0 z1
theorem TXQ.par_no {b0 bz b b1 v w r : Int32} {p q : Int} (hb : b0.toInt = 0) (hz : bz.toInt = 0) (ho : o < 4) (hs : (g p).toInt = 40) (h : TXQ g u A B C 0 (o + 1) bz 0 (p + 1) w q b) (h0 : b.toInt ≠ 0 ∨ (g q).toInt ≠ 41) (h1 : b1.toInt ≠ 0) : TXQ g u A B C 5 o b0 v p r q b1 := by
  rcases h with ⟨z0, _⟩ | ⟨_, ⟨z1, n, hn⟩ | ⟨z1, n, hn⟩⟩
  · exact absurd hz z0
  · have hq : (g q).toInt ≠ 41 := by
      rcases h0 with z | z
      · exact absurd z1 z
      · exact z
    exact Or.inr ⟨hb, Or.inr ⟨h1, TXE.up n (fun f hf => by rw [tx_par ho hs, tx_then_f (hn f hf), if_neg hq])⟩⟩
  · exact Or.inr ⟨hb, Or.inr ⟨h1, TXE.up n (fun f hf => by rw [tx_par ho hs, tx_then_t (hn f hf)])⟩⟩
-- two compared
theorem tx_two (f : Nat) (v : Int32) (p : Int) : tx g u A B C (f + 1) 2 o v p = tx_then (tx g u A B C f 3 o 0 p) (fun w q => if (g q).toInt = 60 ∨ (g q).toInt = 61 ∨ (g q).toInt = 62 then tx_then (tx g u A B C f 3 o 0 (q + 1)) (fun z s => (tx_cmp (g q) w z, s, false)) else (w, q, false)) := rfl
theorem TXQ.cmp_no {b0 b v w r : Int32} {p q : Int} (h : TXQ g u A B C 3 o b0 0 p w q b) (h0 : b.toInt ≠ 0 ∨ ((g q).toInt ≠ 60 ∧ (g q).toInt ≠ 61 ∧ (g q).toInt ≠ 62)) (hr : b.toInt = 0 → r = w) : TXQ g u A B C 2 o b0 v p r q b := by
  rcases h with ⟨z0, z1, z2⟩ | ⟨z0, ⟨z1, n, hn⟩ | ⟨z1, n, hn⟩⟩
  · exact Or.inl ⟨z0, z1, z2⟩
  · have hq : ¬ ((g q).toInt = 60 ∨ (g q).toInt = 61 ∨ (g q).toInt = 62) := by omega
    exact Or.inr ⟨z0, Or.inl ⟨z1, TXE.up n (fun f hf => by rw [tx_two, tx_then_f (hn f hf), if_neg hq, hr z1])⟩⟩
  · exact Or.inr ⟨z0, Or.inr ⟨z1, TXE.up n (fun f hf => by rw [tx_two, tx_then_t (hn f hf)])⟩⟩
theorem TXQ.cmp_yes {b0 b bz b2 v w z r : Int32} {p q s : Int} (h : TXQ g u A B C 3 o b0 0 p w q b) (h0 : b.toInt = 0) (hb : b0.toInt = 0) (hq : (g q).toInt = 60 ∨ (g q).toInt = 61 ∨ (g q).toInt = 62) (hz : bz.toInt = 0) (h2 : TXQ g u A B C 3 o bz 0 (q + 1) z s b2) (hr : b2.toInt = 0 → r = tx_cmp (g q) w z) : TXQ g u A B C 2 o b0 v p r s b2 := by
  rcases h with ⟨z0, _⟩ | ⟨_, ⟨z1, n, hn⟩ | ⟨z1, n, hn⟩⟩
  · exact absurd hb z0
  · rcases h2 with ⟨y0, _⟩ | ⟨_, ⟨y1, m, hm⟩ | ⟨y1, m, hm⟩⟩
    · exact absurd hz y0
    · exact Or.inr ⟨hb, Or.inl ⟨y1, TXE.up (n + m) (fun f hf => by rw [tx_two, tx_then_f (hn f (by omega)), if_pos hq, tx_then_f (hm f (by omega)), hr y1])⟩⟩
    · exact Or.inr ⟨hb, Or.inr ⟨y1, TXE.up (n + m) (fun f hf => by rw [tx_two, tx_then_f (hn f (by omega)), if_pos hq, tx_then_t (hm f (by omega))])⟩⟩
  · exact absurd h0 z1
end TXR
/-- whether it reads, and where it ends, doesn't hang on what the NAMES are -/
theorem tx_then_2 {r r1 : Int32 × Int × Bool} {h h1 : Int32 → Int → Int32 × Int × Bool} (e : r.2 = r1.2) (eh : ∀ (w w1 : Int32) (q : Int), (h w q).2 = (h1 w1 q).2) : (tx_then r h).2 = (tx_then r1 h1).2 := by
  obtain ⟨a, b, c⟩ := r
  obtain ⟨a1, b1, c1⟩ := r1
  have e1 : b = b1 := congrArg (fun z => z.1) e
  have e2 : c = c1 := congrArg (fun z => z.2) e
  subst e1 e2
  unfold tx_then
  by_cases z : c = true
  · rw [if_pos z, if_pos z]
  · rw [if_neg z, if_neg z]; exact eh _ _ _
theorem tx_names {g : Int → Int32} {u A B C A1 B1 C1 : Int32} : ∀ (f k : Nat) (o : Int) (v v1 : Int32) (p : Int), (tx g u A B C f k o v p).2 = (tx g u A1 B1 C1 f k o v1 p).2 := by
  intro f
  induction f with
  | zero => intro k o v v1 p; rfl
  | succ f ih =>
    intro k o v v1 p
    unfold tx
    by_cases k5 : k = 5
    · rw [if_pos k5, if_pos k5]
      by_cases c : 48 ≤ (g p).toInt ∧ (g p).toInt ≤ 57
      · rw [if_pos c, if_pos c]
      rw [if_neg c, if_neg c]
      by_cases c : (g p).toInt = 45 ∨ (g p).toInt = 33 ∨ (g p).toInt = 40
      · rw [if_pos c, if_pos c]
        by_cases c : 4 ≤ o
        · rw [if_pos c, if_pos c]
        rw [if_neg c, if_neg c]
        by_cases c : (g p).toInt = 45
        · rw [if_pos c, if_pos c]; exact tx_then_2 (ih 5 _ _ _ _) (fun _ _ _ => rfl)
        rw [if_neg c, if_neg c]
        by_cases c : (g p).toInt = 33
        · rw [if_pos c, if_pos c]; exact tx_then_2 (ih 5 _ _ _ _) (fun _ _ _ => rfl)
        rw [if_neg c, if_neg c]
        refine tx_then_2 (ih 0 _ _ _ _) (fun w w1 q => ?_)
        by_cases c : (g q).toInt = 41
        · rw [if_pos c, if_pos c]
        · rw [if_neg c, if_neg c]
      rw [if_neg c, if_neg c]
      by_cases c : tx_nm u (g p) < 0
      · rw [if_pos c, if_pos c]
      · rw [if_neg c, if_neg c]
    rw [if_neg k5, if_neg k5]
    by_cases kk : k = 14
    · rw [if_pos kk, if_pos kk]
      by_cases c : (g p).toInt = 42 ∨ (g p).toInt = 37
      · rw [if_pos c, if_pos c]; exact tx_then_2 (ih 5 _ _ _ _) (fun _ _ _ => ih 14 _ _ _ _)
      · rw [if_neg c, if_neg c]
    rw [if_neg kk, if_neg kk]
    by_cases kk : k = 13
    · rw [if_pos kk, if_pos kk]
      by_cases c : (g p).toInt = 43 ∨ (g p).toInt = 45
      · rw [if_pos c, if_pos c]; exact tx_then_2 (ih 4 _ _ _ _) (fun _ _ _ => ih 13 _ _ _ _)
      · rw [if_neg c, if_neg c]
    rw [if_neg kk, if_neg kk]
    by_cases kk : k = 11
    · rw [if_pos kk, if_pos kk]
      by_cases c : (g p).toInt = 38
      · rw [if_pos c, if_pos c]; exact tx_then_2 (ih 2 _ _ _ _) (fun _ _ _ => ih 11 _ _ _ _)
      · rw [if_neg c, if_neg c]
    rw [if_neg kk, if_neg kk]
    by_cases kk : k = 10
    · rw [if_pos kk, if_pos kk]
      by_cases c : (g p).toInt = 124
      · rw [if_pos c, if_pos c]; exact tx_then_2 (ih 1 _ _ _ _) (fun _ _ _ => ih 10 _ _ _ _)
      · rw [if_neg c, if_neg c]
    rw [if_neg kk, if_neg kk]
    by_cases kk : k = 4
    · rw [if_pos kk, if_pos kk]; exact tx_then_2 (ih 5 _ _ _ _) (fun _ _ _ => ih 14 _ _ _ _)
    rw [if_neg kk, if_neg kk]
    by_cases kk : k = 3
    · rw [if_pos kk, if_pos kk]; exact tx_then_2 (ih 4 _ _ _ _) (fun _ _ _ => ih 13 _ _ _ _)
    rw [if_neg kk, if_neg kk]
    by_cases kk : k = 2
    · rw [if_pos kk, if_pos kk]
      refine tx_then_2 (ih 3 _ _ _ _) (fun w w1 q => ?_)
      by_cases c : (g q).toInt = 60 ∨ (g q).toInt = 61 ∨ (g q).toInt = 62
      · rw [if_pos c, if_pos c]; exact tx_then_2 (ih 3 _ _ _ _) (fun _ _ _ => rfl)
      · rw [if_neg c, if_neg c]
    rw [if_neg kk, if_neg kk]
    by_cases kk : k = 1
    · rw [if_pos kk, if_pos kk]; exact tx_then_2 (ih 2 _ _ _ _) (fun _ _ _ => ih 11 _ _ _ _)
    rw [if_neg kk, if_neg kk]
    exact tx_then_2 (ih 1 _ _ _ _) (fun _ _ _ => ih 10 _ _ _ _)
theorem tG_eq {t t1 : Nat → Int32} {d d1 : Nat} {n n1 : Int32} (hn : n = n1) (h : ∀ j : Nat, (j : Int) < n.toInt → t (d + j) = t1 (d1 + j)) : tG t d n = tG t1 d1 n1 := by
  funext p
  unfold tG
  rw [← hn]
  by_cases c : 0 ≤ p ∧ p < n.toInt
  · rw [if_pos c, if_pos c]; exact h _ (by omega)
  · rw [if_neg c, if_neg c]
/-- a TEXT read to its end: n how long it is -/
def TXF (g : Int → Int32) (n : Int) (u A B C r : Int32) (q : Int) (b : Int32) : Prop := ∃ d : Int32, TXQ g u A B C 0 0 0 0 0 r q d ∧ (b.toInt = 0 ↔ (d.toInt = 0 ∧ q = n))
theorem TXF.one {g : Int → Int32} {n : Int} {u A B C r r1 b b1 : Int32} {q q1 : Int} (h : TXF g n u A B C r q b) (h1 : TXF g n u A B C r1 q1 b1) : q = q1 ∧ (b.toInt = 0 ↔ b1.toInt = 0) ∧ (b.toInt = 0 → r = r1) := by
  obtain ⟨d, e, i⟩ := h
  obtain ⟨d1, e1, i1⟩ := h1
  have z0 : (0 : Int32).toInt = 0 := by decide
  rcases e with ⟨y, _⟩ | ⟨_, ⟨y, e⟩ | ⟨y, e⟩⟩
  · exact absurd z0 y
  · rcases e1 with ⟨y1, _⟩ | ⟨_, ⟨y1, e1⟩ | ⟨y1, e1⟩⟩
    · exact absurd z0 y1
    · obtain ⟨a1, a2, _⟩ := e.one e1
      subst a2
      exact ⟨rfl, by rw [i, i1]; exact ⟨fun z => ⟨y1, z.2⟩, fun z => ⟨y, z.2⟩⟩, fun _ => a1⟩
    · obtain ⟨_, _, a3⟩ := e.one e1
      exact absurd a3 (by decide)
  · rcases e1 with ⟨y1, _⟩ | ⟨_, ⟨y1, e1⟩ | ⟨y1, e1⟩⟩
    · exact absurd z0 y1
    · obtain ⟨_, _, a3⟩ := e.one e1
      exact absurd a3 (by decide)
    · obtain ⟨_, a2, _⟩ := e.one e1
      subst a2
      exact ⟨rfl, by rw [i, i1]; exact ⟨fun z => absurd z.1 y, fun z => absurd z.1 y1⟩, fun z => absurd (i.mp z).1 y⟩
theorem TXF.names {g : Int → Int32} {n : Int} {u A B C r b A1 B1 C1 r1 b1 : Int32} {q q1 : Int} (h : TXF g n u A B C r q b) (h1 : TXF g n u A1 B1 C1 r1 q1 b1) : b.toInt = 0 → b1.toInt = 0 := by
  intro hb
  obtain ⟨d, e, i⟩ := h
  obtain ⟨d1, e1, i1⟩ := h1
  obtain ⟨y, hq⟩ := i.mp hb
  have z0 : (0 : Int32).toInt = 0 := by decide
  rcases e with ⟨x, _⟩ | ⟨_, ⟨_, k, hk⟩ | ⟨x, _⟩⟩
  · exact absurd z0 x
  · rcases e1 with ⟨y1, _⟩ | ⟨_, ⟨y1, m, hm⟩ | ⟨y1, m, hm⟩⟩
    · exact absurd z0 y1
    · have e2 := tx_names (g := g) (u := u) (A := A) (B := B) (C := C) (A1 := A1) (B1 := B1) (C1 := C1) (k + m) 0 0 0 0 0
      rw [hk (k + m) (by omega), hm (k + m) (by omega)] at e2
      have e3 : q = q1 := congrArg (fun z => z.1) e2
      exact i1.mpr ⟨y1, e3.symm.trans hq⟩
    · have e2 := tx_names (g := g) (u := u) (A := A) (B := B) (C := C) (A1 := A1) (B1 := B1) (C1 := C1) (k + m) 0 0 0 0 0
      rw [hk (k + m) (by omega), hm (k + m) (by omega)] at e2
      have e3 : false = true := congrArg (fun z => z.2) e2
      exact absurd e3 (by decide)
  · exact absurd y x
-- the JDK's indexOf over three Strings, and what a byte is
def jsAt (ix j : Nat) : Int32 := (jsByt.getD ix []).getD j 0
def JSB (ix : Nat) (b a m r : Int) : Prop := (r = -1 ∧ ∀ j : Nat, a ≤ (j : Int) → (j : Int) < m → (jsAt ix j).toInt ≠ b) ∨ (a ≤ r ∧ r < m ∧ (jsAt ix r.toNat).toInt = b)
def JSX (ix : Nat) (c r : Int) : Prop := (r = -1 ∧ ∀ j : Nat, j < jsLen.getD ix 0 → (jsAt ix j).toInt ≠ c) ∨ (0 ≤ r ∧ r < ((jsLen.getD ix 0 : Nat) : Int) ∧ (jsAt ix r.toNat).toInt = c)
theorem jsb_step {ix : Nat} {a b : Int} {i i1 v : Int32} (h : ∀ j : Nat, a ≤ (j : Int) → (j : Int) < i.toInt → (jsAt ix j).toInt ≠ b) (h0 : 0 ≤ i.toInt) (h1 : i1.toInt = i.toInt + 1) (e : v = (jsByt.getD ix []).getD i.toNatClampNeg 0) (hv : v.toInt ≠ b) : ∀ j : Nat, a ≤ (j : Int) → (j : Int) < i1.toInt → (jsAt ix j).toInt ≠ b := by
  intro j ha hj
  by_cases q : (j : Int) < i.toInt
  · exact h j ha q
  · have z : j = i.toNatClampNeg := by rw [k_clamp]; omega
    show ((jsByt.getD ix []).getD j 0).toInt ≠ b
    rw [z, ← e]; exact hv
theorem jsb_at {ix : Nat} {b : Int} {i v : Int32} (e : v = (jsByt.getD ix []).getD i.toNatClampNeg 0) (h0 : 0 ≤ i.toInt) (hv : v.toInt = b) : (jsAt ix i.toInt.toNat).toInt = b := by
  show ((jsByt.getD ix []).getD i.toNatClampNeg 0).toInt = b
  rw [← e]; exact hv
theorem b8_of : ∀ n : Nat, n < 256 → (nI n).toInt8.toInt32.toInt = (if n < 128 then (n : Int) else (n : Int) - 256) := by decide +kernel
theorem b8_in {x : Int32} (h0 : 0 ≤ x.toInt) (h1 : x.toInt ≤ 255) : x.toInt8.toInt32.toInt = if x.toInt < 128 then x.toInt else x.toInt - 256 := by
  have e : x = nI x.toInt.toNat := k_inj (by rw [nI_toInt (by omega)]; omega)
  have z := b8_of x.toInt.toNat (by omega)
  rw [← e] at z
  rw [z]
  by_cases q : x.toInt < 128
  · rw [if_pos q, if_pos (by omega)]; omega
  · rw [if_neg q, if_neg (by omega)]; omega
theorem js_rng : ∀ ix : Nat, ix < 3 → ∀ j : Nat, j < jsLen.getD ix 0 → 97 ≤ (jsAt ix j).toInt ∧ (jsAt ix j).toInt ≤ 115 := by decide +kernel
theorem jsx_of {ix : Nat} {x : Int32} {a m r : Int} (h : JSB ix x.toInt8.toInt32.toInt a m r) (ha : a = 0) (hm : m = ((jsLen.getD ix 0 : Nat) : Int)) (h0 : 0 ≤ x.toInt) (h1 : x.toInt ≤ 255) (hi : ix < 3) : JSX ix x.toInt r := by
  have z := b8_in h0 h1
  rcases h with ⟨hr, hn⟩ | ⟨h2, h3, h4⟩
  · refine Or.inl ⟨hr, fun j hj e => ?_⟩
    have y := js_rng ix hi j hj
    rw [if_pos (by omega)] at z
    exact hn j (by omega) (by omega) (by omega)
  · have y := js_rng ix hi r.toNat (by omega)
    refine Or.inr ⟨by omega, by omega, ?_⟩
    by_cases q : x.toInt < 128
    · rw [if_pos q] at z; omega
    · rw [if_neg q] at z; omega
theorem i2c_of : ∀ n : Nat, n < 256 → ((nI n).toUInt32 % 65536).toInt32.toInt = (n : Int) := by decide +kernel
theorem i2c_id {v x : Int32} (e : v = (x.toUInt32 % 65536).toInt32) (h0 : 0 ≤ x.toInt) (h1 : x.toInt ≤ 255) : v.toInt = x.toInt := by
  have y : x = nI x.toInt.toNat := k_inj (by rw [nI_toInt (by omega)]; omega)
  have z := i2c_of x.toInt.toNat (by omega)
  rw [← y] at z
  rw [e, z]; omega
theorem nm_neg {u c : Int32} (h : c.toInt < 0) : tx_nm u c = -1 := by
  unfold tx_nm
  by_cases q : u.toInt = 0
  · rw [if_pos q, if_neg (by omega), if_neg (by omega), if_neg (by omega)]
  · rw [if_neg q]
    by_cases q : u.toInt = 1
    · rw [if_pos q, if_neg (by omega), if_neg (by omega)]
    · rw [if_neg q, if_neg (by omega), if_neg (by omega), if_neg (by omega)]
theorem nm_js {ix : Nat} {u a c r : Int32} (hu : (ix = 0 ∧ u.toInt = 0) ∨ (ix = 1 ∧ u.toInt = 1) ∨ (ix = 2 ∧ u.toInt ≠ 0 ∧ u.toInt ≠ 1)) (h0 : 0 ≤ a.toInt) (hc : c.toInt = a.toInt) (hx : JSX ix c.toInt r.toInt) : r.toInt = tx_nm u a := by
  rw [hc] at hx
  have v0 : (jsAt 0 0).toInt = 110 := by decide
  have v1 : (jsAt 0 1).toInt = 99 := by decide
  have v2 : (jsAt 0 2).toInt = 109 := by decide
  have w0 : (jsAt 1 0).toInt = 108 := by decide
  have w1 : (jsAt 1 1).toInt = 100 := by decide
  have y0 : (jsAt 2 0).toInt = 107 := by decide
  have y1 : (jsAt 2 1).toInt = 115 := by decide
  have y2 : (jsAt 2 2).toInt = 103 := by decide
  have l0 : jsLen.getD 0 0 = 3 := rfl
  have l1 : jsLen.getD 1 0 = 2 := rfl
  have l2 : jsLen.getD 2 0 = 3 := rfl
  unfold tx_nm
  rcases hu with ⟨rfl, hu⟩ | ⟨rfl, hu⟩ | ⟨rfl, hu, hv⟩
  · rw [if_pos hu]
    rcases hx with ⟨hr, hn⟩ | ⟨h1, h2, h3⟩
    · have a0 := hn 0 (by omega)
      have a1 := hn 1 (by omega)
      have a2 := hn 2 (by omega)
      rw [if_neg (by omega), if_neg (by omega), if_neg (by omega)]; exact hr
    · rcases (show r.toInt = 0 ∨ r.toInt = 1 ∨ r.toInt = 2 by omega) with e | e | e
      · rw [e] at h3; have h3 : (jsAt 0 0).toInt = a.toInt := h3; rw [if_pos (by omega)]; exact e
      · rw [e] at h3; have h3 : (jsAt 0 1).toInt = a.toInt := h3; rw [if_neg (by omega), if_pos (by omega)]; exact e
      · rw [e] at h3; have h3 : (jsAt 0 2).toInt = a.toInt := h3; rw [if_neg (by omega), if_neg (by omega), if_pos (by omega)]; exact e
  · rw [if_neg (by omega), if_pos hu]
    rcases hx with ⟨hr, hn⟩ | ⟨h1, h2, h3⟩
    · have a0 := hn 0 (by omega)
      have a1 := hn 1 (by omega)
      rw [if_neg (by omega), if_neg (by omega)]; exact hr
    · rcases (show r.toInt = 0 ∨ r.toInt = 1 by omega) with e | e
      · rw [e] at h3; have h3 : (jsAt 1 0).toInt = a.toInt := h3; rw [if_pos (by omega)]; exact e
      · rw [e] at h3; have h3 : (jsAt 1 1).toInt = a.toInt := h3; rw [if_neg (by omega), if_pos (by omega)]; exact e
  · rw [if_neg hu, if_neg hv]
    rcases hx with ⟨hr, hn⟩ | ⟨h1, h2, h3⟩
    · have a0 := hn 0 (by omega)
      have a1 := hn 1 (by omega)
      have a2 := hn 2 (by omega)
      rw [if_neg (by omega), if_neg (by omega), if_neg (by omega)]; exact hr
    · rcases (show r.toInt = 0 ∨ r.toInt = 1 ∨ r.toInt = 2 by omega) with e | e | e
      · rw [e] at h3; have h3 : (jsAt 2 0).toInt = a.toInt := h3; rw [if_pos (by omega)]; exact e
      · rw [e] at h3; have h3 : (jsAt 2 1).toInt = a.toInt := h3; rw [if_neg (by omega), if_pos (by omega)]; exact e
      · rw [e] at h3; have h3 : (jsAt 2 2).toInt = a.toInt := h3; rw [if_neg (by omega), if_neg (by omega), if_pos (by omega)]; exact e
-- a byte of a TEXT
def BYT (t : Nat → Int32) (d : Nat) : Prop := ∀ j : Nat, j < 50 → 0 ≤ (t (d + j)).toInt ∧ (t (d + j)).toInt ≤ 255
theorem tG_in {t : Nat → Int32} {n v x : Int32} (e : v = t x.toNatClampNeg) (h0 : 0 ≤ x.toInt) (h1 : x.toInt < n.toInt) : v = tG t 0 n x.toInt := by
  unfold tG; rw [if_pos ⟨h0, h1⟩, Nat.zero_add]; exact e
theorem tG_inD {t : Nat → Int32} {d : Nat} {n v x : Int32} {p : Int} (e : v = t x.toNatClampNeg) (hx : x.toInt = (d : Int) + p) (h0 : 0 ≤ p) (h1 : p < n.toInt) : v = tG t d n p := by
  unfold tG; rw [if_pos ⟨h0, h1⟩, e, k_clamp, show x.toInt.toNat = d + p.toNat from by omega]
theorem tG_out {t : Nat → Int32} {d : Nat} {n : Int32} {p : Int} (h : p < 0 ∨ n.toInt ≤ p) : (-1) = tG t d n p := by
  unfold tG; rw [if_neg (by omega)]
theorem tG_hi {t : Nat → Int32} {d : Nat} {n : Int32} {p : Int} (h : n.toInt ≤ p) : (tG t d n p).toInt = -1 := by
  rw [← tG_out (Or.inr h)]; decide
theorem tG_by {t : Nat → Int32} {d : Nat} {n : Int32} {p : Int} (h : BYT t d) (hn : n.toInt ≤ 50) : -1 ≤ (tG t d n p).toInt ∧ (tG t d n p).toInt ≤ 255 := by
  unfold tG
  by_cases c : 0 ≤ p ∧ p < n.toInt
  · rw [if_pos c]; have z := h p.toNat (by omega); omega
  · rw [if_neg c]; decide
theorem num_step {g : Int → Int32} {n n1 : Nat} {v v1 x : Int32} {p p1 : Int} {z : Int32 × Int} (h : tx_num g n v p = z) (hn : n = n1 + 1) (hx : x = g p) (h1 : 48 ≤ x.toInt) (h2 : x.toInt ≤ 57) (hv : v1 = 10 * v + x - 48) (hp : p1 = p + 1) : tx_num g n1 v1 p1 = z := by
  rw [← h, hn, tx_num_step (by rw [← hx]; exact h1) (by rw [← hx]; exact h2), hv, hp, hx]
-- opening a TEXT; what is told of one in all
theorem op_step {g h f : Nat → Int32} {d : Nat} {i i1 x v : Int32} (hg : ∀ j : Nat, (j : Int) < i.toInt → g j = f (d + j)) (h0 : 0 ≤ i.toInt) (h1 : i1.toInt = i.toInt + 1) (e : h = upd g i.toNatClampNeg v) (ev : v = f x.toNatClampNeg) (hx : x.toInt.toNat = d + i.toInt.toNat) : ∀ j : Nat, (j : Int) < i1.toInt → h j = f (d + j) := by
  intro j hj
  rw [e]
  by_cases q : j = i.toNatClampNeg
  · rw [q, sp_at, ev, k_clamp, k_clamp, hx]
  · rw [sp_ne q]; rw [k_clamp] at q; exact hg j (by omega)
theorem TXF.of {g : Int → Int32} {n : Int} {u A B C r d : Int32} {q : Int} (h : TXQ g u A B C 0 0 0 0 0 r q d) : ∃ b : Int32, TXF g n u A B C r q b := by
  by_cases c : d.toInt = 0 ∧ q = n
  · exact ⟨0, d, h, ⟨fun _ => c, fun _ => by decide⟩⟩
  · exact ⟨1, d, h, ⟨fun z => absurd z (by decide), fun z => absurd z c⟩⟩
theorem TXF.byes {g g1 : Int → Int32} {n : Int} {u A B C r b : Int32} {q : Int} (h : TXF g n u A B C r q b) (e : g = g1) : TXF g1 n u A B C r q b := by rw [← e]; exact h
-- which RATE is in force
def inF (U F : Nat → Int32) (a b : Int32) : Nat → Int
  | 0 => -1
  | n + 1 => if (U n).toInt = a.toInt ∧ (F n).toInt ≤ b.toInt then (n : Int) else inF U F a b n
theorem inF_yes {U F : Nat → Int32} {a b : Int32} {n m : Nat} (hm : m = n + 1) (h1 : (U n).toInt = a.toInt) (h2 : (F n).toInt ≤ b.toInt) : inF U F a b m = n := by
  rw [hm]
  show (if (U n).toInt = a.toInt ∧ (F n).toInt ≤ b.toInt then (n : Int) else inF U F a b n) = n
  rw [if_pos ⟨h1, h2⟩]
theorem inF_no {U F : Nat → Int32} {a b : Int32} {n m : Nat} (hm : m = n + 1) (h : (U n).toInt ≠ a.toInt ∨ b.toInt < (F n).toInt) : inF U F a b m = inF U F a b n := by
  rw [hm]
  show (if (U n).toInt = a.toInt ∧ (F n).toInt ≤ b.toInt then (n : Int) else inF U F a b n) = _
  rw [if_neg (by omega)]
theorem inF_eq {U F V G : Nat → Int32} {a b : Int32} : ∀ n : Nat, (∀ j : Nat, j < n → U j = V j ∧ F j = G j) → inF U F a b n = inF V G a b n := by
  intro n
  induction n with
  | zero => intro _; rfl
  | succ n ih =>
    intro h
    show (if (U n).toInt = a.toInt ∧ (F n).toInt ≤ b.toInt then (n : Int) else inF U F a b n) = (if (V n).toInt = a.toInt ∧ (G n).toInt ≤ b.toInt then (n : Int) else inF V G a b n)
    rw [ih (fun j hj => h j (by omega)), (h n (by omega)).1, (h n (by omega)).2]
theorem inF_b {U F : Nat → Int32} {a b : Int32} : ∀ n : Nat, -1 ≤ inF U F a b n ∧ inF U F a b n < n ∧ (0 ≤ inF U F a b n → (U (inF U F a b n).toNat).toInt = a.toInt) := by
  intro n
  induction n with
  | zero => exact ⟨by show (-1 : Int) ≤ -1; omega, by show (-1 : Int) < 0; omega, fun h => absurd (show (0 : Int) ≤ -1 from h) (by omega)⟩
  | succ n ih =>
    by_cases c : (U n).toInt = a.toInt ∧ (F n).toInt ≤ b.toInt
    · rw [inF_yes rfl c.1 c.2]; exact ⟨by omega, by omega, fun _ => c.1⟩
    · rw [inF_no rfl (by omega)]; exact ⟨ih.1, by omega, ih.2.2⟩
-- what a USE comes to
def tx_def (u a b c : Int32) : Int32 := if u.toInt = 0 then a * c else if u.toInt = 1 then 70 * a else if (b - c).toInt < 0 then 0 else b - c
def tx_post (u v : Int32) : Int32 := if u.toInt = 2 ∧ v.toInt < 0 then 0 else v
def PRV (U F : Nat → Int32) (G : Nat → Int → Int32) (L : Nat → Int32) (n : Nat) (d u a b c r : Int32) : Prop :=
  (inF U F u d n < 0 ∧ r = tx_def u a b c) ∨ (0 ≤ inF U F u d n ∧ ∃ (v : Int32) (q : Int) (w : Int32), TXF (G (inF U F u d n).toNat) (L (inF U F u d n).toNat).toInt u a b c v q w ∧ r = tx_post u v)
theorem PRV.one {U F V H L M : Nat → Int32} {G K : Nat → Int → Int32} {n : Nat} {d u a b c r s : Int32} (h : PRV U F G L n d u a b c r) (h1 : PRV V H K M n d u a b c s) (e : ∀ j : Nat, j < n → U j = V j ∧ F j = H j ∧ G j = K j ∧ L j = M j) (ok : ∀ j : Nat, j < n → ∃ (v : Int32) (q : Int), TXF (G j) (L j).toInt (U j) 0 0 0 v q 0) : r = s := by
  have i := inF_eq (a := u) (b := d) n (fun j hj => ⟨(e j hj).1, (e j hj).2.1⟩)
  have bd := inF_b (U := U) (F := F) (a := u) (b := d) n
  unfold PRV at h h1
  rw [← i] at h1
  rcases h with ⟨z, y⟩ | ⟨z, v, q, w, hv, y⟩
  · rcases h1 with ⟨_, y1⟩ | ⟨z1, _⟩
    · rw [y, y1]
    · omega
  · rcases h1 with ⟨z1, _⟩ | ⟨_, v1, q1, w1, hv1, y1⟩
    · omega
    · have hj : (inF U F u d n).toNat < n := by omega
      obtain ⟨_, _, eG, eL⟩ := e _ hj
      rw [← eG, ← eL] at hv1
      obtain ⟨v0, q0, h0⟩ := ok _ hj
      have hu : U (inF U F u d n).toNat = u := k_inj (bd.2.2 z)
      rw [hu] at h0
      have w0 : w.toInt = 0 := h0.names hv (by decide)
      obtain ⟨_, _, ev⟩ := hv.one hv1
      rw [y, y1, ev w0]
def fcR (i : Int) (a b : Int32) : Int := if 0 ≤ a.toInt ∧ a.toInt ≤ 2 ∧ 0 ≤ b.toInt ∧ b.toInt ≤ 2000 then (if i < 0 then -1000002 else i) else -1000001
def BYN (n : Nat) (t : Nat → Int32) : Prop := ∀ j : Nat, j < n → 0 ≤ (t j).toInt ∧ (t j).toInt ≤ 255
theorem BYT.put {t g : Nat → Int32} {i x : Int32} (h : BYT t 0) (e : g = upd t i.toNatClampNeg x) (h0 : 0 ≤ x.toInt) (h1 : x.toInt ≤ 255) : BYT g 0 := by
  intro j hj
  rw [e]
  by_cases q : 0 + j = i.toNatClampNeg
  · rw [q, sp_at]; exact ⟨h0, h1⟩
  · rw [sp_ne q]; exact h j hj
theorem prv_in {U F T L t : Nat → Int32} {n : Nat} {d u a b c r rr len v w : Int32} {q : Int} (hr : rr.toInt = inF U F u d n) (h0 : 0 ≤ rr.toInt) (hF : TXF (tG t 0 len) len.toInt u a b c v q w) (hl : len.toInt = (L rr.toNatClampNeg).toInt) (ht : ∀ j : Nat, (j : Int) < len.toInt → t j = T (50 * rr.toInt.toNat + j)) (hp : r = tx_post u v) : PRV U F (fun j => tG T (50 * j) (L j)) L n d u a b c r := by
  refine Or.inr ⟨by omega, v, q, w, ?_, hp⟩
  rw [← hr]
  show TXF (tG T (50 * rr.toInt.toNat) (L rr.toInt.toNat)) (L rr.toInt.toNat).toInt u a b c v q w
  rw [show (L rr.toInt.toNat).toInt = len.toInt from hl.symm]
  exact hF.byes (tG_eq (k_inj hl) (fun j hj => by rw [Nat.zero_add]; exact ht j hj))
-- the bytes of a word
def byC (w : Int64) (y : Int32) : Int32 := ((w.toUInt64 >>> (y.toInt64.toUInt64 &&& Int64.toUInt64 63)).toInt64 &&& 255).toInt32
def byR (w : Int64) (y : Int32) : Int32 := ((w >>> (y.toInt64 &&& 63)) &&& 255).toInt32
def byW (w : Int64) (n : Nat) : Int32 := byR w (nI (8 * n))
theorem by_lu : ∀ n : Nat, n < 8 → (((nI (8 * n)).toInt64.toUInt64 &&& Int64.toUInt64 63).toBitVec % 64).toNat = 8 * n := by decide +kernel
theorem by_ls : ∀ n : Nat, n < 8 → (((nI (8 * n)).toInt64 &&& 63).toBitVec.smod 64).toNat = 8 * n := by decide +kernel
theorem by_255 : ∀ i : Nat, i < 64 → 8 ≤ i → (255 : Int64).toBitVec.getLsbD i = false := by decide +kernel
theorem byC_eq (w : Int64) {n : Nat} (hn : n < 8) : byC w (nI (8 * n)) = byW w n := by
  have h : (w.toUInt64 >>> ((nI (8 * n)).toInt64.toUInt64 &&& Int64.toUInt64 63)).toInt64 &&& 255 = (w >>> ((nI (8 * n)).toInt64 &&& 63)) &&& 255 := by
    apply Int64.toBitVec_inj.mp
    rw [Int64.toBitVec_and, Int64.toBitVec_and]
    apply BitVec.eq_of_getLsbD_eq
    intro i hi
    rw [BitVec.getLsbD_and, BitVec.getLsbD_and]
    by_cases q : i < 8
    · congr 1
      rw [Int64.toBitVec_shiftRight]
      show (w.toUInt64 >>> ((nI (8 * n)).toInt64.toUInt64 &&& Int64.toUInt64 63)).toBitVec.getLsbD i = (w.toBitVec.sshiftRight ((((nI (8 * n)).toInt64 &&& 63).toBitVec.smod 64).toNat)).getLsbD i
      rw [UInt64.toBitVec_shiftRight]
      show (w.toBitVec >>> ((((nI (8 * n)).toInt64.toUInt64 &&& Int64.toUInt64 63).toBitVec % 64).toNat)).getLsbD i = _
      rw [by_lu n hn, by_ls n hn, BitVec.getLsbD_ushiftRight, BitVec.getLsbD_sshiftRight]
      simp [hi, show 8 * n + i < 64 by omega]
    · rw [by_255 i hi (by omega), Bool.and_false, Bool.and_false]
  unfold byW byR byC
  rw [h]
theorem byW_rng (w : Int64) (n : Nat) : 0 ≤ (byW w n).toInt ∧ (byW w n).toInt ≤ 255 := by
  unfold byW byR
  generalize (w >>> ((nI (8 * n)).toInt64 &&& 63)) = x
  have h1 : (x &&& 255).toBitVec.toNat ≤ 255 := by
    rw [Int64.toBitVec_and, BitVec.toNat_and]; exact Nat.and_le_right
  have h2 : (x &&& 255).toInt = ((x &&& 255).toBitVec.toNat : Int) := BitVec.toInt_eq_toNat_of_lt (by omega)
  have h3 : (x &&& 255).toInt32.toInt = (x &&& 255).toInt.bmod (2 ^ 32) := Int64.toInt_toInt32 _
  rw [h3, k_bm (by omega) (by omega)]
  omega
def apT (f : Nat → Int32) (t : Nat) (w : Int64) : Nat → (Nat → Int32)
  | 0 => f
  | n + 1 => upd (apT f t w n) (t + n) (byW w n)
theorem ap_step {f g h : Nat → Int32} {t : Nat} {w : Int64} {i i1 x v : Int32} (hg : g = apT f t w i.toInt.toNat) (h0 : 0 ≤ i.toInt) (h1 : i1.toInt = i.toInt + 1) (e : h = upd g x.toNatClampNeg v) (hx : x.toInt.toNat = t + i.toInt.toNat) (hv : v = byW w i.toInt.toNat) : h = apT f t w i1.toInt.toNat := by
  rw [show i1.toInt.toNat = i.toInt.toNat + 1 from by omega]
  show h = upd (apT f t w i.toInt.toNat) (t + i.toInt.toNat) (byW w i.toInt.toNat)
  rw [up_in e hx, hg, hv]
theorem apT_vw {f g : Nat → Int32} {w : Int64} {n p q t : Nat} (h : VW n p f q g) : ∀ k : Nat, VW n p (apT f (p + t) w k) q (apT g (q + t) w k) := by
  intro k
  induction k with
  | zero => exact h
  | succ k ih =>
    show VW n p (upd (apT f (p + t) w k) (p + t + k) (byW w k)) q (upd (apT g (q + t) w k) (q + t + k) (byW w k))
    rw [Nat.add_assoc, Nat.add_assoc]; exact ih.put _ _
theorem by_yi {y i : Int32} (h : y.toInt = 8 * i.toInt) (h0 : 0 ≤ i.toInt) (h1 : i.toInt ≤ 7) : y = nI (8 * i.toInt.toNat) := k_inj (by rw [nI_toInt (by omega), h]; omega)
-- a RATE is made of THE TAPE
def RTR (g : Int → Int32) (n k u d r n1 k1 : Int32) : Prop :=
  (¬ (0 ≤ u.toInt ∧ u.toInt ≤ 2 ∧ 0 ≤ d.toInt ∧ d.toInt ≤ 2000) ∧ r.toInt = -1000001 ∧ n1.toInt = n.toInt ∧ k1.toInt = k.toInt)
  ∨ ((0 ≤ u.toInt ∧ u.toInt ≤ 2 ∧ 0 ≤ d.toInt ∧ d.toInt ≤ 2000) ∧ 12 ≤ k.toInt ∧ r.toInt = -1000004 ∧ n1.toInt = n.toInt ∧ k1.toInt = k.toInt)
  ∨ ((0 ≤ u.toInt ∧ u.toInt ≤ 2 ∧ 0 ≤ d.toInt ∧ d.toInt ≤ 2000) ∧ k.toInt < 12 ∧ ∃ (v : Int32) (q : Int) (w : Int32), TXF g n.toInt u 0 0 0 v q w ∧ n1.toInt = 0 ∧ ((w.toInt ≠ 0 ∧ r.toInt = -10 - q ∧ k1.toInt = k.toInt) ∨ (w.toInt = 0 ∧ r.toInt = k.toInt ∧ k1.toInt = k.toInt + 1)))
theorem RTR.one {g : Int → Int32} {n k u d r n1 k1 s m1 j1 : Int32} (h : RTR g n k u d r n1 k1) (h1 : RTR g n k u d s m1 j1) : r = s ∧ n1 = m1 ∧ k1 = j1 := by
  rcases h with ⟨c, a1, a2, a3⟩ | ⟨c, f, a1, a2, a3⟩ | ⟨c, f, v, q, w, hv, a2, hz⟩
  · rcases h1 with ⟨_, b1, b2, b3⟩ | ⟨e, _⟩ | ⟨e, _⟩
    · exact ⟨k_inj (by omega), k_inj (by omega), k_inj (by omega)⟩
    · exact absurd e c
    · exact absurd e c
  · rcases h1 with ⟨e, _⟩ | ⟨_, _, b1, b2, b3⟩ | ⟨_, e, _⟩
    · exact absurd c e
    · exact ⟨k_inj (by omega), k_inj (by omega), k_inj (by omega)⟩
    · omega
  · rcases h1 with ⟨e, _⟩ | ⟨_, e, _⟩ | ⟨_, _, v1, q1, w1, hv1, b2, hy⟩
    · exact absurd c e
    · omega
    · obtain ⟨hq, hw, _⟩ := hv.one hv1
      rcases hz with ⟨z1, z2, z3⟩ | ⟨z1, z2, z3⟩
      · rcases hy with ⟨y1, y2, y3⟩ | ⟨y1, y2, y3⟩
        · exact ⟨k_inj (by omega), k_inj (by omega), k_inj (by omega)⟩
        · exact absurd (hw.mpr y1) z1
      · rcases hy with ⟨y1, y2, y3⟩ | ⟨y1, y2, y3⟩
        · exact absurd (hw.mp z1) y1
        · exact ⟨k_inj (by omega), k_inj (by omega), k_inj (by omega)⟩
def rtU (f : Nat → Int32) (k k1 v : Int32) : Nat → Int32 := if k1.toInt = k.toInt then f else upd f k.toInt.toNat v
def rtT (f t : Nat → Int32) (k k1 : Int32) : Nat → Int32 := if k1.toInt = k.toInt then f else va_cpy t f 0 (50 * k.toInt.toNat) 50
def fdR (n m : Int32) : Int := if 1 ≤ m.toInt ∧ m.toInt ≤ 8 then (if n.toInt + m.toInt ≤ 50 then n.toInt + m.toInt else -1000004) else -1000001
def fdN (n m : Int32) : Int := if 1 ≤ m.toInt ∧ m.toInt ≤ 8 ∧ n.toInt + m.toInt ≤ 50 then n.toInt + m.toInt else n.toInt
def fdS (f : Nat → Int32) (n : Int32) (w : Int64) (m : Int32) : Nat → Int32 := if 1 ≤ m.toInt ∧ m.toInt ≤ 8 ∧ n.toInt + m.toInt ≤ 50 then apT f n.toInt.toNat w m.toInt.toNat else f
theorem prv_ref {x : Nat → Int32} {n : Nat} {d u a b c r rr len v b0 : Int32} {q : Int} {k m : Int32} (hr : rr.toInt = inF (fun j => x (495 + 53 * j)) (fun j => x (496 + 53 * j)) u d n) (h0 : 0 ≤ rr.toInt) (hl : len = x (497 + 53 * rr.toInt.toNat)) (hF : TXQ (tG x k.toInt.toNat m) u a b c 0 0 0 0 0 v q b0) (hk : k.toInt = 498 + 53 * rr.toInt ∧ m.toInt = len.toInt) (hp : r = tx_post u v) : PRV (fun j => x (495 + 53 * j)) (fun j => x (496 + 53 * j)) (fun j => tG x (498 + 53 * j) (x (497 + 53 * j))) (fun j => x (497 + 53 * j)) n d u a b c r := by
  obtain ⟨w, hw⟩ := TXF.of (n := len.toInt) hF
  refine Or.inr ⟨by omega, v, q, w, ?_, hp⟩
  rw [← hr]
  show TXF (tG x (498 + 53 * rr.toInt.toNat) (x (497 + 53 * rr.toInt.toNat))) (x (497 + 53 * rr.toInt.toNat)).toInt u a b c v q w
  rw [← hl]
  have e : m = len := k_inj hk.2
  have e2 : k.toInt.toNat = 498 + 53 * rr.toInt.toNat := by omega
  rw [e, e2] at hw
  exact hw
def fdP (f : Nat → Int32) (w : Int64) (m : Int32) : Nat → Int32 := if 1 ≤ m.toInt ∧ m.toInt ≤ 8 ∧ (f 4).toInt + m.toInt ≤ 50 then apT f (1131 + (f 4).toInt.toNat) w m.toInt.toNat else f
theorem ap4_step {f g g1 h : Nat → Int32} {t : Nat} {w : Int64} {i i1 x v y : Int32} (hg : ∀ j : Nat, j ≠ 4 → g j = apT f t w i.toInt.toNat j) (h0 : 0 ≤ i.toInt) (h1 : i1.toInt = i.toInt + 1) (e : g1 = upd g x.toNatClampNeg v) (e1 : h = upd g1 4 y) (hx : x.toInt.toNat = t + i.toInt.toNat) (ht : 5 ≤ t) (hv : v = byW w i.toInt.toNat) : ∀ j : Nat, j ≠ 4 → h j = apT f t w i1.toInt.toNat j := by
  intro j hj
  rw [show i1.toInt.toNat = i.toInt.toNat + 1 from by omega]
  show h j = upd (apT f t w i.toInt.toNat) (t + i.toInt.toNat) (byW w i.toInt.toNat) j
  rw [e1, sp_ne hj, up_in e hx, hv]
  by_cases q : j = t + i.toInt.toNat
  · rw [q, sp_at, sp_at]
  · rw [sp_ne q, sp_ne q]; exact hg j hj
/-- what rate leaves in the reference's row -/
def RTX (f g : Nat → Int32) (u d : Int32) : Prop :=
  (∀ i : Nat, i ≠ 3 → i ≠ 4 → (i < 495 + 53 * (f 3).toInt.toNat ∨ 548 + 53 * (f 3).toInt.toNat ≤ i ∨ (g 3).toInt = (f 3).toInt) → g i = f i)
  ∧ ((g 3).toInt ≠ (f 3).toInt → g (495 + 53 * (f 3).toInt.toNat) = u ∧ g (496 + 53 * (f 3).toInt.toNat) = d ∧ g (497 + 53 * (f 3).toInt.toNat) = f 4 ∧ ∀ j : Nat, j < 50 → g (498 + 53 * (f 3).toInt.toNat + j) = f (1131 + j))
theorem RTX_rf {f : Nat → Int32} {u d : Int32} : RTX f f u d := ⟨fun _ _ _ _ => rfl, fun h => absurd rfl h⟩
theorem RTX_no {f g : Nat → Int32} {u d x : Int32} (e : g = upd f 4 x) : RTX f g u d := by
  have h3 : g 3 = f 3 := by rw [e, sp_ne (by decide)]
  exact ⟨fun i _ h4 _ => by rw [e, sp_ne h4], fun h => absurd (by rw [h3]) h⟩
def RTL (f g : Nat → Int32) (u d : Int32) (n : Nat) : Prop :=
  (g 3).toInt = (f 3).toInt + 1 ∧ (g 4).toInt = 0
  ∧ (∀ i : Nat, i ≠ 3 → i ≠ 4 → (i < 495 + 53 * (f 3).toInt.toNat ∨ 548 + 53 * (f 3).toInt.toNat ≤ i) → g i = f i)
  ∧ g (495 + 53 * (f 3).toInt.toNat) = u ∧ g (496 + 53 * (f 3).toInt.toNat) = d ∧ g (497 + 53 * (f 3).toInt.toNat) = f 4 ∧ ∀ j : Nat, j < n → g (498 + 53 * (f 3).toInt.toNat + j) = f (1131 + j)
theorem RTL_0 {f f1 f2 f3 f4 f5 : Nat → Int32} {u d x w i3 i4 i5 : Int32} {c : Nat} (e1 : f1 = upd f 4 0) (e2 : f2 = upd f1 3 x) (e3 : f3 = upd f2 i3.toNatClampNeg u) (e4 : f4 = upd f3 i4.toNatClampNeg d) (e5 : f5 = upd f4 i5.toNatClampNeg w) (hc : c = (f 3).toInt.toNat) (hx : x.toInt = (f 3).toInt + 1) (h3 : i3.toInt.toNat = 495 + 53 * c) (h4 : i4.toInt.toNat = 496 + 53 * c) (h5 : i5.toInt.toNat = 497 + 53 * c) (hw : w.toInt = (f 4).toInt) : RTL f f5 u d 0 := by
  have g3 := up_in e3 h3
  have g4 := up_in e4 h4
  have g5 := up_in e5 h5
  subst hc
  refine ⟨?_, ?_, fun i a b c => ?_, ?_, ?_, ?_, fun j hj => absurd hj (by omega)⟩
  · rw [g5, sp_ne (by omega), g4, sp_ne (by omega), g3, sp_ne (by omega), e2, sp_at]; exact hx
  · rw [g5, sp_ne (by omega), g4, sp_ne (by omega), g3, sp_ne (by omega), e2, sp_ne (by decide), e1, sp_at]; decide
  · rw [g5, sp_ne (by omega), g4, sp_ne (by omega), g3, sp_ne (by omega), e2, sp_ne a, e1, sp_ne b]
  · rw [g5, sp_ne (by omega), g4, sp_ne (by omega), g3, sp_at]
  · rw [g5, sp_ne (by omega), g4, sp_at]
  · rw [g5, sp_at]; exact k_inj hw
theorem RTL_step {f g h : Nat → Int32} {u d i i1 x y v : Int32} (hL : RTL f g u d i.toInt.toNat) (h0 : 0 ≤ i.toInt) (h1 : i1.toInt = i.toInt + 1) (e : h = upd g x.toNatClampNeg v) (ev : v = g y.toNatClampNeg) (hx : x.toInt.toNat = 498 + 53 * (f 3).toInt.toNat + i.toInt.toNat) (hy : y.toInt.toNat = 1131 + i.toInt.toNat) (hc : (f 3).toInt ≤ 11) (hi : i.toInt ≤ 49) : RTL f h u d i1.toInt.toNat := by
  obtain ⟨a1, a2, a3, a4, a5, a6, a7⟩ := hL
  have g1 := up_in e hx
  have hv : v = f (1131 + i.toInt.toNat) := by
    rw [rd_in ev hy]; exact a3 _ (by omega) (by omega) (by omega)
  refine ⟨?_, ?_, fun j p q c => ?_, ?_, ?_, ?_, fun j hj => ?_⟩
  · rw [g1, sp_ne (by omega)]; exact a1
  · rw [g1, sp_ne (by omega)]; exact a2
  · rw [g1, sp_ne (by omega)]; exact a3 j p q c
  · rw [g1, sp_ne (by omega)]; exact a4
  · rw [g1, sp_ne (by omega)]; exact a5
  · rw [g1, sp_ne (by omega)]; exact a6
  · rw [g1]
    by_cases q : j = i.toInt.toNat
    · rw [q, sp_at, hv]
    · rw [sp_ne (by omega)]; exact a7 j (by omega)
theorem RTX_of {f g : Nat → Int32} {u d : Int32} (h : RTL f g u d 50) : RTX f g u d := by
  obtain ⟨a1, a2, a3, a4, a5, a6, a7⟩ := h
  refine ⟨fun i p q c => ?_, fun _ => ⟨a4, a5, a6, a7⟩⟩
  rcases c with c | c | c
  · exact a3 i p q (Or.inl c)
  · exact a3 i p q (Or.inr c)
  · omega
theorem rtr_no {g : Int → Int32} {n k u dd r n1 k1 v d : Int32} {q : Int} (c : 0 ≤ u.toInt ∧ u.toInt ≤ 2 ∧ 0 ≤ dd.toInt ∧ dd.toInt ≤ 2000) (hk : k.toInt < 12) (tq : TXQ g u 0 0 0 0 0 0 0 0 v q d) (hb : d.toInt ≠ 0 ∨ q ≠ n.toInt) (h1 : n1.toInt = 0) (hr : r.toInt = -10 - q) (h3 : k1 = k) : RTR g n k u dd r n1 k1 := by
  refine Or.inr (Or.inr ⟨c, hk, v, q, 1, ⟨d, tq, ⟨fun z => absurd z (by decide), fun z => ?_⟩⟩, h1, Or.inl ⟨by decide, hr, by rw [h3]⟩⟩)
  rcases hb with y | y
  · exact absurd z.1 y
  · exact absurd z.2 y
theorem rtr_yes {g : Int → Int32} {n k u dd r n1 k1 v d : Int32} {q : Int} (c : 0 ≤ u.toInt ∧ u.toInt ≤ 2 ∧ 0 ≤ dd.toInt ∧ dd.toInt ≤ 2000) (hk : k.toInt < 12) (tq : TXQ g u 0 0 0 0 0 0 0 0 v q d) (hd : d.toInt = 0) (hq : q = n.toInt) (h1 : n1.toInt = 0) (hr : r.toInt = k.toInt) (h3 : k1.toInt = k.toInt + 1) : RTR g n k u dd r n1 k1 :=
  Or.inr (Or.inr ⟨c, hk, v, q, 0, ⟨d, tq, ⟨fun _ => ⟨hd, hq⟩, fun _ => by decide⟩⟩, h1, Or.inr ⟨by decide, hr, h3⟩⟩)
-- RATES and THE TAPE of both sides
def RRL (tp tx ln us fr : Nat → Int32) (n k : Int32) (x : Nat → Int32) : Prop :=
  n = x 4 ∧ k = x 3 ∧ (∀ j : Nat, j < 50 → tp j = x (1131 + j)) ∧ BYN 50 tp ∧ BYN 600 tx ∧ (∀ r : Nat, r < 12 → 0 ≤ (ln r).toInt ∧ (ln r).toInt ≤ 50)
  ∧ ∀ r : Nat, (r : Int) < k.toInt → us r = x (495 + 53 * r) ∧ fr r = x (496 + 53 * r) ∧ ln r = x (497 + 53 * r) ∧ (∀ j : Nat, j < 50 → tx (50 * r + j) = x (498 + 53 * r + j)) ∧ ∃ (v : Int32) (q : Int), TXF (tG tx (50 * r) (ln r)) (ln r).toInt (us r) 0 0 0 v q 0
theorem RRL.at {tp tx ln us fr : Nat → Int32} {n k : Int32} {x y : Nat → Int32} (h : RRL tp tx ln us fr n k x) (hk : k.toInt ≤ 12) (e : ∀ i : Nat, (i = 3 ∨ i = 4 ∨ (495 ≤ i ∧ i ≤ 1180)) → y i = x i) : RRL tp tx ln us fr n k y := by
  obtain ⟨h1, h2, h3, h4, h5, h6, h7⟩ := h
  refine ⟨h1.trans (e 4 (by omega)).symm, h2.trans (e 3 (by omega)).symm, fun j hj => (h3 j hj).trans (e _ (by omega)).symm, h4, h5, h6, fun r hr => ?_⟩
  obtain ⟨a1, a2, a3, a4, a5⟩ := h7 r hr
  exact ⟨a1.trans (e _ (by omega)).symm, a2.trans (e _ (by omega)).symm, a3.trans (e _ (by omega)).symm, fun j hj => (a4 j hj).trans (e _ (by omega)).symm, a5⟩
theorem RRL.cp {tp tx ln us fr tp1 tx1 ln1 us1 fr1 : Nat → Int32} {n k n1 k1 : Int32} {x y : Nat → Int32} (h : RRL tp tx ln us fr n k x) (a1 : tp1 = tp) (a2 : tx1 = tx) (a3 : ln1 = ln) (a4 : us1 = us) (a5 : fr1 = fr) (a6 : n1 = n) (a7 : k1 = k) (t : y = x) : RRL tp1 tx1 ln1 us1 fr1 n1 k1 y := by
  rw [a1, a2, a3, a4, a5, a6, a7, t]; exact h
def RRLO (i : Int32) (tp tx ln us fr : Nat → Int32) (n k : Int32) (x : Nat → Int32) : Prop := i.toInt = 0 ∨ RRL tp tx ln us fr n k x
theorem RRL.rest {tp tx ln us fr tp1 tx1 ln1 us1 fr1 tp2 tx2 ln2 us2 fr2 : Nat → Int32} {n k n1 k1 n2 k2 i m : Int32} {x y z : Nat → Int32} (h : RRL tp tx ln us fr n k x) (h1 : RRLO i tp1 tx1 ln1 us1 fr1 n1 k1 y) (hk : i = m) (a1 : tp2 = ifF i tp tp1) (a2 : tx2 = ifF i tx tx1) (a3 : ln2 = ifF i ln ln1) (a4 : us2 = ifF i us us1) (a5 : fr2 = ifF i fr fr1) (a6 : n2 = ifI i n n1) (a7 : k2 = ifI i k k1) (t : z = ifF m x y) : RRL tp2 tx2 ln2 us2 fr2 n2 k2 z := by
  unfold ifF at a1 a2 a3 a4 a5 t; unfold ifI at a6 a7
  rw [← hk] at t
  by_cases c : i.toInt = 0
  · rw [if_pos c] at a1 a2 a3 a4 a5 a6 a7 t; exact h.cp a1 a2 a3 a4 a5 a6 a7 t
  · rw [if_neg c] at a1 a2 a3 a4 a5 a6 a7 t; exact (Or.resolve_left h1 c).cp a1 a2 a3 a4 a5 a6 a7 t
theorem apT_off {f : Nat → Int32} {t : Nat} {w : Int64} : ∀ (k : Nat) {j : Nat}, (j < t ∨ t + k ≤ j) → apT f t w k j = f j := by
  intro k
  induction k with
  | zero => intro j _; rfl
  | succ k ih =>
    intro j hj
    show upd (apT f t w k) (t + k) (byW w k) j = f j
    rw [sp_ne (by omega)]; exact ih (by omega)
theorem apT_by {f : Nat → Int32} {t : Nat} {w : Int64} {n : Nat} (h : BYN n f) : ∀ k : Nat, BYN n (apT f t w k) := by
  intro k
  induction k with
  | zero => exact h
  | succ k ih =>
    intro j hj
    show 0 ≤ (upd (apT f t w k) (t + k) (byW w k) j).toInt ∧ (upd (apT f t w k) (t + k) (byW w k) j).toInt ≤ 255
    by_cases q : j = t + k
    · rw [q, sp_at]; exact byW_rng w k
    · rw [sp_ne q]; exact ih j hj
theorem RRL.feed {tp tx ln us fr tp1 : Nat → Int32} {n k n1 m : Int32} {w : Int64} {x y : Nat → Int32} (h : RRL tp tx ln us fr n k x) (hk : k.toInt ≤ 12) (hn : 0 ≤ n.toInt) (e1 : tp1 = fdS tp n w m) (e2 : n1.toInt = fdN n m) (e3 : (y 4).toInt = fdN (x 4) m) (e4 : ∀ i : Nat, i ≠ 4 → y i = fdP x w m i) : RRL tp1 tx ln us fr n1 k y := by
  obtain ⟨h1, h2, h3, h4, h5, h6, h7⟩ := h
  have h4' : n1 = y 4 := k_inj (by rw [e2, e3, h1])
  unfold fdP at e4; unfold fdS at e1
  rw [← h1] at e4
  by_cases c : 1 ≤ m.toInt ∧ m.toInt ≤ 8 ∧ n.toInt + m.toInt ≤ 50
  · rw [if_pos c] at e1
    have e5 : ∀ i : Nat, i ≠ 4 → y i = apT x (1131 + n.toInt.toNat) w m.toInt.toNat i := fun i hi => by rw [e4 i hi, if_pos c]
    have o : ∀ i : Nat, i ≠ 4 → i < 1131 → y i = x i := fun i hi hj => by rw [e5 i hi]; exact apT_off _ (by omega)
    refine ⟨h4', h2.trans (o 3 (by omega) (by omega)).symm, fun j hj => ?_, by rw [e1]; exact apT_by h4 _, h5, h6, fun r hr => ?_⟩
    · have z := apT_vw (n := 50) (p := 0) (q := 1131) (t := n.toInt.toNat) (w := w) (f := tp) (g := x) (fun j hj => by rw [Nat.zero_add]; exact h3 j hj) m.toInt.toNat j hj
      rw [e1, e5 _ (by omega), ← z, Nat.zero_add, Nat.zero_add]
    · obtain ⟨a1, a2, a3, a4, a5⟩ := h7 r hr
      exact ⟨a1.trans (o _ (by omega) (by omega)).symm, a2.trans (o _ (by omega) (by omega)).symm, a3.trans (o _ (by omega) (by omega)).symm, fun j hj => (a4 j hj).trans (o _ (by omega) (by omega)).symm, a5⟩
  · rw [if_neg c] at e1
    have o : ∀ i : Nat, i ≠ 4 → y i = x i := fun i hi => by rw [e4 i hi, if_neg c]
    rw [e1]
    refine ⟨h4', h2.trans (o 3 (by omega)).symm, fun j hj => (h3 j hj).trans (o _ (by omega)).symm, h4, h5, h6, fun r hr => ?_⟩
    obtain ⟨a1, a2, a3, a4, a5⟩ := h7 r hr
    exact ⟨a1.trans (o _ (by omega)).symm, a2.trans (o _ (by omega)).symm, a3.trans (o _ (by omega)).symm, fun j hj => (a4 j hj).trans (o _ (by omega)).symm, a5⟩
theorem RRL.g {tp tx ln us fr : Nat → Int32} {n k : Int32} {x : Nat → Int32} (h : RRL tp tx ln us fr n k x) (hn : n.toInt ≤ 50) : tG tp 0 n = tG x 1131 (x 4) :=
  tG_eq h.1 (fun j hj => by rw [Nat.zero_add]; exact h.2.2.1 j (by omega))
theorem RRL.rate {tp tx ln us fr tx1 ln1 us1 fr1 : Nat → Int32} {n k n1 k1 u d r s : Int32} {x y : Nat → Int32} (h : RRL tp tx ln us fr n k x) (hn0 : 0 ≤ n.toInt) (hn : n.toInt ≤ 50) (hk0 : 0 ≤ k.toInt) (hk : k.toInt ≤ 12) (R : RTR (tG tp 0 n) n k u d r n1 k1) (e1 : us1 = rtU us k k1 u) (e2 : fr1 = rtU fr k k1 d) (e3 : ln1 = rtU ln k k1 n) (e4 : tx1 = rtT tx tp k k1) (R2 : RTR (tG x 1131 (x 4)) (x 4) (x 3) u d s (y 4) (y 3)) (X : RTX x y u d) : RRL tp tx1 ln1 us1 fr1 n1 k1 y := by
  rw [← h.g hn, ← h.1, ← h.2.1] at R2
  obtain ⟨_, hn1, hk1⟩ := R.one R2
  unfold RTX at X
  rw [← h.2.1, ← h.1, ← hk1] at X
  obtain ⟨X1, X2⟩ := X
  obtain ⟨h1, h2, h3, h4, h5, h6, h7⟩ := h
  unfold rtU at e1 e2 e3
  unfold rtT at e4
  by_cases c : k1.toInt = k.toInt
  · rw [if_pos c] at e1 e2 e3 e4
    have o : ∀ i : Nat, i ≠ 3 → i ≠ 4 → y i = x i := fun i p q => X1 i p q (Or.inr (Or.inr c))
    rw [e1, e2, e3, e4]
    refine ⟨hn1, hk1, fun j hj => (h3 j hj).trans (o _ (by omega) (by omega)).symm, h4, h5, h6, fun r hr => ?_⟩
    obtain ⟨a1, a2, a3, a4, a5⟩ := h7 r (by omega)
    exact ⟨a1.trans (o _ (by omega) (by omega)).symm, a2.trans (o _ (by omega) (by omega)).symm, a3.trans (o _ (by omega) (by omega)).symm, fun j hj => (a4 j hj).trans (o _ (by omega) (by omega)).symm, a5⟩
  · rw [if_neg c] at e1 e2 e3 e4
    obtain ⟨b1, b2, b3, b4⟩ := X2 c
    rcases R with ⟨_, _, _, z⟩ | ⟨_, _, _, _, z⟩ | ⟨_, hk2, v, q, w, hv, _, ⟨_, _, z⟩ | ⟨hw, _, z⟩⟩
    · exact absurd z c
    · exact absurd z c
    · exact absurd z c
    · have o : ∀ i : Nat, i ≠ 3 → i ≠ 4 → (i < 495 + 53 * k.toInt.toNat ∨ 548 + 53 * k.toInt.toNat ≤ i) → y i = x i := fun i p q t => X1 i p q (by rcases t with t | t; exact Or.inl t; exact Or.inr (Or.inl t))
      have w0 : w = 0 := k_inj (by rw [hw]; decide)
      rw [w0] at hv
      have cin : ∀ j : Nat, j < 50 → tx1 (50 * k.toInt.toNat + j) = tp j := fun j hj => by
        rw [e4, pk_cpy_in (by omega) (by omega), show 0 + (50 * k.toInt.toNat + j - 50 * k.toInt.toNat) = j from by omega]
      have cout : ∀ j : Nat, j < 50 * k.toInt.toNat → tx1 j = tx j := fun j hj => by
        rw [e4, pk_cpy_out (by omega)]
      refine ⟨hn1, hk1, fun j hj => (h3 j hj).trans (o _ (by omega) (by omega) (by omega)).symm, h4, fun j hj => ?_, fun r hr => ?_, fun r hr => ?_⟩
      · rw [e4]
        by_cases t : 50 * k.toInt.toNat ≤ j ∧ j < 50 * k.toInt.toNat + 50
        · rw [pk_cpy_in t.1 t.2]; exact h4 _ (by omega)
        · rw [pk_cpy_out (by omega)]; exact h5 j hj
      · rw [e3]
        by_cases t : r = k.toInt.toNat
        · rw [t, sp_at]; exact ⟨hn0, hn⟩
        · rw [sp_ne t]; exact h6 r hr
      · by_cases t : r = k.toInt.toNat
        · have lu : us1 r = u := by rw [e1, t, sp_at]
          have lf : fr1 r = d := by rw [e2, t, sp_at]
          have ll : ln1 r = n := by rw [e3, t, sp_at]
          rw [lu, lf, ll, t]
          refine ⟨b1.symm, b2.symm, b3.symm, fun j hj => ?_, v, q, ?_⟩
          · rw [cin j hj, b4 j hj]; exact h3 j hj
          · exact hv.byes (tG_eq rfl (fun j hj => by rw [Nat.zero_add]; exact (cin j (by omega)).symm))
        · obtain ⟨a1, a2, a3, a4, v1, q1, a5⟩ := h7 r (by omega)
          have lu : us1 r = us r := by rw [e1, sp_ne t]
          have lf : fr1 r = fr r := by rw [e2, sp_ne t]
          have ll : ln1 r = ln r := by rw [e3, sp_ne t]
          have hb := h6 r (by omega)
          rw [lu, lf, ll]
          refine ⟨a1.trans (o _ (by omega) (by omega) (by omega)).symm, a2.trans (o _ (by omega) (by omega) (by omega)).symm, a3.trans (o _ (by omega) (by omega) (by omega)).symm, fun j hj => ?_, v1, q1, ?_⟩
          · rw [cout _ (by omega), a4 j hj]; exact (o _ (by omega) (by omega) (by omega)).symm
          · exact a5.byes (tG_eq rfl (fun j hj => (cout _ (by omega)).symm))
/-- the RATES of both sides come to the same -/
theorem RRL.prv {tp tx ln us fr : Nat → Int32} {n k : Int32} {x : Nat → Int32} {d u a b c r s : Int32} (h : RRL tp tx ln us fr n k x) (hk0 : 0 ≤ k.toInt) (hk : k.toInt ≤ 12) (p : PRV us fr (fun j => tG tx (50 * j) (ln j)) ln k.toInt.toNat d u a b c r) (p1 : PRV (fun j => x (495 + 53 * j)) (fun j => x (496 + 53 * j)) (fun j => tG x (498 + 53 * j) (x (497 + 53 * j))) (fun j => x (497 + 53 * j)) (x 3).toInt.toNat d u a b c s) : r = s := by
  rw [← h.2.1] at p1
  refine p.one p1 (fun j hj => ?_) (fun j hj => ?_)
  · obtain ⟨a1, a2, a3, a4, _⟩ := h.2.2.2.2.2.2 j (by omega)
    have hb := h.2.2.2.2.2.1 j (by omega)
    exact ⟨a1, a2, tG_eq a3 (fun i hi => a4 i (by omega)), a3⟩
  · obtain ⟨_, _, _, _, a5⟩ := h.2.2.2.2.2.2 j (by omega)
    exact a5
theorem RRL.inf {tp tx ln us fr : Nat → Int32} {n k : Int32} {x : Nat → Int32} (h : RRL tp tx ln us fr n k x) (hk0 : 0 ≤ k.toInt) (a b : Int32) : inF us fr a b k.toInt.toNat = inF (fun j => x (495 + 53 * j)) (fun j => x (496 + 53 * j)) a b (x 3).toInt.toNat := by
  rw [← h.2.1]
  exact inF_eq _ (fun j hj => ⟨(h.2.2.2.2.2.2 j (by omega)).1, (h.2.2.2.2.2.2 j (by omega)).2.1⟩)
theorem RRL_0 {x : Nat → Int32} (h4 : x 4 = 0) (h3 : x 3 = 0) (h : ∀ j : Nat, j < 50 → x (1131 + j) = 0) : RRL (fun _ => (0 : Int32)) (fun _ => (0 : Int32)) (fun _ => (0 : Int32)) (fun _ => (0 : Int32)) (fun _ => (0 : Int32)) 0 0 x := by
  have z : (0 : Int32).toInt = 0 := by decide
  exact ⟨h4.symm, h3.symm, fun j hj => (h j hj).symm, fun _ _ => by rw [z]; omega, fun _ _ => by rw [z]; omega, fun _ _ => by rw [z]; omega, fun r hr => by rw [z] at hr; omega⟩
theorem fdP_off {f : Nat → Int32} {w : Int64} {m : Int32} {i : Nat} (h : i < 1131) : fdP f w m i = f i := by
  unfold fdP
  by_cases c : 1 ≤ m.toInt ∧ m.toInt ≤ 8 ∧ (f 4).toInt + m.toInt ≤ 50
  · rw [if_pos c]; exact apT_off _ (by omega)
  · rw [if_neg c]
theorem REL.at {r s p : Nat → Int32} {w v d n : Int32} {x y : Nat → Int32} (h : REL r s p w v d n x) (t : ∀ i : Nat, (i = 0 ∨ i = 2 ∨ (5 ≤ i ∧ i ≤ 98)) → y i = x i) : REL r s p w v d n y := by
  obtain ⟨h1, h2, h3, h4, h5, h6, h7⟩ := h
  exact ⟨h1.at (fun j a b => t j (by omega)), h2.at (fun j a b => t j (by omega)), h3.at (fun j a b => t j (by omega)), h4.trans (t 5 (by omega)).symm, h5.trans (t 6 (by omega)).symm, h6.trans (t 0 (by omega)).symm, h7.trans (t 2 (by omega)).symm⟩
theorem RRL.price {tp tx ln us fr : Nat → Int32} {n k : Int32} {x : Nat → Int32} {d e u a b c r s : Int32} (h : RRL tp tx ln us fr n k x) (hk0 : 0 ≤ k.toInt) (hk : k.toInt ≤ 12) (hd : d = e) (p : ((u.toInt < 0 ∨ 2 < u.toInt) ∧ r = (-1000001)) ∨ ((0 ≤ u.toInt ∧ u.toInt ≤ 2) ∧ PRV us fr (fun j => tG tx (50 * j) (ln j)) ln k.toInt.toNat d u a b c r)) (p1 : ((u.toInt < 0 ∨ 2 < u.toInt) ∧ s = (-1000001)) ∨ ((0 ≤ u.toInt ∧ u.toInt ≤ 2) ∧ PRV (fun j => x (495 + 53 * j)) (fun j => x (496 + 53 * j)) (fun j => tG x (498 + 53 * j) (x (497 + 53 * j))) (fun j => x (497 + 53 * j)) (x 3).toInt.toNat e u a b c s)) : r = s := by
  rw [← hd] at p1
  rcases p with ⟨c1, y⟩ | ⟨c1, y⟩
  · rcases p1 with ⟨_, z⟩ | ⟨c2, _⟩
    · rw [y, z]
    · omega
  · rcases p1 with ⟨c2, _⟩ | ⟨_, z⟩
    · omega
    · exact h.prv hk0 hk y z
theorem RRL.owed {tp tx ln us fr : Nat → Int32} {n k : Int32} {x : Nat → Int32} {d e a r s : Int32} (h : RRL tp tx ln us fr n k x) (hk0 : 0 ≤ k.toInt) (hk : k.toInt ≤ 12) (hd : d = e) (p : ((a.toInt < 0 ∨ 2000 < a.toInt) ∧ r = (-1000001)) ∨ ((0 ≤ a.toInt ∧ a.toInt ≤ 2000) ∧ d.toInt ≤ a.toInt ∧ r = 0) ∨ ((0 ≤ a.toInt ∧ a.toInt ≤ 2000) ∧ a.toInt < d.toInt ∧ PRV us fr (fun j => tG tx (50 * j) (ln j)) ln k.toInt.toNat d 1 (d - a) d 0 r)) (p1 : ((a.toInt < 0 ∨ 2000 < a.toInt) ∧ s = (-1000001)) ∨ ((0 ≤ a.toInt ∧ a.toInt ≤ 2000) ∧ e.toInt ≤ a.toInt ∧ s = 0) ∨ ((0 ≤ a.toInt ∧ a.toInt ≤ 2000) ∧ a.toInt < e.toInt ∧ PRV (fun j => x (495 + 53 * j)) (fun j => x (496 + 53 * j)) (fun j => tG x (498 + 53 * j) (x (497 + 53 * j))) (fun j => x (497 + 53 * j)) (x 3).toInt.toNat e 1 (e - a) e 0 s)) : r = s := by
  rw [← hd] at p1
  rcases p with ⟨c1, y⟩ | ⟨c1, c3, y⟩ | ⟨c1, c3, y⟩
  · rcases p1 with ⟨_, z⟩ | ⟨c2, _⟩ | ⟨c2, _⟩
    · rw [y, z]
    · omega
    · omega
  · rcases p1 with ⟨c2, _⟩ | ⟨_, _, z⟩ | ⟨_, c2, _⟩
    · omega
    · rw [y, z]
    · omega
  · rcases p1 with ⟨c2, _⟩ | ⟨_, c2, _⟩ | ⟨_, _, z⟩
    · omega
    · omega
    · exact h.prv hk0 hk y z
