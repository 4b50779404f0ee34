def bsN : List UInt8 → Nat
  | [] => 0
  | b :: r => b.toNat + 1 + 512 * bsN r
theorem bsN_at : ∀ (l : List UInt8) (i v : Nat), bsN l / 512 ^ i % 512 = v + 1 → ∃ b, l[i]? = some b ∧ b.toNat = v
  | [], i, v, h => by
    have h0 : bsN [] = 0 := rfl
    rw [h0, Nat.zero_div, Nat.zero_mod] at h
    omega
  | b :: r, 0, v, h => by
    have hb := UInt8.toNat_lt b
    have h0 : bsN (b :: r) = b.toNat + 1 + 512 * bsN r := rfl
    rw [h0, Nat.pow_zero, Nat.div_one] at h
    exact ⟨b, rfl, by omega⟩
  | b :: r, i + 1, v, h => by
    have hb := UInt8.toNat_lt b
    have h0 : bsN (b :: r) = b.toNat + 1 + 512 * bsN r := rfl
    have h1 : bsN (b :: r) / 512 = bsN r := by rw [h0]; omega
    rw [Nat.pow_succ, Nat.mul_comm, ← Nat.div_div_eq_div_mul, h1] at h
    obtain ⟨x, hx, hv⟩ := bsN_at r i v h
    exact ⟨x, (by first | exact hx | simpa using hx), hv⟩
def BN (c : ByteArray) (k n : Nat) : Prop := bsN ((c.data.toList.drop k).take 136) = n
theorem BN_at {c : ByteArray} {k n i v : Nat} (h : BN c k n) (hd : n / 512 ^ i % 512 = v + 1) : ∃ b, c.data.toList[k + i]? = some b ∧ b.toNat = v := by
  unfold BN at h; subst h
  obtain ⟨b, hb, hv⟩ := bsN_at _ i v hd
  rw [List.getElem?_take] at hb
  split at hb
  · rw [List.getElem?_drop] at hb; exact ⟨b, hb, hv⟩
  · cases hb
theorem ra_ok {α β : Type} {m : Decoder α} {f : α → Decoder β} {c : ByteArray} {p q : Nat} {a : α} (h : Reader.runAt m c p = .ok (a, q)) : Reader.runAt (m >>= f) c p = Reader.runAt (f a) c q := by
  have e : ∀ z, Reader.runAt m c p = z → Reader.runAt (m >>= f) c p = (z >>= fun x => Reader.runAt (f x.1) c x.2) := by
    intro z hz; subst hz; rfl
  rw [e _ h]; rfl
theorem ra_map {α β : Type} {m : Decoder α} {f : α → β} {c : ByteArray} {p q : Nat} {a : α} (h : Reader.runAt m c p = .ok (a, q)) : Reader.runAt (f <$> m) c p = .ok (f a, q) := by
  have e : ∀ z, Reader.runAt m c p = z → Reader.runAt (f <$> m) c p = (z >>= fun x => .ok (f x.1, x.2)) := by
    intro z hz; subst hz; rfl
  rw [e _ h]; rfl
theorem u1_at {c : ByteArray} {p v : Nat} (h : ∃ b, c.data.toList[p]? = some b ∧ b.toNat = v) : Reader.runAt (Reader.u1 : Decoder Nat) c p = .ok (v, p + 1) := by
  obtain ⟨b, hb, hv⟩ := h
  obtain ⟨⟨l⟩⟩ := c
  obtain ⟨hl, he⟩ := List.getElem?_eq_some_iff.mp hb
  have hs : p < (ByteArray.mk (Array.mk l)).size := hl
  have hg : (ByteArray.mk (Array.mk l))[p].toNat = v := by rw [← hv, ← he]; rfl
  have r1 : Reader.runAt (read : Decoder ByteArray) (ByteArray.mk (Array.mk l)) p = .ok (ByteArray.mk (Array.mk l), p) := rfl
  have r2 : Reader.runAt (get : Decoder Nat) (ByteArray.mk (Array.mk l)) p = .ok (p, p) := rfl
  refine (ra_ok r1).trans ((ra_ok r2).trans ?_)
  rw [dif_pos hs]
  show Except.ok ((ByteArray.mk (Array.mk l))[p].toNat, p + 1) = _
  rw [hg]
theorem u2_at {c : ByteArray} {p a b : Nat} (h1 : Reader.runAt (Reader.u1 : Decoder Nat) c p = .ok (a, p + 1)) (h2 : Reader.runAt (Reader.u1 : Decoder Nat) c (p + 1) = .ok (b, p + 2)) : Reader.runAt (Reader.u2 : Decoder Nat) c p = .ok (a * 256 + b, p + 2) :=
  (ra_ok h1).trans ((ra_ok h2).trans rfl)
noncomputable def dKK : { K : Nat → Nat → Decoder Instr // ∀ pc, Decoder.instr pc = (Reader.u1 >>= K pc) } := ⟨_, fun _ => rfl⟩
theorem dec_of {c : ByteArray} {pc v q n : Nat} {ins : Instr} (h : Reader.runAt (Reader.u1 : Decoder Nat) c pc = .ok (v, pc + 1)) (hk : Reader.runAt (dKK.1 pc v) c (pc + 1) = .ok (ins, q)) (hq : q - pc = n) : decode c pc = .ok (ins, n) := by
  have e : Reader.runAt (Decoder.instr pc) c pc = .ok (ins, q) := by rw [dKK.2 pc]; exact (ra_ok h).trans hk
  subst hq; unfold decode; rw [e]; rfl
theorem dR0 {c : ByteArray} {k n i b : Nat} {ins : Instr} (hc : BN c k n) (ho : ∀ pc, dKK.1 pc b = Pure.pure ins) (hd : n / 512 ^ i % 512 = b + 1) : decode c (k + i) = .ok (ins, 1) :=
  dec_of (q := k + i + 1) (u1_at (BN_at hc hd)) (by rw [ho]; rfl) (by omega)
theorem dR1 {c : ByteArray} {k n i b : Nat} {f : Nat → Instr} (hc : BN c k n) (ho : ∀ pc, dKK.1 pc b = (Reader.u1 >>= fun x => Pure.pure (f x))) (u : Nat) (hd : n / 512 ^ i % 512 = b + 1 ∧ n / 512 ^ (i + 1) % 512 = u + 1) : decode c (k + i) = .ok (f u, 2) :=
  dec_of (q := k + i + 2) (u1_at (BN_at hc hd.1)) (by rw [ho]; exact (ra_ok (u1_at (BN_at hc hd.2))).trans rfl) (by omega)
theorem dR1s {c : ByteArray} {k n i b : Nat} {f : Int → Instr} (hc : BN c k n) (ho : ∀ pc, dKK.1 pc b = (Reader.s1 >>= fun x => Pure.pure (f x))) (u : Nat) (x : Int) (hd : n / 512 ^ i % 512 = b + 1 ∧ n / 512 ^ (i + 1) % 512 = u + 1 ∧ Reader.signed 8 u = x) : decode c (k + i) = .ok (f x, 2) := by
  obtain ⟨h1, h2, rfl⟩ := hd
  exact dec_of (q := k + i + 2) (u1_at (BN_at hc h1)) (by rw [ho]; exact (ra_ok (ra_map (u1_at (BN_at hc h2)))).trans rfl) (by omega)
theorem u2_BN {c : ByteArray} {k n i v : Nat} (hc : BN c k n) (h : n / 512 ^ i % 512 = v / 256 + 1 ∧ n / 512 ^ (i + 1) % 512 = v % 256 + 1) : Reader.runAt (Reader.u2 : Decoder Nat) c (k + i) = .ok (v, k + i + 2) := by
  have e : v / 256 * 256 + v % 256 = v := by omega
  have h1 : Reader.runAt (Reader.u1 : Decoder Nat) c (k + i) = .ok (v / 256, k + i + 1) := u1_at (BN_at (i := i) hc h.1)
  have h2 : Reader.runAt (Reader.u1 : Decoder Nat) c (k + i + 1) = .ok (v % 256, k + i + 2) := u1_at (BN_at (i := i + 1) hc h.2)
  have t := u2_at h1 h2
  rw [e] at t
  exact t
theorem dR2 {c : ByteArray} {k n i b : Nat} {f : Nat → Instr} (hc : BN c k n) (ho : ∀ pc, dKK.1 pc b = (Reader.u2 >>= fun x => Pure.pure (f x))) (v : Nat) (hd : n / 512 ^ i % 512 = b + 1 ∧ n / 512 ^ (i + 1) % 512 = v / 256 + 1 ∧ n / 512 ^ (i + 1 + 1) % 512 = v % 256 + 1) : decode c (k + i) = .ok (f v, 3) :=
  dec_of (q := k + i + 3) (u1_at (BN_at hc hd.1)) (by rw [ho]; exact (ra_ok (u2_BN hc hd.2)).trans rfl) (by omega)
theorem dR2s {c : ByteArray} {k n i b : Nat} {f : Int → Instr} (hc : BN c k n) (ho : ∀ pc, dKK.1 pc b = (Reader.s2 >>= fun x => Pure.pure (f x))) (v : Nat) (x : Int) (hd : (n / 512 ^ i % 512 = b + 1 ∧ n / 512 ^ (i + 1) % 512 = v / 256 + 1 ∧ n / 512 ^ (i + 1 + 1) % 512 = v % 256 + 1) ∧ Reader.signed 16 v = x) : decode c (k + i) = .ok (f x, 3) := by
  obtain ⟨hd, rfl⟩ := hd
  exact dec_of (q := k + i + 3) (u1_at (BN_at hc hd.1)) (by rw [ho]; exact (ra_ok (ra_map (u2_BN hc hd.2))).trans rfl) (by omega)
theorem dRii {c : ByteArray} {k n i b : Nat} {f : Nat → Int → Instr} (hc : BN c k n) (ho : ∀ pc, dKK.1 pc b = (Reader.u1 >>= fun y => Reader.s1 >>= fun x => Pure.pure (f y x))) (y u : Nat) (x : Int) (hd : n / 512 ^ i % 512 = b + 1 ∧ n / 512 ^ (i + 1) % 512 = y + 1 ∧ n / 512 ^ (i + 1 + 1) % 512 = u + 1 ∧ Reader.signed 8 u = x) : decode c (k + i) = .ok (f y x, 3) := by
  obtain ⟨h1, h2, h3, rfl⟩ := hd
  exact dec_of (q := k + i + 3) (u1_at (BN_at hc h1)) (by rw [ho]; exact (ra_ok (u1_at (BN_at hc h2))).trans ((ra_ok (ra_map (u1_at (BN_at hc h3)))).trans rfl)) (by omega)
set_option maxRecDepth 100000 in
theorem dop_2 : ∀ pc, dKK.1 pc 2 = Pure.pure (Instr.iconst (-1)) := fun _ => rfl
set_option maxRecDepth 100000 in
theorem dop_3 : ∀ pc, dKK.1 pc 3 = Pure.pure (Instr.iconst 0) := fun _ => rfl
set_option maxRecDepth 100000 in
theorem dop_4 : ∀ pc, dKK.1 pc 4 = Pure.pure (Instr.iconst 1) := fun _ => rfl
set_option maxRecDepth 100000 in
theorem dop_5 : ∀ pc, dKK.1 pc 5 = Pure.pure (Instr.iconst 2) := fun _ => rfl
set_option maxRecDepth 100000 in
theorem dop_6 : ∀ pc, dKK.1 pc 6 = Pure.pure (Instr.iconst 3) := fun _ => rfl
set_option maxRecDepth 100000 in
theorem dop_7 : ∀ pc, dKK.1 pc 7 = Pure.pure (Instr.iconst 4) := fun _ => rfl
set_option maxRecDepth 100000 in
theorem dop_8 : ∀ pc, dKK.1 pc 8 = Pure.pure (Instr.iconst 5) := fun _ => rfl
set_option maxRecDepth 100000 in
theorem dop_16 : ∀ pc, dKK.1 pc 16 = (Reader.s1 >>= fun x => Pure.pure (Instr.bipush x)) := fun _ => rfl
set_option maxRecDepth 100000 in
theorem dop_17 : ∀ pc, dKK.1 pc 17 = (Reader.s2 >>= fun x => Pure.pure (Instr.sipush x)) := fun _ => rfl
set_option maxRecDepth 100000 in
theorem dop_18 : ∀ pc, dKK.1 pc 18 = (Reader.u1 >>= fun x => Pure.pure (Instr.ldc x)) := fun _ => rfl
set_option maxRecDepth 100000 in
theorem dop_19 : ∀ pc, dKK.1 pc 19 = (Reader.u2 >>= fun x => Pure.pure (Instr.ldc_w x)) := fun _ => rfl
set_option maxRecDepth 100000 in
theorem dop_20 : ∀ pc, dKK.1 pc 20 = (Reader.u2 >>= fun x => Pure.pure (Instr.ldc2_w x)) := fun _ => rfl
set_option maxRecDepth 100000 in
theorem dop_21 : ∀ pc, dKK.1 pc 21 = (Reader.u1 >>= fun x => Pure.pure (Instr.iload x)) := fun _ => rfl
set_option maxRecDepth 100000 in
theorem dop_25 : ∀ pc, dKK.1 pc 25 = (Reader.u1 >>= fun x => Pure.pure (Instr.aload x)) := fun _ => rfl
set_option maxRecDepth 100000 in
theorem dop_26 : ∀ pc, dKK.1 pc 26 = Pure.pure (Instr.iload_n 0) := fun _ => rfl
set_option maxRecDepth 100000 in
theorem dop_27 : ∀ pc, dKK.1 pc 27 = Pure.pure (Instr.iload_n 1) := fun _ => rfl
set_option maxRecDepth 100000 in
theorem dop_28 : ∀ pc, dKK.1 pc 28 = Pure.pure (Instr.iload_n 2) := fun _ => rfl
set_option maxRecDepth 100000 in
theorem dop_29 : ∀ pc, dKK.1 pc 29 = Pure.pure (Instr.iload_n 3) := fun _ => rfl
set_option maxRecDepth 100000 in
theorem dop_31 : ∀ pc, dKK.1 pc 31 = Pure.pure (Instr.lload_n 1) := fun _ => rfl
set_option maxRecDepth 100000 in
theorem dop_42 : ∀ pc, dKK.1 pc 42 = Pure.pure (Instr.aload_n 0) := fun _ => rfl
set_option maxRecDepth 100000 in
theorem dop_43 : ∀ pc, dKK.1 pc 43 = Pure.pure (Instr.aload_n 1) := fun _ => rfl
set_option maxRecDepth 100000 in
theorem dop_44 : ∀ pc, dKK.1 pc 44 = Pure.pure (Instr.aload_n 2) := fun _ => rfl
set_option maxRecDepth 100000 in
theorem dop_45 : ∀ pc, dKK.1 pc 45 = Pure.pure (Instr.aload_n 3) := fun _ => rfl
set_option maxRecDepth 100000 in
theorem dop_46 : ∀ pc, dKK.1 pc 46 = Pure.pure (Instr.iaload) := fun _ => rfl
set_option maxRecDepth 100000 in
theorem dop_51 : ∀ pc, dKK.1 pc 51 = Pure.pure (Instr.baload) := fun _ => rfl
set_option maxRecDepth 100000 in
theorem dop_54 : ∀ pc, dKK.1 pc 54 = (Reader.u1 >>= fun x => Pure.pure (Instr.istore x)) := fun _ => rfl
set_option maxRecDepth 100000 in
theorem dop_58 : ∀ pc, dKK.1 pc 58 = (Reader.u1 >>= fun x => Pure.pure (Instr.astore x)) := fun _ => rfl
set_option maxRecDepth 100000 in
theorem dop_60 : ∀ pc, dKK.1 pc 60 = Pure.pure (Instr.istore_n 1) := fun _ => rfl
set_option maxRecDepth 100000 in
theorem dop_61 : ∀ pc, dKK.1 pc 61 = Pure.pure (Instr.istore_n 2) := fun _ => rfl
set_option maxRecDepth 100000 in
theorem dop_62 : ∀ pc, dKK.1 pc 62 = Pure.pure (Instr.istore_n 3) := fun _ => rfl
set_option maxRecDepth 100000 in
theorem dop_76 : ∀ pc, dKK.1 pc 76 = Pure.pure (Instr.astore_n 1) := fun _ => rfl
set_option maxRecDepth 100000 in
theorem dop_77 : ∀ pc, dKK.1 pc 77 = Pure.pure (Instr.astore_n 2) := fun _ => rfl
set_option maxRecDepth 100000 in
theorem dop_78 : ∀ pc, dKK.1 pc 78 = Pure.pure (Instr.astore_n 3) := fun _ => rfl
set_option maxRecDepth 100000 in
theorem dop_79 : ∀ pc, dKK.1 pc 79 = Pure.pure (Instr.iastore) := fun _ => rfl
set_option maxRecDepth 100000 in
theorem dop_87 : ∀ pc, dKK.1 pc 87 = Pure.pure (Instr.pop) := fun _ => rfl
set_option maxRecDepth 100000 in
theorem dop_89 : ∀ pc, dKK.1 pc 89 = Pure.pure (Instr.dup) := fun _ => rfl
set_option maxRecDepth 100000 in
theorem dop_92 : ∀ pc, dKK.1 pc 92 = Pure.pure (Instr.dup2) := fun _ => rfl
set_option maxRecDepth 100000 in
theorem dop_96 : ∀ pc, dKK.1 pc 96 = Pure.pure (Instr.iadd) := fun _ => rfl
set_option maxRecDepth 100000 in
theorem dop_100 : ∀ pc, dKK.1 pc 100 = Pure.pure (Instr.isub) := fun _ => rfl
set_option maxRecDepth 100000 in
theorem dop_104 : ∀ pc, dKK.1 pc 104 = Pure.pure (Instr.imul) := fun _ => rfl
set_option maxRecDepth 100000 in
theorem dop_108 : ∀ pc, dKK.1 pc 108 = Pure.pure (Instr.idiv) := fun _ => rfl
set_option maxRecDepth 100000 in
theorem dop_112 : ∀ pc, dKK.1 pc 112 = Pure.pure (Instr.irem) := fun _ => rfl
set_option maxRecDepth 100000 in
theorem dop_116 : ∀ pc, dKK.1 pc 116 = Pure.pure (Instr.ineg) := fun _ => rfl
set_option maxRecDepth 100000 in
theorem dop_120 : ∀ pc, dKK.1 pc 120 = Pure.pure (Instr.ishl) := fun _ => rfl
set_option maxRecDepth 100000 in
theorem dop_121 : ∀ pc, dKK.1 pc 121 = Pure.pure (Instr.lshl) := fun _ => rfl
set_option maxRecDepth 100000 in
theorem dop_122 : ∀ pc, dKK.1 pc 122 = Pure.pure (Instr.ishr) := fun _ => rfl
set_option maxRecDepth 100000 in
theorem dop_123 : ∀ pc, dKK.1 pc 123 = Pure.pure (Instr.lshr) := fun _ => rfl
set_option maxRecDepth 100000 in
theorem dop_125 : ∀ pc, dKK.1 pc 125 = Pure.pure (Instr.lushr) := fun _ => rfl
set_option maxRecDepth 100000 in
theorem dop_126 : ∀ pc, dKK.1 pc 126 = Pure.pure (Instr.iand) := fun _ => rfl
set_option maxRecDepth 100000 in
theorem dop_127 : ∀ pc, dKK.1 pc 127 = Pure.pure (Instr.land) := fun _ => rfl
set_option maxRecDepth 100000 in
theorem dop_129 : ∀ pc, dKK.1 pc 129 = Pure.pure (Instr.lor) := fun _ => rfl
set_option maxRecDepth 100000 in
theorem dop_130 : ∀ pc, dKK.1 pc 130 = Pure.pure (Instr.ixor) := fun _ => rfl
set_option maxRecDepth 100000 in
theorem dop_132 : ∀ pc, dKK.1 pc 132 = (Reader.u1 >>= fun y => Reader.s1 >>= fun x => Pure.pure (Instr.iinc y x)) := fun _ => rfl
set_option maxRecDepth 100000 in
theorem dop_133 : ∀ pc, dKK.1 pc 133 = Pure.pure (Instr.i2l) := fun _ => rfl
set_option maxRecDepth 100000 in
theorem dop_136 : ∀ pc, dKK.1 pc 136 = Pure.pure (Instr.l2i) := fun _ => rfl
set_option maxRecDepth 100000 in
theorem dop_145 : ∀ pc, dKK.1 pc 145 = Pure.pure (Instr.i2b) := fun _ => rfl
set_option maxRecDepth 100000 in
theorem dop_146 : ∀ pc, dKK.1 pc 146 = Pure.pure (Instr.i2c) := fun _ => rfl
set_option maxRecDepth 100000 in
theorem dop_147 : ∀ pc, dKK.1 pc 147 = Pure.pure (Instr.i2s) := fun _ => rfl
set_option maxRecDepth 100000 in
theorem dop_153 : ∀ pc, dKK.1 pc 153 = (Reader.s2 >>= fun x => Pure.pure (Instr.ifCond .eq x)) := fun _ => rfl
set_option maxRecDepth 100000 in
theorem dop_154 : ∀ pc, dKK.1 pc 154 = (Reader.s2 >>= fun x => Pure.pure (Instr.ifCond .ne x)) := fun _ => rfl
set_option maxRecDepth 100000 in
theorem dop_155 : ∀ pc, dKK.1 pc 155 = (Reader.s2 >>= fun x => Pure.pure (Instr.ifCond .lt x)) := fun _ => rfl
set_option maxRecDepth 100000 in
theorem dop_156 : ∀ pc, dKK.1 pc 156 = (Reader.s2 >>= fun x => Pure.pure (Instr.ifCond .ge x)) := fun _ => rfl
set_option maxRecDepth 100000 in
theorem dop_157 : ∀ pc, dKK.1 pc 157 = (Reader.s2 >>= fun x => Pure.pure (Instr.ifCond .gt x)) := fun _ => rfl
set_option maxRecDepth 100000 in
theorem dop_158 : ∀ pc, dKK.1 pc 158 = (Reader.s2 >>= fun x => Pure.pure (Instr.ifCond .le x)) := fun _ => rfl
set_option maxRecDepth 100000 in
theorem dop_159 : ∀ pc, dKK.1 pc 159 = (Reader.s2 >>= fun x => Pure.pure (Instr.if_icmp .eq x)) := fun _ => rfl
set_option maxRecDepth 100000 in
theorem dop_160 : ∀ pc, dKK.1 pc 160 = (Reader.s2 >>= fun x => Pure.pure (Instr.if_icmp .ne x)) := fun _ => rfl
set_option maxRecDepth 100000 in
theorem dop_161 : ∀ pc, dKK.1 pc 161 = (Reader.s2 >>= fun x => Pure.pure (Instr.if_icmp .lt x)) := fun _ => rfl
set_option maxRecDepth 100000 in
theorem dop_162 : ∀ pc, dKK.1 pc 162 = (Reader.s2 >>= fun x => Pure.pure (Instr.if_icmp .ge x)) := fun _ => rfl
set_option maxRecDepth 100000 in
theorem dop_163 : ∀ pc, dKK.1 pc 163 = (Reader.s2 >>= fun x => Pure.pure (Instr.if_icmp .gt x)) := fun _ => rfl
set_option maxRecDepth 100000 in
theorem dop_164 : ∀ pc, dKK.1 pc 164 = (Reader.s2 >>= fun x => Pure.pure (Instr.if_icmp .le x)) := fun _ => rfl
set_option maxRecDepth 100000 in
theorem dop_167 : ∀ pc, dKK.1 pc 167 = (Reader.s2 >>= fun x => Pure.pure (Instr.goto x)) := fun _ => rfl
set_option maxRecDepth 100000 in
theorem dop_172 : ∀ pc, dKK.1 pc 172 = Pure.pure (Instr.ireturn) := fun _ => rfl
set_option maxRecDepth 100000 in
theorem dop_177 : ∀ pc, dKK.1 pc 177 = Pure.pure (Instr.return_) := fun _ => rfl
set_option maxRecDepth 100000 in
theorem dop_178 : ∀ pc, dKK.1 pc 178 = (Reader.u2 >>= fun x => Pure.pure (Instr.getstatic x)) := fun _ => rfl
set_option maxRecDepth 100000 in
theorem dop_180 : ∀ pc, dKK.1 pc 180 = (Reader.u2 >>= fun x => Pure.pure (Instr.getfield x)) := fun _ => rfl
set_option maxRecDepth 100000 in
theorem dop_181 : ∀ pc, dKK.1 pc 181 = (Reader.u2 >>= fun x => Pure.pure (Instr.putfield x)) := fun _ => rfl
set_option maxRecDepth 100000 in
theorem dop_182 : ∀ pc, dKK.1 pc 182 = (Reader.u2 >>= fun x => Pure.pure (Instr.invokevirtual x)) := fun _ => rfl
set_option maxRecDepth 100000 in
theorem dop_183 : ∀ pc, dKK.1 pc 183 = (Reader.u2 >>= fun x => Pure.pure (Instr.invokespecial x)) := fun _ => rfl
set_option maxRecDepth 100000 in
theorem dop_184 : ∀ pc, dKK.1 pc 184 = (Reader.u2 >>= fun x => Pure.pure (Instr.invokestatic x)) := fun _ => rfl
set_option maxRecDepth 100000 in
theorem dop_187 : ∀ pc, dKK.1 pc 187 = (Reader.u2 >>= fun x => Pure.pure (Instr.new x)) := fun _ => rfl
set_option maxRecDepth 100000 in
theorem dop_190 : ∀ pc, dKK.1 pc 190 = Pure.pure (Instr.arraylength) := fun _ => rfl
