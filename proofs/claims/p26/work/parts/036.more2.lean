section KR2
variable {p : Program} {l : Launch} {e : Env} {R : Room} {s : State} {m : MethodId} {args : Array Value} {below : List Frame} {meth : Method} {c : Code} {H : Heap} {locs : List Loc} {cells slots : Nat} {Q : State → Prop} {cc : ByteArray} {pc : Nat} {ls : Array Slot} {rest : List Value} {D : va_G} {cI : ClassId} {A : Nat → Prop} {H0 : Heap} {ws : va_W}
/-- a copy of a part: what the row holds then isn't told -/
theorem k_copyG (hx : p.tables.exec = Jvm.exec) (hb : c.code = cc) (hml : c.maxLocals = ls.size) {own : String} {index : Nat} (hown : s.vm.findClass own = some m.cls) (hlink : (Cond.methodLink own index arraycopyName).before args s = true) (hnat : (Cond.native arraycopyName).before args s = true) (hstat : (Cond.static arraycopyName).before args s = true) (hini : (Cond.initialized "java/lang/System").before args s = true)
    (hK : va_K D vwCl [(cI, .int)] s) (hP : va_P D vwCl ws H) (hD : va_D A ws) (hS : va_S A H0 H locs) (q0 q1 : Nat) {a a0 : Nat} {N M : Nat} {f g : Nat → Int32} (ha0 : ws[q0]? = some (a0, .inl (cI, N, .inl f))) (ha1 : ws[q1]? = some (a, .inl (cI, M, .inl g)))
    {sp dp n : Int32} (h1 : 0 ≤ sp.toInt) (h2 : 0 ≤ dp.toInt) (h3 : 0 ≤ n.toInt) (h4 : sp.toInt + n.toInt ≤ N) (h5 : dp.toInt + n.toInt ≤ M) (hframes : 1 ≤ R.frames) (hlocals : (rest.map fun v => v.category).sum + (nativeFrameWords "java/lang/System" "arraycopy" 5 + 11) ≤ R.locals) (hdg : decode cc pc = .ok (.invokestatic index, 3))
    (kk : ∀ (h : Nat → Int32) (H1 : Heap) (locs1 : List Loc), h = va_cpy f g sp.toNatClampNeg dp.toNatClampNeg n.toNatClampNeg → va_P D vwCl (ws.set q1 (a, .inl (cI, M, .inl h))) H1 → va_D A (ws.set q1 (a, .inl (cI, M, .inl h))) → va_S A H0 H1 locs1 → W p l e R s m args below meth c H1 locs1 cells slots Q (F0 m (pc + 3) ls rest)) : W p l e R s m args below meth c H locs cells slots Q (F0 m pc ls (.int n :: .int dp :: .ref a :: .int sp :: .ref a0 :: rest)) := by
  have z0 : (0 : Int32).toInt = 0 := by decide
  have ng : ∀ x : Int32, 0 ≤ x.toInt → ¬ x < 0 := fun x hx0 z => by
    have := Int32.lt_iff_toInt_lt.mp z
    omega
  refine va_copyi hx hb hml hown hlink hnat hstat hini hK hP hD hS q0 q1 0 0 ha0 ha1 rfl rfl rfl (ng sp h1) (ng dp h2) (ng n h3) (by rw [k_clamp, k_clamp]; omega) (by rw [k_clamp, k_clamp]; omega) (fun i _ => rfl) hframes hlocals hdg (fun H1 locs1 hP1 hD1 hS1 => ?_)
  exact kk _ H1 locs1 rfl hP1 hD1 hS1
end KR2
theorem k_ne0 {x : Int32} (h : x.toInt ≠ 0) : ¬ x = 0 := fun z => h (by rw [z]; decide)
theorem k_PL {f g : Nat → Int32} {i x : Int32} (h : ∀ k : Nat, k < 4 → 0 ≤ (f k).toInt ∧ (f k).toInt ≤ 36) (e : g = upd f i.toNatClampNeg x) (h0 : 0 ≤ x.toInt) (h1 : x.toInt ≤ 36) : ∀ k : Nat, k < 4 → 0 ≤ (g k).toInt ∧ (g k).toInt ≤ 36 := by
  intro k hk
  rw [e]
  unfold upd
  by_cases hq : k = i.toNatClampNeg
  · rw [if_pos hq]
    exact ⟨h0, h1⟩
  · rw [if_neg hq]
    exact h k hk
