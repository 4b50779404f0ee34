/-! THE GROUND: one list of the tables' words for every method; a method's start, its returns, a call, in one row each -/
def gT : List Cond := lw_tbl.filter goodWord
def gW (y : MethodName) (cc : ByteArray) (n : Nat) (r : Option FieldType) : List Cond := Cond.code y cc n r :: gT
theorem gT_good {w : Cond} (h : w ∈ gT) : (w.onTables && w.keeps) = true ∨ ∃ ty, w = .arrayClass ty := good_of_word (List.mem_filter.mp h).2
theorem gW_in {y : MethodName} {cc : ByteArray} {n : Nat} {r : Option FieldType} (h : Cond.code y cc n r ∈ gT) : GoodIn gT (gW y cc n r) := by
  intro w hw
  have hm : w ∈ gT := by
    rcases List.mem_cons.mp hw with e | e
    · rw [e]; exact h
    · exact e
  exact ⟨hm, gT_good hm⟩
theorem gV_in {y : MethodName} {cc : ByteArray} {n : Nat} {r : Option FieldType} {own C : String} {idx : Nat} (h : Cond.code y cc n r ∈ gT) (h1 : Cond.methodLink own idx y ∈ gT) (h2 : Cond.instanceMethod y ∈ gT) (h3 : Cond.selects C y y ∈ gT) (h4 : Cond.initialized C ∈ gT) : GoodIn gT (wsV own idx C y (gW y cc n r)) := by
  intro w hw
  rcases List.mem_append.mp hw with e | e
  · have hm : w ∈ gT := by
      simp only [List.mem_cons, List.not_mem_nil, or_false] at e
      rcases e with e | e | e | e
      · rw [e]; exact h1
      · rw [e]; exact h2
      · rw [e]; exact h3
      · rw [e]; exact h4
    exact ⟨hm, gT_good hm⟩
  · exact gW_in h w e
theorem gS_in {y : MethodName} {cc : ByteArray} {n : Nat} {r : Option FieldType} {own : String} {idx : Nat} (h : Cond.code y cc n r ∈ gT) (h1 : Cond.methodLink own idx y ∈ gT) (h2 : Cond.static y ∈ gT) (h4 : Cond.initialized own ∈ gT) : GoodIn gT (wsS own idx y (gW y cc n r)) := by
  intro w hw
  rcases List.mem_append.mp hw with e | e
  · have hm : w ∈ gT := by
      simp only [List.mem_cons, List.not_mem_nil, or_false] at e
      rcases e with e | e | e
      · rw [e]; exact h1
      · rw [e]; exact h2
      · rw [e]; exact h4
    exact ⟨hm, gT_good hm⟩
  · exact gW_in h w e
theorem gS_own {y : MethodName} {cc : ByteArray} {n : Nat} {r : Option FieldType} {args : Array Value} {s : State} (hT : ∀ w ∈ gW y cc n r, w.before args s = true) : ∀ w ∈ gT, w.before args s = true := fun w h => hT w (List.mem_cons_of_mem _ h)
/-- words of nest mates -/
def isNest : Cond → Bool
  | .methodLinkNest .. => true
  | .fieldLinkNest .. => true
  | _ => false
theorem nest_warm {w : Cond} (hn : isNest w = true) {s U : State} (hW : s.WarmedH U.vm) (hZ : va_Nw w s) : va_Nw w U := by
  cases w <;> first | exact va_Nw.warmM hW hZ | exact va_Nw.warmF hW hZ | (simp [isNest] at hn; done)
theorem nest_tab {w : Cond} (hn : isNest w = true) : w.onTables = true := by
  cases w <;> first | rfl | (simp [isNest] at hn; done)
def gN : List Cond := lw_tbl.filter isNest
def kNW (U : State) : Prop := ∀ w ∈ gN, va_Nw w U
theorem kNW.warm {s U : State} (hW : s.WarmedH U.vm) (h : kNW s) : kNW U := fun w hw => nest_warm (List.mem_filter.mp hw).2 hW (h w hw)
theorem kNW.same {s U : State} (hv : s.vm = U.vm) (h : kNW s) : kNW U := fun w hw => va_Nw.same (nest_tab (List.mem_filter.mp hw).2) hv (h w hw)
theorem kNW.of {args : Array Value} {s : State} (h : ∀ w ∈ lw_tbl, w.before args s = true) : kNW s := fun w hw => va_Nw.of (nest_tab (List.mem_filter.mp hw).2) (h w (List.mem_filter.mp hw).1)
/-- a method's start: its world, the tables, the nest -/
def kPre (D : va_G) (cI : ClassId) (av : List Value) (ws : va_W) (sz : Nat) : Array Value → State → Prop := va_Pc av (fun U => U.heap.size = sz ∧ va_P D vwCl ws U.heap ∧ va_K D vwCl [(cI, .int)] U ∧ va_D (fun _ => True) ws ∧ kNW U)
theorem kPre_blind {D : va_G} {cI : ClassId} {av : List Value} {ws : va_W} {sz : Nat} : FrameBlind (kPre D cI av ws sz) := fun a U g mk q => by
  obtain ⟨q0, q1, qP, qK, qD, qN⟩ := q
  exact ⟨q0, q1, qP, va_K.moved (u := U) (U := U.calling g mk a) (Vm.Alike.refl U.vm) qK, qD, kNW.same (s := U) (U := U.calling g mk a) rfl qN⟩
/-- a method's world behind it -/
def kWd (D : va_G) (cI : ClassId) (A : Nat → Prop) (ws : va_W) (t : State) : Prop := va_P D vwCl ws t.heap ∧ va_K D vwCl [(cI, .int)] t ∧ va_D A ws
theorem kP_sub {D : va_G} {ws wc : va_W} {H : Heap} {is : List Nat} (hC : is.map (fun i => ws[i]?) = wc.map some) (hP : va_P D vwCl ws H) : va_P D vwCl wc H := by
  intro k q hk
  have h1 : (is.map (fun i => ws[i]?))[k]? = some (some q) := by rw [hC, List.getElem?_map, hk]; rfl
  rw [List.getElem?_map] at h1
  cases hi : is[k]? with
  | none => rw [hi] at h1; cases h1
  | some i => rw [hi] at h1; exact hP i q (Option.some.inj h1)
theorem kPre_at {D : va_G} {cI : ClassId} {av : List Value} {wc : va_W} {s U : State} {H : Heap} {A : Nat → Prop} (hK : va_K D vwCl [(cI, .int)] s) (hP : va_P D vwCl wc H) (hD : va_D A wc) (hN : kNW s) (hU : U.heap = H) (hW : s.WarmedH U.vm) : kPre D cI av wc H.size av.toArray U :=
  ⟨rfl, by rw [hU], by rw [hU]; exact hP, va_K.moved hW.alike hK, hD.weaken (fun _ _ _ _ => trivial), hN.warm hW⟩
theorem kMetI {S : Type} {post : Int32 → S → Prop} {w2 : S → va_W} {l : Launch} {y : MethodName} {cc : ByteArray} {maxL : Nat} {ty : FieldType} {rm : Room} {D : va_G} {cI : ClassId} {av : List Value} {ws : va_W} {sz mc ms : Nat} {own : String} (hpl : plainName y.cls = true) (how : y.cls = own) (hlen : (lg_sl av).length ≤ maxL)
    (body : ∀ (p : Program) (e : Env) (s : State) (m : MethodId) (args : Array Value) (below : List Frame) (meth : Method) (c : Code), p.tables.exec = Jvm.exec → c.code = cc → (∀ w ∈ gT, w.before args s = true) → s.vm.findClass own = some m.cls → meth.name = y.name → c.maxLocals = maxL →
      ∀ (A : Nat → Prop) (Q : State → Prop), va_K D vwCl [(cI, .int)] s → va_P D vwCl ws s.heap → va_D A ws → va_S A s.heap s.heap [] → (∀ q : Nat, s.heap.size ≤ q → A q) → kNW s →
      (∀ {pc : Nat} {ls : Array Slot} {H : Heap} {locs : List Loc} {v : Int32} {wz : va_W} (u : S) (is : List Nat), post v u → va_P D vwCl wz H → va_D A wz → va_nd is = true → is.map (fun i => wz[i]?) = (w2 u).map some → va_S A s.heap H locs → narrow ty (.int v) = .int v → decode cc pc = .ok (.ireturn, 1) → W p l e rm s m args below meth c H locs mc ms Q (F0 m pc ls [.int v])) →
      ∀ ls : Array Slot, lv_has ls maxL (lv_args 0 av) → W p l e rm s m args below meth c s.heap [] 0 0 Q (F0 m 0 ls [])) :
    Met l y (gW y cc maxL (some ty)) rm (kPre D cI av ws sz) (va_Qi post (fun u t => kWd D cI (va_A ws sz) (w2 u) t) (va_A ws sz)) mc ms (va_A ws sz) := by
  refine Met.ofW (cc := cc) (maxL := maxL) (ret := some ty) hpl rfl ?_
  intro p e s m args below meth c s₁ B hml hv
  obtain ⟨rfl, hsz, hP, hK, hD0, hN⟩ := hv
  subst hsz
  have hown : s.vm.findClass own = some m.cls := by rw [← how]; exact findClass_of_methodNamed B.named
  have hx := B.exec
  have hb := B.bytes
  have hr := B.returns
  have hlocks := B.notSynchronized
  rw [lg_entry_eq]
  refine body p e s m _ below meth c hx hb (gS_own (atoms_spec (ws := gW y cc maxL (some ty)) B.pre)) hown (name_of_methodNamed B.named B.method).1 hml (va_A ws s.heap.size) _ hK hP hD0.self va_S.rf (fun q h => Or.inr h) hN ?_ _ (lv_entry av hlen)
  intro pc ls H locs v wz u is hp hPz hDz hnd hC hS hn hdg
  exact W.zret (ty := ty) hx hb hr hn (fun t ht hW => ⟨⟨v, u, rfl, hp, by rw [ht]; exact kP_sub hC hPz, va_K.moved hW.alike hK, hDz.sub is hnd hC⟩, hS.F ht⟩) hS.2.2 hdg hlocks
theorem kMetV {S : Type} {post : S → Prop} {w2 : S → va_W} {l : Launch} {y : MethodName} {cc : ByteArray} {maxL : Nat} {rm : Room} {D : va_G} {cI : ClassId} {av : List Value} {ws : va_W} {sz mc ms : Nat} {own : String} (hpl : plainName y.cls = true) (how : y.cls = own) (hlen : (lg_sl av).length ≤ maxL)
    (body : ∀ (p : Program) (e : Env) (s : State) (m : MethodId) (args : Array Value) (below : List Frame) (meth : Method) (c : Code), p.tables.exec = Jvm.exec → c.code = cc → (∀ w ∈ gT, w.before args s = true) → s.vm.findClass own = some m.cls → meth.name = y.name → c.maxLocals = maxL →
      ∀ (A : Nat → Prop) (Q : State → Prop), va_K D vwCl [(cI, .int)] s → va_P D vwCl ws s.heap → va_D A ws → va_S A s.heap s.heap [] → (∀ q : Nat, s.heap.size ≤ q → A q) → kNW s →
      (∀ {pc : Nat} {ls : Array Slot} {H : Heap} {locs : List Loc} {wz : va_W} (u : S) (is : List Nat), post u → va_P D vwCl wz H → va_D A wz → va_nd is = true → is.map (fun i => wz[i]?) = (w2 u).map some → va_S A s.heap H locs → decode cc pc = .ok (.return_, 1) → W p l e rm s m args below meth c H locs mc ms Q (F0 m pc ls [])) →
      ∀ ls : Array Slot, lv_has ls maxL (lv_args 0 av) → W p l e rm s m args below meth c s.heap [] 0 0 Q (F0 m 0 ls [])) :
    Met l y (gW y cc maxL none) rm (kPre D cI av ws sz) (va_Qv post (fun u t => kWd D cI (va_A ws sz) (w2 u) t) (va_A ws sz)) mc ms (va_A ws sz) := by
  refine Met.ofW (cc := cc) (maxL := maxL) (ret := none) hpl rfl ?_
  intro p e s m args below meth c s₁ B hml hv
  obtain ⟨rfl, hsz, hP, hK, hD0, hN⟩ := hv
  subst hsz
  have hown : s.vm.findClass own = some m.cls := by rw [← how]; exact findClass_of_methodNamed B.named
  have hx := B.exec
  have hb := B.bytes
  have hr := B.returns
  have hlocks := B.notSynchronized
  rw [lg_entry_eq]
  refine body p e s m _ below meth c hx hb (gS_own (atoms_spec (ws := gW y cc maxL none) B.pre)) hown (name_of_methodNamed B.named B.method).1 hml (va_A ws s.heap.size) _ hK hP hD0.self va_S.rf (fun q h => Or.inr h) hN ?_ _ (lv_entry av hlen)
  intro pc ls H locs wz u is hp hPz hDz hnd hC hS hdg
  exact W.vret hx hb hr (fun t ht hW => ⟨⟨u, rfl, hp, by rw [ht]; exact kP_sub hC hPz, va_K.moved hW.alike hK, hDz.sub is hnd hC⟩, hS.F ht⟩) hS.2.2 hdg hlocks
/-- a row of ints is told by its numbers -/
theorem k_cellc {cA : ClassId} {n : Nat} {f g : Nat → Int32} (h : ∀ j : Nat, j < n → f j = g j) : vp_cell cA (n, .inl f) = vp_cell cA (n, .inl g) := by
  show arrV cA n (fun j => .int (f j)) = arrV cA n (fun j => .int (g j))
  have e : (Array.ofFn (n := n) fun j => (Value.int (f j.val))) = Array.ofFn (n := n) fun j => Value.int (g j.val) := by
    congr 1
    funext j
    rw [h j.val j.isLt]
  unfold arrV
  rw [e]
theorem k_Pset {D : va_G} {ws : va_W} {q a : Nat} {cA : ClassId} {x y : vp_A} {H : Heap} (e : vp_cell cA x = vp_cell cA y) (h : va_P D vwCl (ws.set q (a, .inl (cA, x))) H) : va_P D vwCl (ws.set q (a, .inl (cA, y))) H := by
  intro k z hk
  by_cases hkq : k = q
  · subst hkq
    have hl : k < ws.length := by
      have h1 := (List.getElem?_eq_some_iff.mp hk).1
      simpa using h1
    rw [List.getElem?_set_self hl] at hk
    cases hk
    have h2 := h k (a, .inl (cA, x)) (List.getElem?_set_self hl)
    show H[a]? = some (vp_cell cA y)
    rw [← e]
    exact h2
  · rw [List.getElem?_set_ne (Ne.symm hkq)] at hk
    exact h k z (by rw [List.getElem?_set_ne (Ne.symm hkq)]; exact hk)
theorem k_Dset {A : Nat → Prop} {ws : va_W} {q a : Nat} {x y : va_E} (h : va_D A (ws.set q (a, x))) : va_D A (ws.set q (a, y)) := by
  have key : ∀ (k : Nat) (z : Nat × va_E), (ws.set q (a, y))[k]? = some z → ∃ z0, (ws.set q (a, x))[k]? = some z0 ∧ z0.1 = z.1 := by
    intro k z hk
    by_cases hkq : k = q
    · subst hkq
      have hl : k < ws.length := by
        have h1 := (List.getElem?_eq_some_iff.mp hk).1
        simpa using h1
      rw [List.getElem?_set_self hl] at hk
      cases hk
      exact ⟨_, List.getElem?_set_self hl, rfl⟩
    · rw [List.getElem?_set_ne (Ne.symm hkq)] at hk
      exact ⟨z, by rw [List.getElem?_set_ne (Ne.symm hkq)]; exact hk, rfl⟩
  refine ⟨fun i j p r hi hj hpr => ?_, fun k z hk => ?_⟩
  · obtain ⟨p0, h1, h2⟩ := key i p hi
    obtain ⟨r0, h3, h4⟩ := key j r hj
    exact h.1 i j p0 r0 h1 h3 (h2.trans (hpr.trans h4.symm))
  · obtain ⟨z0, h1, h2⟩ := key k z hk
    rw [← h2]
    exact h.2 k z0 h1
/-- a row's content by another that is the same within its length -/
theorem k_conv {D : va_G} {ws : va_W} {q a : Nat} {cA : ClassId} {n : Nat} {f g : Nat → Int32} {H : Heap} (h : va_P D vwCl ws H) (hq : ws[q]? = some (a, .inl (cA, n, .inl f))) (e : ∀ j : Nat, j < n → f j = g j) : va_P D vwCl (ws.set q (a, .inl (cA, n, .inl g))) H := by
  refine k_Pset (x := (n, .inl f)) (k_cellc e) ?_
  have hs : ws.set q (a, .inl (cA, n, .inl f)) = ws := by
    obtain ⟨hl, hv⟩ := List.getElem?_eq_some_iff.mp hq
    rw [← hv]
    exact List.set_getElem_self hl
  rw [hs]
  exact h
theorem k_convD {A : Nat → Prop} {ws : va_W} {q a : Nat} {x y : va_E} (h : va_D A ws) (hq : ws[q]? = some (a, x)) : va_D A (ws.set q (a, y)) := by
  refine k_Dset (x := x) ?_
  have hs : ws.set q (a, x) = ws := by
    obtain ⟨hl, hv⟩ := List.getElem?_eq_some_iff.mp hq
    rw [← hv]
    exact List.set_getElem_self hl
  rw [hs]
  exact h
theorem k_one {D : va_G} {cI cA : ClassId} {s : State} (h : va_K D vwCl ([(cI, FieldType.int)] ++ [(cA, FieldType.int)]) s) : cA = cI := by
  have h0 : s.vm.findClass ("[" ++ FieldType.int.toString) = some cI := (h.2 0 (cI, .int) rfl).2
  have h1 : s.vm.findClass ("[" ++ FieldType.int.toString) = some cA := (h.2 1 (cA, .int) rfl).2
  exact Option.some.inj (h1.symm.trans h0)
section KR
variable {p : Program} {l : Launch} {e : Env} {R : Room} {s : State} {m : MethodId} {args : Array Value} {below : List Frame} {meth : Method} {c : Code} {H : Heap} {locs : List Loc} {cells slots : Nat} {Q : State → Prop} {cc : ByteArray} {pc : Nat} {ls : Array Slot} {rest st0 : List Value} {D : va_G} {cI : ClassId} {A : Nat → Prop} {A0 : Nat → Prop} {H0 : Heap} {ws wc wr : va_W}
theorem kJi {S : Type} {post : Int32 → S → Prop} {w2 : S → va_W} {a : Array Value} {mc ms : Nat}
    (hr : va_Run p l e R s m args below meth c H locs cells slots mc ms (F0 m pc ls st0) rest (va_Qi post (fun u t => kWd D cI (va_A wc H.size) (w2 u) t) (va_A wc H.size) a) (va_A wc H.size))
    (hP : va_P D vwCl ws H) (hD : va_D A0 ws) (hS : va_S A0 H0 H locs) (hA : ∀ q, H0.size ≤ q → A0 q) (isC isR : List Nat) (hC : isC.map (fun i => ws[i]?) = wc.map some) (hR : isR.map (fun i => ws[i]?) = wr.map some) (hn : va_nd isR = true) (hdis : ∀ i ∈ isR, i ∉ isC)
    (kk : ∀ (r : Int32) (u : S) (H1 : Heap) (locs1 : List Loc), post r u → va_P D vwCl (wr ++ w2 u) H1 → va_D A0 (wr ++ w2 u) → va_S A0 H0 H1 locs1 → W p l e R s m args below meth c H1 locs1 (cells + mc) (slots + ms) Q (F0 m (pc + 3) ls (.int r :: rest))) :
    W p l e R s m args below meth c H locs cells slots Q (F0 m pc ls st0) := by
  have hFc := va_free (wc := wc) hD hS hA isC hC
  refine va_calli hr hS (fun q _ h => hFc q h) hFc (fun r u t H1 locs1 ht hvm hw hB hz1 hk1 hS1 => ?_)
  obtain ⟨hP1, hK1, hD1⟩ := hB
  rw [ht] at hP1
  obtain ⟨hP2, hD2⟩ := va_join (wr := wr) (w1 := w2 u) hP hD isC isR hC hR hn hdis hk1 hFc hP1 hD1
  exact kk r u H1 locs1 hw hP2 hD2 hS1
theorem kJv {S : Type} {post : S → Prop} {w2 : S → va_W} {a : Array Value} {mc ms : Nat}
    (hr : va_Run p l e R s m args below meth c H locs cells slots mc ms (F0 m pc ls st0) rest (va_Qv post (fun u t => kWd D cI (va_A wc H.size) (w2 u) t) (va_A wc H.size) a) (va_A wc H.size))
    (hP : va_P D vwCl ws H) (hD : va_D A0 ws) (hS : va_S A0 H0 H locs) (hA : ∀ q, H0.size ≤ q → A0 q) (isC isR : List Nat) (hC : isC.map (fun i => ws[i]?) = wc.map some) (hR : isR.map (fun i => ws[i]?) = wr.map some) (hn : va_nd isR = true) (hdis : ∀ i ∈ isR, i ∉ isC)
    (kk : ∀ (u : S) (H1 : Heap) (locs1 : List Loc), post u → va_P D vwCl (wr ++ w2 u) H1 → va_D A0 (wr ++ w2 u) → va_S A0 H0 H1 locs1 → W p l e R s m args below meth c H1 locs1 (cells + mc) (slots + ms) Q (F0 m (pc + 3) ls rest)) :
    W p l e R s m args below meth c H locs cells slots Q (F0 m pc ls st0) := by
  have hFc := va_free (wc := wc) hD hS hA isC hC
  refine va_callv hr hS (fun q _ h => hFc q h) hFc (fun u t H1 locs1 ht hvm hw hB hz1 hk1 hS1 => ?_)
  obtain ⟨hP1, hK1, hD1⟩ := hB
  rw [ht] at hP1
  obtain ⟨hP2, hD2⟩ := va_join (wr := wr) (w1 := w2 u) hP hD isC isR hC hR hn hdis hk1 hFc hP1 hD1
  exact kk u H1 locs1 hw hP2 hD2 hS1
/-- what a call by its receiver wants -/
theorem kRecv {own C : String} {TC : u_T} {NC b ci q0 : Nat} {fs : List Value} {As : List Value} (hK : va_K D vwCl [(cI, .int)] s) (hP : va_P D vwCl ws H) (hD : va_D A0 ws) (hN : kNW s) (hc : vwCl[ci]? = some (C, TC, NC)) (he : ws[q0]? = some (b, .inr (ci, fs))) (isC : List Nat) (hC : isC.map (fun i => ws[i]?) = wc.map some) (hnd : va_nd isC = true) :
    PreV s H C b (kPre D cI (.ref b :: As) wc H.size) As :=
  ⟨kPre_blind, va_recv hK hP hc he, fun _ hU hW => kPre_at (av := .ref b :: As) hK (kP_sub hC hP) (hD.sub isC hnd hC) hN hU hW⟩
theorem kStat {As : List Value} (hK : va_K D vwCl [(cI, .int)] s) (hP : va_P D vwCl ws H) (hD : va_D A0 ws) (hN : kNW s) (isC : List Nat) (hC : isC.map (fun i => ws[i]?) = wc.map some) (hnd : va_nd isC = true) :
    PreS s H (kPre D cI As wc H.size) As :=
  ⟨kPre_blind, fun _ hU hW => kPre_at (av := As) hK (kP_sub hC hP) (hD.sub isC hnd hC) hN hU hW⟩
/-- branches, told in whole numbers -/
theorem b_if_eq (hx : p.tables.exec = Jvm.exec) (hb : c.code = cc) {x : Int32} {ax : Int} (hax : x.toInt = ax) {off : Int} {tgt : Nat} (hdg : decode cc pc = .ok (.ifCond .eq off, 3)) (ht : (pc : Int) + off = (tgt : Int))
    (kt : ax = 0 → W p l e R s m args below meth c H locs cells slots Q (F0 m tgt ls rest)) (kf : ax ≠ 0 → W p l e R s m args below meth c H locs cells slots Q (F0 m (pc + 3) ls rest)) : W p l e R s m args below meth c H locs cells slots Q (F0 m pc ls (.int x :: rest)) := by
  have hay : (0 : Int32).toInt = 0 := by decide
  exact lv_if_eq hx hb hdg ht (fun h => kt (by rw [← hax, ← hay]; exact congrArg Int32.toInt h)) (fun h => kf (fun z => h (Int32.toInt_inj.mp (by rw [hax, hay]; exact z))))
theorem b_icmp_eq (hx : p.tables.exec = Jvm.exec) (hb : c.code = cc) {x y : Int32} {ax ay : Int} (hax : x.toInt = ax) (hay : y.toInt = ay) {off : Int} {tgt : Nat} (hdg : decode cc pc = .ok (.if_icmp .eq off, 3)) (ht : (pc : Int) + off = (tgt : Int))
    (kt : ax = ay → W p l e R s m args below meth c H locs cells slots Q (F0 m tgt ls rest)) (kf : ax ≠ ay → W p l e R s m args below meth c H locs cells slots Q (F0 m (pc + 3) ls rest)) : W p l e R s m args below meth c H locs cells slots Q (F0 m pc ls (.int y :: .int x :: rest)) :=
  lv_icmp_eq hx hb hdg ht (fun h => kt (by rw [← hax, ← hay]; exact congrArg Int32.toInt h)) (fun h => kf (fun z => h (Int32.toInt_inj.mp (by rw [hax, hay]; exact z))))
theorem b_if_ne (hx : p.tables.exec = Jvm.exec) (hb : c.code = cc) {x : Int32} {ax : Int} (hax : x.toInt = ax) {off : Int} {tgt : Nat} (hdg : decode cc pc = .ok (.ifCond .ne off, 3)) (ht : (pc : Int) + off = (tgt : Int))
    (kt : ax ≠ 0 → W p l e R s m args below meth c H locs cells slots Q (F0 m tgt ls rest)) (kf : ax = 0 → W p l e R s m args below meth c H locs cells slots Q (F0 m (pc + 3) ls rest)) : W p l e R s m args below meth c H locs cells slots Q (F0 m pc ls (.int x :: rest)) := by
  have hay : (0 : Int32).toInt = 0 := by decide
  exact lv_if_ne hx hb hdg ht (fun h => kt (fun z => h (Int32.toInt_inj.mp (by rw [hax, hay]; exact z)))) (fun h => kf (by rw [← hax, ← hay]; exact congrArg Int32.toInt h))
theorem b_icmp_ne (hx : p.tables.exec = Jvm.exec) (hb : c.code = cc) {x y : Int32} {ax ay : Int} (hax : x.toInt = ax) (hay : y.toInt = ay) {off : Int} {tgt : Nat} (hdg : decode cc pc = .ok (.if_icmp .ne off, 3)) (ht : (pc : Int) + off = (tgt : Int))
    (kt : ax ≠ ay → W p l e R s m args below meth c H locs cells slots Q (F0 m tgt ls rest)) (kf : ax = ay → W p l e R s m args below meth c H locs cells slots Q (F0 m (pc + 3) ls rest)) : W p l e R s m args below meth c H locs cells slots Q (F0 m pc ls (.int y :: .int x :: rest)) :=
  lv_icmp_ne hx hb hdg ht (fun h => kt (fun z => h (Int32.toInt_inj.mp (by rw [hax, hay]; exact z)))) (fun h => kf (by rw [← hax, ← hay]; exact congrArg Int32.toInt h))
theorem b_if_lt (hx : p.tables.exec = Jvm.exec) (hb : c.code = cc) {x : Int32} {ax : Int} (hax : x.toInt = ax) {off : Int} {tgt : Nat} (hdg : decode cc pc = .ok (.ifCond .lt off, 3)) (ht : (pc : Int) + off = (tgt : Int))
    (kt : ax < 0 → W p l e R s m args below meth c H locs cells slots Q (F0 m tgt ls rest)) (kf : 0 ≤ ax → W p l e R s m args below meth c H locs cells slots Q (F0 m (pc + 3) ls rest)) : W p l e R s m args below meth c H locs cells slots Q (F0 m pc ls (.int x :: rest)) := by
  have hay : (0 : Int32).toInt = 0 := by decide
  exact lv_if_lt hx hb hdg ht (fun h => kt (by rw [← hax, ← hay]; exact Int32.lt_iff_toInt_lt.mp h)) (fun h => kf (Int.not_lt.mp (fun z => h (Int32.lt_iff_toInt_lt.mpr (by rw [hax, hay]; exact z)))))
theorem b_icmp_lt (hx : p.tables.exec = Jvm.exec) (hb : c.code = cc) {x y : Int32} {ax ay : Int} (hax : x.toInt = ax) (hay : y.toInt = ay) {off : Int} {tgt : Nat} (hdg : decode cc pc = .ok (.if_icmp .lt off, 3)) (ht : (pc : Int) + off = (tgt : Int))
    (kt : ax < ay → W p l e R s m args below meth c H locs cells slots Q (F0 m tgt ls rest)) (kf : ay ≤ ax → W p l e R s m args below meth c H locs cells slots Q (F0 m (pc + 3) ls rest)) : W p l e R s m args below meth c H locs cells slots Q (F0 m pc ls (.int y :: .int x :: rest)) :=
  lv_icmp_lt hx hb hdg ht (fun h => kt (by rw [← hax, ← hay]; exact Int32.lt_iff_toInt_lt.mp h)) (fun h => kf (Int.not_lt.mp (fun z => h (Int32.lt_iff_toInt_lt.mpr (by rw [hax, hay]; exact z)))))
theorem b_if_ge (hx : p.tables.exec = Jvm.exec) (hb : c.code = cc) {x : Int32} {ax : Int} (hax : x.toInt = ax) {off : Int} {tgt : Nat} (hdg : decode cc pc = .ok (.ifCond .ge off, 3)) (ht : (pc : Int) + off = (tgt : Int))
    (kt : 0 ≤ ax → W p l e R s m args below meth c H locs cells slots Q (F0 m tgt ls rest)) (kf : ax < 0 → W p l e R s m args below meth c H locs cells slots Q (F0 m (pc + 3) ls rest)) : W p l e R s m args below meth c H locs cells slots Q (F0 m pc ls (.int x :: rest)) := by
  have hay : (0 : Int32).toInt = 0 := by decide
  exact lv_if_ge hx hb hdg ht (fun h => kt (by rw [← hax, ← hay]; exact Int32.le_iff_toInt_le.mp h)) (fun h => kf (Int.not_le.mp (fun z => h (Int32.le_iff_toInt_le.mpr (by rw [hax, hay]; exact z)))))
theorem b_icmp_ge (hx : p.tables.exec = Jvm.exec) (hb : c.code = cc) {x y : Int32} {ax ay : Int} (hax : x.toInt = ax) (hay : y.toInt = ay) {off : Int} {tgt : Nat} (hdg : decode cc pc = .ok (.if_icmp .ge off, 3)) (ht : (pc : Int) + off = (tgt : Int))
    (kt : ay ≤ ax → W p l e R s m args below meth c H locs cells slots Q (F0 m tgt ls rest)) (kf : ax < ay → W p l e R s m args below meth c H locs cells slots Q (F0 m (pc + 3) ls rest)) : W p l e R s m args below meth c H locs cells slots Q (F0 m pc ls (.int y :: .int x :: rest)) :=
  lv_icmp_ge hx hb hdg ht (fun h => kt (by rw [← hax, ← hay]; exact Int32.le_iff_toInt_le.mp h)) (fun h => kf (Int.not_le.mp (fun z => h (Int32.le_iff_toInt_le.mpr (by rw [hax, hay]; exact z)))))
theorem b_if_gt (hx : p.tables.exec = Jvm.exec) (hb : c.code = cc) {x : Int32} {ax : Int} (hax : x.toInt = ax) {off : Int} {tgt : Nat} (hdg : decode cc pc = .ok (.ifCond .gt off, 3)) (ht : (pc : Int) + off = (tgt : Int))
    (kt : 0 < ax → W p l e R s m args below meth c H locs cells slots Q (F0 m tgt ls rest)) (kf : ax ≤ 0 → W p l e R s m args below meth c H locs cells slots Q (F0 m (pc + 3) ls rest)) : W p l e R s m args below meth c H locs cells slots Q (F0 m pc ls (.int x :: rest)) := by
  have hay : (0 : Int32).toInt = 0 := by decide
  exact lv_if_gt hx hb hdg ht (fun h => kt (by rw [← hax, ← hay]; exact Int32.lt_iff_toInt_lt.mp h)) (fun h => kf (Int.not_lt.mp (fun z => h (Int32.lt_iff_toInt_lt.mpr (by rw [hax, hay]; exact z)))))
theorem b_icmp_gt (hx : p.tables.exec = Jvm.exec) (hb : c.code = cc) {x y : Int32} {ax ay : Int} (hax : x.toInt = ax) (hay : y.toInt = ay) {off : Int} {tgt : Nat} (hdg : decode cc pc = .ok (.if_icmp .gt off, 3)) (ht : (pc : Int) + off = (tgt : Int))
    (kt : ay < ax → W p l e R s m args below meth c H locs cells slots Q (F0 m tgt ls rest)) (kf : ax ≤ ay → W p l e R s m args below meth c H locs cells slots Q (F0 m (pc + 3) ls rest)) : W p l e R s m args below meth c H locs cells slots Q (F0 m pc ls (.int y :: .int x :: rest)) :=
  lv_icmp_gt hx hb hdg ht (fun h => kt (by rw [← hax, ← hay]; exact Int32.lt_iff_toInt_lt.mp h)) (fun h => kf (Int.not_lt.mp (fun z => h (Int32.lt_iff_toInt_lt.mpr (by rw [hax, hay]; exact z)))))
theorem b_if_le (hx : p.tables.exec = Jvm.exec) (hb : c.code = cc) {x : Int32} {ax : Int} (hax : x.toInt = ax) {off : Int} {tgt : Nat} (hdg : decode cc pc = .ok (.ifCond .le off, 3)) (ht : (pc : Int) + off = (tgt : Int))
    (kt : ax ≤ 0 → W p l e R s m args below meth c H locs cells slots Q (F0 m tgt ls rest)) (kf : 0 < ax → W p l e R s m args below meth c H locs cells slots Q (F0 m (pc + 3) ls rest)) : W p l e R s m args below meth c H locs cells slots Q (F0 m pc ls (.int x :: rest)) := by
  have hay : (0 : Int32).toInt = 0 := by decide
  exact lv_if_le hx hb hdg ht (fun h => kt (by rw [← hax, ← hay]; exact Int32.le_iff_toInt_le.mp h)) (fun h => kf (Int.not_le.mp (fun z => h (Int32.le_iff_toInt_le.mpr (by rw [hax, hay]; exact z)))))
theorem b_icmp_le (hx : p.tables.exec = Jvm.exec) (hb : c.code = cc) {x y : Int32} {ax ay : Int} (hax : x.toInt = ax) (hay : y.toInt = ay) {off : Int} {tgt : Nat} (hdg : decode cc pc = .ok (.if_icmp .le off, 3)) (ht : (pc : Int) + off = (tgt : Int))
    (kt : ax ≤ ay → W p l e R s m args below meth c H locs cells slots Q (F0 m tgt ls rest)) (kf : ay < ax → W p l e R s m args below meth c H locs cells slots Q (F0 m (pc + 3) ls rest)) : W p l e R s m args below meth c H locs cells slots Q (F0 m pc ls (.int y :: .int x :: rest)) :=
  lv_icmp_le hx hb hdg ht (fun h => kt (by rw [← hax, ← hay]; exact Int32.le_iff_toInt_le.mp h)) (fun h => kf (Int.not_le.mp (fun z => h (Int32.le_iff_toInt_le.mpr (by rw [hax, hay]; exact z)))))
theorem k_iadd (hx : p.tables.exec = Jvm.exec) (hb : c.code = cc) {x y v : Int32} (hdg : decode cc pc = .ok (.iadd, 1)) (hv : x + y = v) (kk : W p l e R s m args below meth c H locs cells slots Q (F0 m (pc + 1) ls (.int v :: rest))) : W p l e R s m args below meth c H locs cells slots Q (F0 m pc ls (.int y :: .int x :: rest)) := lv_iadd hx hb hdg (by rw [hv]; exact kk)
theorem k_isub (hx : p.tables.exec = Jvm.exec) (hb : c.code = cc) {x y v : Int32} (hdg : decode cc pc = .ok (.isub, 1)) (hv : x - y = v) (kk : W p l e R s m args below meth c H locs cells slots Q (F0 m (pc + 1) ls (.int v :: rest))) : W p l e R s m args below meth c H locs cells slots Q (F0 m pc ls (.int y :: .int x :: rest)) := lv_isub hx hb hdg (by rw [hv]; exact kk)
theorem k_imul (hx : p.tables.exec = Jvm.exec) (hb : c.code = cc) {x y v : Int32} (hdg : decode cc pc = .ok (.imul, 1)) (hv : x * y = v) (kk : W p l e R s m args below meth c H locs cells slots Q (F0 m (pc + 1) ls (.int v :: rest))) : W p l e R s m args below meth c H locs cells slots Q (F0 m pc ls (.int y :: .int x :: rest)) := lv_imul hx hb hdg (by rw [hv]; exact kk)
theorem k_iald (hx : p.tables.exec = Jvm.exec) (hb : c.code = cc) {tys : List (ClassId × FieldType)} (hK : va_K D vwCl tys s) (hP : va_P D vwCl ws H) (q0 t0 : Nat) {a : Nat} {cA : ClassId} {n : Nat} {f : Nat → Int32} (ha : ws[q0]? = some (a, .inl (cA, n, .inl f))) (ht : tys[t0]? = some (cA, .int)) {i v : Int32} (hin : vp_in i n) (hv : f i.toNatClampNeg = v) (hdg : decode cc pc = .ok (.iaload, 1)) (kk : W p l e R s m args below meth c H locs cells slots Q (F0 m (pc + 1) ls (.int v :: rest))) : W p l e R s m args below meth c H locs cells slots Q (F0 m pc ls (.int i :: .ref a :: rest)) := va_iald hx hb hK hP q0 t0 ha ht hin hdg (by rw [hv]; exact kk)
theorem k_idiv (hx : p.tables.exec = Jvm.exec) (hb : c.code = cc) {x y v : Int32} (hdg : decode cc pc = .ok (.idiv, 1)) (hne : ¬ y = 0) (hv : x / y = v) (kk : W p l e R s m args below meth c H locs cells slots Q (F0 m (pc + 1) ls (.int v :: rest))) : W p l e R s m args below meth c H locs cells slots Q (F0 m pc ls (.int y :: .int x :: rest)) := lv_idiv hx hb hdg hne (by rw [hv]; exact kk)
theorem k_irem (hx : p.tables.exec = Jvm.exec) (hb : c.code = cc) {x y v : Int32} (hdg : decode cc pc = .ok (.irem, 1)) (hne : ¬ y = 0) (hv : x - x / y * y = v) (kk : W p l e R s m args below meth c H locs cells slots Q (F0 m (pc + 1) ls (.int v :: rest))) : W p l e R s m args below meth c H locs cells slots Q (F0 m pc ls (.int y :: .int x :: rest)) := lv_irem hx hb hdg hne (by rw [hv]; exact kk)
theorem k_copy (hx : p.tables.exec = Jvm.exec) (hb : c.code = cc) (hml : c.maxLocals = ls.size) {own : String} {index : Nat} (hown : s.vm.findClass own = some m.cls) (hlink : (Cond.methodLink own index arraycopyName).before args s = true) (hnat : (Cond.native arraycopyName).before args s = true) (hstat : (Cond.static arraycopyName).before args s = true) (hini : (Cond.initialized "java/lang/System").before args s = true)
    (hK : va_K D vwCl [(cI, .int)] s) (hP : va_P D vwCl ws H) (hD : va_D A ws) (hS : va_S A H0 H locs) (q0 q1 : Nat) {a a0 : Nat} {c0 c1 : ClassId} {N : Nat} {f g : Nat → Int32} (ha0 : ws[q0]? = some (a0, .inl (cI, N, .inl f))) (ha1 : ws[q1]? = some (a, .inl (cI, N, .inl g)))
    {n : Int32} (h3 : ¬ n < 0) (hn : n.toNatClampNeg = N) (hframes : 1 ≤ R.frames) (hlocals : (rest.map fun v => v.category).sum + (nativeFrameWords "java/lang/System" "arraycopy" 5 + 11) ≤ R.locals) (hdg : decode cc pc = .ok (.invokestatic index, 3))
    (kk : ∀ (H1 : Heap) (locs1 : List Loc), va_P D vwCl (ws.set q1 (a, .inl (cI, N, .inl f))) H1 → va_D A (ws.set q1 (a, .inl (cI, N, .inl f))) → va_S A H0 H1 locs1 → W p l e R s m args below meth c H1 locs1 cells slots Q (F0 m (pc + 3) ls rest)) : W p l e R s m args below meth c H locs cells slots Q (F0 m pc ls (.int n :: .int 0 :: .ref a :: .int 0 :: .ref a0 :: rest)) := by
  have z0 : (0 : Int32).toNatClampNeg = 0 := by decide
  refine va_copyi hx hb hml hown hlink hnat hstat hini hK hP hD hS q0 q1 0 0 ha0 ha1 rfl rfl rfl (by decide) (by decide) h3 (by rw [z0, hn]; omega) (by rw [z0, hn]; omega) (fun i _ => rfl) hframes hlocals hdg (fun H1 locs1 hP1 hD1 hS1 => ?_)
  have e : vp_cell cI (N, .inl (va_cpy f g (0 : Int32).toNatClampNeg (0 : Int32).toNatClampNeg n.toNatClampNeg)) = vp_cell cI (N, .inl f) := by
    refine k_cellc (fun j hj => ?_)
    rw [z0, hn, pk_cpy_in (by omega) (by omega)]
    simp
  exact kk H1 locs1 (k_Pset (q := q1) e hP1 (ws := ws)) (k_Dset hD1) hS1
end KR
/-- numbers -/
theorem k_lo (x : Int32) : -2147483648 ≤ x.toInt := Int32.le_toInt x
theorem k_hi (x : Int32) : x.toInt ≤ 2147483647 := Int32.toInt_le x
theorem k_bm {z : Int} (h1 : -2147483648 ≤ z) (h2 : z ≤ 2147483647) : z.bmod (2 ^ 32) = z := by
  rw [Int.bmod_def]; omega
theorem k_add {x y : Int32} (h1 : -2147483648 ≤ x.toInt + y.toInt) (h2 : x.toInt + y.toInt ≤ 2147483647) : (x + y).toInt = x.toInt + y.toInt := by
  rw [Int32.toInt_add]; exact k_bm h1 h2
theorem k_sub {x y : Int32} (h1 : -2147483648 ≤ x.toInt - y.toInt) (h2 : x.toInt - y.toInt ≤ 2147483647) : (x - y).toInt = x.toInt - y.toInt := by
  rw [Int32.toInt_sub]; exact k_bm h1 h2
theorem k_mul {x y : Int32} (h1 : -2147483648 ≤ x.toInt * y.toInt) (h2 : x.toInt * y.toInt ≤ 2147483647) : (x * y).toInt = x.toInt * y.toInt := by
  rw [Int32.toInt_mul]; exact k_bm h1 h2
theorem k_in {x : Int32} {n : Nat} (h1 : 0 ≤ x.toInt) (h2 : x.toInt < n) : vp_in x n := vp_in_iff.mpr ⟨h1, h2⟩
theorem k_inj {x y : Int32} (h : x.toInt = y.toInt) : x = y := Int32.toInt_inj.mp h
theorem k_addv {x y : Int32} {a b : Int} (hx : x.toInt = a) (hy : y.toInt = b) (h1 : -2147483648 ≤ a + b) (h2 : a + b ≤ 2147483647) : (x + y).toInt = a + b := by
  subst hx; subst hy; exact k_add h1 h2
theorem k_subv {x y : Int32} {a b : Int} (hx : x.toInt = a) (hy : y.toInt = b) (h1 : -2147483648 ≤ a - b) (h2 : a - b ≤ 2147483647) : (x - y).toInt = a - b := by
  subst hx; subst hy; exact k_sub h1 h2
theorem k_mulv {x y : Int32} {a b : Int} (hx : x.toInt = a) (hy : y.toInt = b) (h1 : -2147483648 ≤ a * b) (h2 : a * b ≤ 2147483647) : (x * y).toInt = a * b := by
  subst hx; subst hy; exact k_mul h1 h2
theorem k_inl {x : Int32} {n : Nat} (h : ¬ (x < 0 ∨ n ≤ x.toNatClampNeg)) : vp_in x n := h
theorem k_osw2 {a b o1 o2 d x : Int} (h1 : x ≠ a) (h2 : x ≠ b) : Op.lookupswitch.offset [(a, o1), (b, o2)] d x = d := by
  simp [Op.lookupswitch.offset, Ne.symm h1, Ne.symm h2]
def k_max (a b : Int) : Int := if a < b then b else a
def k_min (a b : Int) : Int := if b < a then b else a
theorem k_mmax {x y : Int32} {a b : Int} (hx : x.toInt = a) (hy : y.toInt = b) : (if x < y then y else x).toInt = k_max a b := by
  subst hx; subst hy
  unfold k_max
  by_cases h : x < y
  · rw [if_pos h, if_pos (Int32.lt_iff_toInt_lt.mp h)]
  · rw [if_neg h, if_neg (fun z => h (Int32.lt_iff_toInt_lt.mpr z))]
theorem k_mmin {x y : Int32} {a b : Int} (hx : x.toInt = a) (hy : y.toInt = b) : (if y < x then y else x).toInt = k_min a b := by
  subst hx; subst hy
  unfold k_min
  by_cases h : y < x
  · rw [if_pos h, if_pos (Int32.lt_iff_toInt_lt.mp h)]
  · rw [if_neg h, if_neg (fun z => h (Int32.lt_iff_toInt_lt.mpr z))]
theorem k_clamp (x : Int32) : x.toNatClampNeg = x.toInt.toNat := rfl
/-- a row filled from its place d on -/
theorem k_fill {q : Nat → Int32} {i i1 x y : Int32} {d : Nat} (h : ∀ j : Nat, j < i.toInt.toNat → q (d + j) = y) (h0 : 0 ≤ i.toInt) (hi : i1.toInt = i.toInt + 1) (hx : x.toInt = d + i.toInt) : ∀ j : Nat, j < i1.toInt.toNat → upd q x.toNatClampNeg y (d + j) = y := by
  intro j hj
  unfold upd
  by_cases hq : d + j = x.toNatClampNeg
  · rw [if_pos hq]
  · rw [if_neg hq]
    rw [k_clamp] at hq
    exact h j (by omega)
theorem k_fill0 {q : Nat → Int32} {i i1 y : Int32} (h : ∀ j : Nat, j < i.toInt.toNat → q j = y) (h0 : 0 ≤ i.toInt) (hi : i1.toInt = i.toInt + 1) : ∀ j : Nat, j < i1.toInt.toNat → upd q i.toNatClampNeg y j = y := by
  intro j hj
  unfold upd
  by_cases hq : j = i.toNatClampNeg
  · rw [if_pos hq]
  · rw [if_neg hq]
    rw [k_clamp] at hq
    exact h j (by omega)
theorem k_divv {x y v w : Int32} {b : Int} (hv : v = x / y) (hy : y.toInt = b) (h0 : 0 ≤ x.toInt) (hb : 0 < b) : v.toInt = x.toInt / b := by
  subst hv
  have hb2 : b ≤ 2147483647 := by rw [← hy]; exact k_hi y
  rw [Int32.toInt_div, hy, Int.tdiv_eq_ediv_of_nonneg h0]
  have h1 := k_hi x
  have h2 : 0 ≤ x.toInt / b := Int.ediv_nonneg h0 (by omega)
  have h3 : x.toInt / b ≤ x.toInt := Int.ediv_le_self _ h0
  exact k_bm (by omega) (by omega)
theorem k_remv {x y v w : Int32} {b : Int} (hv : v = x - x / y * y) (hy : y.toInt = b) (h0 : 0 ≤ x.toInt) (hb : 0 < b) : v.toInt = x.toInt % b := by
  have h1 := k_hi x
  have h4 : (x / y).toInt = x.toInt / b := k_divv (w := w) rfl hy h0 hb
  have h2 : 0 ≤ x.toInt / b := Int.ediv_nonneg h0 (by omega)
  have h5 : x.toInt / b * b ≤ x.toInt := Int.ediv_mul_le _ (by omega)
  have h6 : 0 ≤ x.toInt / b * b := Int.mul_nonneg h2 (by omega)
  have h7 : (x / y * y).toInt = x.toInt / b * b := by
    rw [k_mulv h4 hy (by omega) (by omega)]
  rw [hv, k_subv rfl h7 (by omega) (by omega), Int.emod_def, Int.mul_comm]
