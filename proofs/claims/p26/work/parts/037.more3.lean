/-! what lies beside the worlds and never changes: the row BODIES, three Strings, one switch of String's -/
def jsLen : List Nat := [3, 2, 3]
def jsByt : List (List Int32) := [[110, 99, 109], [108, 100], [107, 115, 103]]
def bodL : List Int32 := [10, 11, 12, 13, 0, 20, 0, 21, 30, 0, 31, 0, 0, 0, 40, 41, 50, 0, 51, 0, 0, 60, 0, 61]
def kXS (aK aV : Nat → Nat) (A : Nat → Prop) (U : State) (H : Heap) : Prop :=
  vk_S 3 jsLen jsByt aK aV A U H ∧ (∃ t : Nat, va_Z "DesertWire$Voices" "BODIES" "[I" (.ref t) A U H ∧ va_T .int t 24 (fun j => .int (bodL.getD j 0)) A U H) ∧ va_Z "java/lang/String" "COMPACT_STRINGS" "Z" (.int 1) A U H ∧ vk_R "DesertWire$Reader" 82 "ncm" (aK 0) U ∧ vk_R "DesertWire$Reader" 89 "ld" (aK 1) U ∧ vk_R "DesertWire$Reader" 91 "ksg" (aK 2) U
theorem kXS.go {aK aV : Nat → Nat} {A0 B : Nat → Prop} {s U : State} {H : Heap} {locs : List Loc} (h : kXS aK aV A0 s s.heap) (hS : va_S A0 s.heap H locs) (hF : ∀ q, B q → A0 q) (hU : U.heap = H) (hW : s.WarmedH U.vm) : kXS aK aV B U U.heap := by
  obtain ⟨h1, ⟨t, h2, h3⟩, h4, h5, h6, h7⟩ := h
  have hq : ∀ a : Nat, a < s.heap.size → ¬ A0 a → H[a]? = s.heap[a]? := fun a z1 z2 => hS.2.1 a z1 z2
  subst hU
  exact ⟨((h1.kept hq).narrow hF).moved hW.alike, ⟨t, ((h2.kept hq).narrow hF).moved hW.alike, ((h3.kept hq).narrow hF).moved hW.alike⟩, ((h4.kept hq).narrow hF).moved hW.alike, h5.warm hW, h6.warm hW, h7.warm hW⟩
def kPreX (D : va_G) (cI : ClassId) (aK aV : Nat → Nat) (av : List Value) (ws : va_W) (sz : Nat) : Array Value → State → Prop := va_Pc av (fun U => U.heap.size = sz ∧ va_P D vwCl ws U.heap ∧ va_K D vwCl [(cI, .int)] U ∧ va_D (fun _ => True) ws ∧ kNW U ∧ kXS aK aV (va_A ws sz) U U.heap)
theorem kPreX_blind {D : va_G} {cI : ClassId} {aK aV : Nat → Nat} {av : List Value} {ws : va_W} {sz : Nat} : FrameBlind (kPreX D cI aK aV av ws sz) := fun a U g mk q => by
  obtain ⟨q0, q1, qP, qK, qD, qN, ⟨h1, ⟨t, h2, h3⟩, h4, h5, h6, h7⟩⟩ := q
  exact ⟨q0, q1, qP, va_K.moved (u := U) (U := U.calling g mk a) (Vm.Alike.refl U.vm) qK, qD, kNW.same (s := U) (U := U.calling g mk a) rfl qN,
    ⟨vk_S.moved (u := U) (U := U.calling g mk a) (Vm.Alike.refl U.vm) h1, ⟨t, va_Z.moved (u := U) (U := U.calling g mk a) (Vm.Alike.refl U.vm) h2, va_T.moved (u := U) (U := U.calling g mk a) (Vm.Alike.refl U.vm) h3⟩, va_Z.moved (u := U) (U := U.calling g mk a) (Vm.Alike.refl U.vm) h4, vk_R.same (u := U) (U := U.calling g mk a) rfl h5, vk_R.same (u := U) (U := U.calling g mk a) rfl h6, vk_R.same (u := U) (U := U.calling g mk a) rfl h7⟩⟩
theorem kMetIX {S : Type} {post : Int32 → S → Prop} {w2 : S → va_W} {l : Launch} {y : MethodName} {cc : ByteArray} {maxL : Nat} {ty : FieldType} {rm : Room} {D : va_G} {cI : ClassId} {aK aV : Nat → Nat} {av : List Value} {ws : va_W} {sz mc ms : Nat} {own : String} (hpl : plainName y.cls = true) (how : y.cls = own) (hlen : (lg_sl av).length ≤ maxL)
    (body : ∀ (p : Program) (e : Env) (s : State) (m : MethodId) (args : Array Value) (below : List Frame) (meth : Method) (c : Code), p.tables.exec = Jvm.exec → c.code = cc → (∀ w ∈ gT, w.before args s = true) → s.vm.findClass own = some m.cls → meth.name = y.name → c.maxLocals = maxL →
      ∀ (A : Nat → Prop) (Q : State → Prop), va_K D vwCl [(cI, .int)] s → va_P D vwCl ws s.heap → va_D A ws → va_S A s.heap s.heap [] → (∀ q : Nat, s.heap.size ≤ q → A q) → kNW s → kXS aK aV A s s.heap →
      (∀ {pc : Nat} {ls : Array Slot} {H : Heap} {locs : List Loc} {v : Int32} {wz : va_W} (u : S) (is : List Nat), post v u → va_P D vwCl wz H → va_D A wz → va_nd is = true → is.map (fun i => wz[i]?) = (w2 u).map some → va_S A s.heap H locs → narrow ty (.int v) = .int v → decode cc pc = .ok (.ireturn, 1) → W p l e rm s m args below meth c H locs mc ms Q (F0 m pc ls [.int v])) →
      ∀ ls : Array Slot, lv_has ls maxL (lv_args 0 av) → W p l e rm s m args below meth c s.heap [] 0 0 Q (F0 m 0 ls [])) :
    Met l y (gW y cc maxL (some ty)) rm (kPreX D cI aK aV av ws sz) (va_Qi post (fun u t => kWd D cI (va_A ws sz) (w2 u) t) (va_A ws sz)) mc ms (va_A ws sz) := by
  refine Met.ofW (cc := cc) (maxL := maxL) (ret := some ty) hpl rfl ?_
  intro p e s m args below meth c s₁ B hml hv
  obtain ⟨rfl, hsz, hP, hK, hD0, hN, hXS⟩ := hv
  subst hsz
  have hown : s.vm.findClass own = some m.cls := by rw [← how]; exact findClass_of_methodNamed B.named
  have hx := B.exec
  have hb := B.bytes
  have hr := B.returns
  have hlocks := B.notSynchronized
  rw [lg_entry_eq]
  refine body p e s m _ below meth c hx hb (gS_own (atoms_spec (ws := gW y cc maxL (some ty)) B.pre)) hown (name_of_methodNamed B.named B.method).1 hml (va_A ws s.heap.size) _ hK hP hD0.self va_S.rf (fun q h => Or.inr h) hN hXS ?_ _ (lv_entry av hlen)
  intro pc ls H locs v wz u is hp hPz hDz hnd hC hS hn hdg
  exact W.zret (ty := ty) hx hb hr hn (fun t ht hW => ⟨⟨v, u, rfl, hp, by rw [ht]; exact kP_sub hC hPz, va_K.moved hW.alike hK, hDz.sub is hnd hC⟩, hS.F ht⟩) hS.2.2 hdg hlocks
theorem kMetVX {S : Type} {post : S → Prop} {w2 : S → va_W} {l : Launch} {y : MethodName} {cc : ByteArray} {maxL : Nat} {rm : Room} {D : va_G} {cI : ClassId} {aK aV : Nat → Nat} {av : List Value} {ws : va_W} {sz mc ms : Nat} {own : String} (hpl : plainName y.cls = true) (how : y.cls = own) (hlen : (lg_sl av).length ≤ maxL)
    (body : ∀ (p : Program) (e : Env) (s : State) (m : MethodId) (args : Array Value) (below : List Frame) (meth : Method) (c : Code), p.tables.exec = Jvm.exec → c.code = cc → (∀ w ∈ gT, w.before args s = true) → s.vm.findClass own = some m.cls → meth.name = y.name → c.maxLocals = maxL →
      ∀ (A : Nat → Prop) (Q : State → Prop), va_K D vwCl [(cI, .int)] s → va_P D vwCl ws s.heap → va_D A ws → va_S A s.heap s.heap [] → (∀ q : Nat, s.heap.size ≤ q → A q) → kNW s → kXS aK aV A s s.heap →
      (∀ {pc : Nat} {ls : Array Slot} {H : Heap} {locs : List Loc} {wz : va_W} (u : S) (is : List Nat), post u → va_P D vwCl wz H → va_D A wz → va_nd is = true → is.map (fun i => wz[i]?) = (w2 u).map some → va_S A s.heap H locs → decode cc pc = .ok (.return_, 1) → W p l e rm s m args below meth c H locs mc ms Q (F0 m pc ls [])) →
      ∀ ls : Array Slot, lv_has ls maxL (lv_args 0 av) → W p l e rm s m args below meth c s.heap [] 0 0 Q (F0 m 0 ls [])) :
    Met l y (gW y cc maxL none) rm (kPreX D cI aK aV av ws sz) (va_Qv post (fun u t => kWd D cI (va_A ws sz) (w2 u) t) (va_A ws sz)) mc ms (va_A ws sz) := by
  refine Met.ofW (cc := cc) (maxL := maxL) (ret := none) hpl rfl ?_
  intro p e s m args below meth c s₁ B hml hv
  obtain ⟨rfl, hsz, hP, hK, hD0, hN, hXS⟩ := hv
  subst hsz
  have hown : s.vm.findClass own = some m.cls := by rw [← how]; exact findClass_of_methodNamed B.named
  have hx := B.exec
  have hb := B.bytes
  have hr := B.returns
  have hlocks := B.notSynchronized
  rw [lg_entry_eq]
  refine body p e s m _ below meth c hx hb (gS_own (atoms_spec (ws := gW y cc maxL none) B.pre)) hown (name_of_methodNamed B.named B.method).1 hml (va_A ws s.heap.size) _ hK hP hD0.self va_S.rf (fun q h => Or.inr h) hN hXS ?_ _ (lv_entry av hlen)
  intro pc ls H locs wz u is hp hPz hDz hnd hC hS hdg
  exact W.vret hx hb hr (fun t ht hW => ⟨⟨u, rfl, hp, by rw [ht]; exact kP_sub hC hPz, va_K.moved hW.alike hK, hDz.sub is hnd hC⟩, hS.F ht⟩) hS.2.2 hdg hlocks
section KRX
variable {p : Program} {l : Launch} {e : Env} {R : Room} {s : State} {m : MethodId} {args : Array Value} {H : Heap} {locs : List Loc} {D : va_G} {cI : ClassId} {A0 : Nat → Prop} {ws wc : va_W} {aK aV : Nat → Nat}
theorem kPreX_at {av : List Value} {U : State} (hK : va_K D vwCl [(cI, .int)] s) (hP : va_P D vwCl ws H) (hD : va_D A0 ws) (hN : kNW s) (hXS : kXS aK aV A0 s s.heap) (hS : va_S A0 s.heap H locs) (hA : ∀ q, s.heap.size ≤ q → A0 q) (isC : List Nat) (hC : isC.map (fun i => ws[i]?) = wc.map some) (hnd : va_nd isC = true) (hU : U.heap = H) (hW : s.WarmedH U.vm) : kPreX D cI aK aV av wc H.size av.toArray U :=
  ⟨rfl, by rw [hU], by rw [hU]; exact kP_sub hC hP, va_K.moved hW.alike hK, (hD.sub isC hnd hC).weaken (fun _ _ _ _ => trivial), hN.warm hW, hXS.go hS (va_free (wc := wc) hD hS hA isC hC) hU hW⟩
theorem kRecvX {C : String} {TC : u_T} {NC b ci q0 : Nat} {fs : List Value} {As : List Value} (hK : va_K D vwCl [(cI, .int)] s) (hP : va_P D vwCl ws H) (hD : va_D A0 ws) (hN : kNW s) (hXS : kXS aK aV A0 s s.heap) (hS : va_S A0 s.heap H locs) (hA : ∀ q, s.heap.size ≤ q → A0 q) (hc : vwCl[ci]? = some (C, TC, NC)) (he : ws[q0]? = some (b, .inr (ci, fs))) (isC : List Nat) (hC : isC.map (fun i => ws[i]?) = wc.map some) (hnd : va_nd isC = true) :
    PreV s H C b (kPreX D cI aK aV (.ref b :: As) wc H.size) As :=
  ⟨kPreX_blind, va_recv hK hP hc he, fun _ hU hW => kPreX_at (av := .ref b :: As) hK hP hD hN hXS hS hA isC hC hnd hU hW⟩
theorem kStatX {As : List Value} (hK : va_K D vwCl [(cI, .int)] s) (hP : va_P D vwCl ws H) (hD : va_D A0 ws) (hN : kNW s) (hXS : kXS aK aV A0 s s.heap) (hS : va_S A0 s.heap H locs) (hA : ∀ q, s.heap.size ≤ q → A0 q) (isC : List Nat) (hC : isC.map (fun i => ws[i]?) = wc.map some) (hnd : va_nd isC = true) :
    PreS s H (kPreX D cI aK aV As wc H.size) As :=
  ⟨kPreX_blind, fun _ hU hW => kPreX_at (av := As) hK hP hD hN hXS hS hA isC hC hnd hU hW⟩
end KRX
