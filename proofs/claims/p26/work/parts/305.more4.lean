theorem bod_in {j : Nat} {v : Int32} (e : v = bodL.getD j 0) (hj : j < 24) (h : v.toInt ≠ 0) : v.toInt = 10 ∨ v.toInt = 11 ∨ v.toInt = 12 ∨ v.toInt = 13 ∨ v.toInt = 20 ∨ v.toInt = 21 ∨ v.toInt = 30 ∨ v.toInt = 31 ∨ v.toInt = 40 ∨ v.toInt = 41 ∨ v.toInt = 50 ∨ v.toInt = 51 ∨ v.toInt = 60 ∨ v.toInt = 61 := by
  have key : ∀ j : Nat, j < 24 → (bodL.getD j 0).toInt = 0 ∨ (bodL.getD j 0).toInt = 10 ∨ (bodL.getD j 0).toInt = 11 ∨ (bodL.getD j 0).toInt = 12 ∨ (bodL.getD j 0).toInt = 13 ∨ (bodL.getD j 0).toInt = 20 ∨ (bodL.getD j 0).toInt = 21 ∨ (bodL.getD j 0).toInt = 30 ∨ (bodL.getD j 0).toInt = 31 ∨ (bodL.getD j 0).toInt = 40 ∨ (bodL.getD j 0).toInt = 41 ∨ (bodL.getD j 0).toInt = 50 ∨ (bodL.getD j 0).toInt = 51 ∨ (bodL.getD j 0).toInt = 60 ∨ (bodL.getD j 0).toInt = 61 := by decide +kernel
  rw [e] at h ⊢
  rcases key j hj with z | z
  · exact absurd z h
  · exact z
theorem js_lo {ix : Nat} (h : ix < 3) {v : Int32} (e : v = Int32.ofNat (jsLen.getD ix 0)) : 2 ≤ v.toInt := by
  have key : ∀ j : Nat, j < 3 → 2 ≤ (Int32.ofNat (jsLen.getD j 0)).toInt := by decide +kernel
  rw [e]; exact key ix h
theorem js_hi {ix : Nat} (h : ix < 3) {v : Int32} (e : v = Int32.ofNat (jsLen.getD ix 0)) : v.toInt ≤ 3 := by
  have key : ∀ j : Nat, j < 3 → (Int32.ofNat (jsLen.getD j 0)).toInt ≤ 3 := by decide +kernel
  rw [e]; exact key ix h
theorem js_len {ix : Nat} (h : ix < 3) {v : Int32} (e : v = Int32.ofNat (jsLen.getD ix 0)) : v.toInt = ((jsLen.getD ix 0 : Nat) : Int) := by
  have key : ∀ j : Nat, j < 3 → (Int32.ofNat (jsLen.getD j 0)).toInt = ((jsLen.getD j 0 : Nat) : Int) := by decide +kernel
  rw [e]; exact key ix h
theorem js_in {ix : Nat} (h : ix < 3) {i : Int32} (h0 : 0 ≤ i.toInt) (h1 : i.toInt < (jsLen.getD ix 0 : Nat)) : vp_in i (jsLen.getD ix 0) := k_in h0 h1
theorem kRecvS {s : State} {H : Heap} {locs : List Loc} {D : va_G} {cI : ClassId} {A0 : Nat → Prop} {ws wc : va_W} {aK aV : Nat → Nat} {ix : Nat} {As : List Value} (hK : va_K D vwCl [(cI, .int)] s) (hP : va_P D vwCl ws H) (hD : va_D A0 ws) (hN : kNW s) (hXS : kXS aK aV A0 s s.heap) (hS : va_S A0 s.heap H locs) (hA : ∀ q, s.heap.size ≤ q → A0 q) (hi : ix < 3) (isC : List Nat) (hC : isC.map (fun i => ws[i]?) = wc.map some) (hnd : va_nd isC = true) :
    PreV s H "java/lang/String" (aK ix) (kPreX D cI aK aV (.ref (aK ix) :: As) wc H.size) As :=
  ⟨kPreX_blind, vk_recv hXS.1 hi hS, fun _ hU hW => kPreX_at (av := .ref (aK ix) :: As) hK hP hD hN hXS hS hA isC hC hnd hU hW⟩
theorem gSx_in {y : MethodName} {cc : ByteArray} {n : Nat} {r : Option FieldType} {own : String} {idx : Nat} (h : Cond.code y cc n r ∈ gT) (h1 : Cond.methodLink own idx y ∈ gT) (h2 : Cond.static y ∈ gT) (h4 : Cond.initialized y.cls ∈ gT) : GoodIn gT (va_wsS own idx y (gW y cc n r)) := by
  intro w hw
  rcases List.mem_append.mp hw with e | e
  · have hm : w ∈ gT := by
      simp only [List.mem_cons, List.not_mem_nil, or_false] at e
      rcases e with e | e | e
      · rw [e]; exact h1
      · rw [e]; exact h2
      · rw [e]; exact h4
    exact ⟨hm, gT_good hm⟩
  · exact gW_in h w e
theorem TXQ.z {g : Int → Int32} {u A B C : Int32} {k : Nat} {o : Int} {b0 v r b : Int32} {p q : Int} (h : TXQ g u A B C k o b0 v p r q b) (h0 : b.toInt = 0) : b0.toInt = 0 := by
  rcases h with ⟨_, _, z⟩ | ⟨z, _⟩
  · exact absurd h0 z
  · exact z
