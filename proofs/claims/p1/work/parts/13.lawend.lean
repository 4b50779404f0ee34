
theorem dL_law_1780 : decode code 1780 = .ok (.iinc 3 7, 3) := by decide +kernel
theorem dL_law_1783 : decode code 1783 = .ok (.goto (-1765), 3) := by decide +kernel
theorem dL_law_18 : decode code 18 = .ok (.iload_n 3, 1) := by decide +kernel
theorem dL_law_19 : decode code 19 = .ok (.aload_n 0, 1) := by decide +kernel
theorem dL_law_20 : decode code 20 = .ok (.arraylength, 1) := by decide +kernel
theorem dL_law_21 : decode code 21 = .ok (.bipush 7, 2) := by decide +kernel
theorem dL_law_23 : decode code 23 = .ok (.isub, 1) := by decide +kernel
theorem dL_law_24 : decode code 24 = .ok (.if_icmp .gt 1762, 3) := by decide +kernel
theorem dL_law_1786 : decode code 1786 = .ok (.iconst 1, 1) := by decide +kernel
theorem dL_law_1787 : decode code 1787 = .ok (.ireturn, 1) := by decide +kernel
/-- the script's number at a place -/
theorem k_sld {p : Program} {l : Launch} {e : Env} {R : Room} {s : State} {m : MethodId} {args : Array Value} {below : List Frame} {meth : Method} {c : Code} {H : Heap} {locs : List Loc} {cells slots : Nat} {Q : State → Prop} {cc : ByteArray} {pc : Nat} {ls : Array Slot} {rest : List Value} {A : Nat → Prop} {H0 : Heap} (hx : p.tables.exec = Jvm.exec) (hb : c.code = cc) {b L : Nat} {xs : Nat → Int32} (hX : va_X b L xs s H0) (hbl : b < H0.size) (hbA : ¬ A b) (hS : va_S A H0 H locs) {i v : Int32} (hin : vp_in i L) (hv : xs i.toNatClampNeg = v) (hdg : decode cc pc = .ok (.iaload, 1)) (kk : W p l e R s m args below meth c H locs cells slots Q (F0 m (pc + 1) ls (.int v :: rest))) : W p l e R s m args below meth c H locs cells slots Q (F0 m pc ls (.int i :: .ref b :: rest)) := va_sld hx hb hX hbl hbA hS hin hdg (by rw [hv]; exact kk)
set_option maxHeartbeats 4000000 in
set_option maxRecDepth 100000 in
/-- behind the one call: the script is at its end -/
theorem law_end {p : Program} {e : Env} {s : State} {m : MethodId} {below : List Frame} {meth : Method} {c : Code} (l : Launch) {b : Nat} {xs : Nat → Int32} {A : Nat → Prop} {H : Heap} {locs : List Loc} {ls : Array Slot} {cells slots : Nat} (hx : p.tables.exec = Jvm.exec) (hb : c.code = code) (hr : meth.sig.returnType = ret) (hlocks : meth.locks = false) (hA0 : (fun q : Nat => s.heap.size ≤ q) = A) (hX : va_X b 7 xs s s.heap) (hbl : b < s.heap.size) (hS : va_S A s.heap H locs) (hl : lv_has ls 4 [(3, .int 0), (0, .ref b)]) (h1 : cells ≤ 600000) (h2 : slots ≤ 7302250) : W p l e room_1 s m #[Value.ref b] below meth c H locs cells slots (lw_Z below #[Value.ref b] s) (F0 m 1780 ls []) := by
  have hbA : ¬ A b := by rw [← hA0]; exact Nat.not_le.mpr hbl
  refine lv_iinc (v := 7) (lv' := [(3, .int 7), (0, .ref b)]) hx hb dL_law_1780 hl (k := 0) rfl (by decide) (by decide) rfl (fun ls hl => ?_)
  refine lv_goto (tgt := 18) hx hb dL_law_1783 (by decide) ?_
  refine lv_iload_n hx hb dL_law_18 rfl (lv_at hl 0 rfl) ?_
  refine lv_aload_n hx hb dL_law_19 rfl (lv_at hl 1 rfl) ?_
  refine va_slen hx hb hX hbl hbA hS dL_law_20 ?_
  refine lv_bipush (v := 7) hx hb dL_law_21 (by decide) ?_
  refine k_isub (v := 0) hx hb dL_law_23 (by decide) ?_
  refine b_icmp_gt hx hb zl_7 zl_0 (tgt := 1786) dL_law_24 (by decide) (fun _ => ?_) (fun c_ne => by exfalso; omega)
  refine lv_iconst (v := 1) hx hb dL_law_1786 (by decide) ?_
  refine va_forget (fun q hq => by have h3 := hS.2.2 q hq; rw [← hA0] at h3; exact h3) ?_
  refine W.widen (k := 600000) (n := 7302250) h1 h2 ?_
  exact lw_ret hx hb hr hlocks dL_law_1787
