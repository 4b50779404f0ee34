/-! the start of the law: what lies beside, and fresh rows -/
theorem sLo_0 (i : Nat) : sLo i ≤ 0 := by
  unfold sLo
  repeat' split
  all_goals omega
theorem sHi_0 (i : Nat) : 0 ≤ sHi i := by
  unfold sHi
  repeat' split
  all_goals omega
theorem SIX_0 : SIX (fun _ => (0 : Int32)) (-1) := by
  refine ⟨fun i hi => ?_, fun j hj hn hq => ?_⟩
  · show sLo i ≤ (0 : Int32).toInt ∧ (0 : Int32).toInt ≤ sHi i
    rw [zl_0]; exact ⟨sLo_0 i, sHi_0 i⟩
  · have hn2 : (j : Int) < (0 : Int32).toInt := hn
    rw [zl_0] at hn2; omega
theorem SIX_sI : SIX sI (-1) := by
  refine ⟨fun i hi => ?_, fun j hj hn hq => ?_⟩
  · unfold sI
    by_cases h6 : i = 6
    · rw [if_pos h6, sL_f (Or.inl ⟨by omega, by omega⟩), sH_f (Or.inl ⟨by omega, by omega⟩)]; exact ⟨k_lo _, k_hi _⟩
    · rw [if_neg h6]
      by_cases h7 : 7 ≤ i ∧ i < 19
      · rw [if_pos h7, sL_f (Or.inl ⟨by omega, by omega⟩), sH_f (Or.inl ⟨by omega, by omega⟩)]; exact ⟨k_lo _, k_hi _⟩
      · rw [if_neg h7, zl_0]; exact ⟨sLo_0 i, sHi_0 i⟩
  · have hn2 : (j : Int) < (0 : Int32).toInt := hn
    rw [zl_0] at hn2; omega
theorem PL_0 : ∀ k : Nat, k < 4 → 0 ≤ ((fun _ => (0 : Int32)) k).toInt ∧ ((fun _ => (0 : Int32)) k).toInt ≤ 36 := fun k _ => (show 0 ≤ (0 : Int32).toInt ∧ (0 : Int32).toInt ≤ 36 from by decide)
set_option maxHeartbeats 4000000 in
theorem kXS_of {p : Program} {s : State} {m : MethodId} {meth : Method} {c : Code} {b L : Nat} {xs : Nat → Int32} (C0 : lw_At p s m meth c b L xs) {A : Nat → Prop} (hA0 : (fun q : Nat => s.heap.size ≤ q) = A) : ∃ aK aV : Nat → Nat, kXS aK aV A s s.heap := by
  obtain ⟨hx, hb, hr, hml, hown, hts, hX, hbl, hlocks, hgv⟩ := C0
  have hq := flat_of_before _ hgv
  have hA : ∀ a : Nat, a < s.heap.size → ¬ A a := by
    rw [← hA0]; intro a h z; exact absurd h (Nat.not_lt.mpr z)
  obtain ⟨aK, aV, hS1, hev⟩ := vk_Sof (args := #[Value.ref b]) (s := s) (A := A) (N := 3) (tm := fun i => Term.string "DesertWire$Reader" (([82, 89, 91] : List Nat).getD i 0)) (len := jsLen) (byt := jsByt)
    (fun i hi => by rcases (show i = 0 ∨ i = 1 ∨ i = 2 by omega) with rfl | rfl | rfl <;> decide)
    (fun i hi => by rcases (show i = 0 ∨ i = 1 ∨ i = 2 by omega) with rfl | rfl | rfl <;> exact hq _ (by decide +kernel))
    (fun i hi => by rcases (show i = 0 ∨ i = 1 ∨ i = 2 by omega) with rfl | rfl | rfl <;> exact hq _ (by decide +kernel))
    (fun i hi => by rcases (show i = 0 ∨ i = 1 ∨ i = 2 by omega) with rfl | rfl | rfl <;> exact hq _ (by decide +kernel))
    (fun i hi => by rcases (show i = 0 ∨ i = 1 ∨ i = 2 by omega) with rfl | rfl | rfl <;> exact hq _ (by decide +kernel))
    (fun i hi j hj => by
      rcases (show i = 0 ∨ i = 1 ∨ i = 2 by omega) with rfl | rfl | rfl
      · rcases (show j = 0 ∨ j = 1 ∨ j = 2 by have hj2 : j < 3 := hj; omega) with rfl | rfl | rfl <;> exact hq _ (by decide +kernel)
      · rcases (show j = 0 ∨ j = 1 by have hj2 : j < 2 := hj; omega) with rfl | rfl <;> exact hq _ (by decide +kernel)
      · rcases (show j = 0 ∨ j = 1 ∨ j = 2 by have hj2 : j < 3 := hj; omega) with rfl | rfl | rfl <;> exact hq _ (by decide +kernel))
    (fun i j hi hj hij => by
      rcases (show i = 0 ∨ i = 1 ∨ i = 2 by omega) with rfl | rfl | rfl <;> rcases (show j = 0 ∨ j = 1 ∨ j = 2 by omega) with rfl | rfl | rfl <;> first | exact absurd rfl hij | exact Or.inl (hq _ (by decide +kernel)) | exact Or.inr (hq _ (by decide +kernel)))
    hA
  obtain ⟨t, ht, hT⟩ := va_Tof (args := #[Value.ref b]) (s := s) (A := A) (tm := Term.static "DesertWire$Voices" "BODIES" "[I") (ty := .int) (N := 24) (f := fun j => .int (bodL.getD j 0)) (by decide +kernel) (hq _ (by decide +kernel)) (va_eqt (hq _ (by decide +kernel)))
    (fun j hj => by
      rcases (show j = 0 ∨ j = 1 ∨ j = 2 ∨ j = 3 ∨ j = 4 ∨ j = 5 ∨ j = 6 ∨ j = 7 ∨ j = 8 ∨ j = 9 ∨ j = 10 ∨ j = 11 ∨ j = 12 ∨ j = 13 ∨ j = 14 ∨ j = 15 ∨ j = 16 ∨ j = 17 ∨ j = 18 ∨ j = 19 ∨ j = 20 ∨ j = 21 ∨ j = 22 ∨ j = 23 by omega) with rfl | rfl | rfl | rfl | rfl | rfl | rfl | rfl | rfl | rfl | rfl | rfl | rfl | rfl | rfl | rfl | rfl | rfl | rfl | rfl | rfl | rfl | rfl | rfl <;> exact va_eqt (hq _ (by decide +kernel))) hA
  refine ⟨aK, aV, hS1, ⟨t, va_Zof (hts _ (by decide +kernel)) (hts _ (by decide +kernel)) ht hA, hT⟩, va_Zof (hts _ (by decide +kernel)) (hts _ (by decide +kernel)) (va_eqt (hq _ (by decide +kernel))) hA, ?_, ?_, ?_⟩
  · exact vk_R.of (A := #[Value.ref b]) (hts _ (by decide +kernel)) (hev 0 (by omega))
  · exact vk_R.of (A := #[Value.ref b]) (hts _ (by decide +kernel)) (hev 1 (by omega))
  · exact vk_R.of (A := #[Value.ref b]) (hts _ (by decide +kernel)) (hev 2 (by omega))

theorem REL.bd {r s p : Nat → Int32} {w v d n : Int32} {x : Nat → Int32} (h : REL r s p w v d n x) (b : SB x) : 0 ≤ w.toInt ∧ w.toInt ≤ 20 ∧ 0 ≤ d.toInt ∧ d.toInt ≤ 2000 ∧ 0 ≤ n.toInt ∧ n.toInt ≤ 4 := by
  rw [h.w, h.d, h.n]
  exact ⟨b.n5.1, b.n5.2, b.n0.1, b.n0.2, b.n2.1, b.n2.2⟩
theorem SRL.ok {b l n y z w : Nat → Int32} (h : SRL b l n y z w) : ∀ k : Nat, k < 4 → (y k).toInt = 0 ∨ (y k).toInt = 8 ∨ (y k).toInt = 16 ∨ (y k).toInt = 32 := fun k hk => by
  rw [← h.1 k hk]; exact h.2.2.2.1 k hk
theorem REL_sI : REL (fun _ => (2 : Int32)) (fun _ => (0 : Int32)) (fun _ => (0 : Int32)) 0 40 0 0 sI := by
  refine ⟨fun j hj => ?_, fun j hj => ?_, fun j hj => ?_, rfl, rfl, rfl, rfl⟩
  · unfold sI; rw [if_neg (by omega), if_pos (by omega)]
  · unfold sI; rw [if_neg (by omega), if_neg (by omega)]
  · unfold sI; rw [if_neg (by omega), if_neg (by omega)]
theorem SRL_0 : SRL (fun _ => (0 : Int32)) (fun _ => (0 : Int32)) (fun _ => (0 : Int32)) (fun _ => (0 : Int32)) (fun _ => (0 : Int32)) (fun _ => (0 : Int32)) :=
  ⟨fun _ _ => rfl, fun _ _ => rfl, fun _ _ => rfl, fun _ _ => Or.inl zl_0, fun _ _ => by rw [zl_0]; decide⟩
theorem RRL.bd {tp tx ln us fr : Nat → Int32} {n k : Int32} {x : Nat → Int32} (h : RRL tp tx ln us fr n k x) (b : SB x) : 0 ≤ n.toInt ∧ n.toInt ≤ 50 ∧ 0 ≤ k.toInt ∧ k.toInt ≤ 12 := by
  rw [h.1, h.2.1]
  exact ⟨b.n4.1, b.n4.2, b.n3.1, b.n3.2⟩
theorem WR_sI : WR (fun _ => (2 : Int32)) (fun _ => (0 : Int32)) (fun _ => (0 : Int32)) (fun _ => (0 : Int32)) (fun _ => (0 : Int32)) (fun _ => (0 : Int32)) (fun _ => (0 : Int32)) (fun _ => (0 : Int32)) (fun _ => (0 : Int32)) (fun _ => (0 : Int32)) (fun _ => (0 : Int32)) (fun _ => (0 : Int32)) (fun _ => (0 : Int32)) 0 (fun _ => (0 : Int32)) 0 0 40 0 sI := by
  have z : ∀ i : Nat, (i < 6 ∨ 19 ≤ i) → sI i = 0 := fun i hi => by unfold sI; rw [if_neg (by omega), if_neg (by omega)]
  have z0 : (0 : Int32).toInt = 0 := by decide
  have s0 : ∀ g : Nat → Int32, sumN g (0 : Int32).toInt.toNat = 0 := fun g => by rw [z0]; rfl
  refine ⟨REL_sI, fun j hj => (z _ (by omega)).symm, ⟨(z 1 (by omega)).symm, by rw [z0]; decide, fun w hw => ?_, fun m hm => ⟨(s0 _).symm, (s0 _).symm, (s0 _).symm⟩⟩, ⟨(z 2 (by omega)).symm, by rw [z0]; decide, fun j hj => (z _ (by omega)).symm⟩⟩
  exact ⟨(z _ (by omega)).symm, (z _ (by omega)).symm, (z _ (by omega)).symm, (z _ (by omega)).symm, (z _ (by omega)).symm, (z _ (by omega)).symm⟩
/-- the script's number at a place -/
theorem k_sld {p : Program} {l : Launch} {e : Env} {R : Room} {s : State} {m : MethodId} {args : Array Value} {below : List Frame} {meth : Method} {c : Code} {H : Heap} {locs : List Loc} {cells slots : Nat} {Q : State → Prop} {cc : ByteArray} {pc : Nat} {ls : Array Slot} {rest : List Value} {A : Nat → Prop} {H0 : Heap} (hx : p.tables.exec = Jvm.exec) (hb : c.code = cc) {b L : Nat} {xs : Nat → Int32} (hX : va_X b L xs s H0) (hbl : b < H0.size) (hbA : ¬ A b) (hS : va_S A H0 H locs) {i v : Int32} (hin : vp_in i L) (hv : xs i.toNatClampNeg = v) (hdg : decode cc pc = .ok (.iaload, 1)) (kk : W p l e R s m args below meth c H locs cells slots Q (F0 m (pc + 1) ls (.int v :: rest))) : W p l e R s m args below meth c H locs cells slots Q (F0 m pc ls (.int i :: .ref b :: rest)) := va_sld hx hb hX hbl hbA hS hin hdg (by rw [hv]; exact kk)
