
set_option maxHeartbeats 4000000 in
set_option maxRecDepth 100000 in
theorem c_X5_openG600 (l : Launch) (D : va_G) (cI : ClassId) (aK aV : Nat → Nat) (k o k0 : Nat) (sz : Nat) (c1 : Int32) (c2 : Int32) (c3 : Int32) (c4 : Int32) (c5 : Int32) (c6 : Int32) (c7 : Int32) (c0 : Nat → Int32) (d : Nat → Int32) (a1 : Int32) (a2 : Int32) (pre0 : 0 ≤ a1.toInt) (pre1 : a1.toInt ≤ 550) : Met l yX5_open (gW yX5_open cX5_open 5 none) ({ frames := 0, cells := 0, slots := 0, locals := 0 } : Room) (kPreX D cI aK aV [.ref k, .ref o, .int a1, .int a2] [(k, .inr (5, [.ref k0, .int c1, .int c2, .int c3, .int c4, .int c5, .int c6, .int c7])), (k0, .inl (cI, 50, .inl c0)), (o, .inl (cI, 600, .inl d))] sz) (va_Qv (fun (u : Int32 × (Nat → Int32)) => True) (fun u t => kWd D cI (va_A [(k, .inr (5, [.ref k0, .int c1, .int c2, .int c3, .int c4, .int c5, .int c6, .int c7])), (k0, .inl (cI, 50, .inl c0)), (o, .inl (cI, 600, .inl d))] sz) [(k, .inr (5, [.ref k0, .int u.1, .int c2, .int c3, .int c4, .int c5, .int c6, .int c7])), (k0, .inl (cI, 50, .inl u.2)), (o, .inl (cI, 600, .inl d))] t) (va_A [(k, .inr (5, [.ref k0, .int c1, .int c2, .int c3, .int c4, .int c5, .int c6, .int c7])), (k0, .inl (cI, 50, .inl c0)), (o, .inl (cI, 600, .inl d))] sz)) 0 0 (va_A [(k, .inr (5, [.ref k0, .int c1, .int c2, .int c3, .int c4, .int c5, .int c6, .int c7])), (k0, .inl (cI, 50, .inl c0)), (o, .inl (cI, 600, .inl d))] sz) := by
  refine kMetVX (own := RX5) (by decide) rfl (Nat.le_of_ble_eq_true rfl) ?_
  intro p e s m args below meth c hx hb hT hown hname hml A Q hK hP hD hS hA hN hXS hRet ls hl
  have hl : lv_has ls 5 [(0, .ref k), (1, .ref o), (2, .int a1), (3, .int a2)] := hl
  have lo_a1 := k_lo a1
  have hi_a1 := k_hi a1
  have lo_a2 := k_lo a2
  have hi_a2 := k_hi a2
  refine lv_aload_n hx hb dX5_open_0 rfl (lv_at hl 0 rfl) ?_
  refine lv_iconst (v := 0) hx hb dX5_open_1 (by decide) ?_
  refine va_put (D := D) (ci := 5) (v := .int 0) (ty := .int) (C := RX5) (T := TX5) (N := 8) hx hb hT giX5 tyX5 tyX5_ok nmX5 hown hK hP hD hS 0 rfl rfl 1 (by decide) (hT (Cond.fieldLink RX5 15 "DesertWire$Reader" "length" "I") mw_169) (fun _ h9 => h9) rfl (by decide +kernel) rfl rfl (Nat.le_of_ble_eq_true rfl) dX5_open_2 ?_
  clear hP hD hS
  intro H locs hP hD hS
  replace hP : va_P D vwCl [(k, .inr (5, [.ref k0, .int 0, .int c2, .int c3, .int c4, .int c5, .int c6, .int c7])), (k0, .inl (cI, 50, .inl c0)), (o, .inl (cI, 600, .inl d))] H := hP
  replace hD : va_D A [(k, .inr (5, [.ref k0, .int 0, .int c2, .int c3, .int c4, .int c5, .int c6, .int c7])), (k0, .inl (cI, 50, .inl c0)), (o, .inl (cI, 600, .inl d))] := hD
  refine lv_iconst (v := 0) hx hb dX5_open_5 (by decide) ?_
  refine lv_istore (lv' := [(4, .int 0), (0, .ref k), (1, .ref o), (2, .int a1), (3, .int a2)]) hx hb dX5_open_6 hl (by decide) rfl ?_
  clear hl
  intro ls hl
  have hloop_8 : ∀ (fu_ : Nat) (l8_4 : Int32) (f8_k1 : Int32) (g8_k0 : Nat → Int32), 0 ≤ l8_4.toInt → 0 ≤ f8_k1.toInt → (a2.toInt - l8_4.toInt).toNat < fu_ → ∀ (ls : Array Slot) (H : Heap) (locs : List Loc), lv_has ls 5 [(4, .int l8_4), (0, .ref k), (1, .ref o), (2, .int a1), (3, .int a2)] → va_P D vwCl [(k, .inr (5, [.ref k0, .int f8_k1, .int c2, .int c3, .int c4, .int c5, .int c6, .int c7])), (k0, .inl (cI, 50, .inl g8_k0)), (o, .inl (cI, 600, .inl d))] H → va_D A [(k, .inr (5, [.ref k0, .int f8_k1, .int c2, .int c3, .int c4, .int c5, .int c6, .int c7])), (k0, .inl (cI, 50, .inl g8_k0)), (o, .inl (cI, 600, .inl d))] → va_S A s.heap H locs → W p l e ({ frames := 0, cells := 0, slots := 0, locals := 0 } : Room) s m args below meth c H locs 0 0 Q (F0 m 8 ls []) := by
    intro fu_; induction fu_ with
    | zero => intro l8_4 f8_k1 g8_k0 i8_0 i8_1 hm; exact absurd hm (by omega)
    | succ fu_ ih8 =>
        intro l8_4 f8_k1 g8_k0 i8_0 i8_1 hm ls H locs hl hP hD hS
        have lo_l8_4 := k_lo l8_4
        have hi_l8_4 := k_hi l8_4
        have lo_f8_k1 := k_lo f8_k1
        have hi_f8_k1 := k_hi f8_k1
        refine lv_iload hx hb dX5_open_8 (lv_at hl 0 rfl) ?_
        refine lv_iload_n hx hb dX5_open_10 rfl (lv_at hl 4 rfl) ?_
        refine b_icmp_ge hx hb rfl rfl (tgt := 61) dX5_open_11 (by decide) (fun c_1 => ?_) (fun c_1 => ?_)
        · exact hRet (f8_k1, g8_k0) [0, 1, 2] trivial hP hD (by decide) rfl hS dX5_open_61
        · refine lv_iload hx hb dX5_open_14 (lv_at hl 0 rfl) ?_
          refine lv_bipush (v := 50) hx hb dX5_open_16 (by decide) ?_
          refine b_icmp_ge hx hb rfl zl_50 (tgt := 61) dX5_open_18 (by decide) (fun c_2 => ?_) (fun c_2 => ?_)
          · exact hRet (f8_k1, g8_k0) [0, 1, 2] trivial hP hD (by decide) rfl hS dX5_open_61
          · refine lv_iload_n hx hb dX5_open_21 rfl (lv_at hl 3 rfl) ?_
            refine b_if_lt hx hb rfl (tgt := 61) dX5_open_22 (by decide) (fun c_3 => by exfalso; omega) (fun c_3 => ?_)
            refine lv_iload_n hx hb dX5_open_25 rfl (lv_at hl 3 rfl) ?_
            refine lv_iload hx hb dX5_open_26 (lv_at hl 0 rfl) ?_
            refine lv_iadd hx hb dX5_open_28 ?_
            refine lv_topi (fun v_4 ev_4 => ?_)
            have tv_4 : v_4.toInt = a1.toInt + l8_4.toInt := by rw [ev_4]; exact k_addv rfl rfl (by omega) (by omega)
            refine lv_aload_n hx hb dX5_open_29 rfl (lv_at hl 2 rfl) ?_
            refine va_alen (v := 600) hx hb hK hP 2 0 rfl rfl (show Int32.ofNat 600 = 600 from by decide) dX5_open_30 ?_
            refine b_icmp_ge hx hb rfl zl_600 (tgt := 61) dX5_open_31 (by decide) (fun c_5 => by exfalso; omega) (fun c_5 => ?_)
            refine lv_aload_n hx hb dX5_open_34 rfl (lv_at hl 1 rfl) ?_
            refine va_get (D := D) (ci := 5) (v := .ref k0) (C := RX5) (T := TX5) (N := 8) hx hb hT giX5 hown hK hP 0 rfl rfl 0 (by decide) (hT (Cond.fieldLink RX5 9 "DesertWire$Reader" "text" "[I") mw_168) (fun _ h9 => h9) rfl dX5_open_35 ?_
            refine lv_iload hx hb dX5_open_38 (lv_at hl 0 rfl) ?_
            refine lv_aload_n hx hb dX5_open_40 rfl (lv_at hl 2 rfl) ?_
            refine lv_iload_n hx hb dX5_open_41 rfl (lv_at hl 3 rfl) ?_
            refine lv_iload hx hb dX5_open_42 (lv_at hl 0 rfl) ?_
            refine lv_iadd hx hb dX5_open_44 ?_
            refine lv_topi (fun v_6 ev_6 => ?_)
            have tv_6 : v_6.toInt = a1.toInt + l8_4.toInt := by rw [ev_6]; exact k_addv rfl rfl (by omega) (by omega)
            refine k_iald (v := (d v_6.toNatClampNeg)) hx hb hK hP 2 0 rfl rfl (k_in (by omega) (by omega)) rfl dX5_open_45 ?_
            refine lv_topi (fun v_7 ev_7 => ?_)
            have lo_v_7 := k_lo v_7
            have hi_v_7 := k_hi v_7
            have tv_7 : v_7.toInt = (d v_6.toNatClampNeg).toInt := by rw [ev_7]
            refine va_iast hx hb hK hP hD hS 1 0 rfl rfl (k_in (by omega) (by omega)) dX5_open_46 ?_
            clear hP hD hS
            intro H locs hP hD hS
            replace hP : va_P D vwCl [(k, .inr (5, [.ref k0, .int f8_k1, .int c2, .int c3, .int c4, .int c5, .int c6, .int c7])), (k0, .inl (cI, 50, .inl (upd g8_k0 l8_4.toNatClampNeg v_7))), (o, .inl (cI, 600, .inl d))] H := hP
            replace hD : va_D A [(k, .inr (5, [.ref k0, .int f8_k1, .int c2, .int c3, .int c4, .int c5, .int c6, .int c7])), (k0, .inl (cI, 50, .inl (upd g8_k0 l8_4.toNatClampNeg v_7))), (o, .inl (cI, 600, .inl d))] := hD
            obtain ⟨f_8, ef_8⟩ : ∃ g : Nat → Int32, g = upd g8_k0 l8_4.toNatClampNeg v_7 := ⟨_, rfl⟩
            rw [← ef_8] at hP hD
            refine lv_aload_n hx hb dX5_open_47 rfl (lv_at hl 1 rfl) ?_
            refine lv_iload hx hb dX5_open_48 (lv_at hl 0 rfl) ?_
            refine lv_iconst (v := 1) hx hb dX5_open_50 (by decide) ?_
            refine lv_iadd hx hb dX5_open_51 ?_
            refine lv_topi (fun v_9 ev_9 => ?_)
            have tv_9 : v_9.toInt = l8_4.toInt + 1 := by rw [ev_9]; exact k_addv rfl zl_1 (by omega) (by omega)
            refine va_put (D := D) (ci := 5) (v := .int v_9) (ty := .int) (C := RX5) (T := TX5) (N := 8) hx hb hT giX5 tyX5 tyX5_ok nmX5 hown hK hP hD hS 0 rfl rfl 1 (by decide) (hT (Cond.fieldLink RX5 15 "DesertWire$Reader" "length" "I") mw_169) (fun _ h9 => h9) rfl (by decide +kernel) rfl rfl (Nat.le_of_ble_eq_true rfl) dX5_open_52 ?_
            clear hP hD hS
            intro H locs hP hD hS
            replace hP : va_P D vwCl [(k, .inr (5, [.ref k0, .int v_9, .int c2, .int c3, .int c4, .int c5, .int c6, .int c7])), (k0, .inl (cI, 50, .inl f_8)), (o, .inl (cI, 600, .inl d))] H := hP
            replace hD : va_D A [(k, .inr (5, [.ref k0, .int v_9, .int c2, .int c3, .int c4, .int c5, .int c6, .int c7])), (k0, .inl (cI, 50, .inl f_8)), (o, .inl (cI, 600, .inl d))] := hD
            obtain ⟨v_10, ev_10⟩ : ∃ y : Int32, y = l8_4 + 1 := ⟨_, rfl⟩
            have tv_10 : v_10.toInt = l8_4.toInt + 1 := by rw [ev_10]; exact k_addv rfl zl_1 (by omega) (by omega)
            refine lv_iinc (v := v_10) (lv' := [(4, .int v_10), (0, .ref k), (1, .ref o), (2, .int a1), (3, .int a2)]) hx hb dX5_open_55 hl (k := 0) rfl (by rw [ev_10]; rfl) (by decide) rfl ?_
            clear hl
            intro ls hl
            refine lv_goto (tgt := 8) hx hb dX5_open_58 (by decide) ?_
            exact ih8 v_10 v_9 f_8 (by first | omega | decide | assumption | rfl) (by first | omega | decide | assumption | rfl) (by omega) ls _ _ (lv_sub hl [0, 1, 2, 3, 4] rfl) (hP.sub [0, 1, 2] rfl) (hD.sub [0, 1, 2] (by decide) rfl) hS
  exact hloop_8 _ 0 0 c0 (by first | omega | (simp only [zl_0] <;> omega) | decide | assumption | rfl) (by first | omega | (simp only [zl_0] <;> omega) | decide | assumption | rfl) (Nat.lt_succ_self _) ls _ _ (lv_sub hl [0, 1, 2, 3, 4] rfl) hP hD hS
theorem dX5_valueFor_0 : decode cX5_valueFor 0 = .ok (.aload_n 0, 1) := by decide +kernel
theorem dX5_valueFor_1 : decode cX5_valueFor 1 = .ok (.iload_n 1, 1) := by decide +kernel
theorem dX5_valueFor_2 : decode cX5_valueFor 2 = .ok (.putfield 26, 3) := by decide +kernel
theorem dX5_valueFor_5 : decode cX5_valueFor 5 = .ok (.aload_n 0, 1) := by decide +kernel
theorem dX5_valueFor_6 : decode cX5_valueFor 6 = .ok (.iload_n 2, 1) := by decide +kernel
theorem dX5_valueFor_7 : decode cX5_valueFor 7 = .ok (.putfield 29, 3) := by decide +kernel
theorem dX5_valueFor_10 : decode cX5_valueFor 10 = .ok (.aload_n 0, 1) := by decide +kernel
theorem dX5_valueFor_11 : decode cX5_valueFor 11 = .ok (.iload_n 3, 1) := by decide +kernel
theorem dX5_valueFor_12 : decode cX5_valueFor 12 = .ok (.putfield 32, 3) := by decide +kernel
theorem dX5_valueFor_15 : decode cX5_valueFor 15 = .ok (.aload_n 0, 1) := by decide +kernel
theorem dX5_valueFor_16 : decode cX5_valueFor 16 = .ok (.iload 4, 2) := by decide +kernel
theorem dX5_valueFor_18 : decode cX5_valueFor 18 = .ok (.putfield 35, 3) := by decide +kernel
theorem dX5_valueFor_21 : decode cX5_valueFor 21 = .ok (.aload_n 0, 1) := by decide +kernel
theorem dX5_valueFor_22 : decode cX5_valueFor 22 = .ok (.iconst 0, 1) := by decide +kernel
theorem dX5_valueFor_23 : decode cX5_valueFor 23 = .ok (.putfield 19, 3) := by decide +kernel
theorem dX5_valueFor_26 : decode cX5_valueFor 26 = .ok (.aload_n 0, 1) := by decide +kernel
theorem dX5_valueFor_27 : decode cX5_valueFor 27 = .ok (.iconst 0, 1) := by decide +kernel
theorem dX5_valueFor_28 : decode cX5_valueFor 28 = .ok (.putfield 22, 3) := by decide +kernel
theorem dX5_valueFor_31 : decode cX5_valueFor 31 = .ok (.aload_n 0, 1) := by decide +kernel
theorem dX5_valueFor_32 : decode cX5_valueFor 32 = .ok (.iconst 0, 1) := by decide +kernel
theorem dX5_valueFor_33 : decode cX5_valueFor 33 = .ok (.invokevirtual 38, 3) := by decide +kernel
theorem dX5_valueFor_36 : decode cX5_valueFor 36 = .ok (.istore 5, 2) := by decide +kernel
theorem dX5_valueFor_38 : decode cX5_valueFor 38 = .ok (.aload_n 0, 1) := by decide +kernel
theorem dX5_valueFor_39 : decode cX5_valueFor 39 = .ok (.getfield 19, 3) := by decide +kernel
theorem dX5_valueFor_42 : decode cX5_valueFor 42 = .ok (.aload_n 0, 1) := by decide +kernel
theorem dX5_valueFor_43 : decode cX5_valueFor 43 = .ok (.getfield 15, 3) := by decide +kernel
theorem dX5_valueFor_46 : decode cX5_valueFor 46 = .ok (.if_icmp .ge 8, 3) := by decide +kernel
theorem dX5_valueFor_49 : decode cX5_valueFor 49 = .ok (.aload_n 0, 1) := by decide +kernel
theorem dX5_valueFor_50 : decode cX5_valueFor 50 = .ok (.iconst 1, 1) := by decide +kernel
theorem dX5_valueFor_51 : decode cX5_valueFor 51 = .ok (.putfield 22, 3) := by decide +kernel
theorem dX5_valueFor_54 : decode cX5_valueFor 54 = .ok (.iload 5, 2) := by decide +kernel
theorem dX5_valueFor_56 : decode cX5_valueFor 56 = .ok (.ireturn, 1) := by decide +kernel
set_option maxHeartbeats 4000000 in
set_option maxRecDepth 100000 in
theorem c_X5_valueForG (l : Launch) (D : va_G) (cI : ClassId) (aK aV : Nat → Nat) (k k0 : Nat) (sz : Nat) (c1 : Int32) (c2 : Int32) (c3 : Int32) (c4 : Int32) (c5 : Int32) (c6 : Int32) (c7 : Int32) (c0 : Nat → Int32) (a0 : Int32) (a1 : Int32) (a2 : Int32) (a3 : Int32) : Met l yX5_valueFor (gW yX5_valueFor cX5_valueFor 6 (some .int)) ({ frames := 39, cells := 0, slots := 0, locals := 944 } : Room) (kPreX D cI aK aV [.ref k, .int a0, .int a1, .int a2, .int a3] [(k, .inr (5, [.ref k0, .int c1, .int c2, .int c3, .int c4, .int c5, .int c6, .int c7])), (k0, .inl (cI, 50, .inl c0))] sz) (va_Qi (fun (r : Int32) (u : Int32 × Int32 × Int32 × Int32 × Int32 × Int32) => True) (fun u t => kWd D cI (va_A [(k, .inr (5, [.ref k0, .int c1, .int c2, .int c3, .int c4, .int c5, .int c6, .int c7])), (k0, .inl (cI, 50, .inl c0))] sz) [(k, .inr (5, [.ref k0, .int c1, .int u.1, .int u.2.1, .int u.2.2.1, .int u.2.2.2.1, .int u.2.2.2.2.1, .int u.2.2.2.2.2])), (k0, .inl (cI, 50, .inl c0))] t) (va_A [(k, .inr (5, [.ref k0, .int c1, .int c2, .int c3, .int c4, .int c5, .int c6, .int c7])), (k0, .inl (cI, 50, .inl c0))] sz)) 0 0 (va_A [(k, .inr (5, [.ref k0, .int c1, .int c2, .int c3, .int c4, .int c5, .int c6, .int c7])), (k0, .inl (cI, 50, .inl c0))] sz) := by
  refine kMetIX (own := RX5) (by decide) rfl (Nat.le_of_ble_eq_true rfl) ?_
  intro p e s m args below meth c hx hb hT hown hname hml A Q hK hP hD hS hA hN hXS hRet ls hl
  have hl : lv_has ls 6 [(0, .ref k), (1, .int a0), (2, .int a1), (3, .int a2), (4, .int a3)] := hl
  have lo_a0 := k_lo a0
  have hi_a0 := k_hi a0
  have lo_a1 := k_lo a1
  have hi_a1 := k_hi a1
  have lo_a2 := k_lo a2
  have hi_a2 := k_hi a2
  have lo_a3 := k_lo a3
  have hi_a3 := k_hi a3
  have lo_c1 := k_lo c1
  have hi_c1 := k_hi c1
  refine lv_aload_n hx hb dX5_valueFor_0 rfl (lv_at hl 0 rfl) ?_
  refine lv_iload_n hx hb dX5_valueFor_1 rfl (lv_at hl 1 rfl) ?_
  refine va_put (D := D) (ci := 5) (v := .int a0) (ty := .int) (C := RX5) (T := TX5) (N := 8) hx hb hT giX5 tyX5 tyX5_ok nmX5 hown hK hP hD hS 0 rfl rfl 4 (by decide) (hT (Cond.fieldLink RX5 26 "DesertWire$Reader" "use" "I") mw_172) (fun _ h9 => h9) rfl (by decide +kernel) rfl rfl (Nat.le_of_ble_eq_true rfl) dX5_valueFor_2 ?_
  clear hP hD hS
  intro H locs hP hD hS
  replace hP : va_P D vwCl [(k, .inr (5, [.ref k0, .int c1, .int c2, .int c3, .int a0, .int c5, .int c6, .int c7])), (k0, .inl (cI, 50, .inl c0))] H := hP
  replace hD : va_D A [(k, .inr (5, [.ref k0, .int c1, .int c2, .int c3, .int a0, .int c5, .int c6, .int c7])), (k0, .inl (cI, 50, .inl c0))] := hD
  refine lv_aload_n hx hb dX5_valueFor_5 rfl (lv_at hl 0 rfl) ?_
  refine lv_iload_n hx hb dX5_valueFor_6 rfl (lv_at hl 2 rfl) ?_
  refine va_put (D := D) (ci := 5) (v := .int a1) (ty := .int) (C := RX5) (T := TX5) (N := 8) hx hb hT giX5 tyX5 tyX5_ok nmX5 hown hK hP hD hS 0 rfl rfl 5 (by decide) (hT (Cond.fieldLink RX5 29 "DesertWire$Reader" "first" "I") mw_173) (fun _ h9 => h9) rfl (by decide +kernel) rfl rfl (Nat.le_of_ble_eq_true rfl) dX5_valueFor_7 ?_
  clear hP hD hS
  intro H locs hP hD hS
  replace hP : va_P D vwCl [(k, .inr (5, [.ref k0, .int c1, .int c2, .int c3, .int a0, .int a1, .int c6, .int c7])), (k0, .inl (cI, 50, .inl c0))] H := hP
  replace hD : va_D A [(k, .inr (5, [.ref k0, .int c1, .int c2, .int c3, .int a0, .int a1, .int c6, .int c7])), (k0, .inl (cI, 50, .inl c0))] := hD
  refine lv_aload_n hx hb dX5_valueFor_10 rfl (lv_at hl 0 rfl) ?_
  refine lv_iload_n hx hb dX5_valueFor_11 rfl (lv_at hl 3 rfl) ?_
  refine va_put (D := D) (ci := 5) (v := .int a2) (ty := .int) (C := RX5) (T := TX5) (N := 8) hx hb hT giX5 tyX5 tyX5_ok nmX5 hown hK hP hD hS 0 rfl rfl 6 (by decide) (hT (Cond.fieldLink RX5 32 "DesertWire$Reader" "second" "I") mw_174) (fun _ h9 => h9) rfl (by decide +kernel) rfl rfl (Nat.le_of_ble_eq_true rfl) dX5_valueFor_12 ?_
  clear hP hD hS
  intro H locs hP hD hS
  replace hP : va_P D vwCl [(k, .inr (5, [.ref k0, .int c1, .int c2, .int c3, .int a0, .int a1, .int a2, .int c7])), (k0, .inl (cI, 50, .inl c0))] H := hP
  replace hD : va_D A [(k, .inr (5, [.ref k0, .int c1, .int c2, .int c3, .int a0, .int a1, .int a2, .int c7])), (k0, .inl (cI, 50, .inl c0))] := hD
  refine lv_aload_n hx hb dX5_valueFor_15 rfl (lv_at hl 0 rfl) ?_
  refine lv_iload hx hb dX5_valueFor_16 (lv_at hl 4 rfl) ?_
  refine va_put (D := D) (ci := 5) (v := .int a3) (ty := .int) (C := RX5) (T := TX5) (N := 8) hx hb hT giX5 tyX5 tyX5_ok nmX5 hown hK hP hD hS 0 rfl rfl 7 (by decide) (hT (Cond.fieldLink RX5 35 "DesertWire$Reader" "third" "I") mw_175) (fun _ h9 => h9) rfl (by decide +kernel) rfl rfl (Nat.le_of_ble_eq_true rfl) dX5_valueFor_18 ?_
  clear hP hD hS
  intro H locs hP hD hS
  replace hP : va_P D vwCl [(k, .inr (5, [.ref k0, .int c1, .int c2, .int c3, .int a0, .int a1, .int a2, .int a3])), (k0, .inl (cI, 50, .inl c0))] H := hP
  replace hD : va_D A [(k, .inr (5, [.ref k0, .int c1, .int c2, .int c3, .int a0, .int a1, .int a2, .int a3])), (k0, .inl (cI, 50, .inl c0))] := hD
  refine lv_aload_n hx hb dX5_valueFor_21 rfl (lv_at hl 0 rfl) ?_
  refine lv_iconst (v := 0) hx hb dX5_valueFor_22 (by decide) ?_
  refine va_put (D := D) (ci := 5) (v := .int 0) (ty := .int) (C := RX5) (T := TX5) (N := 8) hx hb hT giX5 tyX5 tyX5_ok nmX5 hown hK hP hD hS 0 rfl rfl 2 (by decide) (hT (Cond.fieldLink RX5 19 "DesertWire$Reader" "at" "I") mw_170) (fun _ h9 => h9) rfl (by decide +kernel) rfl rfl (Nat.le_of_ble_eq_true rfl) dX5_valueFor_23 ?_
  clear hP hD hS
  intro H locs hP hD hS
  replace hP : va_P D vwCl [(k, .inr (5, [.ref k0, .int c1, .int 0, .int c3, .int a0, .int a1, .int a2, .int a3])), (k0, .inl (cI, 50, .inl c0))] H := hP
  replace hD : va_D A [(k, .inr (5, [.ref k0, .int c1, .int 0, .int c3, .int a0, .int a1, .int a2, .int a3])), (k0, .inl (cI, 50, .inl c0))] := hD
  refine lv_aload_n hx hb dX5_valueFor_26 rfl (lv_at hl 0 rfl) ?_
  refine lv_iconst (v := 0) hx hb dX5_valueFor_27 (by decide) ?_
  refine va_put (D := D) (ci := 5) (v := .int 0) (ty := .boolean) (C := RX5) (T := TX5) (N := 8) hx hb hT giX5 tyX5 tyX5_ok nmX5 hown hK hP hD hS 0 rfl rfl 3 (by decide) (hT (Cond.fieldLink RX5 22 "DesertWire$Reader" "bad" "Z") mw_171) (fun _ h9 => h9) rfl (by decide +kernel) rfl rfl (Nat.le_of_ble_eq_true rfl) dX5_valueFor_28 ?_
  clear hP hD hS
  intro H locs hP hD hS
  replace hP : va_P D vwCl [(k, .inr (5, [.ref k0, .int c1, .int 0, .int 0, .int a0, .int a1, .int a2, .int a3])), (k0, .inl (cI, 50, .inl c0))] H := hP
  replace hD : va_D A [(k, .inr (5, [.ref k0, .int c1, .int 0, .int 0, .int a0, .int a1, .int a2, .int a3])), (k0, .inl (cI, 50, .inl c0))] := hD
  refine lv_aload_n hx hb dX5_valueFor_31 rfl (lv_at hl 0 rfl) ?_
  refine lv_iconst (v := 0) hx hb dX5_valueFor_32 (by decide) ?_
  refine kJi (wr := []) (va_runV (As := [.int 0]) (rest := []) ⟨hx, hb, hml, hown, hT⟩ (c_X5_eitherG0 l D cI aK aV k k0 H.size c1 0 0 a0 a1 a2 a3 c0 0 (by first | omega | (simp only [zl_0] <;> omega) | decide | assumption | rfl)) (cwV 1 hT (gV_in mw_460 mw_457 mw_459 mw_p1_5 mw_6) rfl rfl rfl (by decide +kernel) ⟨Nat.le_of_ble_eq_true rfl, Nat.le_of_ble_eq_true rfl⟩) (kRecvX (q0 := 0) (ci := 5) hK hP hD hN hXS hS hA rfl rfl [0, 1] rfl (by decide)) rfl rfl hl.1 rfl (lv_room (Nat.le_of_ble_eq_true rfl)) dX5_valueFor_33 ⟨Nat.le_of_ble_eq_true rfl, Nat.le_of_ble_eq_true rfl⟩) hP hD hS hA [0, 1] [] rfl rfl (by decide) (by decide) ?_
  clear hP hD hS
  intro r_1 u_5 H locs w_2 hP hD hS
  obtain ⟨sc2_3, sc3_4⟩ := u_5
  replace hP : va_P D vwCl [(k, .inr (5, [.ref k0, .int c1, .int sc2_3, .int sc3_4, .int a0, .int a1, .int a2, .int a3])), (k0, .inl (cI, 50, .inl c0))] H := hP
  replace hD : va_D A [(k, .inr (5, [.ref k0, .int c1, .int sc2_3, .int sc3_4, .int a0, .int a1, .int a2, .int a3])), (k0, .inl (cI, 50, .inl c0))] := hD
  have lo_sc2_3 := k_lo sc2_3
  have hi_sc2_3 := k_hi sc2_3
  have lo_r_1 := k_lo r_1
  have hi_r_1 := k_hi r_1
  refine lv_istore (lv' := [(5, .int r_1), (0, .ref k), (1, .int a0), (2, .int a1), (3, .int a2), (4, .int a3)]) hx hb dX5_valueFor_36 hl (by decide) rfl ?_
  clear hl
  intro ls hl
  refine lv_aload_n hx hb dX5_valueFor_38 rfl (lv_at hl 1 rfl) ?_
  refine va_get (D := D) (ci := 5) (v := .int sc2_3) (C := RX5) (T := TX5) (N := 8) hx hb hT giX5 hown hK hP 0 rfl rfl 2 (by decide) (hT (Cond.fieldLink RX5 19 "DesertWire$Reader" "at" "I") mw_170) (fun _ h9 => h9) rfl dX5_valueFor_39 ?_
  refine lv_aload_n hx hb dX5_valueFor_42 rfl (lv_at hl 1 rfl) ?_
  refine va_get (D := D) (ci := 5) (v := .int c1) (C := RX5) (T := TX5) (N := 8) hx hb hT giX5 hown hK hP 0 rfl rfl 1 (by decide) (hT (Cond.fieldLink RX5 15 "DesertWire$Reader" "length" "I") mw_169) (fun _ h9 => h9) rfl dX5_valueFor_43 ?_
  refine b_icmp_ge hx hb rfl rfl (tgt := 54) dX5_valueFor_46 (by decide) (fun c_6 => ?_) (fun c_6 => ?_)
  · refine lv_iload hx hb dX5_valueFor_54 (lv_at hl 0 rfl) ?_
    exact hRet (sc2_3, sc3_4, a0, a1, a2, a3) [0, 1] trivial hP hD (by decide) rfl hS rfl dX5_valueFor_56
  · refine lv_aload_n hx hb dX5_valueFor_49 rfl (lv_at hl 1 rfl) ?_
    refine lv_iconst (v := 1) hx hb dX5_valueFor_50 (by decide) ?_
    refine va_put (D := D) (ci := 5) (v := .int 1) (ty := .boolean) (C := RX5) (T := TX5) (N := 8) hx hb hT giX5 tyX5 tyX5_ok nmX5 hown hK hP hD hS 0 rfl rfl 3 (by decide) (hT (Cond.fieldLink RX5 22 "DesertWire$Reader" "bad" "Z") mw_171) (fun _ h9 => h9) rfl (by decide +kernel) rfl rfl (Nat.le_of_ble_eq_true rfl) dX5_valueFor_51 ?_
    clear hP hD hS
    intro H locs hP hD hS
    replace hP : va_P D vwCl [(k, .inr (5, [.ref k0, .int c1, .int sc2_3, .int 1, .int a0, .int a1, .int a2, .int a3])), (k0, .inl (cI, 50, .inl c0))] H := hP
    replace hD : va_D A [(k, .inr (5, [.ref k0, .int c1, .int sc2_3, .int 1, .int a0, .int a1, .int a2, .int a3])), (k0, .inl (cI, 50, .inl c0))] := hD
    refine lv_iload hx hb dX5_valueFor_54 (lv_at hl 0 rfl) ?_
    exact hRet (sc2_3, 1, a0, a1, a2, a3) [0, 1] trivial hP hD (by decide) rfl hS rfl dX5_valueFor_56
theorem dX5_fault_0 : decode cX5_fault 0 = .ok (.aload_n 0, 1) := by decide +kernel
theorem dX5_fault_1 : decode cX5_fault 1 = .ok (.getfield 22, 3) := by decide +kernel
theorem dX5_fault_4 : decode cX5_fault 4 = .ok (.ifCond .eq 10, 3) := by decide +kernel
theorem dX5_fault_7 : decode cX5_fault 7 = .ok (.aload_n 0, 1) := by decide +kernel
theorem dX5_fault_8 : decode cX5_fault 8 = .ok (.getfield 19, 3) := by decide +kernel
theorem dX5_fault_11 : decode cX5_fault 11 = .ok (.goto 4, 3) := by decide +kernel
theorem dX5_fault_14 : decode cX5_fault 14 = .ok (.iconst (-1), 1) := by decide +kernel
theorem dX5_fault_15 : decode cX5_fault 15 = .ok (.ireturn, 1) := by decide +kernel
set_option maxHeartbeats 4000000 in
set_option maxRecDepth 100000 in
theorem c_X5_faultG (l : Launch) (D : va_G) (cI : ClassId) (aK aV : Nat → Nat) (k k0 : Nat) (sz : Nat) (c1 : Int32) (c2 : Int32) (c3 : Int32) (c4 : Int32) (c5 : Int32) (c6 : Int32) (c7 : Int32) : Met l yX5_fault (gW yX5_fault cX5_fault 1 (some .int)) ({ frames := 0, cells := 0, slots := 0, locals := 0 } : Room) (kPreX D cI aK aV [.ref k] [(k, .inr (5, [.ref k0, .int c1, .int c2, .int c3, .int c4, .int c5, .int c6, .int c7]))] sz) (va_Qi (fun (r : Int32) (u : Unit) => True) (fun u t => kWd D cI (va_A [(k, .inr (5, [.ref k0, .int c1, .int c2, .int c3, .int c4, .int c5, .int c6, .int c7]))] sz) [(k, .inr (5, [.ref k0, .int c1, .int c2, .int c3, .int c4, .int c5, .int c6, .int c7]))] t) (va_A [(k, .inr (5, [.ref k0, .int c1, .int c2, .int c3, .int c4, .int c5, .int c6, .int c7]))] sz)) 0 0 (va_A [(k, .inr (5, [.ref k0, .int c1, .int c2, .int c3, .int c4, .int c5, .int c6, .int c7]))] sz) := by
  refine kMetIX (own := RX5) (by decide) rfl (Nat.le_of_ble_eq_true rfl) ?_
  intro p e s m args below meth c hx hb hT hown hname hml A Q hK hP hD hS hA hN hXS hRet ls hl
  have hl : lv_has ls 1 [(0, .ref k)] := hl
  have lo_c2 := k_lo c2
  have hi_c2 := k_hi c2
  have lo_c3 := k_lo c3
  have hi_c3 := k_hi c3
  refine lv_aload_n hx hb dX5_fault_0 rfl (lv_at hl 0 rfl) ?_
  refine va_get (D := D) (ci := 5) (v := .int c3) (C := RX5) (T := TX5) (N := 8) hx hb hT giX5 hown hK hP 0 rfl rfl 3 (by decide) (hT (Cond.fieldLink RX5 22 "DesertWire$Reader" "bad" "Z") mw_171) (fun _ h9 => h9) rfl dX5_fault_1 ?_
  refine b_if_eq hx hb rfl (tgt := 14) dX5_fault_4 (by decide) (fun c_1 => ?_) (fun c_1 => ?_)
  · refine lv_iconst (v := (-1)) hx hb dX5_fault_14 (by decide) ?_
    exact hRet () [0] trivial hP hD (by decide) rfl hS rfl dX5_fault_15
  · refine lv_aload_n hx hb dX5_fault_7 rfl (lv_at hl 0 rfl) ?_
    refine va_get (D := D) (ci := 5) (v := .int c2) (C := RX5) (T := TX5) (N := 8) hx hb hT giX5 hown hK hP 0 rfl rfl 2 (by decide) (hT (Cond.fieldLink RX5 19 "DesertWire$Reader" "at" "I") mw_170) (fun _ h9 => h9) rfl dX5_fault_8 ?_
    refine lv_goto (tgt := 15) hx hb dX5_fault_11 (by decide) ?_
    exact hRet () [0] trivial hP hD (by decide) rfl hS rfl dX5_fault_15
