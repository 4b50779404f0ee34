
set_option maxHeartbeats 4000000 in
set_option maxRecDepth 100000 in
theorem c_X5_productG1 (l : Launch) (D : va_G) (cI : ClassId) (aK aV : Nat → Nat) (k k0 : Nat) (sz : Nat) (c1 : Int32) (c2 : Int32) (c3 : Int32) (c4 : Int32) (c5 : Int32) (c6 : Int32) (c7 : Int32) (c0 : Nat → Int32) (a0 : Int32) (pre0 : a0 = 1) : Met l yX5_product (gW yX5_product cX5_product 6 (some .int)) ({ frames := 27, cells := 0, slots := 0, locals := 654 } : Room) (kPreX D cI aK aV [.ref k, .int 1] [(k, .inr (5, [.ref k0, .int c1, .int c2, .int c3, .int c4, .int c5, .int c6, .int c7])), (k0, .inl (cI, 50, .inl c0))] sz) (va_Qi (fun (r : Int32) (u : Int32 × Int32) => True) (fun u t => kWd D cI (va_A [(k, .inr (5, [.ref k0, .int c1, .int c2, .int c3, .int c4, .int c5, .int c6, .int c7])), (k0, .inl (cI, 50, .inl c0))] sz) [(k, .inr (5, [.ref k0, .int c1, .int u.1, .int u.2, .int c4, .int c5, .int c6, .int c7])), (k0, .inl (cI, 50, .inl c0))] t) (va_A [(k, .inr (5, [.ref k0, .int c1, .int c2, .int c3, .int c4, .int c5, .int c6, .int c7])), (k0, .inl (cI, 50, .inl c0))] sz)) 0 0 (va_A [(k, .inr (5, [.ref k0, .int c1, .int c2, .int c3, .int c4, .int c5, .int c6, .int c7])), (k0, .inl (cI, 50, .inl c0))] sz) := by
  refine kMetIX (own := RX5) (by decide) rfl (Nat.le_of_ble_eq_true rfl) ?_
  intro p e s m args below meth c hx hb hT hown hname hml A Q hK hP hD hS hA hN hXS hRet ls hl
  subst pre0
  have hl : lv_has ls 6 [(0, .ref k), (1, .int 1)] := hl
  refine lv_aload_n hx hb dX5_product_0 rfl (lv_at hl 0 rfl) ?_
  refine lv_iload_n hx hb dX5_product_1 rfl (lv_at hl 1 rfl) ?_
  refine kJi (wr := []) (va_runV (As := [.int 1]) (rest := []) ⟨hx, hb, hml, hown, hT⟩ (c_X5_partG1 l D cI aK aV k k0 s.heap.size c1 c2 c3 c4 c5 c6 c7 c0 1 (by first | omega | (simp only [zl_1] <;> omega) | decide | assumption | rfl)) (cwV 1 hT (gV_in mw_480 mw_477 mw_479 mw_p1_10 mw_6) rfl rfl rfl (by decide +kernel) ⟨Nat.le_of_ble_eq_true rfl, Nat.le_of_ble_eq_true rfl⟩) (kRecvX (q0 := 0) (ci := 5) hK hP hD hN hXS hS hA rfl rfl [0, 1] rfl (by decide)) rfl rfl hl.1 rfl (lv_room (Nat.le_of_ble_eq_true rfl)) dX5_product_2 ⟨Nat.le_of_ble_eq_true rfl, Nat.le_of_ble_eq_true rfl⟩) hP hD hS hA [0, 1] [] rfl rfl (by decide) (by decide) ?_
  clear hP hD hS
  intro r_1 u_5 H locs w_2 hP hD hS
  obtain ⟨sc2_3, sc3_4⟩ := u_5
  replace hP : va_P D vwCl [(k, .inr (5, [.ref k0, .int c1, .int sc2_3, .int sc3_4, .int c4, .int c5, .int c6, .int c7])), (k0, .inl (cI, 50, .inl c0))] H := hP
  replace hD : va_D A [(k, .inr (5, [.ref k0, .int c1, .int sc2_3, .int sc3_4, .int c4, .int c5, .int c6, .int c7])), (k0, .inl (cI, 50, .inl c0))] := hD
  have lo_r_1 := k_lo r_1
  have hi_r_1 := k_hi r_1
  refine lv_istore_n (lv' := [(2, .int r_1), (0, .ref k), (1, .int 1)]) hx hb dX5_product_5 rfl hl (by decide) rfl ?_
  clear hl
  intro ls hl
  refine lv_iconst (v := 0) hx hb dX5_product_6 (by decide) ?_
  refine lv_istore_n (lv' := [(3, .int 0), (2, .int r_1), (0, .ref k), (1, .int 1)]) hx hb dX5_product_7 rfl hl (by decide) rfl ?_
  clear hl
  intro ls hl
  have hloop_8 : ∀ (fu_ : Nat) (l8_2 : Int32) (l8_3 : Int32) (f8_k2 : Int32) (f8_k3 : Int32), 0 ≤ l8_3.toInt → (50 - l8_3.toInt).toNat < fu_ → ∀ (ls : Array Slot) (H : Heap) (locs : List Loc), lv_has ls 6 [(3, .int l8_3), (2, .int l8_2), (0, .ref k), (1, .int 1)] → va_P D vwCl [(k, .inr (5, [.ref k0, .int c1, .int f8_k2, .int f8_k3, .int c4, .int c5, .int c6, .int c7])), (k0, .inl (cI, 50, .inl c0))] H → va_D A [(k, .inr (5, [.ref k0, .int c1, .int f8_k2, .int f8_k3, .int c4, .int c5, .int c6, .int c7])), (k0, .inl (cI, 50, .inl c0))] → va_S A s.heap H locs → W p l e ({ frames := 27, cells := 0, slots := 0, locals := 654 } : Room) s m args below meth c H locs 0 0 Q (F0 m 8 ls []) := by
    intro fu_; induction fu_ with
    | zero => intro l8_2 l8_3 f8_k2 f8_k3 i8_0 hm; exact absurd hm (by omega)
    | succ fu_ ih8 =>
        intro l8_2 l8_3 f8_k2 f8_k3 i8_0 hm ls H locs hl hP hD hS
        have lo_l8_2 := k_lo l8_2
        have hi_l8_2 := k_hi l8_2
        have lo_l8_3 := k_lo l8_3
        have hi_l8_3 := k_hi l8_3
        have lo_f8_k2 := k_lo f8_k2
        have hi_f8_k2 := k_hi f8_k2
        have lo_f8_k3 := k_lo f8_k3
        have hi_f8_k3 := k_hi f8_k3
        refine lv_iload_n hx hb dX5_product_8 rfl (lv_at hl 0 rfl) ?_
        refine lv_bipush (v := 50) hx hb dX5_product_9 (by decide) ?_
        refine b_icmp_ge hx hb rfl zl_50 (tgt := 89) dX5_product_11 (by decide) (fun c_6 => ?_) (fun c_6 => ?_)
        · refine lv_iload_n hx hb dX5_product_89 rfl (lv_at hl 1 rfl) ?_
          exact hRet (f8_k2, f8_k3) [0, 1] trivial hP hD (by decide) rfl hS rfl dX5_product_90
        · refine lv_aload_n hx hb dX5_product_14 rfl (lv_at hl 2 rfl) ?_
          refine kJi (wr := []) (va_runV (As := []) (rest := []) ⟨hx, hb, hml, hown, hT⟩ (c_X5_nextG l D cI aK aV k k0 H.size c1 f8_k2 f8_k3 c4 c5 c6 c7 c0) (cwV 0 hT (gV_in mw_484 mw_481 mw_483 mw_p1_11 mw_6) rfl rfl rfl (by decide +kernel) ⟨Nat.le_of_ble_eq_true rfl, Nat.le_of_ble_eq_true rfl⟩) (kRecvX (q0 := 0) (ci := 5) hK hP hD hN hXS hS hA rfl rfl [0, 1] rfl (by decide)) rfl rfl hl.1 rfl (lv_room (Nat.le_of_ble_eq_true rfl)) dX5_product_15 ⟨Nat.le_of_ble_eq_true rfl, Nat.le_of_ble_eq_true rfl⟩) hP hD hS hA [0, 1] [] rfl rfl (by decide) (by decide) ?_
          clear hP hD hS
          intro r_7 u_9 H locs w_8 hP hD hS
          replace hP : va_P D vwCl [(k, .inr (5, [.ref k0, .int c1, .int f8_k2, .int f8_k3, .int c4, .int c5, .int c6, .int c7])), (k0, .inl (cI, 50, .inl c0))] H := hP
          replace hD : va_D A [(k, .inr (5, [.ref k0, .int c1, .int f8_k2, .int f8_k3, .int c4, .int c5, .int c6, .int c7])), (k0, .inl (cI, 50, .inl c0))] := hD
          have lo_r_7 := k_lo r_7
          have hi_r_7 := k_hi r_7
          refine lv_bipush (v := 42) hx hb dX5_product_18 (by decide) ?_
          refine b_icmp_eq hx hb rfl zl_42 (tgt := 32) dX5_product_20 (by decide) (fun c_10 => ?_) (fun c_10 => ?_)
          · refine lv_aload_n hx hb dX5_product_32 rfl (lv_at hl 2 rfl) ?_
            refine kJi (wr := []) (va_runV (As := []) (rest := []) ⟨hx, hb, hml, hown, hT⟩ (c_X5_nextG l D cI aK aV k k0 H.size c1 f8_k2 f8_k3 c4 c5 c6 c7 c0) (cwV 0 hT (gV_in mw_484 mw_481 mw_483 mw_p1_11 mw_6) rfl rfl rfl (by decide +kernel) ⟨Nat.le_of_ble_eq_true rfl, Nat.le_of_ble_eq_true rfl⟩) (kRecvX (q0 := 0) (ci := 5) hK hP hD hN hXS hS hA rfl rfl [0, 1] rfl (by decide)) rfl rfl hl.1 rfl (lv_room (Nat.le_of_ble_eq_true rfl)) dX5_product_33 ⟨Nat.le_of_ble_eq_true rfl, Nat.le_of_ble_eq_true rfl⟩) hP hD hS hA [0, 1] [] rfl rfl (by decide) (by decide) ?_
            clear hP hD hS
            intro r_11 u_13 H locs w_12 hP hD hS
            replace hP : va_P D vwCl [(k, .inr (5, [.ref k0, .int c1, .int f8_k2, .int f8_k3, .int c4, .int c5, .int c6, .int c7])), (k0, .inl (cI, 50, .inl c0))] H := hP
            replace hD : va_D A [(k, .inr (5, [.ref k0, .int c1, .int f8_k2, .int f8_k3, .int c4, .int c5, .int c6, .int c7])), (k0, .inl (cI, 50, .inl c0))] := hD
            have lo_r_11 := k_lo r_11
            have hi_r_11 := k_hi r_11
            refine lv_istore (lv' := [(4, .int r_11), (3, .int l8_3), (2, .int l8_2), (0, .ref k), (1, .int 1)]) hx hb dX5_product_36 hl (by decide) rfl ?_
            clear hl
            intro ls hl
            refine lv_aload_n hx hb dX5_product_38 rfl (lv_at hl 3 rfl) ?_
            refine lv_dup hx hb dX5_product_39 rfl ?_
            refine va_get (D := D) (ci := 5) (v := .int f8_k2) (C := RX5) (T := TX5) (N := 8) hx hb hT giX5 hown hK hP 0 rfl rfl 2 (by decide) (hT (Cond.fieldLink RX5 19 "DesertWire$Reader" "at" "I") mw_170) (fun _ h9 => h9) rfl dX5_product_40 ?_
            refine lv_iconst (v := 1) hx hb dX5_product_43 (by decide) ?_
            refine lv_iadd hx hb dX5_product_44 ?_
            refine lv_topi (fun v_14 ev_14 => ?_)
            have lo_v_14 := k_lo v_14
            have hi_v_14 := k_hi v_14
            refine va_put (D := D) (ci := 5) (v := .int v_14) (ty := .int) (C := RX5) (T := TX5) (N := 8) hx hb hT giX5 tyX5 tyX5_ok nmX5 hown hK hP hD hS 0 rfl rfl 2 (by decide) (hT (Cond.fieldLink RX5 19 "DesertWire$Reader" "at" "I") mw_170) (fun _ h9 => h9) rfl (by decide +kernel) rfl rfl (Nat.le_of_ble_eq_true rfl) dX5_product_45 ?_
            clear hP hD hS
            intro H locs hP hD hS
            replace hP : va_P D vwCl [(k, .inr (5, [.ref k0, .int c1, .int v_14, .int f8_k3, .int c4, .int c5, .int c6, .int c7])), (k0, .inl (cI, 50, .inl c0))] H := hP
            replace hD : va_D A [(k, .inr (5, [.ref k0, .int c1, .int v_14, .int f8_k3, .int c4, .int c5, .int c6, .int c7])), (k0, .inl (cI, 50, .inl c0))] := hD
            refine lv_aload_n hx hb dX5_product_48 rfl (lv_at hl 3 rfl) ?_
            refine lv_iload_n hx hb dX5_product_49 rfl (lv_at hl 4 rfl) ?_
            refine kJi (wr := []) (va_runV (As := [.int 1]) (rest := []) ⟨hx, hb, hml, hown, hT⟩ (c_X5_partG1 l D cI aK aV k k0 H.size c1 v_14 f8_k3 c4 c5 c6 c7 c0 1 (by first | omega | (simp only [zl_1] <;> omega) | decide | assumption | rfl)) (cwV 1 hT (gV_in mw_480 mw_477 mw_479 mw_p1_10 mw_6) rfl rfl rfl (by decide +kernel) ⟨Nat.le_of_ble_eq_true rfl, Nat.le_of_ble_eq_true rfl⟩) (kRecvX (q0 := 0) (ci := 5) hK hP hD hN hXS hS hA rfl rfl [0, 1] rfl (by decide)) rfl rfl hl.1 rfl (lv_room (Nat.le_of_ble_eq_true rfl)) dX5_product_50 ⟨Nat.le_of_ble_eq_true rfl, Nat.le_of_ble_eq_true rfl⟩) hP hD hS hA [0, 1] [] rfl rfl (by decide) (by decide) ?_
            clear hP hD hS
            intro r_15 u_19 H locs w_16 hP hD hS
            obtain ⟨sc2_17, sc3_18⟩ := u_19
            replace hP : va_P D vwCl [(k, .inr (5, [.ref k0, .int c1, .int sc2_17, .int sc3_18, .int c4, .int c5, .int c6, .int c7])), (k0, .inl (cI, 50, .inl c0))] H := hP
            replace hD : va_D A [(k, .inr (5, [.ref k0, .int c1, .int sc2_17, .int sc3_18, .int c4, .int c5, .int c6, .int c7])), (k0, .inl (cI, 50, .inl c0))] := hD
            have lo_r_15 := k_lo r_15
            have hi_r_15 := k_hi r_15
            refine lv_istore (lv' := [(5, .int r_15), (4, .int r_11), (3, .int l8_3), (2, .int l8_2), (0, .ref k), (1, .int 1)]) hx hb dX5_product_53 hl (by decide) rfl ?_
            clear hl
            intro ls hl
            refine lv_iload hx hb dX5_product_55 (lv_at hl 1 rfl) ?_
            refine lv_bipush (v := 42) hx hb dX5_product_57 (by decide) ?_
            refine b_icmp_ne hx hb rfl zl_42 (tgt := 69) dX5_product_59 (by decide) (fun c_20 => ?_) (fun c_20 => ?_)
            · refine lv_iload hx hb dX5_product_69 (lv_at hl 0 rfl) ?_
              refine b_if_ne hx hb rfl (tgt := 78) dX5_product_71 (by decide) (fun c_21 => ?_) (fun c_21 => ?_)
              · refine lv_iload_n hx hb dX5_product_78 rfl (lv_at hl 3 rfl) ?_
                refine lv_iload hx hb dX5_product_79 (lv_at hl 0 rfl) ?_
                refine lv_irem hx hb dX5_product_81 (k_ne0 (by omega)) ?_
                refine lv_topi (fun v_22 ev_22 => ?_)
                have lo_v_22 := k_lo v_22
                have hi_v_22 := k_hi v_22
                refine lv_istore_n (lv' := [(2, .int v_22), (5, .int r_15), (4, .int r_11), (3, .int l8_3), (0, .ref k), (1, .int 1)]) hx hb dX5_product_82 rfl hl (by decide) rfl ?_
                clear hl
                intro ls hl
                obtain ⟨v_23, ev_23⟩ : ∃ y : Int32, y = l8_3 + 1 := ⟨_, rfl⟩
                have tv_23 : v_23.toInt = l8_3.toInt + 1 := by rw [ev_23]; exact k_addv rfl zl_1 (by omega) (by omega)
                refine lv_iinc (v := v_23) (lv' := [(3, .int v_23), (2, .int v_22), (5, .int r_15), (4, .int r_11), (0, .ref k), (1, .int 1)]) hx hb dX5_product_83 hl (k := 3) rfl (by rw [ev_23]; rfl) (by decide) rfl ?_
                clear hl
                intro ls hl
                refine lv_goto (tgt := 8) hx hb dX5_product_86 (by decide) ?_
                exact ih8 v_22 v_23 sc2_17 sc3_18 (by first | omega | decide | assumption | rfl) (by omega) ls _ _ (lv_sub hl [0, 1, 4, 5] rfl) (hP.sub [0, 1] rfl) (hD.sub [0, 1] (by decide) rfl) hS
              · refine lv_iconst (v := 0) hx hb dX5_product_74 (by decide) ?_
                refine lv_goto (tgt := 82) hx hb dX5_product_75 (by decide) ?_
                refine lv_istore_n (lv' := [(2, .int 0), (5, .int r_15), (4, .int r_11), (3, .int l8_3), (0, .ref k), (1, .int 1)]) hx hb dX5_product_82 rfl hl (by decide) rfl ?_
                clear hl
                intro ls hl
                obtain ⟨v_24, ev_24⟩ : ∃ y : Int32, y = l8_3 + 1 := ⟨_, rfl⟩
                have tv_24 : v_24.toInt = l8_3.toInt + 1 := by rw [ev_24]; exact k_addv rfl zl_1 (by omega) (by omega)
                refine lv_iinc (v := v_24) (lv' := [(3, .int v_24), (2, .int 0), (5, .int r_15), (4, .int r_11), (0, .ref k), (1, .int 1)]) hx hb dX5_product_83 hl (k := 3) rfl (by rw [ev_24]; rfl) (by decide) rfl ?_
                clear hl
                intro ls hl
                refine lv_goto (tgt := 8) hx hb dX5_product_86 (by decide) ?_
                exact ih8 0 v_24 sc2_17 sc3_18 (by first | omega | (simp only [zl_0] <;> omega) | decide | assumption | rfl) (by omega) ls _ _ (lv_sub hl [0, 1, 4, 5] rfl) (hP.sub [0, 1] rfl) (hD.sub [0, 1] (by decide) rfl) hS
            · refine lv_iload_n hx hb dX5_product_62 rfl (lv_at hl 3 rfl) ?_
              refine lv_iload hx hb dX5_product_63 (lv_at hl 0 rfl) ?_
              refine lv_imul hx hb dX5_product_65 ?_
              refine lv_topi (fun v_25 ev_25 => ?_)
              have lo_v_25 := k_lo v_25
              have hi_v_25 := k_hi v_25
              refine lv_goto (tgt := 82) hx hb dX5_product_66 (by decide) ?_
              refine lv_istore_n (lv' := [(2, .int v_25), (5, .int r_15), (4, .int r_11), (3, .int l8_3), (0, .ref k), (1, .int 1)]) hx hb dX5_product_82 rfl hl (by decide) rfl ?_
              clear hl
              intro ls hl
              obtain ⟨v_26, ev_26⟩ : ∃ y : Int32, y = l8_3 + 1 := ⟨_, rfl⟩
              have tv_26 : v_26.toInt = l8_3.toInt + 1 := by rw [ev_26]; exact k_addv rfl zl_1 (by omega) (by omega)
              refine lv_iinc (v := v_26) (lv' := [(3, .int v_26), (2, .int v_25), (5, .int r_15), (4, .int r_11), (0, .ref k), (1, .int 1)]) hx hb dX5_product_83 hl (k := 3) rfl (by rw [ev_26]; rfl) (by decide) rfl ?_
              clear hl
              intro ls hl
              refine lv_goto (tgt := 8) hx hb dX5_product_86 (by decide) ?_
              exact ih8 v_25 v_26 sc2_17 sc3_18 (by first | omega | decide | assumption | rfl) (by omega) ls _ _ (lv_sub hl [0, 1, 4, 5] rfl) (hP.sub [0, 1] rfl) (hD.sub [0, 1] (by decide) rfl) hS
          · refine lv_aload_n hx hb dX5_product_23 rfl (lv_at hl 2 rfl) ?_
            refine kJi (wr := []) (va_runV (As := []) (rest := []) ⟨hx, hb, hml, hown, hT⟩ (c_X5_nextG l D cI aK aV k k0 H.size c1 f8_k2 f8_k3 c4 c5 c6 c7 c0) (cwV 0 hT (gV_in mw_484 mw_481 mw_483 mw_p1_11 mw_6) rfl rfl rfl (by decide +kernel) ⟨Nat.le_of_ble_eq_true rfl, Nat.le_of_ble_eq_true rfl⟩) (kRecvX (q0 := 0) (ci := 5) hK hP hD hN hXS hS hA rfl rfl [0, 1] rfl (by decide)) rfl rfl hl.1 rfl (lv_room (Nat.le_of_ble_eq_true rfl)) dX5_product_24 ⟨Nat.le_of_ble_eq_true rfl, Nat.le_of_ble_eq_true rfl⟩) hP hD hS hA [0, 1] [] rfl rfl (by decide) (by decide) ?_
            clear hP hD hS
            intro r_27 u_29 H locs w_28 hP hD hS
            replace hP : va_P D vwCl [(k, .inr (5, [.ref k0, .int c1, .int f8_k2, .int f8_k3, .int c4, .int c5, .int c6, .int c7])), (k0, .inl (cI, 50, .inl c0))] H := hP
            replace hD : va_D A [(k, .inr (5, [.ref k0, .int c1, .int f8_k2, .int f8_k3, .int c4, .int c5, .int c6, .int c7])), (k0, .inl (cI, 50, .inl c0))] := hD
            have lo_r_27 := k_lo r_27
            have hi_r_27 := k_hi r_27
            refine lv_bipush (v := 37) hx hb dX5_product_27 (by decide) ?_
            refine b_icmp_ne hx hb rfl zl_37 (tgt := 89) dX5_product_29 (by decide) (fun c_30 => ?_) (fun c_30 => ?_)
            · refine lv_iload_n hx hb dX5_product_89 rfl (lv_at hl 1 rfl) ?_
              exact hRet (f8_k2, f8_k3) [0, 1] trivial hP hD (by decide) rfl hS rfl dX5_product_90
            · refine lv_aload_n hx hb dX5_product_32 rfl (lv_at hl 2 rfl) ?_
              refine kJi (wr := []) (va_runV (As := []) (rest := []) ⟨hx, hb, hml, hown, hT⟩ (c_X5_nextG l D cI aK aV k k0 H.size c1 f8_k2 f8_k3 c4 c5 c6 c7 c0) (cwV 0 hT (gV_in mw_484 mw_481 mw_483 mw_p1_11 mw_6) rfl rfl rfl (by decide +kernel) ⟨Nat.le_of_ble_eq_true rfl, Nat.le_of_ble_eq_true rfl⟩) (kRecvX (q0 := 0) (ci := 5) hK hP hD hN hXS hS hA rfl rfl [0, 1] rfl (by decide)) rfl rfl hl.1 rfl (lv_room (Nat.le_of_ble_eq_true rfl)) dX5_product_33 ⟨Nat.le_of_ble_eq_true rfl, Nat.le_of_ble_eq_true rfl⟩) hP hD hS hA [0, 1] [] rfl rfl (by decide) (by decide) ?_
              clear hP hD hS
              intro r_31 u_33 H locs w_32 hP hD hS
              replace hP : va_P D vwCl [(k, .inr (5, [.ref k0, .int c1, .int f8_k2, .int f8_k3, .int c4, .int c5, .int c6, .int c7])), (k0, .inl (cI, 50, .inl c0))] H := hP
              replace hD : va_D A [(k, .inr (5, [.ref k0, .int c1, .int f8_k2, .int f8_k3, .int c4, .int c5, .int c6, .int c7])), (k0, .inl (cI, 50, .inl c0))] := hD
              have lo_r_31 := k_lo r_31
              have hi_r_31 := k_hi r_31
              refine lv_istore (lv' := [(4, .int r_31), (3, .int l8_3), (2, .int l8_2), (0, .ref k), (1, .int 1)]) hx hb dX5_product_36 hl (by decide) rfl ?_
              clear hl
              intro ls hl
              refine lv_aload_n hx hb dX5_product_38 rfl (lv_at hl 3 rfl) ?_
              refine lv_dup hx hb dX5_product_39 rfl ?_
              refine va_get (D := D) (ci := 5) (v := .int f8_k2) (C := RX5) (T := TX5) (N := 8) hx hb hT giX5 hown hK hP 0 rfl rfl 2 (by decide) (hT (Cond.fieldLink RX5 19 "DesertWire$Reader" "at" "I") mw_170) (fun _ h9 => h9) rfl dX5_product_40 ?_
              refine lv_iconst (v := 1) hx hb dX5_product_43 (by decide) ?_
              refine lv_iadd hx hb dX5_product_44 ?_
              refine lv_topi (fun v_34 ev_34 => ?_)
              have lo_v_34 := k_lo v_34
              have hi_v_34 := k_hi v_34
              refine va_put (D := D) (ci := 5) (v := .int v_34) (ty := .int) (C := RX5) (T := TX5) (N := 8) hx hb hT giX5 tyX5 tyX5_ok nmX5 hown hK hP hD hS 0 rfl rfl 2 (by decide) (hT (Cond.fieldLink RX5 19 "DesertWire$Reader" "at" "I") mw_170) (fun _ h9 => h9) rfl (by decide +kernel) rfl rfl (Nat.le_of_ble_eq_true rfl) dX5_product_45 ?_
              clear hP hD hS
              intro H locs hP hD hS
              replace hP : va_P D vwCl [(k, .inr (5, [.ref k0, .int c1, .int v_34, .int f8_k3, .int c4, .int c5, .int c6, .int c7])), (k0, .inl (cI, 50, .inl c0))] H := hP
              replace hD : va_D A [(k, .inr (5, [.ref k0, .int c1, .int v_34, .int f8_k3, .int c4, .int c5, .int c6, .int c7])), (k0, .inl (cI, 50, .inl c0))] := hD
              refine lv_aload_n hx hb dX5_product_48 rfl (lv_at hl 3 rfl) ?_
              refine lv_iload_n hx hb dX5_product_49 rfl (lv_at hl 4 rfl) ?_
              refine kJi (wr := []) (va_runV (As := [.int 1]) (rest := []) ⟨hx, hb, hml, hown, hT⟩ (c_X5_partG1 l D cI aK aV k k0 H.size c1 v_34 f8_k3 c4 c5 c6 c7 c0 1 (by first | omega | (simp only [zl_1] <;> omega) | decide | assumption | rfl)) (cwV 1 hT (gV_in mw_480 mw_477 mw_479 mw_p1_10 mw_6) rfl rfl rfl (by decide +kernel) ⟨Nat.le_of_ble_eq_true rfl, Nat.le_of_ble_eq_true rfl⟩) (kRecvX (q0 := 0) (ci := 5) hK hP hD hN hXS hS hA rfl rfl [0, 1] rfl (by decide)) rfl rfl hl.1 rfl (lv_room (Nat.le_of_ble_eq_true rfl)) dX5_product_50 ⟨Nat.le_of_ble_eq_true rfl, Nat.le_of_ble_eq_true rfl⟩) hP hD hS hA [0, 1] [] rfl rfl (by decide) (by decide) ?_
              clear hP hD hS
              intro r_35 u_39 H locs w_36 hP hD hS
              obtain ⟨sc2_37, sc3_38⟩ := u_39
              replace hP : va_P D vwCl [(k, .inr (5, [.ref k0, .int c1, .int sc2_37, .int sc3_38, .int c4, .int c5, .int c6, .int c7])), (k0, .inl (cI, 50, .inl c0))] H := hP
              replace hD : va_D A [(k, .inr (5, [.ref k0, .int c1, .int sc2_37, .int sc3_38, .int c4, .int c5, .int c6, .int c7])), (k0, .inl (cI, 50, .inl c0))] := hD
              have lo_r_35 := k_lo r_35
              have hi_r_35 := k_hi r_35
              refine lv_istore (lv' := [(5, .int r_35), (4, .int r_31), (3, .int l8_3), (2, .int l8_2), (0, .ref k), (1, .int 1)]) hx hb dX5_product_53 hl (by decide) rfl ?_
              clear hl
              intro ls hl
              refine lv_iload hx hb dX5_product_55 (lv_at hl 1 rfl) ?_
              refine lv_bipush (v := 42) hx hb dX5_product_57 (by decide) ?_
              refine b_icmp_ne hx hb rfl zl_42 (tgt := 69) dX5_product_59 (by decide) (fun c_40 => ?_) (fun c_40 => ?_)
              · refine lv_iload hx hb dX5_product_69 (lv_at hl 0 rfl) ?_
                refine b_if_ne hx hb rfl (tgt := 78) dX5_product_71 (by decide) (fun c_41 => ?_) (fun c_41 => ?_)
                · refine lv_iload_n hx hb dX5_product_78 rfl (lv_at hl 3 rfl) ?_
                  refine lv_iload hx hb dX5_product_79 (lv_at hl 0 rfl) ?_
                  refine lv_irem hx hb dX5_product_81 (k_ne0 (by omega)) ?_
                  refine lv_topi (fun v_42 ev_42 => ?_)
                  have lo_v_42 := k_lo v_42
                  have hi_v_42 := k_hi v_42
                  refine lv_istore_n (lv' := [(2, .int v_42), (5, .int r_35), (4, .int r_31), (3, .int l8_3), (0, .ref k), (1, .int 1)]) hx hb dX5_product_82 rfl hl (by decide) rfl ?_
                  clear hl
                  intro ls hl
                  obtain ⟨v_43, ev_43⟩ : ∃ y : Int32, y = l8_3 + 1 := ⟨_, rfl⟩
                  have tv_43 : v_43.toInt = l8_3.toInt + 1 := by rw [ev_43]; exact k_addv rfl zl_1 (by omega) (by omega)
                  refine lv_iinc (v := v_43) (lv' := [(3, .int v_43), (2, .int v_42), (5, .int r_35), (4, .int r_31), (0, .ref k), (1, .int 1)]) hx hb dX5_product_83 hl (k := 3) rfl (by rw [ev_43]; rfl) (by decide) rfl ?_
                  clear hl
                  intro ls hl
                  refine lv_goto (tgt := 8) hx hb dX5_product_86 (by decide) ?_
                  exact ih8 v_42 v_43 sc2_37 sc3_38 (by first | omega | decide | assumption | rfl) (by omega) ls _ _ (lv_sub hl [0, 1, 4, 5] rfl) (hP.sub [0, 1] rfl) (hD.sub [0, 1] (by decide) rfl) hS
                · refine lv_iconst (v := 0) hx hb dX5_product_74 (by decide) ?_
                  refine lv_goto (tgt := 82) hx hb dX5_product_75 (by decide) ?_
                  refine lv_istore_n (lv' := [(2, .int 0), (5, .int r_35), (4, .int r_31), (3, .int l8_3), (0, .ref k), (1, .int 1)]) hx hb dX5_product_82 rfl hl (by decide) rfl ?_
                  clear hl
                  intro ls hl
                  obtain ⟨v_44, ev_44⟩ : ∃ y : Int32, y = l8_3 + 1 := ⟨_, rfl⟩
                  have tv_44 : v_44.toInt = l8_3.toInt + 1 := by rw [ev_44]; exact k_addv rfl zl_1 (by omega) (by omega)
                  refine lv_iinc (v := v_44) (lv' := [(3, .int v_44), (2, .int 0), (5, .int r_35), (4, .int r_31), (0, .ref k), (1, .int 1)]) hx hb dX5_product_83 hl (k := 3) rfl (by rw [ev_44]; rfl) (by decide) rfl ?_
                  clear hl
                  intro ls hl
                  refine lv_goto (tgt := 8) hx hb dX5_product_86 (by decide) ?_
                  exact ih8 0 v_44 sc2_37 sc3_38 (by first | omega | (simp only [zl_0] <;> omega) | decide | assumption | rfl) (by omega) ls _ _ (lv_sub hl [0, 1, 4, 5] rfl) (hP.sub [0, 1] rfl) (hD.sub [0, 1] (by decide) rfl) hS
              · refine lv_iload_n hx hb dX5_product_62 rfl (lv_at hl 3 rfl) ?_
                refine lv_iload hx hb dX5_product_63 (lv_at hl 0 rfl) ?_
                refine lv_imul hx hb dX5_product_65 ?_
                refine lv_topi (fun v_45 ev_45 => ?_)
                have lo_v_45 := k_lo v_45
                have hi_v_45 := k_hi v_45
                refine lv_goto (tgt := 82) hx hb dX5_product_66 (by decide) ?_
                refine lv_istore_n (lv' := [(2, .int v_45), (5, .int r_35), (4, .int r_31), (3, .int l8_3), (0, .ref k), (1, .int 1)]) hx hb dX5_product_82 rfl hl (by decide) rfl ?_
                clear hl
                intro ls hl
                obtain ⟨v_46, ev_46⟩ : ∃ y : Int32, y = l8_3 + 1 := ⟨_, rfl⟩
                have tv_46 : v_46.toInt = l8_3.toInt + 1 := by rw [ev_46]; exact k_addv rfl zl_1 (by omega) (by omega)
                refine lv_iinc (v := v_46) (lv' := [(3, .int v_46), (2, .int v_45), (5, .int r_35), (4, .int r_31), (0, .ref k), (1, .int 1)]) hx hb dX5_product_83 hl (k := 3) rfl (by rw [ev_46]; rfl) (by decide) rfl ?_
                clear hl
                intro ls hl
                refine lv_goto (tgt := 8) hx hb dX5_product_86 (by decide) ?_
                exact ih8 v_45 v_46 sc2_37 sc3_38 (by first | omega | decide | assumption | rfl) (by omega) ls _ _ (lv_sub hl [0, 1, 4, 5] rfl) (hP.sub [0, 1] rfl) (hD.sub [0, 1] (by decide) rfl) hS
  exact hloop_8 _ r_1 0 sc2_3 sc3_4 (by first | omega | (simp only [zl_0] <;> omega) | decide | assumption | rfl) (Nat.lt_succ_self _) ls _ _ (lv_sub hl [0, 1, 2, 3] rfl) hP hD hS

set_option maxHeartbeats 4000000 in
set_option maxRecDepth 100000 in
theorem c_X5_sumG1 (l : Launch) (D : va_G) (cI : ClassId) (aK aV : Nat → Nat) (k k0 : Nat) (sz : Nat) (c1 : Int32) (c2 : Int32) (c3 : Int32) (c4 : Int32) (c5 : Int32) (c6 : Int32) (c7 : Int32) (c0 : Nat → Int32) (a0 : Int32) (pre0 : a0 = 1) : Met l yX5_sum (gW yX5_sum cX5_sum 6 (some .int)) ({ frames := 28, cells := 0, slots := 0, locals := 679 } : Room) (kPreX D cI aK aV [.ref k, .int 1] [(k, .inr (5, [.ref k0, .int c1, .int c2, .int c3, .int c4, .int c5, .int c6, .int c7])), (k0, .inl (cI, 50, .inl c0))] sz) (va_Qi (fun (r : Int32) (u : Int32 × Int32) => True) (fun u t => kWd D cI (va_A [(k, .inr (5, [.ref k0, .int c1, .int c2, .int c3, .int c4, .int c5, .int c6, .int c7])), (k0, .inl (cI, 50, .inl c0))] sz) [(k, .inr (5, [.ref k0, .int c1, .int u.1, .int u.2, .int c4, .int c5, .int c6, .int c7])), (k0, .inl (cI, 50, .inl c0))] t) (va_A [(k, .inr (5, [.ref k0, .int c1, .int c2, .int c3, .int c4, .int c5, .int c6, .int c7])), (k0, .inl (cI, 50, .inl c0))] sz)) 0 0 (va_A [(k, .inr (5, [.ref k0, .int c1, .int c2, .int c3, .int c4, .int c5, .int c6, .int c7])), (k0, .inl (cI, 50, .inl c0))] sz) := by
  refine kMetIX (own := RX5) (by decide) rfl (Nat.le_of_ble_eq_true rfl) ?_
  intro p e s m args below meth c hx hb hT hown hname hml A Q hK hP hD hS hA hN hXS hRet ls hl
  subst pre0
  have hl : lv_has ls 6 [(0, .ref k), (1, .int 1)] := hl
  refine lv_aload_n hx hb dX5_sum_0 rfl (lv_at hl 0 rfl) ?_
  refine lv_iload_n hx hb dX5_sum_1 rfl (lv_at hl 1 rfl) ?_
  refine kJi (wr := []) (va_runV (As := [.int 1]) (rest := []) ⟨hx, hb, hml, hown, hT⟩ (c_X5_productG1 l D cI aK aV k k0 s.heap.size c1 c2 c3 c4 c5 c6 c7 c0 1 (by first | omega | (simp only [zl_1] <;> omega) | decide | assumption | rfl)) (cwV 1 hT (gV_in mw_476 mw_473 mw_475 mw_p1_9 mw_6) rfl rfl rfl (by decide +kernel) ⟨Nat.le_of_ble_eq_true rfl, Nat.le_of_ble_eq_true rfl⟩) (kRecvX (q0 := 0) (ci := 5) hK hP hD hN hXS hS hA rfl rfl [0, 1] rfl (by decide)) rfl rfl hl.1 rfl (lv_room (Nat.le_of_ble_eq_true rfl)) dX5_sum_2 ⟨Nat.le_of_ble_eq_true rfl, Nat.le_of_ble_eq_true rfl⟩) hP hD hS hA [0, 1] [] rfl rfl (by decide) (by decide) ?_
  clear hP hD hS
  intro r_1 u_5 H locs w_2 hP hD hS
  obtain ⟨sc2_3, sc3_4⟩ := u_5
  replace hP : va_P D vwCl [(k, .inr (5, [.ref k0, .int c1, .int sc2_3, .int sc3_4, .int c4, .int c5, .int c6, .int c7])), (k0, .inl (cI, 50, .inl c0))] H := hP
  replace hD : va_D A [(k, .inr (5, [.ref k0, .int c1, .int sc2_3, .int sc3_4, .int c4, .int c5, .int c6, .int c7])), (k0, .inl (cI, 50, .inl c0))] := hD
  have lo_r_1 := k_lo r_1
  have hi_r_1 := k_hi r_1
  refine lv_istore_n (lv' := [(2, .int r_1), (0, .ref k), (1, .int 1)]) hx hb dX5_sum_5 rfl hl (by decide) rfl ?_
  clear hl
  intro ls hl
  refine lv_iconst (v := 0) hx hb dX5_sum_6 (by decide) ?_
  refine lv_istore_n (lv' := [(3, .int 0), (2, .int r_1), (0, .ref k), (1, .int 1)]) hx hb dX5_sum_7 rfl hl (by decide) rfl ?_
  clear hl
  intro ls hl
  have hloop_8 : ∀ (fu_ : Nat) (l8_2 : Int32) (l8_3 : Int32) (f8_k2 : Int32) (f8_k3 : Int32), 0 ≤ l8_3.toInt → (50 - l8_3.toInt).toNat < fu_ → ∀ (ls : Array Slot) (H : Heap) (locs : List Loc), lv_has ls 6 [(3, .int l8_3), (2, .int l8_2), (0, .ref k), (1, .int 1)] → va_P D vwCl [(k, .inr (5, [.ref k0, .int c1, .int f8_k2, .int f8_k3, .int c4, .int c5, .int c6, .int c7])), (k0, .inl (cI, 50, .inl c0))] H → va_D A [(k, .inr (5, [.ref k0, .int c1, .int f8_k2, .int f8_k3, .int c4, .int c5, .int c6, .int c7])), (k0, .inl (cI, 50, .inl c0))] → va_S A s.heap H locs → W p l e ({ frames := 28, cells := 0, slots := 0, locals := 679 } : Room) s m args below meth c H locs 0 0 Q (F0 m 8 ls []) := by
    intro fu_; induction fu_ with
    | zero => intro l8_2 l8_3 f8_k2 f8_k3 i8_0 hm; exact absurd hm (by omega)
    | succ fu_ ih8 =>
        intro l8_2 l8_3 f8_k2 f8_k3 i8_0 hm ls H locs hl hP hD hS
        have lo_l8_2 := k_lo l8_2
        have hi_l8_2 := k_hi l8_2
        have lo_l8_3 := k_lo l8_3
        have hi_l8_3 := k_hi l8_3
        have lo_f8_k2 := k_lo f8_k2
        have hi_f8_k2 := k_hi f8_k2
        have lo_f8_k3 := k_lo f8_k3
        have hi_f8_k3 := k_hi f8_k3
        refine lv_iload_n hx hb dX5_sum_8 rfl (lv_at hl 0 rfl) ?_
        refine lv_bipush (v := 50) hx hb dX5_sum_9 (by decide) ?_
        refine b_icmp_ge hx hb rfl zl_50 (tgt := 80) dX5_sum_11 (by decide) (fun c_6 => ?_) (fun c_6 => ?_)
        · refine lv_iload_n hx hb dX5_sum_80 rfl (lv_at hl 1 rfl) ?_
          exact hRet (f8_k2, f8_k3) [0, 1] trivial hP hD (by decide) rfl hS rfl dX5_sum_81
        · refine lv_aload_n hx hb dX5_sum_14 rfl (lv_at hl 2 rfl) ?_
          refine kJi (wr := []) (va_runV (As := []) (rest := []) ⟨hx, hb, hml, hown, hT⟩ (c_X5_nextG l D cI aK aV k k0 H.size c1 f8_k2 f8_k3 c4 c5 c6 c7 c0) (cwV 0 hT (gV_in mw_484 mw_481 mw_483 mw_p1_11 mw_6) rfl rfl rfl (by decide +kernel) ⟨Nat.le_of_ble_eq_true rfl, Nat.le_of_ble_eq_true rfl⟩) (kRecvX (q0 := 0) (ci := 5) hK hP hD hN hXS hS hA rfl rfl [0, 1] rfl (by decide)) rfl rfl hl.1 rfl (lv_room (Nat.le_of_ble_eq_true rfl)) dX5_sum_15 ⟨Nat.le_of_ble_eq_true rfl, Nat.le_of_ble_eq_true rfl⟩) hP hD hS hA [0, 1] [] rfl rfl (by decide) (by decide) ?_
          clear hP hD hS
          intro r_7 u_9 H locs w_8 hP hD hS
          replace hP : va_P D vwCl [(k, .inr (5, [.ref k0, .int c1, .int f8_k2, .int f8_k3, .int c4, .int c5, .int c6, .int c7])), (k0, .inl (cI, 50, .inl c0))] H := hP
          replace hD : va_D A [(k, .inr (5, [.ref k0, .int c1, .int f8_k2, .int f8_k3, .int c4, .int c5, .int c6, .int c7])), (k0, .inl (cI, 50, .inl c0))] := hD
          have lo_r_7 := k_lo r_7
          have hi_r_7 := k_hi r_7
          refine lv_bipush (v := 43) hx hb dX5_sum_18 (by decide) ?_
          refine b_icmp_eq hx hb rfl zl_43 (tgt := 32) dX5_sum_20 (by decide) (fun c_10 => ?_) (fun c_10 => ?_)
          · refine lv_aload_n hx hb dX5_sum_32 rfl (lv_at hl 2 rfl) ?_
            refine kJi (wr := []) (va_runV (As := []) (rest := []) ⟨hx, hb, hml, hown, hT⟩ (c_X5_nextG l D cI aK aV k k0 H.size c1 f8_k2 f8_k3 c4 c5 c6 c7 c0) (cwV 0 hT (gV_in mw_484 mw_481 mw_483 mw_p1_11 mw_6) rfl rfl rfl (by decide +kernel) ⟨Nat.le_of_ble_eq_true rfl, Nat.le_of_ble_eq_true rfl⟩) (kRecvX (q0 := 0) (ci := 5) hK hP hD hN hXS hS hA rfl rfl [0, 1] rfl (by decide)) rfl rfl hl.1 rfl (lv_room (Nat.le_of_ble_eq_true rfl)) dX5_sum_33 ⟨Nat.le_of_ble_eq_true rfl, Nat.le_of_ble_eq_true rfl⟩) hP hD hS hA [0, 1] [] rfl rfl (by decide) (by decide) ?_
            clear hP hD hS
            intro r_11 u_13 H locs w_12 hP hD hS
            replace hP : va_P D vwCl [(k, .inr (5, [.ref k0, .int c1, .int f8_k2, .int f8_k3, .int c4, .int c5, .int c6, .int c7])), (k0, .inl (cI, 50, .inl c0))] H := hP
            replace hD : va_D A [(k, .inr (5, [.ref k0, .int c1, .int f8_k2, .int f8_k3, .int c4, .int c5, .int c6, .int c7])), (k0, .inl (cI, 50, .inl c0))] := hD
            have lo_r_11 := k_lo r_11
            have hi_r_11 := k_hi r_11
            refine lv_istore (lv' := [(4, .int r_11), (3, .int l8_3), (2, .int l8_2), (0, .ref k), (1, .int 1)]) hx hb dX5_sum_36 hl (by decide) rfl ?_
            clear hl
            intro ls hl
            refine lv_aload_n hx hb dX5_sum_38 rfl (lv_at hl 3 rfl) ?_
            refine lv_dup hx hb dX5_sum_39 rfl ?_
            refine va_get (D := D) (ci := 5) (v := .int f8_k2) (C := RX5) (T := TX5) (N := 8) hx hb hT giX5 hown hK hP 0 rfl rfl 2 (by decide) (hT (Cond.fieldLink RX5 19 "DesertWire$Reader" "at" "I") mw_170) (fun _ h9 => h9) rfl dX5_sum_40 ?_
            refine lv_iconst (v := 1) hx hb dX5_sum_43 (by decide) ?_
            refine lv_iadd hx hb dX5_sum_44 ?_
            refine lv_topi (fun v_14 ev_14 => ?_)
            have lo_v_14 := k_lo v_14
            have hi_v_14 := k_hi v_14
            refine va_put (D := D) (ci := 5) (v := .int v_14) (ty := .int) (C := RX5) (T := TX5) (N := 8) hx hb hT giX5 tyX5 tyX5_ok nmX5 hown hK hP hD hS 0 rfl rfl 2 (by decide) (hT (Cond.fieldLink RX5 19 "DesertWire$Reader" "at" "I") mw_170) (fun _ h9 => h9) rfl (by decide +kernel) rfl rfl (Nat.le_of_ble_eq_true rfl) dX5_sum_45 ?_
            clear hP hD hS
            intro H locs hP hD hS
            replace hP : va_P D vwCl [(k, .inr (5, [.ref k0, .int c1, .int v_14, .int f8_k3, .int c4, .int c5, .int c6, .int c7])), (k0, .inl (cI, 50, .inl c0))] H := hP
            replace hD : va_D A [(k, .inr (5, [.ref k0, .int c1, .int v_14, .int f8_k3, .int c4, .int c5, .int c6, .int c7])), (k0, .inl (cI, 50, .inl c0))] := hD
            refine lv_aload_n hx hb dX5_sum_48 rfl (lv_at hl 3 rfl) ?_
            refine lv_iload_n hx hb dX5_sum_49 rfl (lv_at hl 4 rfl) ?_
            refine kJi (wr := []) (va_runV (As := [.int 1]) (rest := []) ⟨hx, hb, hml, hown, hT⟩ (c_X5_productG1 l D cI aK aV k k0 H.size c1 v_14 f8_k3 c4 c5 c6 c7 c0 1 (by first | omega | (simp only [zl_1] <;> omega) | decide | assumption | rfl)) (cwV 1 hT (gV_in mw_476 mw_473 mw_475 mw_p1_9 mw_6) rfl rfl rfl (by decide +kernel) ⟨Nat.le_of_ble_eq_true rfl, Nat.le_of_ble_eq_true rfl⟩) (kRecvX (q0 := 0) (ci := 5) hK hP hD hN hXS hS hA rfl rfl [0, 1] rfl (by decide)) rfl rfl hl.1 rfl (lv_room (Nat.le_of_ble_eq_true rfl)) dX5_sum_50 ⟨Nat.le_of_ble_eq_true rfl, Nat.le_of_ble_eq_true rfl⟩) hP hD hS hA [0, 1] [] rfl rfl (by decide) (by decide) ?_
            clear hP hD hS
            intro r_15 u_19 H locs w_16 hP hD hS
            obtain ⟨sc2_17, sc3_18⟩ := u_19
            replace hP : va_P D vwCl [(k, .inr (5, [.ref k0, .int c1, .int sc2_17, .int sc3_18, .int c4, .int c5, .int c6, .int c7])), (k0, .inl (cI, 50, .inl c0))] H := hP
            replace hD : va_D A [(k, .inr (5, [.ref k0, .int c1, .int sc2_17, .int sc3_18, .int c4, .int c5, .int c6, .int c7])), (k0, .inl (cI, 50, .inl c0))] := hD
            have lo_r_15 := k_lo r_15
            have hi_r_15 := k_hi r_15
            refine lv_istore (lv' := [(5, .int r_15), (4, .int r_11), (3, .int l8_3), (2, .int l8_2), (0, .ref k), (1, .int 1)]) hx hb dX5_sum_53 hl (by decide) rfl ?_
            clear hl
            intro ls hl
            refine lv_iload hx hb dX5_sum_55 (lv_at hl 1 rfl) ?_
            refine lv_bipush (v := 43) hx hb dX5_sum_57 (by decide) ?_
            refine b_icmp_ne hx hb rfl zl_43 (tgt := 69) dX5_sum_59 (by decide) (fun c_20 => ?_) (fun c_20 => ?_)
            · refine lv_iload_n hx hb dX5_sum_69 rfl (lv_at hl 3 rfl) ?_
              refine lv_iload hx hb dX5_sum_70 (lv_at hl 0 rfl) ?_
              refine lv_isub hx hb dX5_sum_72 ?_
              refine lv_topi (fun v_21 ev_21 => ?_)
              have lo_v_21 := k_lo v_21
              have hi_v_21 := k_hi v_21
              refine lv_istore_n (lv' := [(2, .int v_21), (5, .int r_15), (4, .int r_11), (3, .int l8_3), (0, .ref k), (1, .int 1)]) hx hb dX5_sum_73 rfl hl (by decide) rfl ?_
              clear hl
              intro ls hl
              obtain ⟨v_22, ev_22⟩ : ∃ y : Int32, y = l8_3 + 1 := ⟨_, rfl⟩
              have tv_22 : v_22.toInt = l8_3.toInt + 1 := by rw [ev_22]; exact k_addv rfl zl_1 (by omega) (by omega)
              refine lv_iinc (v := v_22) (lv' := [(3, .int v_22), (2, .int v_21), (5, .int r_15), (4, .int r_11), (0, .ref k), (1, .int 1)]) hx hb dX5_sum_74 hl (k := 3) rfl (by rw [ev_22]; rfl) (by decide) rfl ?_
              clear hl
              intro ls hl
              refine lv_goto (tgt := 8) hx hb dX5_sum_77 (by decide) ?_
              exact ih8 v_21 v_22 sc2_17 sc3_18 (by first | omega | decide | assumption | rfl) (by omega) ls _ _ (lv_sub hl [0, 1, 4, 5] rfl) (hP.sub [0, 1] rfl) (hD.sub [0, 1] (by decide) rfl) hS
            · refine lv_iload_n hx hb dX5_sum_62 rfl (lv_at hl 3 rfl) ?_
              refine lv_iload hx hb dX5_sum_63 (lv_at hl 0 rfl) ?_
              refine lv_iadd hx hb dX5_sum_65 ?_
              refine lv_topi (fun v_23 ev_23 => ?_)
              have lo_v_23 := k_lo v_23
              have hi_v_23 := k_hi v_23
              refine lv_goto (tgt := 73) hx hb dX5_sum_66 (by decide) ?_
              refine lv_istore_n (lv' := [(2, .int v_23), (5, .int r_15), (4, .int r_11), (3, .int l8_3), (0, .ref k), (1, .int 1)]) hx hb dX5_sum_73 rfl hl (by decide) rfl ?_
              clear hl
              intro ls hl
              obtain ⟨v_24, ev_24⟩ : ∃ y : Int32, y = l8_3 + 1 := ⟨_, rfl⟩
              have tv_24 : v_24.toInt = l8_3.toInt + 1 := by rw [ev_24]; exact k_addv rfl zl_1 (by omega) (by omega)
              refine lv_iinc (v := v_24) (lv' := [(3, .int v_24), (2, .int v_23), (5, .int r_15), (4, .int r_11), (0, .ref k), (1, .int 1)]) hx hb dX5_sum_74 hl (k := 3) rfl (by rw [ev_24]; rfl) (by decide) rfl ?_
              clear hl
              intro ls hl
              refine lv_goto (tgt := 8) hx hb dX5_sum_77 (by decide) ?_
              exact ih8 v_23 v_24 sc2_17 sc3_18 (by first | omega | decide | assumption | rfl) (by omega) ls _ _ (lv_sub hl [0, 1, 4, 5] rfl) (hP.sub [0, 1] rfl) (hD.sub [0, 1] (by decide) rfl) hS
          · refine lv_aload_n hx hb dX5_sum_23 rfl (lv_at hl 2 rfl) ?_
            refine kJi (wr := []) (va_runV (As := []) (rest := []) ⟨hx, hb, hml, hown, hT⟩ (c_X5_nextG l D cI aK aV k k0 H.size c1 f8_k2 f8_k3 c4 c5 c6 c7 c0) (cwV 0 hT (gV_in mw_484 mw_481 mw_483 mw_p1_11 mw_6) rfl rfl rfl (by decide +kernel) ⟨Nat.le_of_ble_eq_true rfl, Nat.le_of_ble_eq_true rfl⟩) (kRecvX (q0 := 0) (ci := 5) hK hP hD hN hXS hS hA rfl rfl [0, 1] rfl (by decide)) rfl rfl hl.1 rfl (lv_room (Nat.le_of_ble_eq_true rfl)) dX5_sum_24 ⟨Nat.le_of_ble_eq_true rfl, Nat.le_of_ble_eq_true rfl⟩) hP hD hS hA [0, 1] [] rfl rfl (by decide) (by decide) ?_
            clear hP hD hS
            intro r_25 u_27 H locs w_26 hP hD hS
            replace hP : va_P D vwCl [(k, .inr (5, [.ref k0, .int c1, .int f8_k2, .int f8_k3, .int c4, .int c5, .int c6, .int c7])), (k0, .inl (cI, 50, .inl c0))] H := hP
            replace hD : va_D A [(k, .inr (5, [.ref k0, .int c1, .int f8_k2, .int f8_k3, .int c4, .int c5, .int c6, .int c7])), (k0, .inl (cI, 50, .inl c0))] := hD
            have lo_r_25 := k_lo r_25
            have hi_r_25 := k_hi r_25
            refine lv_bipush (v := 45) hx hb dX5_sum_27 (by decide) ?_
            refine b_icmp_ne hx hb rfl zl_45 (tgt := 80) dX5_sum_29 (by decide) (fun c_28 => ?_) (fun c_28 => ?_)
            · refine lv_iload_n hx hb dX5_sum_80 rfl (lv_at hl 1 rfl) ?_
              exact hRet (f8_k2, f8_k3) [0, 1] trivial hP hD (by decide) rfl hS rfl dX5_sum_81
            · refine lv_aload_n hx hb dX5_sum_32 rfl (lv_at hl 2 rfl) ?_
              refine kJi (wr := []) (va_runV (As := []) (rest := []) ⟨hx, hb, hml, hown, hT⟩ (c_X5_nextG l D cI aK aV k k0 H.size c1 f8_k2 f8_k3 c4 c5 c6 c7 c0) (cwV 0 hT (gV_in mw_484 mw_481 mw_483 mw_p1_11 mw_6) rfl rfl rfl (by decide +kernel) ⟨Nat.le_of_ble_eq_true rfl, Nat.le_of_ble_eq_true rfl⟩) (kRecvX (q0 := 0) (ci := 5) hK hP hD hN hXS hS hA rfl rfl [0, 1] rfl (by decide)) rfl rfl hl.1 rfl (lv_room (Nat.le_of_ble_eq_true rfl)) dX5_sum_33 ⟨Nat.le_of_ble_eq_true rfl, Nat.le_of_ble_eq_true rfl⟩) hP hD hS hA [0, 1] [] rfl rfl (by decide) (by decide) ?_
              clear hP hD hS
              intro r_29 u_31 H locs w_30 hP hD hS
              replace hP : va_P D vwCl [(k, .inr (5, [.ref k0, .int c1, .int f8_k2, .int f8_k3, .int c4, .int c5, .int c6, .int c7])), (k0, .inl (cI, 50, .inl c0))] H := hP
              replace hD : va_D A [(k, .inr (5, [.ref k0, .int c1, .int f8_k2, .int f8_k3, .int c4, .int c5, .int c6, .int c7])), (k0, .inl (cI, 50, .inl c0))] := hD
              have lo_r_29 := k_lo r_29
              have hi_r_29 := k_hi r_29
              refine lv_istore (lv' := [(4, .int r_29), (3, .int l8_3), (2, .int l8_2), (0, .ref k), (1, .int 1)]) hx hb dX5_sum_36 hl (by decide) rfl ?_
              clear hl
              intro ls hl
              refine lv_aload_n hx hb dX5_sum_38 rfl (lv_at hl 3 rfl) ?_
              refine lv_dup hx hb dX5_sum_39 rfl ?_
              refine va_get (D := D) (ci := 5) (v := .int f8_k2) (C := RX5) (T := TX5) (N := 8) hx hb hT giX5 hown hK hP 0 rfl rfl 2 (by decide) (hT (Cond.fieldLink RX5 19 "DesertWire$Reader" "at" "I") mw_170) (fun _ h9 => h9) rfl dX5_sum_40 ?_
              refine lv_iconst (v := 1) hx hb dX5_sum_43 (by decide) ?_
              refine lv_iadd hx hb dX5_sum_44 ?_
              refine lv_topi (fun v_32 ev_32 => ?_)
              have lo_v_32 := k_lo v_32
              have hi_v_32 := k_hi v_32
              refine va_put (D := D) (ci := 5) (v := .int v_32) (ty := .int) (C := RX5) (T := TX5) (N := 8) hx hb hT giX5 tyX5 tyX5_ok nmX5 hown hK hP hD hS 0 rfl rfl 2 (by decide) (hT (Cond.fieldLink RX5 19 "DesertWire$Reader" "at" "I") mw_170) (fun _ h9 => h9) rfl (by decide +kernel) rfl rfl (Nat.le_of_ble_eq_true rfl) dX5_sum_45 ?_
              clear hP hD hS
              intro H locs hP hD hS
              replace hP : va_P D vwCl [(k, .inr (5, [.ref k0, .int c1, .int v_32, .int f8_k3, .int c4, .int c5, .int c6, .int c7])), (k0, .inl (cI, 50, .inl c0))] H := hP
              replace hD : va_D A [(k, .inr (5, [.ref k0, .int c1, .int v_32, .int f8_k3, .int c4, .int c5, .int c6, .int c7])), (k0, .inl (cI, 50, .inl c0))] := hD
              refine lv_aload_n hx hb dX5_sum_48 rfl (lv_at hl 3 rfl) ?_
              refine lv_iload_n hx hb dX5_sum_49 rfl (lv_at hl 4 rfl) ?_
              refine kJi (wr := []) (va_runV (As := [.int 1]) (rest := []) ⟨hx, hb, hml, hown, hT⟩ (c_X5_productG1 l D cI aK aV k k0 H.size c1 v_32 f8_k3 c4 c5 c6 c7 c0 1 (by first | omega | (simp only [zl_1] <;> omega) | decide | assumption | rfl)) (cwV 1 hT (gV_in mw_476 mw_473 mw_475 mw_p1_9 mw_6) rfl rfl rfl (by decide +kernel) ⟨Nat.le_of_ble_eq_true rfl, Nat.le_of_ble_eq_true rfl⟩) (kRecvX (q0 := 0) (ci := 5) hK hP hD hN hXS hS hA rfl rfl [0, 1] rfl (by decide)) rfl rfl hl.1 rfl (lv_room (Nat.le_of_ble_eq_true rfl)) dX5_sum_50 ⟨Nat.le_of_ble_eq_true rfl, Nat.le_of_ble_eq_true rfl⟩) hP hD hS hA [0, 1] [] rfl rfl (by decide) (by decide) ?_
              clear hP hD hS
              intro r_33 u_37 H locs w_34 hP hD hS
              obtain ⟨sc2_35, sc3_36⟩ := u_37
              replace hP : va_P D vwCl [(k, .inr (5, [.ref k0, .int c1, .int sc2_35, .int sc3_36, .int c4, .int c5, .int c6, .int c7])), (k0, .inl (cI, 50, .inl c0))] H := hP
              replace hD : va_D A [(k, .inr (5, [.ref k0, .int c1, .int sc2_35, .int sc3_36, .int c4, .int c5, .int c6, .int c7])), (k0, .inl (cI, 50, .inl c0))] := hD
              have lo_r_33 := k_lo r_33
              have hi_r_33 := k_hi r_33
              refine lv_istore (lv' := [(5, .int r_33), (4, .int r_29), (3, .int l8_3), (2, .int l8_2), (0, .ref k), (1, .int 1)]) hx hb dX5_sum_53 hl (by decide) rfl ?_
              clear hl
              intro ls hl
              refine lv_iload hx hb dX5_sum_55 (lv_at hl 1 rfl) ?_
              refine lv_bipush (v := 43) hx hb dX5_sum_57 (by decide) ?_
              refine b_icmp_ne hx hb rfl zl_43 (tgt := 69) dX5_sum_59 (by decide) (fun c_38 => ?_) (fun c_38 => ?_)
              · refine lv_iload_n hx hb dX5_sum_69 rfl (lv_at hl 3 rfl) ?_
                refine lv_iload hx hb dX5_sum_70 (lv_at hl 0 rfl) ?_
                refine lv_isub hx hb dX5_sum_72 ?_
                refine lv_topi (fun v_39 ev_39 => ?_)
                have lo_v_39 := k_lo v_39
                have hi_v_39 := k_hi v_39
                refine lv_istore_n (lv' := [(2, .int v_39), (5, .int r_33), (4, .int r_29), (3, .int l8_3), (0, .ref k), (1, .int 1)]) hx hb dX5_sum_73 rfl hl (by decide) rfl ?_
                clear hl
                intro ls hl
                obtain ⟨v_40, ev_40⟩ : ∃ y : Int32, y = l8_3 + 1 := ⟨_, rfl⟩
                have tv_40 : v_40.toInt = l8_3.toInt + 1 := by rw [ev_40]; exact k_addv rfl zl_1 (by omega) (by omega)
                refine lv_iinc (v := v_40) (lv' := [(3, .int v_40), (2, .int v_39), (5, .int r_33), (4, .int r_29), (0, .ref k), (1, .int 1)]) hx hb dX5_sum_74 hl (k := 3) rfl (by rw [ev_40]; rfl) (by decide) rfl ?_
                clear hl
                intro ls hl
                refine lv_goto (tgt := 8) hx hb dX5_sum_77 (by decide) ?_
                exact ih8 v_39 v_40 sc2_35 sc3_36 (by first | omega | decide | assumption | rfl) (by omega) ls _ _ (lv_sub hl [0, 1, 4, 5] rfl) (hP.sub [0, 1] rfl) (hD.sub [0, 1] (by decide) rfl) hS
              · refine lv_iload_n hx hb dX5_sum_62 rfl (lv_at hl 3 rfl) ?_
                refine lv_iload hx hb dX5_sum_63 (lv_at hl 0 rfl) ?_
                refine lv_iadd hx hb dX5_sum_65 ?_
                refine lv_topi (fun v_41 ev_41 => ?_)
                have lo_v_41 := k_lo v_41
                have hi_v_41 := k_hi v_41
                refine lv_goto (tgt := 73) hx hb dX5_sum_66 (by decide) ?_
                refine lv_istore_n (lv' := [(2, .int v_41), (5, .int r_33), (4, .int r_29), (3, .int l8_3), (0, .ref k), (1, .int 1)]) hx hb dX5_sum_73 rfl hl (by decide) rfl ?_
                clear hl
                intro ls hl
                obtain ⟨v_42, ev_42⟩ : ∃ y : Int32, y = l8_3 + 1 := ⟨_, rfl⟩
                have tv_42 : v_42.toInt = l8_3.toInt + 1 := by rw [ev_42]; exact k_addv rfl zl_1 (by omega) (by omega)
                refine lv_iinc (v := v_42) (lv' := [(3, .int v_42), (2, .int v_41), (5, .int r_33), (4, .int r_29), (0, .ref k), (1, .int 1)]) hx hb dX5_sum_74 hl (k := 3) rfl (by rw [ev_42]; rfl) (by decide) rfl ?_
                clear hl
                intro ls hl
                refine lv_goto (tgt := 8) hx hb dX5_sum_77 (by decide) ?_
                exact ih8 v_41 v_42 sc2_35 sc3_36 (by first | omega | decide | assumption | rfl) (by omega) ls _ _ (lv_sub hl [0, 1, 4, 5] rfl) (hP.sub [0, 1] rfl) (hD.sub [0, 1] (by decide) rfl) hS
  exact hloop_8 _ r_1 0 sc2_3 sc3_4 (by first | omega | (simp only [zl_0] <;> omega) | decide | assumption | rfl) (Nat.lt_succ_self _) ls _ _ (lv_sub hl [0, 1, 2, 3] rfl) hP hD hS

set_option maxHeartbeats 4000000 in
set_option maxRecDepth 100000 in
theorem c_X5_comparedG1 (l : Launch) (D : va_G) (cI : ClassId) (aK aV : Nat → Nat) (k k0 : Nat) (sz : Nat) (c1 : Int32) (c2 : Int32) (c3 : Int32) (c4 : Int32) (c5 : Int32) (c6 : Int32) (c7 : Int32) (c0 : Nat → Int32) (a0 : Int32) (pre0 : a0 = 1) : Met l yX5_compared (gW yX5_compared cX5_compared 5 (some .int)) ({ frames := 29, cells := 0, slots := 0, locals := 704 } : Room) (kPreX D cI aK aV [.ref k, .int 1] [(k, .inr (5, [.ref k0, .int c1, .int c2, .int c3, .int c4, .int c5, .int c6, .int c7])), (k0, .inl (cI, 50, .inl c0))] sz) (va_Qi (fun (r : Int32) (u : Int32 × Int32) => True) (fun u t => kWd D cI (va_A [(k, .inr (5, [.ref k0, .int c1, .int c2, .int c3, .int c4, .int c5, .int c6, .int c7])), (k0, .inl (cI, 50, .inl c0))] sz) [(k, .inr (5, [.ref k0, .int c1, .int u.1, .int u.2, .int c4, .int c5, .int c6, .int c7])), (k0, .inl (cI, 50, .inl c0))] t) (va_A [(k, .inr (5, [.ref k0, .int c1, .int c2, .int c3, .int c4, .int c5, .int c6, .int c7])), (k0, .inl (cI, 50, .inl c0))] sz)) 0 0 (va_A [(k, .inr (5, [.ref k0, .int c1, .int c2, .int c3, .int c4, .int c5, .int c6, .int c7])), (k0, .inl (cI, 50, .inl c0))] sz) := by
  refine kMetIX (own := RX5) (by decide) rfl (Nat.le_of_ble_eq_true rfl) ?_
  intro p e s m args below meth c hx hb hT hown hname hml A Q hK hP hD hS hA hN hXS hRet ls hl
  subst pre0
  have hl : lv_has ls 5 [(0, .ref k), (1, .int 1)] := hl
  refine lv_aload_n hx hb dX5_compared_0 rfl (lv_at hl 0 rfl) ?_
  refine lv_iload_n hx hb dX5_compared_1 rfl (lv_at hl 1 rfl) ?_
  refine kJi (wr := []) (va_runV (As := [.int 1]) (rest := []) ⟨hx, hb, hml, hown, hT⟩ (c_X5_sumG1 l D cI aK aV k k0 s.heap.size c1 c2 c3 c4 c5 c6 c7 c0 1 (by first | omega | (simp only [zl_1] <;> omega) | decide | assumption | rfl)) (cwV 1 hT (gV_in mw_472 mw_469 mw_471 mw_p1_8 mw_6) rfl rfl rfl (by decide +kernel) ⟨Nat.le_of_ble_eq_true rfl, Nat.le_of_ble_eq_true rfl⟩) (kRecvX (q0 := 0) (ci := 5) hK hP hD hN hXS hS hA rfl rfl [0, 1] rfl (by decide)) rfl rfl hl.1 rfl (lv_room (Nat.le_of_ble_eq_true rfl)) dX5_compared_2 ⟨Nat.le_of_ble_eq_true rfl, Nat.le_of_ble_eq_true rfl⟩) hP hD hS hA [0, 1] [] rfl rfl (by decide) (by decide) ?_
  clear hP hD hS
  intro r_1 u_5 H locs w_2 hP hD hS
  obtain ⟨sc2_3, sc3_4⟩ := u_5
  replace hP : va_P D vwCl [(k, .inr (5, [.ref k0, .int c1, .int sc2_3, .int sc3_4, .int c4, .int c5, .int c6, .int c7])), (k0, .inl (cI, 50, .inl c0))] H := hP
  replace hD : va_D A [(k, .inr (5, [.ref k0, .int c1, .int sc2_3, .int sc3_4, .int c4, .int c5, .int c6, .int c7])), (k0, .inl (cI, 50, .inl c0))] := hD
  have lo_sc2_3 := k_lo sc2_3
  have hi_sc2_3 := k_hi sc2_3
  have lo_r_1 := k_lo r_1
  have hi_r_1 := k_hi r_1
  refine lv_istore_n (lv' := [(2, .int r_1), (0, .ref k), (1, .int 1)]) hx hb dX5_compared_5 rfl hl (by decide) rfl ?_
  clear hl
  intro ls hl
  refine lv_aload_n hx hb dX5_compared_6 rfl (lv_at hl 1 rfl) ?_
  refine kJi (wr := []) (va_runV (As := []) (rest := []) ⟨hx, hb, hml, hown, hT⟩ (c_X5_nextG l D cI aK aV k k0 H.size c1 sc2_3 sc3_4 c4 c5 c6 c7 c0) (cwV 0 hT (gV_in mw_484 mw_481 mw_483 mw_p1_11 mw_6) rfl rfl rfl (by decide +kernel) ⟨Nat.le_of_ble_eq_true rfl, Nat.le_of_ble_eq_true rfl⟩) (kRecvX (q0 := 0) (ci := 5) hK hP hD hN hXS hS hA rfl rfl [0, 1] rfl (by decide)) rfl rfl hl.1 rfl (lv_room (Nat.le_of_ble_eq_true rfl)) dX5_compared_7 ⟨Nat.le_of_ble_eq_true rfl, Nat.le_of_ble_eq_true rfl⟩) hP hD hS hA [0, 1] [] rfl rfl (by decide) (by decide) ?_
  clear hP hD hS
  intro r_6 u_8 H locs w_7 hP hD hS
  replace hP : va_P D vwCl [(k, .inr (5, [.ref k0, .int c1, .int sc2_3, .int sc3_4, .int c4, .int c5, .int c6, .int c7])), (k0, .inl (cI, 50, .inl c0))] H := hP
  replace hD : va_D A [(k, .inr (5, [.ref k0, .int c1, .int sc2_3, .int sc3_4, .int c4, .int c5, .int c6, .int c7])), (k0, .inl (cI, 50, .inl c0))] := hD
  have lo_r_6 := k_lo r_6
  have hi_r_6 := k_hi r_6
  refine lv_istore_n (lv' := [(3, .int r_6), (2, .int r_1), (0, .ref k), (1, .int 1)]) hx hb dX5_compared_10 rfl hl (by decide) rfl ?_
  clear hl
  intro ls hl
  refine lv_iload_n hx hb dX5_compared_11 rfl (lv_at hl 0 rfl) ?_
  refine lv_bipush (v := 60) hx hb dX5_compared_12 (by decide) ?_
  refine b_icmp_eq hx hb rfl zl_60 (tgt := 31) dX5_compared_14 (by decide) (fun c_9 => ?_) (fun c_9 => ?_)
  · refine lv_aload_n hx hb dX5_compared_31 rfl (lv_at hl 2 rfl) ?_
    refine lv_dup hx hb dX5_compared_32 rfl ?_
    refine va_get (D := D) (ci := 5) (v := .int sc2_3) (C := RX5) (T := TX5) (N := 8) hx hb hT giX5 hown hK hP 0 rfl rfl 2 (by decide) (hT (Cond.fieldLink RX5 19 "DesertWire$Reader" "at" "I") mw_170) (fun _ h9 => h9) rfl dX5_compared_33 ?_
    refine lv_iconst (v := 1) hx hb dX5_compared_36 (by decide) ?_
    refine lv_iadd hx hb dX5_compared_37 ?_
    refine lv_topi (fun v_10 ev_10 => ?_)
    have lo_v_10 := k_lo v_10
    have hi_v_10 := k_hi v_10
    refine va_put (D := D) (ci := 5) (v := .int v_10) (ty := .int) (C := RX5) (T := TX5) (N := 8) hx hb hT giX5 tyX5 tyX5_ok nmX5 hown hK hP hD hS 0 rfl rfl 2 (by decide) (hT (Cond.fieldLink RX5 19 "DesertWire$Reader" "at" "I") mw_170) (fun _ h9 => h9) rfl (by decide +kernel) rfl rfl (Nat.le_of_ble_eq_true rfl) dX5_compared_38 ?_
    clear hP hD hS
    intro H locs hP hD hS
    replace hP : va_P D vwCl [(k, .inr (5, [.ref k0, .int c1, .int v_10, .int sc3_4, .int c4, .int c5, .int c6, .int c7])), (k0, .inl (cI, 50, .inl c0))] H := hP
    replace hD : va_D A [(k, .inr (5, [.ref k0, .int c1, .int v_10, .int sc3_4, .int c4, .int c5, .int c6, .int c7])), (k0, .inl (cI, 50, .inl c0))] := hD
    refine lv_aload_n hx hb dX5_compared_41 rfl (lv_at hl 2 rfl) ?_
    refine lv_iload_n hx hb dX5_compared_42 rfl (lv_at hl 3 rfl) ?_
    refine kJi (wr := []) (va_runV (As := [.int 1]) (rest := []) ⟨hx, hb, hml, hown, hT⟩ (c_X5_sumG1 l D cI aK aV k k0 H.size c1 v_10 sc3_4 c4 c5 c6 c7 c0 1 (by first | omega | (simp only [zl_1] <;> omega) | decide | assumption | rfl)) (cwV 1 hT (gV_in mw_472 mw_469 mw_471 mw_p1_8 mw_6) rfl rfl rfl (by decide +kernel) ⟨Nat.le_of_ble_eq_true rfl, Nat.le_of_ble_eq_true rfl⟩) (kRecvX (q0 := 0) (ci := 5) hK hP hD hN hXS hS hA rfl rfl [0, 1] rfl (by decide)) rfl rfl hl.1 rfl (lv_room (Nat.le_of_ble_eq_true rfl)) dX5_compared_43 ⟨Nat.le_of_ble_eq_true rfl, Nat.le_of_ble_eq_true rfl⟩) hP hD hS hA [0, 1] [] rfl rfl (by decide) (by decide) ?_
    clear hP hD hS
    intro r_11 u_15 H locs w_12 hP hD hS
    obtain ⟨sc2_13, sc3_14⟩ := u_15
    replace hP : va_P D vwCl [(k, .inr (5, [.ref k0, .int c1, .int sc2_13, .int sc3_14, .int c4, .int c5, .int c6, .int c7])), (k0, .inl (cI, 50, .inl c0))] H := hP
    replace hD : va_D A [(k, .inr (5, [.ref k0, .int c1, .int sc2_13, .int sc3_14, .int c4, .int c5, .int c6, .int c7])), (k0, .inl (cI, 50, .inl c0))] := hD
    have lo_r_11 := k_lo r_11
    have hi_r_11 := k_hi r_11
    refine lv_istore (lv' := [(4, .int r_11), (3, .int r_6), (2, .int r_1), (0, .ref k), (1, .int 1)]) hx hb dX5_compared_46 hl (by decide) rfl ?_
    clear hl
    intro ls hl
    refine lv_iload_n hx hb dX5_compared_48 rfl (lv_at hl 1 rfl) ?_
    refine lv_bipush (v := 60) hx hb dX5_compared_49 (by decide) ?_
    refine b_icmp_ne hx hb rfl zl_60 (tgt := 68) dX5_compared_51 (by decide) (fun c_16 => by exfalso; omega) (fun c_16 => ?_)
    refine lv_iload_n hx hb dX5_compared_54 rfl (lv_at hl 2 rfl) ?_
    refine lv_iload hx hb dX5_compared_55 (lv_at hl 0 rfl) ?_
    refine b_icmp_ge hx hb rfl rfl (tgt := 64) dX5_compared_57 (by decide) (fun c_17 => ?_) (fun c_17 => ?_)
    · refine lv_iconst (v := 0) hx hb dX5_compared_64 (by decide) ?_
      refine lv_goto (tgt := 99) hx hb dX5_compared_65 (by decide) ?_
      refine kJi (wr := [(k, .inr (5, [.ref k0, .int c1, .int sc2_13, .int sc3_14, .int c4, .int c5, .int c6, .int c7])), (k0, .inl (cI, 50, .inl c0))]) (va_runS (As := [.int 0]) (rest := []) ⟨hx, hb, hml, hown, hT⟩ (c_X5_truthG l D cI aK aV H.size 0) (cwS 1 hT (gS_in mw_502 mw_500 mw_501 mw_6) rfl rfl rfl (by decide +kernel) ⟨Nat.le_of_ble_eq_true rfl, Nat.le_of_ble_eq_true rfl⟩) (kStatX hK hP hD hN hXS hS hA [] rfl (by decide)) rfl rfl hl.1 rfl (lv_room (Nat.le_of_ble_eq_true rfl)) dX5_compared_99 ⟨Nat.le_of_ble_eq_true rfl, Nat.le_of_ble_eq_true rfl⟩) hP hD hS hA [] [0, 1] rfl rfl (by decide) (by decide) ?_
      clear hP hD hS
      intro r_18 u_20 H locs w_19 hP hD hS
      replace hP : va_P D vwCl [(k, .inr (5, [.ref k0, .int c1, .int sc2_13, .int sc3_14, .int c4, .int c5, .int c6, .int c7])), (k0, .inl (cI, 50, .inl c0))] H := hP
      replace hD : va_D A [(k, .inr (5, [.ref k0, .int c1, .int sc2_13, .int sc3_14, .int c4, .int c5, .int c6, .int c7])), (k0, .inl (cI, 50, .inl c0))] := hD
      have lo_r_18 := k_lo r_18
      have hi_r_18 := k_hi r_18
      exact hRet (sc2_13, sc3_14) [0, 1] trivial hP hD (by decide) rfl hS rfl dX5_compared_102
    · refine lv_iconst (v := 1) hx hb dX5_compared_60 (by decide) ?_
      refine lv_goto (tgt := 99) hx hb dX5_compared_61 (by decide) ?_
      refine kJi (wr := [(k, .inr (5, [.ref k0, .int c1, .int sc2_13, .int sc3_14, .int c4, .int c5, .int c6, .int c7])), (k0, .inl (cI, 50, .inl c0))]) (va_runS (As := [.int 1]) (rest := []) ⟨hx, hb, hml, hown, hT⟩ (c_X5_truthG l D cI aK aV H.size 1) (cwS 1 hT (gS_in mw_502 mw_500 mw_501 mw_6) rfl rfl rfl (by decide +kernel) ⟨Nat.le_of_ble_eq_true rfl, Nat.le_of_ble_eq_true rfl⟩) (kStatX hK hP hD hN hXS hS hA [] rfl (by decide)) rfl rfl hl.1 rfl (lv_room (Nat.le_of_ble_eq_true rfl)) dX5_compared_99 ⟨Nat.le_of_ble_eq_true rfl, Nat.le_of_ble_eq_true rfl⟩) hP hD hS hA [] [0, 1] rfl rfl (by decide) (by decide) ?_
      clear hP hD hS
      intro r_21 u_23 H locs w_22 hP hD hS
      replace hP : va_P D vwCl [(k, .inr (5, [.ref k0, .int c1, .int sc2_13, .int sc3_14, .int c4, .int c5, .int c6, .int c7])), (k0, .inl (cI, 50, .inl c0))] H := hP
      replace hD : va_D A [(k, .inr (5, [.ref k0, .int c1, .int sc2_13, .int sc3_14, .int c4, .int c5, .int c6, .int c7])), (k0, .inl (cI, 50, .inl c0))] := hD
      have lo_r_21 := k_lo r_21
      have hi_r_21 := k_hi r_21
      exact hRet (sc2_13, sc3_14) [0, 1] trivial hP hD (by decide) rfl hS rfl dX5_compared_102
  · refine lv_iload_n hx hb dX5_compared_17 rfl (lv_at hl 0 rfl) ?_
    refine lv_bipush (v := 61) hx hb dX5_compared_18 (by decide) ?_
    refine b_icmp_eq hx hb rfl zl_61 (tgt := 31) dX5_compared_20 (by decide) (fun c_24 => ?_) (fun c_24 => ?_)
    · refine lv_aload_n hx hb dX5_compared_31 rfl (lv_at hl 2 rfl) ?_
      refine lv_dup hx hb dX5_compared_32 rfl ?_
      refine va_get (D := D) (ci := 5) (v := .int sc2_3) (C := RX5) (T := TX5) (N := 8) hx hb hT giX5 hown hK hP 0 rfl rfl 2 (by decide) (hT (Cond.fieldLink RX5 19 "DesertWire$Reader" "at" "I") mw_170) (fun _ h9 => h9) rfl dX5_compared_33 ?_
      refine lv_iconst (v := 1) hx hb dX5_compared_36 (by decide) ?_
      refine lv_iadd hx hb dX5_compared_37 ?_
      refine lv_topi (fun v_25 ev_25 => ?_)
      have lo_v_25 := k_lo v_25
      have hi_v_25 := k_hi v_25
      refine va_put (D := D) (ci := 5) (v := .int v_25) (ty := .int) (C := RX5) (T := TX5) (N := 8) hx hb hT giX5 tyX5 tyX5_ok nmX5 hown hK hP hD hS 0 rfl rfl 2 (by decide) (hT (Cond.fieldLink RX5 19 "DesertWire$Reader" "at" "I") mw_170) (fun _ h9 => h9) rfl (by decide +kernel) rfl rfl (Nat.le_of_ble_eq_true rfl) dX5_compared_38 ?_
      clear hP hD hS
      intro H locs hP hD hS
      replace hP : va_P D vwCl [(k, .inr (5, [.ref k0, .int c1, .int v_25, .int sc3_4, .int c4, .int c5, .int c6, .int c7])), (k0, .inl (cI, 50, .inl c0))] H := hP
      replace hD : va_D A [(k, .inr (5, [.ref k0, .int c1, .int v_25, .int sc3_4, .int c4, .int c5, .int c6, .int c7])), (k0, .inl (cI, 50, .inl c0))] := hD
      refine lv_aload_n hx hb dX5_compared_41 rfl (lv_at hl 2 rfl) ?_
      refine lv_iload_n hx hb dX5_compared_42 rfl (lv_at hl 3 rfl) ?_
      refine kJi (wr := []) (va_runV (As := [.int 1]) (rest := []) ⟨hx, hb, hml, hown, hT⟩ (c_X5_sumG1 l D cI aK aV k k0 H.size c1 v_25 sc3_4 c4 c5 c6 c7 c0 1 (by first | omega | (simp only [zl_1] <;> omega) | decide | assumption | rfl)) (cwV 1 hT (gV_in mw_472 mw_469 mw_471 mw_p1_8 mw_6) rfl rfl rfl (by decide +kernel) ⟨Nat.le_of_ble_eq_true rfl, Nat.le_of_ble_eq_true rfl⟩) (kRecvX (q0 := 0) (ci := 5) hK hP hD hN hXS hS hA rfl rfl [0, 1] rfl (by decide)) rfl rfl hl.1 rfl (lv_room (Nat.le_of_ble_eq_true rfl)) dX5_compared_43 ⟨Nat.le_of_ble_eq_true rfl, Nat.le_of_ble_eq_true rfl⟩) hP hD hS hA [0, 1] [] rfl rfl (by decide) (by decide) ?_
      clear hP hD hS
      intro r_26 u_30 H locs w_27 hP hD hS
      obtain ⟨sc2_28, sc3_29⟩ := u_30
      replace hP : va_P D vwCl [(k, .inr (5, [.ref k0, .int c1, .int sc2_28, .int sc3_29, .int c4, .int c5, .int c6, .int c7])), (k0, .inl (cI, 50, .inl c0))] H := hP
      replace hD : va_D A [(k, .inr (5, [.ref k0, .int c1, .int sc2_28, .int sc3_29, .int c4, .int c5, .int c6, .int c7])), (k0, .inl (cI, 50, .inl c0))] := hD
      have lo_r_26 := k_lo r_26
      have hi_r_26 := k_hi r_26
      refine lv_istore (lv' := [(4, .int r_26), (3, .int r_6), (2, .int r_1), (0, .ref k), (1, .int 1)]) hx hb dX5_compared_46 hl (by decide) rfl ?_
      clear hl
      intro ls hl
      refine lv_iload_n hx hb dX5_compared_48 rfl (lv_at hl 1 rfl) ?_
      refine lv_bipush (v := 60) hx hb dX5_compared_49 (by decide) ?_
      refine b_icmp_ne hx hb rfl zl_60 (tgt := 68) dX5_compared_51 (by decide) (fun c_31 => ?_) (fun c_31 => by exfalso; omega)
      refine lv_iload_n hx hb dX5_compared_68 rfl (lv_at hl 1 rfl) ?_
      refine lv_bipush (v := 61) hx hb dX5_compared_69 (by decide) ?_
      refine b_icmp_ne hx hb rfl zl_61 (tgt := 88) dX5_compared_71 (by decide) (fun c_32 => by exfalso; omega) (fun c_32 => ?_)
      refine lv_iload_n hx hb dX5_compared_74 rfl (lv_at hl 2 rfl) ?_
      refine lv_iload hx hb dX5_compared_75 (lv_at hl 0 rfl) ?_
      refine b_icmp_ne hx hb rfl rfl (tgt := 84) dX5_compared_77 (by decide) (fun c_33 => ?_) (fun c_33 => ?_)
      · refine lv_iconst (v := 0) hx hb dX5_compared_84 (by decide) ?_
        refine lv_goto (tgt := 99) hx hb dX5_compared_85 (by decide) ?_
        refine kJi (wr := [(k, .inr (5, [.ref k0, .int c1, .int sc2_28, .int sc3_29, .int c4, .int c5, .int c6, .int c7])), (k0, .inl (cI, 50, .inl c0))]) (va_runS (As := [.int 0]) (rest := []) ⟨hx, hb, hml, hown, hT⟩ (c_X5_truthG l D cI aK aV H.size 0) (cwS 1 hT (gS_in mw_502 mw_500 mw_501 mw_6) rfl rfl rfl (by decide +kernel) ⟨Nat.le_of_ble_eq_true rfl, Nat.le_of_ble_eq_true rfl⟩) (kStatX hK hP hD hN hXS hS hA [] rfl (by decide)) rfl rfl hl.1 rfl (lv_room (Nat.le_of_ble_eq_true rfl)) dX5_compared_99 ⟨Nat.le_of_ble_eq_true rfl, Nat.le_of_ble_eq_true rfl⟩) hP hD hS hA [] [0, 1] rfl rfl (by decide) (by decide) ?_
        clear hP hD hS
        intro r_34 u_36 H locs w_35 hP hD hS
        replace hP : va_P D vwCl [(k, .inr (5, [.ref k0, .int c1, .int sc2_28, .int sc3_29, .int c4, .int c5, .int c6, .int c7])), (k0, .inl (cI, 50, .inl c0))] H := hP
        replace hD : va_D A [(k, .inr (5, [.ref k0, .int c1, .int sc2_28, .int sc3_29, .int c4, .int c5, .int c6, .int c7])), (k0, .inl (cI, 50, .inl c0))] := hD
        have lo_r_34 := k_lo r_34
        have hi_r_34 := k_hi r_34
        exact hRet (sc2_28, sc3_29) [0, 1] trivial hP hD (by decide) rfl hS rfl dX5_compared_102
      · refine lv_iconst (v := 1) hx hb dX5_compared_80 (by decide) ?_
        refine lv_goto (tgt := 99) hx hb dX5_compared_81 (by decide) ?_
        refine kJi (wr := [(k, .inr (5, [.ref k0, .int c1, .int sc2_28, .int sc3_29, .int c4, .int c5, .int c6, .int c7])), (k0, .inl (cI, 50, .inl c0))]) (va_runS (As := [.int 1]) (rest := []) ⟨hx, hb, hml, hown, hT⟩ (c_X5_truthG l D cI aK aV H.size 1) (cwS 1 hT (gS_in mw_502 mw_500 mw_501 mw_6) rfl rfl rfl (by decide +kernel) ⟨Nat.le_of_ble_eq_true rfl, Nat.le_of_ble_eq_true rfl⟩) (kStatX hK hP hD hN hXS hS hA [] rfl (by decide)) rfl rfl hl.1 rfl (lv_room (Nat.le_of_ble_eq_true rfl)) dX5_compared_99 ⟨Nat.le_of_ble_eq_true rfl, Nat.le_of_ble_eq_true rfl⟩) hP hD hS hA [] [0, 1] rfl rfl (by decide) (by decide) ?_
        clear hP hD hS
        intro r_37 u_39 H locs w_38 hP hD hS
        replace hP : va_P D vwCl [(k, .inr (5, [.ref k0, .int c1, .int sc2_28, .int sc3_29, .int c4, .int c5, .int c6, .int c7])), (k0, .inl (cI, 50, .inl c0))] H := hP
        replace hD : va_D A [(k, .inr (5, [.ref k0, .int c1, .int sc2_28, .int sc3_29, .int c4, .int c5, .int c6, .int c7])), (k0, .inl (cI, 50, .inl c0))] := hD
        have lo_r_37 := k_lo r_37
        have hi_r_37 := k_hi r_37
        exact hRet (sc2_28, sc3_29) [0, 1] trivial hP hD (by decide) rfl hS rfl dX5_compared_102
    · refine lv_iload_n hx hb dX5_compared_23 rfl (lv_at hl 0 rfl) ?_
      refine lv_bipush (v := 62) hx hb dX5_compared_24 (by decide) ?_
      refine b_icmp_eq hx hb rfl zl_62 (tgt := 31) dX5_compared_26 (by decide) (fun c_40 => ?_) (fun c_40 => ?_)
      · refine lv_aload_n hx hb dX5_compared_31 rfl (lv_at hl 2 rfl) ?_
        refine lv_dup hx hb dX5_compared_32 rfl ?_
        refine va_get (D := D) (ci := 5) (v := .int sc2_3) (C := RX5) (T := TX5) (N := 8) hx hb hT giX5 hown hK hP 0 rfl rfl 2 (by decide) (hT (Cond.fieldLink RX5 19 "DesertWire$Reader" "at" "I") mw_170) (fun _ h9 => h9) rfl dX5_compared_33 ?_
        refine lv_iconst (v := 1) hx hb dX5_compared_36 (by decide) ?_
        refine lv_iadd hx hb dX5_compared_37 ?_
        refine lv_topi (fun v_41 ev_41 => ?_)
        have lo_v_41 := k_lo v_41
        have hi_v_41 := k_hi v_41
        refine va_put (D := D) (ci := 5) (v := .int v_41) (ty := .int) (C := RX5) (T := TX5) (N := 8) hx hb hT giX5 tyX5 tyX5_ok nmX5 hown hK hP hD hS 0 rfl rfl 2 (by decide) (hT (Cond.fieldLink RX5 19 "DesertWire$Reader" "at" "I") mw_170) (fun _ h9 => h9) rfl (by decide +kernel) rfl rfl (Nat.le_of_ble_eq_true rfl) dX5_compared_38 ?_
        clear hP hD hS
        intro H locs hP hD hS
        replace hP : va_P D vwCl [(k, .inr (5, [.ref k0, .int c1, .int v_41, .int sc3_4, .int c4, .int c5, .int c6, .int c7])), (k0, .inl (cI, 50, .inl c0))] H := hP
        replace hD : va_D A [(k, .inr (5, [.ref k0, .int c1, .int v_41, .int sc3_4, .int c4, .int c5, .int c6, .int c7])), (k0, .inl (cI, 50, .inl c0))] := hD
        refine lv_aload_n hx hb dX5_compared_41 rfl (lv_at hl 2 rfl) ?_
        refine lv_iload_n hx hb dX5_compared_42 rfl (lv_at hl 3 rfl) ?_
        refine kJi (wr := []) (va_runV (As := [.int 1]) (rest := []) ⟨hx, hb, hml, hown, hT⟩ (c_X5_sumG1 l D cI aK aV k k0 H.size c1 v_41 sc3_4 c4 c5 c6 c7 c0 1 (by first | omega | (simp only [zl_1] <;> omega) | decide | assumption | rfl)) (cwV 1 hT (gV_in mw_472 mw_469 mw_471 mw_p1_8 mw_6) rfl rfl rfl (by decide +kernel) ⟨Nat.le_of_ble_eq_true rfl, Nat.le_of_ble_eq_true rfl⟩) (kRecvX (q0 := 0) (ci := 5) hK hP hD hN hXS hS hA rfl rfl [0, 1] rfl (by decide)) rfl rfl hl.1 rfl (lv_room (Nat.le_of_ble_eq_true rfl)) dX5_compared_43 ⟨Nat.le_of_ble_eq_true rfl, Nat.le_of_ble_eq_true rfl⟩) hP hD hS hA [0, 1] [] rfl rfl (by decide) (by decide) ?_
        clear hP hD hS
        intro r_42 u_46 H locs w_43 hP hD hS
        obtain ⟨sc2_44, sc3_45⟩ := u_46
        replace hP : va_P D vwCl [(k, .inr (5, [.ref k0, .int c1, .int sc2_44, .int sc3_45, .int c4, .int c5, .int c6, .int c7])), (k0, .inl (cI, 50, .inl c0))] H := hP
        replace hD : va_D A [(k, .inr (5, [.ref k0, .int c1, .int sc2_44, .int sc3_45, .int c4, .int c5, .int c6, .int c7])), (k0, .inl (cI, 50, .inl c0))] := hD
        have lo_r_42 := k_lo r_42
        have hi_r_42 := k_hi r_42
        refine lv_istore (lv' := [(4, .int r_42), (3, .int r_6), (2, .int r_1), (0, .ref k), (1, .int 1)]) hx hb dX5_compared_46 hl (by decide) rfl ?_
        clear hl
        intro ls hl
        refine lv_iload_n hx hb dX5_compared_48 rfl (lv_at hl 1 rfl) ?_
        refine lv_bipush (v := 60) hx hb dX5_compared_49 (by decide) ?_
        refine b_icmp_ne hx hb rfl zl_60 (tgt := 68) dX5_compared_51 (by decide) (fun c_47 => ?_) (fun c_47 => by exfalso; omega)
        refine lv_iload_n hx hb dX5_compared_68 rfl (lv_at hl 1 rfl) ?_
        refine lv_bipush (v := 61) hx hb dX5_compared_69 (by decide) ?_
        refine b_icmp_ne hx hb rfl zl_61 (tgt := 88) dX5_compared_71 (by decide) (fun c_48 => ?_) (fun c_48 => by exfalso; omega)
        refine lv_iload_n hx hb dX5_compared_88 rfl (lv_at hl 2 rfl) ?_
        refine lv_iload hx hb dX5_compared_89 (lv_at hl 0 rfl) ?_
        refine b_icmp_le hx hb rfl rfl (tgt := 98) dX5_compared_91 (by decide) (fun c_49 => ?_) (fun c_49 => ?_)
        · refine lv_iconst (v := 0) hx hb dX5_compared_98 (by decide) ?_
          refine kJi (wr := [(k, .inr (5, [.ref k0, .int c1, .int sc2_44, .int sc3_45, .int c4, .int c5, .int c6, .int c7])), (k0, .inl (cI, 50, .inl c0))]) (va_runS (As := [.int 0]) (rest := []) ⟨hx, hb, hml, hown, hT⟩ (c_X5_truthG l D cI aK aV H.size 0) (cwS 1 hT (gS_in mw_502 mw_500 mw_501 mw_6) rfl rfl rfl (by decide +kernel) ⟨Nat.le_of_ble_eq_true rfl, Nat.le_of_ble_eq_true rfl⟩) (kStatX hK hP hD hN hXS hS hA [] rfl (by decide)) rfl rfl hl.1 rfl (lv_room (Nat.le_of_ble_eq_true rfl)) dX5_compared_99 ⟨Nat.le_of_ble_eq_true rfl, Nat.le_of_ble_eq_true rfl⟩) hP hD hS hA [] [0, 1] rfl rfl (by decide) (by decide) ?_
          clear hP hD hS
          intro r_50 u_52 H locs w_51 hP hD hS
          replace hP : va_P D vwCl [(k, .inr (5, [.ref k0, .int c1, .int sc2_44, .int sc3_45, .int c4, .int c5, .int c6, .int c7])), (k0, .inl (cI, 50, .inl c0))] H := hP
          replace hD : va_D A [(k, .inr (5, [.ref k0, .int c1, .int sc2_44, .int sc3_45, .int c4, .int c5, .int c6, .int c7])), (k0, .inl (cI, 50, .inl c0))] := hD
          have lo_r_50 := k_lo r_50
          have hi_r_50 := k_hi r_50
          exact hRet (sc2_44, sc3_45) [0, 1] trivial hP hD (by decide) rfl hS rfl dX5_compared_102
        · refine lv_iconst (v := 1) hx hb dX5_compared_94 (by decide) ?_
          refine lv_goto (tgt := 99) hx hb dX5_compared_95 (by decide) ?_
          refine kJi (wr := [(k, .inr (5, [.ref k0, .int c1, .int sc2_44, .int sc3_45, .int c4, .int c5, .int c6, .int c7])), (k0, .inl (cI, 50, .inl c0))]) (va_runS (As := [.int 1]) (rest := []) ⟨hx, hb, hml, hown, hT⟩ (c_X5_truthG l D cI aK aV H.size 1) (cwS 1 hT (gS_in mw_502 mw_500 mw_501 mw_6) rfl rfl rfl (by decide +kernel) ⟨Nat.le_of_ble_eq_true rfl, Nat.le_of_ble_eq_true rfl⟩) (kStatX hK hP hD hN hXS hS hA [] rfl (by decide)) rfl rfl hl.1 rfl (lv_room (Nat.le_of_ble_eq_true rfl)) dX5_compared_99 ⟨Nat.le_of_ble_eq_true rfl, Nat.le_of_ble_eq_true rfl⟩) hP hD hS hA [] [0, 1] rfl rfl (by decide) (by decide) ?_
          clear hP hD hS
          intro r_53 u_55 H locs w_54 hP hD hS
          replace hP : va_P D vwCl [(k, .inr (5, [.ref k0, .int c1, .int sc2_44, .int sc3_45, .int c4, .int c5, .int c6, .int c7])), (k0, .inl (cI, 50, .inl c0))] H := hP
          replace hD : va_D A [(k, .inr (5, [.ref k0, .int c1, .int sc2_44, .int sc3_45, .int c4, .int c5, .int c6, .int c7])), (k0, .inl (cI, 50, .inl c0))] := hD
          have lo_r_53 := k_lo r_53
          have hi_r_53 := k_hi r_53
          exact hRet (sc2_44, sc3_45) [0, 1] trivial hP hD (by decide) rfl hS rfl dX5_compared_102
      · refine lv_iload_n hx hb dX5_compared_29 rfl (lv_at hl 1 rfl) ?_
        exact hRet (sc2_3, sc3_4) [0, 1] trivial hP hD (by decide) rfl hS rfl dX5_compared_30

set_option maxHeartbeats 4000000 in
set_option maxRecDepth 100000 in
theorem c_X5_bothG1 (l : Launch) (D : va_G) (cI : ClassId) (aK aV : Nat → Nat) (k k0 : Nat) (sz : Nat) (c1 : Int32) (c2 : Int32) (c3 : Int32) (c4 : Int32) (c5 : Int32) (c6 : Int32) (c7 : Int32) (c0 : Nat → Int32) (a0 : Int32) (pre0 : a0 = 1) : Met l yX5_both (gW yX5_both cX5_both 5 (some .int)) ({ frames := 30, cells := 0, slots := 0, locals := 728 } : Room) (kPreX D cI aK aV [.ref k, .int 1] [(k, .inr (5, [.ref k0, .int c1, .int c2, .int c3, .int c4, .int c5, .int c6, .int c7])), (k0, .inl (cI, 50, .inl c0))] sz) (va_Qi (fun (r : Int32) (u : Int32 × Int32) => True) (fun u t => kWd D cI (va_A [(k, .inr (5, [.ref k0, .int c1, .int c2, .int c3, .int c4, .int c5, .int c6, .int c7])), (k0, .inl (cI, 50, .inl c0))] sz) [(k, .inr (5, [.ref k0, .int c1, .int u.1, .int u.2, .int c4, .int c5, .int c6, .int c7])), (k0, .inl (cI, 50, .inl c0))] t) (va_A [(k, .inr (5, [.ref k0, .int c1, .int c2, .int c3, .int c4, .int c5, .int c6, .int c7])), (k0, .inl (cI, 50, .inl c0))] sz)) 0 0 (va_A [(k, .inr (5, [.ref k0, .int c1, .int c2, .int c3, .int c4, .int c5, .int c6, .int c7])), (k0, .inl (cI, 50, .inl c0))] sz) := by
  refine kMetIX (own := RX5) (by decide) rfl (Nat.le_of_ble_eq_true rfl) ?_
  intro p e s m args below meth c hx hb hT hown hname hml A Q hK hP hD hS hA hN hXS hRet ls hl
  subst pre0
  have hl : lv_has ls 5 [(0, .ref k), (1, .int 1)] := hl
  refine lv_aload_n hx hb dX5_both_0 rfl (lv_at hl 0 rfl) ?_
  refine lv_iload_n hx hb dX5_both_1 rfl (lv_at hl 1 rfl) ?_
  refine kJi (wr := []) (va_runV (As := [.int 1]) (rest := []) ⟨hx, hb, hml, hown, hT⟩ (c_X5_comparedG1 l D cI aK aV k k0 s.heap.size c1 c2 c3 c4 c5 c6 c7 c0 1 (by first | omega | (simp only [zl_1] <;> omega) | decide | assumption | rfl)) (cwV 1 hT (gV_in mw_468 mw_465 mw_467 mw_p1_7 mw_6) rfl rfl rfl (by decide +kernel) ⟨Nat.le_of_ble_eq_true rfl, Nat.le_of_ble_eq_true rfl⟩) (kRecvX (q0 := 0) (ci := 5) hK hP hD hN hXS hS hA rfl rfl [0, 1] rfl (by decide)) rfl rfl hl.1 rfl (lv_room (Nat.le_of_ble_eq_true rfl)) dX5_both_2 ⟨Nat.le_of_ble_eq_true rfl, Nat.le_of_ble_eq_true rfl⟩) hP hD hS hA [0, 1] [] rfl rfl (by decide) (by decide) ?_
  clear hP hD hS
  intro r_1 u_5 H locs w_2 hP hD hS
  obtain ⟨sc2_3, sc3_4⟩ := u_5
  replace hP : va_P D vwCl [(k, .inr (5, [.ref k0, .int c1, .int sc2_3, .int sc3_4, .int c4, .int c5, .int c6, .int c7])), (k0, .inl (cI, 50, .inl c0))] H := hP
  replace hD : va_D A [(k, .inr (5, [.ref k0, .int c1, .int sc2_3, .int sc3_4, .int c4, .int c5, .int c6, .int c7])), (k0, .inl (cI, 50, .inl c0))] := hD
  have lo_r_1 := k_lo r_1
  have hi_r_1 := k_hi r_1
  refine lv_istore_n (lv' := [(2, .int r_1), (0, .ref k), (1, .int 1)]) hx hb dX5_both_5 rfl hl (by decide) rfl ?_
  clear hl
  intro ls hl
  refine lv_iconst (v := 0) hx hb dX5_both_6 (by decide) ?_
  refine lv_istore_n (lv' := [(3, .int 0), (2, .int r_1), (0, .ref k), (1, .int 1)]) hx hb dX5_both_7 rfl hl (by decide) rfl ?_
  clear hl
  intro ls hl
  have hloop_8 : ∀ (fu_ : Nat) (l8_2 : Int32) (l8_3 : Int32) (f8_k2 : Int32) (f8_k3 : Int32), 0 ≤ l8_3.toInt → (50 - l8_3.toInt).toNat < fu_ → ∀ (ls : Array Slot) (H : Heap) (locs : List Loc), lv_has ls 5 [(3, .int l8_3), (2, .int l8_2), (0, .ref k), (1, .int 1)] → va_P D vwCl [(k, .inr (5, [.ref k0, .int c1, .int f8_k2, .int f8_k3, .int c4, .int c5, .int c6, .int c7])), (k0, .inl (cI, 50, .inl c0))] H → va_D A [(k, .inr (5, [.ref k0, .int c1, .int f8_k2, .int f8_k3, .int c4, .int c5, .int c6, .int c7])), (k0, .inl (cI, 50, .inl c0))] → va_S A s.heap H locs → W p l e ({ frames := 30, cells := 0, slots := 0, locals := 728 } : Room) s m args below meth c H locs 0 0 Q (F0 m 8 ls []) := by
    intro fu_; induction fu_ with
    | zero => intro l8_2 l8_3 f8_k2 f8_k3 i8_0 hm; exact absurd hm (by omega)
    | succ fu_ ih8 =>
        intro l8_2 l8_3 f8_k2 f8_k3 i8_0 hm ls H locs hl hP hD hS
        have lo_l8_2 := k_lo l8_2
        have hi_l8_2 := k_hi l8_2
        have lo_l8_3 := k_lo l8_3
        have hi_l8_3 := k_hi l8_3
        have lo_f8_k2 := k_lo f8_k2
        have hi_f8_k2 := k_hi f8_k2
        have lo_f8_k3 := k_lo f8_k3
        have hi_f8_k3 := k_hi f8_k3
        refine lv_iload_n hx hb dX5_both_8 rfl (lv_at hl 0 rfl) ?_
        refine lv_bipush (v := 50) hx hb dX5_both_9 (by decide) ?_
        refine b_icmp_ge hx hb rfl zl_50 (tgt := 64) dX5_both_11 (by decide) (fun c_6 => ?_) (fun c_6 => ?_)
        · refine lv_iload_n hx hb dX5_both_64 rfl (lv_at hl 1 rfl) ?_
          exact hRet (f8_k2, f8_k3) [0, 1] trivial hP hD (by decide) rfl hS rfl dX5_both_65
        · refine lv_aload_n hx hb dX5_both_14 rfl (lv_at hl 2 rfl) ?_
          refine kJi (wr := []) (va_runV (As := []) (rest := []) ⟨hx, hb, hml, hown, hT⟩ (c_X5_nextG l D cI aK aV k k0 H.size c1 f8_k2 f8_k3 c4 c5 c6 c7 c0) (cwV 0 hT (gV_in mw_484 mw_481 mw_483 mw_p1_11 mw_6) rfl rfl rfl (by decide +kernel) ⟨Nat.le_of_ble_eq_true rfl, Nat.le_of_ble_eq_true rfl⟩) (kRecvX (q0 := 0) (ci := 5) hK hP hD hN hXS hS hA rfl rfl [0, 1] rfl (by decide)) rfl rfl hl.1 rfl (lv_room (Nat.le_of_ble_eq_true rfl)) dX5_both_15 ⟨Nat.le_of_ble_eq_true rfl, Nat.le_of_ble_eq_true rfl⟩) hP hD hS hA [0, 1] [] rfl rfl (by decide) (by decide) ?_
          clear hP hD hS
          intro r_7 u_9 H locs w_8 hP hD hS
          replace hP : va_P D vwCl [(k, .inr (5, [.ref k0, .int c1, .int f8_k2, .int f8_k3, .int c4, .int c5, .int c6, .int c7])), (k0, .inl (cI, 50, .inl c0))] H := hP
          replace hD : va_D A [(k, .inr (5, [.ref k0, .int c1, .int f8_k2, .int f8_k3, .int c4, .int c5, .int c6, .int c7])), (k0, .inl (cI, 50, .inl c0))] := hD
          have lo_r_7 := k_lo r_7
          have hi_r_7 := k_hi r_7
          refine lv_bipush (v := 38) hx hb dX5_both_18 (by decide) ?_
          refine b_icmp_ne hx hb rfl zl_38 (tgt := 64) dX5_both_20 (by decide) (fun c_10 => ?_) (fun c_10 => ?_)
          · refine lv_iload_n hx hb dX5_both_64 rfl (lv_at hl 1 rfl) ?_
            exact hRet (f8_k2, f8_k3) [0, 1] trivial hP hD (by decide) rfl hS rfl dX5_both_65
          · refine lv_aload_n hx hb dX5_both_23 rfl (lv_at hl 2 rfl) ?_
            refine lv_dup hx hb dX5_both_24 rfl ?_
            refine va_get (D := D) (ci := 5) (v := .int f8_k2) (C := RX5) (T := TX5) (N := 8) hx hb hT giX5 hown hK hP 0 rfl rfl 2 (by decide) (hT (Cond.fieldLink RX5 19 "DesertWire$Reader" "at" "I") mw_170) (fun _ h9 => h9) rfl dX5_both_25 ?_
            refine lv_iconst (v := 1) hx hb dX5_both_28 (by decide) ?_
            refine lv_iadd hx hb dX5_both_29 ?_
            refine lv_topi (fun v_11 ev_11 => ?_)
            have lo_v_11 := k_lo v_11
            have hi_v_11 := k_hi v_11
            refine va_put (D := D) (ci := 5) (v := .int v_11) (ty := .int) (C := RX5) (T := TX5) (N := 8) hx hb hT giX5 tyX5 tyX5_ok nmX5 hown hK hP hD hS 0 rfl rfl 2 (by decide) (hT (Cond.fieldLink RX5 19 "DesertWire$Reader" "at" "I") mw_170) (fun _ h9 => h9) rfl (by decide +kernel) rfl rfl (Nat.le_of_ble_eq_true rfl) dX5_both_30 ?_
            clear hP hD hS
            intro H locs hP hD hS
            replace hP : va_P D vwCl [(k, .inr (5, [.ref k0, .int c1, .int v_11, .int f8_k3, .int c4, .int c5, .int c6, .int c7])), (k0, .inl (cI, 50, .inl c0))] H := hP
            replace hD : va_D A [(k, .inr (5, [.ref k0, .int c1, .int v_11, .int f8_k3, .int c4, .int c5, .int c6, .int c7])), (k0, .inl (cI, 50, .inl c0))] := hD
            refine lv_aload_n hx hb dX5_both_33 rfl (lv_at hl 2 rfl) ?_
            refine lv_iload_n hx hb dX5_both_34 rfl (lv_at hl 3 rfl) ?_
            refine kJi (wr := []) (va_runV (As := [.int 1]) (rest := []) ⟨hx, hb, hml, hown, hT⟩ (c_X5_comparedG1 l D cI aK aV k k0 H.size c1 v_11 f8_k3 c4 c5 c6 c7 c0 1 (by first | omega | (simp only [zl_1] <;> omega) | decide | assumption | rfl)) (cwV 1 hT (gV_in mw_468 mw_465 mw_467 mw_p1_7 mw_6) rfl rfl rfl (by decide +kernel) ⟨Nat.le_of_ble_eq_true rfl, Nat.le_of_ble_eq_true rfl⟩) (kRecvX (q0 := 0) (ci := 5) hK hP hD hN hXS hS hA rfl rfl [0, 1] rfl (by decide)) rfl rfl hl.1 rfl (lv_room (Nat.le_of_ble_eq_true rfl)) dX5_both_35 ⟨Nat.le_of_ble_eq_true rfl, Nat.le_of_ble_eq_true rfl⟩) hP hD hS hA [0, 1] [] rfl rfl (by decide) (by decide) ?_
            clear hP hD hS
            intro r_12 u_16 H locs w_13 hP hD hS
            obtain ⟨sc2_14, sc3_15⟩ := u_16
            replace hP : va_P D vwCl [(k, .inr (5, [.ref k0, .int c1, .int sc2_14, .int sc3_15, .int c4, .int c5, .int c6, .int c7])), (k0, .inl (cI, 50, .inl c0))] H := hP
            replace hD : va_D A [(k, .inr (5, [.ref k0, .int c1, .int sc2_14, .int sc3_15, .int c4, .int c5, .int c6, .int c7])), (k0, .inl (cI, 50, .inl c0))] := hD
            have lo_r_12 := k_lo r_12
            have hi_r_12 := k_hi r_12
            refine lv_istore (lv' := [(4, .int r_12), (3, .int l8_3), (2, .int l8_2), (0, .ref k), (1, .int 1)]) hx hb dX5_both_38 hl (by decide) rfl ?_
            clear hl
            intro ls hl
            refine lv_iload_n hx hb dX5_both_40 rfl (lv_at hl 2 rfl) ?_
            refine b_if_eq hx hb rfl (tgt := 53) dX5_both_41 (by decide) (fun c_17 => ?_) (fun c_17 => ?_)
            · refine lv_iconst (v := 0) hx hb dX5_both_53 (by decide) ?_
              refine kJi (wr := [(k, .inr (5, [.ref k0, .int c1, .int sc2_14, .int sc3_15, .int c4, .int c5, .int c6, .int c7])), (k0, .inl (cI, 50, .inl c0))]) (va_runS (As := [.int 0]) (rest := []) ⟨hx, hb, hml, hown, hT⟩ (c_X5_truthG l D cI aK aV H.size 0) (cwS 1 hT (gS_in mw_502 mw_500 mw_501 mw_6) rfl rfl rfl (by decide +kernel) ⟨Nat.le_of_ble_eq_true rfl, Nat.le_of_ble_eq_true rfl⟩) (kStatX hK hP hD hN hXS hS hA [] rfl (by decide)) rfl rfl hl.1 rfl (lv_room (Nat.le_of_ble_eq_true rfl)) dX5_both_54 ⟨Nat.le_of_ble_eq_true rfl, Nat.le_of_ble_eq_true rfl⟩) hP hD hS hA [] [0, 1] rfl rfl (by decide) (by decide) ?_
              clear hP hD hS
              intro r_18 u_20 H locs w_19 hP hD hS
              replace hP : va_P D vwCl [(k, .inr (5, [.ref k0, .int c1, .int sc2_14, .int sc3_15, .int c4, .int c5, .int c6, .int c7])), (k0, .inl (cI, 50, .inl c0))] H := hP
              replace hD : va_D A [(k, .inr (5, [.ref k0, .int c1, .int sc2_14, .int sc3_15, .int c4, .int c5, .int c6, .int c7])), (k0, .inl (cI, 50, .inl c0))] := hD
              have lo_r_18 := k_lo r_18
              have hi_r_18 := k_hi r_18
              refine lv_istore_n (lv' := [(2, .int r_18), (4, .int r_12), (3, .int l8_3), (0, .ref k), (1, .int 1)]) hx hb dX5_both_57 rfl hl (by decide) rfl ?_
              clear hl
              intro ls hl
              obtain ⟨v_21, ev_21⟩ : ∃ y : Int32, y = l8_3 + 1 := ⟨_, rfl⟩
              have tv_21 : v_21.toInt = l8_3.toInt + 1 := by rw [ev_21]; exact k_addv rfl zl_1 (by omega) (by omega)
              refine lv_iinc (v := v_21) (lv' := [(3, .int v_21), (2, .int r_18), (4, .int r_12), (0, .ref k), (1, .int 1)]) hx hb dX5_both_58 hl (k := 2) rfl (by rw [ev_21]; rfl) (by decide) rfl ?_
              clear hl
              intro ls hl
              refine lv_goto (tgt := 8) hx hb dX5_both_61 (by decide) ?_
              exact ih8 r_18 v_21 sc2_14 sc3_15 (by first | omega | decide | assumption | rfl) (by omega) ls _ _ (lv_sub hl [0, 1, 3, 4] rfl) (hP.sub [0, 1] rfl) (hD.sub [0, 1] (by decide) rfl) hS
            · refine lv_iload hx hb dX5_both_44 (lv_at hl 0 rfl) ?_
              refine b_if_eq hx hb rfl (tgt := 53) dX5_both_46 (by decide) (fun c_22 => ?_) (fun c_22 => ?_)
              · refine lv_iconst (v := 0) hx hb dX5_both_53 (by decide) ?_
                refine kJi (wr := [(k, .inr (5, [.ref k0, .int c1, .int sc2_14, .int sc3_15, .int c4, .int c5, .int c6, .int c7])), (k0, .inl (cI, 50, .inl c0))]) (va_runS (As := [.int 0]) (rest := []) ⟨hx, hb, hml, hown, hT⟩ (c_X5_truthG l D cI aK aV H.size 0) (cwS 1 hT (gS_in mw_502 mw_500 mw_501 mw_6) rfl rfl rfl (by decide +kernel) ⟨Nat.le_of_ble_eq_true rfl, Nat.le_of_ble_eq_true rfl⟩) (kStatX hK hP hD hN hXS hS hA [] rfl (by decide)) rfl rfl hl.1 rfl (lv_room (Nat.le_of_ble_eq_true rfl)) dX5_both_54 ⟨Nat.le_of_ble_eq_true rfl, Nat.le_of_ble_eq_true rfl⟩) hP hD hS hA [] [0, 1] rfl rfl (by decide) (by decide) ?_
                clear hP hD hS
                intro r_23 u_25 H locs w_24 hP hD hS
                replace hP : va_P D vwCl [(k, .inr (5, [.ref k0, .int c1, .int sc2_14, .int sc3_15, .int c4, .int c5, .int c6, .int c7])), (k0, .inl (cI, 50, .inl c0))] H := hP
                replace hD : va_D A [(k, .inr (5, [.ref k0, .int c1, .int sc2_14, .int sc3_15, .int c4, .int c5, .int c6, .int c7])), (k0, .inl (cI, 50, .inl c0))] := hD
                have lo_r_23 := k_lo r_23
                have hi_r_23 := k_hi r_23
                refine lv_istore_n (lv' := [(2, .int r_23), (4, .int r_12), (3, .int l8_3), (0, .ref k), (1, .int 1)]) hx hb dX5_both_57 rfl hl (by decide) rfl ?_
                clear hl
                intro ls hl
                obtain ⟨v_26, ev_26⟩ : ∃ y : Int32, y = l8_3 + 1 := ⟨_, rfl⟩
                have tv_26 : v_26.toInt = l8_3.toInt + 1 := by rw [ev_26]; exact k_addv rfl zl_1 (by omega) (by omega)
                refine lv_iinc (v := v_26) (lv' := [(3, .int v_26), (2, .int r_23), (4, .int r_12), (0, .ref k), (1, .int 1)]) hx hb dX5_both_58 hl (k := 2) rfl (by rw [ev_26]; rfl) (by decide) rfl ?_
                clear hl
                intro ls hl
                refine lv_goto (tgt := 8) hx hb dX5_both_61 (by decide) ?_
                exact ih8 r_23 v_26 sc2_14 sc3_15 (by first | omega | decide | assumption | rfl) (by omega) ls _ _ (lv_sub hl [0, 1, 3, 4] rfl) (hP.sub [0, 1] rfl) (hD.sub [0, 1] (by decide) rfl) hS
              · refine lv_iconst (v := 1) hx hb dX5_both_49 (by decide) ?_
                refine lv_goto (tgt := 54) hx hb dX5_both_50 (by decide) ?_
                refine kJi (wr := [(k, .inr (5, [.ref k0, .int c1, .int sc2_14, .int sc3_15, .int c4, .int c5, .int c6, .int c7])), (k0, .inl (cI, 50, .inl c0))]) (va_runS (As := [.int 1]) (rest := []) ⟨hx, hb, hml, hown, hT⟩ (c_X5_truthG l D cI aK aV H.size 1) (cwS 1 hT (gS_in mw_502 mw_500 mw_501 mw_6) rfl rfl rfl (by decide +kernel) ⟨Nat.le_of_ble_eq_true rfl, Nat.le_of_ble_eq_true rfl⟩) (kStatX hK hP hD hN hXS hS hA [] rfl (by decide)) rfl rfl hl.1 rfl (lv_room (Nat.le_of_ble_eq_true rfl)) dX5_both_54 ⟨Nat.le_of_ble_eq_true rfl, Nat.le_of_ble_eq_true rfl⟩) hP hD hS hA [] [0, 1] rfl rfl (by decide) (by decide) ?_
                clear hP hD hS
                intro r_27 u_29 H locs w_28 hP hD hS
                replace hP : va_P D vwCl [(k, .inr (5, [.ref k0, .int c1, .int sc2_14, .int sc3_15, .int c4, .int c5, .int c6, .int c7])), (k0, .inl (cI, 50, .inl c0))] H := hP
                replace hD : va_D A [(k, .inr (5, [.ref k0, .int c1, .int sc2_14, .int sc3_15, .int c4, .int c5, .int c6, .int c7])), (k0, .inl (cI, 50, .inl c0))] := hD
                have lo_r_27 := k_lo r_27
                have hi_r_27 := k_hi r_27
                refine lv_istore_n (lv' := [(2, .int r_27), (4, .int r_12), (3, .int l8_3), (0, .ref k), (1, .int 1)]) hx hb dX5_both_57 rfl hl (by decide) rfl ?_
                clear hl
                intro ls hl
                obtain ⟨v_30, ev_30⟩ : ∃ y : Int32, y = l8_3 + 1 := ⟨_, rfl⟩
                have tv_30 : v_30.toInt = l8_3.toInt + 1 := by rw [ev_30]; exact k_addv rfl zl_1 (by omega) (by omega)
                refine lv_iinc (v := v_30) (lv' := [(3, .int v_30), (2, .int r_27), (4, .int r_12), (0, .ref k), (1, .int 1)]) hx hb dX5_both_58 hl (k := 2) rfl (by rw [ev_30]; rfl) (by decide) rfl ?_
                clear hl
                intro ls hl
                refine lv_goto (tgt := 8) hx hb dX5_both_61 (by decide) ?_
                exact ih8 r_27 v_30 sc2_14 sc3_15 (by first | omega | decide | assumption | rfl) (by omega) ls _ _ (lv_sub hl [0, 1, 3, 4] rfl) (hP.sub [0, 1] rfl) (hD.sub [0, 1] (by decide) rfl) hS
  exact hloop_8 _ r_1 0 sc2_3 sc3_4 (by first | omega | (simp only [zl_0] <;> omega) | decide | assumption | rfl) (Nat.lt_succ_self _) ls _ _ (lv_sub hl [0, 1, 2, 3] rfl) hP hD hS

set_option maxHeartbeats 4000000 in
set_option maxRecDepth 100000 in
theorem c_X5_eitherG1 (l : Launch) (D : va_G) (cI : ClassId) (aK aV : Nat → Nat) (k k0 : Nat) (sz : Nat) (c1 : Int32) (c2 : Int32) (c3 : Int32) (c4 : Int32) (c5 : Int32) (c6 : Int32) (c7 : Int32) (c0 : Nat → Int32) (a0 : Int32) (pre0 : a0 = 1) : Met l yX5_either (gW yX5_either cX5_either 5 (some .int)) ({ frames := 31, cells := 0, slots := 0, locals := 752 } : Room) (kPreX D cI aK aV [.ref k, .int 1] [(k, .inr (5, [.ref k0, .int c1, .int c2, .int c3, .int c4, .int c5, .int c6, .int c7])), (k0, .inl (cI, 50, .inl c0))] sz) (va_Qi (fun (r : Int32) (u : Int32 × Int32) => True) (fun u t => kWd D cI (va_A [(k, .inr (5, [.ref k0, .int c1, .int c2, .int c3, .int c4, .int c5, .int c6, .int c7])), (k0, .inl (cI, 50, .inl c0))] sz) [(k, .inr (5, [.ref k0, .int c1, .int u.1, .int u.2, .int c4, .int c5, .int c6, .int c7])), (k0, .inl (cI, 50, .inl c0))] t) (va_A [(k, .inr (5, [.ref k0, .int c1, .int c2, .int c3, .int c4, .int c5, .int c6, .int c7])), (k0, .inl (cI, 50, .inl c0))] sz)) 0 0 (va_A [(k, .inr (5, [.ref k0, .int c1, .int c2, .int c3, .int c4, .int c5, .int c6, .int c7])), (k0, .inl (cI, 50, .inl c0))] sz) := by
  refine kMetIX (own := RX5) (by decide) rfl (Nat.le_of_ble_eq_true rfl) ?_
  intro p e s m args below meth c hx hb hT hown hname hml A Q hK hP hD hS hA hN hXS hRet ls hl
  subst pre0
  have hl : lv_has ls 5 [(0, .ref k), (1, .int 1)] := hl
  refine lv_aload_n hx hb dX5_either_0 rfl (lv_at hl 0 rfl) ?_
  refine lv_iload_n hx hb dX5_either_1 rfl (lv_at hl 1 rfl) ?_
  refine kJi (wr := []) (va_runV (As := [.int 1]) (rest := []) ⟨hx, hb, hml, hown, hT⟩ (c_X5_bothG1 l D cI aK aV k k0 s.heap.size c1 c2 c3 c4 c5 c6 c7 c0 1 (by first | omega | (simp only [zl_1] <;> omega) | decide | assumption | rfl)) (cwV 1 hT (gV_in mw_464 mw_461 mw_463 mw_p1_6 mw_6) rfl rfl rfl (by decide +kernel) ⟨Nat.le_of_ble_eq_true rfl, Nat.le_of_ble_eq_true rfl⟩) (kRecvX (q0 := 0) (ci := 5) hK hP hD hN hXS hS hA rfl rfl [0, 1] rfl (by decide)) rfl rfl hl.1 rfl (lv_room (Nat.le_of_ble_eq_true rfl)) dX5_either_2 ⟨Nat.le_of_ble_eq_true rfl, Nat.le_of_ble_eq_true rfl⟩) hP hD hS hA [0, 1] [] rfl rfl (by decide) (by decide) ?_
  clear hP hD hS
  intro r_1 u_5 H locs w_2 hP hD hS
  obtain ⟨sc2_3, sc3_4⟩ := u_5
  replace hP : va_P D vwCl [(k, .inr (5, [.ref k0, .int c1, .int sc2_3, .int sc3_4, .int c4, .int c5, .int c6, .int c7])), (k0, .inl (cI, 50, .inl c0))] H := hP
  replace hD : va_D A [(k, .inr (5, [.ref k0, .int c1, .int sc2_3, .int sc3_4, .int c4, .int c5, .int c6, .int c7])), (k0, .inl (cI, 50, .inl c0))] := hD
  have lo_r_1 := k_lo r_1
  have hi_r_1 := k_hi r_1
  refine lv_istore_n (lv' := [(2, .int r_1), (0, .ref k), (1, .int 1)]) hx hb dX5_either_5 rfl hl (by decide) rfl ?_
  clear hl
  intro ls hl
  refine lv_iconst (v := 0) hx hb dX5_either_6 (by decide) ?_
  refine lv_istore_n (lv' := [(3, .int 0), (2, .int r_1), (0, .ref k), (1, .int 1)]) hx hb dX5_either_7 rfl hl (by decide) rfl ?_
  clear hl
  intro ls hl
  have hloop_8 : ∀ (fu_ : Nat) (l8_2 : Int32) (l8_3 : Int32) (f8_k2 : Int32) (f8_k3 : Int32), 0 ≤ l8_3.toInt → (50 - l8_3.toInt).toNat < fu_ → ∀ (ls : Array Slot) (H : Heap) (locs : List Loc), lv_has ls 5 [(3, .int l8_3), (2, .int l8_2), (0, .ref k), (1, .int 1)] → va_P D vwCl [(k, .inr (5, [.ref k0, .int c1, .int f8_k2, .int f8_k3, .int c4, .int c5, .int c6, .int c7])), (k0, .inl (cI, 50, .inl c0))] H → va_D A [(k, .inr (5, [.ref k0, .int c1, .int f8_k2, .int f8_k3, .int c4, .int c5, .int c6, .int c7])), (k0, .inl (cI, 50, .inl c0))] → va_S A s.heap H locs → W p l e ({ frames := 31, cells := 0, slots := 0, locals := 752 } : Room) s m args below meth c H locs 0 0 Q (F0 m 8 ls []) := by
    intro fu_; induction fu_ with
    | zero => intro l8_2 l8_3 f8_k2 f8_k3 i8_0 hm; exact absurd hm (by omega)
    | succ fu_ ih8 =>
        intro l8_2 l8_3 f8_k2 f8_k3 i8_0 hm ls H locs hl hP hD hS
        have lo_l8_2 := k_lo l8_2
        have hi_l8_2 := k_hi l8_2
        have lo_l8_3 := k_lo l8_3
        have hi_l8_3 := k_hi l8_3
        have lo_f8_k2 := k_lo f8_k2
        have hi_f8_k2 := k_hi f8_k2
        have lo_f8_k3 := k_lo f8_k3
        have hi_f8_k3 := k_hi f8_k3
        refine lv_iload_n hx hb dX5_either_8 rfl (lv_at hl 0 rfl) ?_
        refine lv_bipush (v := 50) hx hb dX5_either_9 (by decide) ?_
        refine b_icmp_ge hx hb rfl zl_50 (tgt := 64) dX5_either_11 (by decide) (fun c_6 => ?_) (fun c_6 => ?_)
        · refine lv_iload_n hx hb dX5_either_64 rfl (lv_at hl 1 rfl) ?_
          exact hRet (f8_k2, f8_k3) [0, 1] trivial hP hD (by decide) rfl hS rfl dX5_either_65
        · refine lv_aload_n hx hb dX5_either_14 rfl (lv_at hl 2 rfl) ?_
          refine kJi (wr := []) (va_runV (As := []) (rest := []) ⟨hx, hb, hml, hown, hT⟩ (c_X5_nextG l D cI aK aV k k0 H.size c1 f8_k2 f8_k3 c4 c5 c6 c7 c0) (cwV 0 hT (gV_in mw_484 mw_481 mw_483 mw_p1_11 mw_6) rfl rfl rfl (by decide +kernel) ⟨Nat.le_of_ble_eq_true rfl, Nat.le_of_ble_eq_true rfl⟩) (kRecvX (q0 := 0) (ci := 5) hK hP hD hN hXS hS hA rfl rfl [0, 1] rfl (by decide)) rfl rfl hl.1 rfl (lv_room (Nat.le_of_ble_eq_true rfl)) dX5_either_15 ⟨Nat.le_of_ble_eq_true rfl, Nat.le_of_ble_eq_true rfl⟩) hP hD hS hA [0, 1] [] rfl rfl (by decide) (by decide) ?_
          clear hP hD hS
          intro r_7 u_9 H locs w_8 hP hD hS
          replace hP : va_P D vwCl [(k, .inr (5, [.ref k0, .int c1, .int f8_k2, .int f8_k3, .int c4, .int c5, .int c6, .int c7])), (k0, .inl (cI, 50, .inl c0))] H := hP
          replace hD : va_D A [(k, .inr (5, [.ref k0, .int c1, .int f8_k2, .int f8_k3, .int c4, .int c5, .int c6, .int c7])), (k0, .inl (cI, 50, .inl c0))] := hD
          have lo_r_7 := k_lo r_7
          have hi_r_7 := k_hi r_7
          refine lv_bipush (v := 124) hx hb dX5_either_18 (by decide) ?_
          refine b_icmp_ne hx hb rfl zl_124 (tgt := 64) dX5_either_20 (by decide) (fun c_10 => ?_) (fun c_10 => ?_)
          · refine lv_iload_n hx hb dX5_either_64 rfl (lv_at hl 1 rfl) ?_
            exact hRet (f8_k2, f8_k3) [0, 1] trivial hP hD (by decide) rfl hS rfl dX5_either_65
          · refine lv_aload_n hx hb dX5_either_23 rfl (lv_at hl 2 rfl) ?_
            refine lv_dup hx hb dX5_either_24 rfl ?_
            refine va_get (D := D) (ci := 5) (v := .int f8_k2) (C := RX5) (T := TX5) (N := 8) hx hb hT giX5 hown hK hP 0 rfl rfl 2 (by decide) (hT (Cond.fieldLink RX5 19 "DesertWire$Reader" "at" "I") mw_170) (fun _ h9 => h9) rfl dX5_either_25 ?_
            refine lv_iconst (v := 1) hx hb dX5_either_28 (by decide) ?_
            refine lv_iadd hx hb dX5_either_29 ?_
            refine lv_topi (fun v_11 ev_11 => ?_)
            have lo_v_11 := k_lo v_11
            have hi_v_11 := k_hi v_11
            refine va_put (D := D) (ci := 5) (v := .int v_11) (ty := .int) (C := RX5) (T := TX5) (N := 8) hx hb hT giX5 tyX5 tyX5_ok nmX5 hown hK hP hD hS 0 rfl rfl 2 (by decide) (hT (Cond.fieldLink RX5 19 "DesertWire$Reader" "at" "I") mw_170) (fun _ h9 => h9) rfl (by decide +kernel) rfl rfl (Nat.le_of_ble_eq_true rfl) dX5_either_30 ?_
            clear hP hD hS
            intro H locs hP hD hS
            replace hP : va_P D vwCl [(k, .inr (5, [.ref k0, .int c1, .int v_11, .int f8_k3, .int c4, .int c5, .int c6, .int c7])), (k0, .inl (cI, 50, .inl c0))] H := hP
            replace hD : va_D A [(k, .inr (5, [.ref k0, .int c1, .int v_11, .int f8_k3, .int c4, .int c5, .int c6, .int c7])), (k0, .inl (cI, 50, .inl c0))] := hD
            refine lv_aload_n hx hb dX5_either_33 rfl (lv_at hl 2 rfl) ?_
            refine lv_iload_n hx hb dX5_either_34 rfl (lv_at hl 3 rfl) ?_
            refine kJi (wr := []) (va_runV (As := [.int 1]) (rest := []) ⟨hx, hb, hml, hown, hT⟩ (c_X5_bothG1 l D cI aK aV k k0 H.size c1 v_11 f8_k3 c4 c5 c6 c7 c0 1 (by first | omega | (simp only [zl_1] <;> omega) | decide | assumption | rfl)) (cwV 1 hT (gV_in mw_464 mw_461 mw_463 mw_p1_6 mw_6) rfl rfl rfl (by decide +kernel) ⟨Nat.le_of_ble_eq_true rfl, Nat.le_of_ble_eq_true rfl⟩) (kRecvX (q0 := 0) (ci := 5) hK hP hD hN hXS hS hA rfl rfl [0, 1] rfl (by decide)) rfl rfl hl.1 rfl (lv_room (Nat.le_of_ble_eq_true rfl)) dX5_either_35 ⟨Nat.le_of_ble_eq_true rfl, Nat.le_of_ble_eq_true rfl⟩) hP hD hS hA [0, 1] [] rfl rfl (by decide) (by decide) ?_
            clear hP hD hS
            intro r_12 u_16 H locs w_13 hP hD hS
            obtain ⟨sc2_14, sc3_15⟩ := u_16
            replace hP : va_P D vwCl [(k, .inr (5, [.ref k0, .int c1, .int sc2_14, .int sc3_15, .int c4, .int c5, .int c6, .int c7])), (k0, .inl (cI, 50, .inl c0))] H := hP
            replace hD : va_D A [(k, .inr (5, [.ref k0, .int c1, .int sc2_14, .int sc3_15, .int c4, .int c5, .int c6, .int c7])), (k0, .inl (cI, 50, .inl c0))] := hD
            have lo_r_12 := k_lo r_12
            have hi_r_12 := k_hi r_12
            refine lv_istore (lv' := [(4, .int r_12), (3, .int l8_3), (2, .int l8_2), (0, .ref k), (1, .int 1)]) hx hb dX5_either_38 hl (by decide) rfl ?_
            clear hl
            intro ls hl
            refine lv_iload_n hx hb dX5_either_40 rfl (lv_at hl 2 rfl) ?_
            refine b_if_ne hx hb rfl (tgt := 49) dX5_either_41 (by decide) (fun c_17 => ?_) (fun c_17 => ?_)
            · refine lv_iconst (v := 1) hx hb dX5_either_49 (by decide) ?_
              refine lv_goto (tgt := 54) hx hb dX5_either_50 (by decide) ?_
              refine kJi (wr := [(k, .inr (5, [.ref k0, .int c1, .int sc2_14, .int sc3_15, .int c4, .int c5, .int c6, .int c7])), (k0, .inl (cI, 50, .inl c0))]) (va_runS (As := [.int 1]) (rest := []) ⟨hx, hb, hml, hown, hT⟩ (c_X5_truthG l D cI aK aV H.size 1) (cwS 1 hT (gS_in mw_502 mw_500 mw_501 mw_6) rfl rfl rfl (by decide +kernel) ⟨Nat.le_of_ble_eq_true rfl, Nat.le_of_ble_eq_true rfl⟩) (kStatX hK hP hD hN hXS hS hA [] rfl (by decide)) rfl rfl hl.1 rfl (lv_room (Nat.le_of_ble_eq_true rfl)) dX5_either_54 ⟨Nat.le_of_ble_eq_true rfl, Nat.le_of_ble_eq_true rfl⟩) hP hD hS hA [] [0, 1] rfl rfl (by decide) (by decide) ?_
              clear hP hD hS
              intro r_18 u_20 H locs w_19 hP hD hS
              replace hP : va_P D vwCl [(k, .inr (5, [.ref k0, .int c1, .int sc2_14, .int sc3_15, .int c4, .int c5, .int c6, .int c7])), (k0, .inl (cI, 50, .inl c0))] H := hP
              replace hD : va_D A [(k, .inr (5, [.ref k0, .int c1, .int sc2_14, .int sc3_15, .int c4, .int c5, .int c6, .int c7])), (k0, .inl (cI, 50, .inl c0))] := hD
              have lo_r_18 := k_lo r_18
              have hi_r_18 := k_hi r_18
              refine lv_istore_n (lv' := [(2, .int r_18), (4, .int r_12), (3, .int l8_3), (0, .ref k), (1, .int 1)]) hx hb dX5_either_57 rfl hl (by decide) rfl ?_
              clear hl
              intro ls hl
              obtain ⟨v_21, ev_21⟩ : ∃ y : Int32, y = l8_3 + 1 := ⟨_, rfl⟩
              have tv_21 : v_21.toInt = l8_3.toInt + 1 := by rw [ev_21]; exact k_addv rfl zl_1 (by omega) (by omega)
              refine lv_iinc (v := v_21) (lv' := [(3, .int v_21), (2, .int r_18), (4, .int r_12), (0, .ref k), (1, .int 1)]) hx hb dX5_either_58 hl (k := 2) rfl (by rw [ev_21]; rfl) (by decide) rfl ?_
              clear hl
              intro ls hl
              refine lv_goto (tgt := 8) hx hb dX5_either_61 (by decide) ?_
              exact ih8 r_18 v_21 sc2_14 sc3_15 (by first | omega | decide | assumption | rfl) (by omega) ls _ _ (lv_sub hl [0, 1, 3, 4] rfl) (hP.sub [0, 1] rfl) (hD.sub [0, 1] (by decide) rfl) hS
            · refine lv_iload hx hb dX5_either_44 (lv_at hl 0 rfl) ?_
              refine b_if_eq hx hb rfl (tgt := 53) dX5_either_46 (by decide) (fun c_22 => ?_) (fun c_22 => ?_)
              · refine lv_iconst (v := 0) hx hb dX5_either_53 (by decide) ?_
                refine kJi (wr := [(k, .inr (5, [.ref k0, .int c1, .int sc2_14, .int sc3_15, .int c4, .int c5, .int c6, .int c7])), (k0, .inl (cI, 50, .inl c0))]) (va_runS (As := [.int 0]) (rest := []) ⟨hx, hb, hml, hown, hT⟩ (c_X5_truthG l D cI aK aV H.size 0) (cwS 1 hT (gS_in mw_502 mw_500 mw_501 mw_6) rfl rfl rfl (by decide +kernel) ⟨Nat.le_of_ble_eq_true rfl, Nat.le_of_ble_eq_true rfl⟩) (kStatX hK hP hD hN hXS hS hA [] rfl (by decide)) rfl rfl hl.1 rfl (lv_room (Nat.le_of_ble_eq_true rfl)) dX5_either_54 ⟨Nat.le_of_ble_eq_true rfl, Nat.le_of_ble_eq_true rfl⟩) hP hD hS hA [] [0, 1] rfl rfl (by decide) (by decide) ?_
                clear hP hD hS
                intro r_23 u_25 H locs w_24 hP hD hS
                replace hP : va_P D vwCl [(k, .inr (5, [.ref k0, .int c1, .int sc2_14, .int sc3_15, .int c4, .int c5, .int c6, .int c7])), (k0, .inl (cI, 50, .inl c0))] H := hP
                replace hD : va_D A [(k, .inr (5, [.ref k0, .int c1, .int sc2_14, .int sc3_15, .int c4, .int c5, .int c6, .int c7])), (k0, .inl (cI, 50, .inl c0))] := hD
                have lo_r_23 := k_lo r_23
                have hi_r_23 := k_hi r_23
                refine lv_istore_n (lv' := [(2, .int r_23), (4, .int r_12), (3, .int l8_3), (0, .ref k), (1, .int 1)]) hx hb dX5_either_57 rfl hl (by decide) rfl ?_
                clear hl
                intro ls hl
                obtain ⟨v_26, ev_26⟩ : ∃ y : Int32, y = l8_3 + 1 := ⟨_, rfl⟩
                have tv_26 : v_26.toInt = l8_3.toInt + 1 := by rw [ev_26]; exact k_addv rfl zl_1 (by omega) (by omega)
                refine lv_iinc (v := v_26) (lv' := [(3, .int v_26), (2, .int r_23), (4, .int r_12), (0, .ref k), (1, .int 1)]) hx hb dX5_either_58 hl (k := 2) rfl (by rw [ev_26]; rfl) (by decide) rfl ?_
                clear hl
                intro ls hl
                refine lv_goto (tgt := 8) hx hb dX5_either_61 (by decide) ?_
                exact ih8 r_23 v_26 sc2_14 sc3_15 (by first | omega | decide | assumption | rfl) (by omega) ls _ _ (lv_sub hl [0, 1, 3, 4] rfl) (hP.sub [0, 1] rfl) (hD.sub [0, 1] (by decide) rfl) hS
              · refine lv_iconst (v := 1) hx hb dX5_either_49 (by decide) ?_
                refine lv_goto (tgt := 54) hx hb dX5_either_50 (by decide) ?_
                refine kJi (wr := [(k, .inr (5, [.ref k0, .int c1, .int sc2_14, .int sc3_15, .int c4, .int c5, .int c6, .int c7])), (k0, .inl (cI, 50, .inl c0))]) (va_runS (As := [.int 1]) (rest := []) ⟨hx, hb, hml, hown, hT⟩ (c_X5_truthG l D cI aK aV H.size 1) (cwS 1 hT (gS_in mw_502 mw_500 mw_501 mw_6) rfl rfl rfl (by decide +kernel) ⟨Nat.le_of_ble_eq_true rfl, Nat.le_of_ble_eq_true rfl⟩) (kStatX hK hP hD hN hXS hS hA [] rfl (by decide)) rfl rfl hl.1 rfl (lv_room (Nat.le_of_ble_eq_true rfl)) dX5_either_54 ⟨Nat.le_of_ble_eq_true rfl, Nat.le_of_ble_eq_true rfl⟩) hP hD hS hA [] [0, 1] rfl rfl (by decide) (by decide) ?_
                clear hP hD hS
                intro r_27 u_29 H locs w_28 hP hD hS
                replace hP : va_P D vwCl [(k, .inr (5, [.ref k0, .int c1, .int sc2_14, .int sc3_15, .int c4, .int c5, .int c6, .int c7])), (k0, .inl (cI, 50, .inl c0))] H := hP
                replace hD : va_D A [(k, .inr (5, [.ref k0, .int c1, .int sc2_14, .int sc3_15, .int c4, .int c5, .int c6, .int c7])), (k0, .inl (cI, 50, .inl c0))] := hD
                have lo_r_27 := k_lo r_27
                have hi_r_27 := k_hi r_27
                refine lv_istore_n (lv' := [(2, .int r_27), (4, .int r_12), (3, .int l8_3), (0, .ref k), (1, .int 1)]) hx hb dX5_either_57 rfl hl (by decide) rfl ?_
                clear hl
                intro ls hl
                obtain ⟨v_30, ev_30⟩ : ∃ y : Int32, y = l8_3 + 1 := ⟨_, rfl⟩
                have tv_30 : v_30.toInt = l8_3.toInt + 1 := by rw [ev_30]; exact k_addv rfl zl_1 (by omega) (by omega)
                refine lv_iinc (v := v_30) (lv' := [(3, .int v_30), (2, .int r_27), (4, .int r_12), (0, .ref k), (1, .int 1)]) hx hb dX5_either_58 hl (k := 2) rfl (by rw [ev_30]; rfl) (by decide) rfl ?_
                clear hl
                intro ls hl
                refine lv_goto (tgt := 8) hx hb dX5_either_61 (by decide) ?_
                exact ih8 r_27 v_30 sc2_14 sc3_15 (by first | omega | decide | assumption | rfl) (by omega) ls _ _ (lv_sub hl [0, 1, 3, 4] rfl) (hP.sub [0, 1] rfl) (hD.sub [0, 1] (by decide) rfl) hS
  exact hloop_8 _ r_1 0 sc2_3 sc3_4 (by first | omega | (simp only [zl_0] <;> omega) | decide | assumption | rfl) (Nat.lt_succ_self _) ls _ _ (lv_sub hl [0, 1, 2, 3] rfl) hP hD hS

set_option maxHeartbeats 4000000 in
set_option maxRecDepth 100000 in
theorem c_X5_openedG1 (l : Launch) (D : va_G) (cI : ClassId) (aK aV : Nat → Nat) (k k0 : Nat) (sz : Nat) (c1 : Int32) (c2 : Int32) (c3 : Int32) (c4 : Int32) (c5 : Int32) (c6 : Int32) (c7 : Int32) (c0 : Nat → Int32) (a0 : Int32) (a1 : Int32) (pre0 : a1 = 1) : Met l yX5_opened (gW yX5_opened cX5_opened 4 (some .int)) ({ frames := 32, cells := 0, slots := 0, locals := 776 } : Room) (kPreX D cI aK aV [.ref k, .int a0, .int 1] [(k, .inr (5, [.ref k0, .int c1, .int c2, .int c3, .int c4, .int c5, .int c6, .int c7])), (k0, .inl (cI, 50, .inl c0))] sz) (va_Qi (fun (r : Int32) (u : Int32 × Int32) => True) (fun u t => kWd D cI (va_A [(k, .inr (5, [.ref k0, .int c1, .int c2, .int c3, .int c4, .int c5, .int c6, .int c7])), (k0, .inl (cI, 50, .inl c0))] sz) [(k, .inr (5, [.ref k0, .int c1, .int u.1, .int u.2, .int c4, .int c5, .int c6, .int c7])), (k0, .inl (cI, 50, .inl c0))] t) (va_A [(k, .inr (5, [.ref k0, .int c1, .int c2, .int c3, .int c4, .int c5, .int c6, .int c7])), (k0, .inl (cI, 50, .inl c0))] sz)) 0 0 (va_A [(k, .inr (5, [.ref k0, .int c1, .int c2, .int c3, .int c4, .int c5, .int c6, .int c7])), (k0, .inl (cI, 50, .inl c0))] sz) := by
  refine kMetIX (own := RX5) (by decide) rfl (Nat.le_of_ble_eq_true rfl) ?_
  intro p e s m args below meth c hx hb hT hown hname hml A Q hK hP hD hS hA hN hXS hRet ls hl
  subst pre0
  have hl : lv_has ls 4 [(0, .ref k), (1, .int a0), (2, .int 1)] := hl
  have lo_a0 := k_lo a0
  have hi_a0 := k_hi a0
  have lo_c2 := k_lo c2
  have hi_c2 := k_hi c2
  refine lv_aload_n hx hb dX5_opened_0 rfl (lv_at hl 0 rfl) ?_
  refine lv_dup hx hb dX5_opened_1 rfl ?_
  refine va_get (D := D) (ci := 5) (v := .int c2) (C := RX5) (T := TX5) (N := 8) hx hb hT giX5 hown hK hP 0 rfl rfl 2 (by decide) (hT (Cond.fieldLink RX5 19 "DesertWire$Reader" "at" "I") mw_170) (fun _ h9 => h9) rfl dX5_opened_2 ?_
  refine lv_iconst (v := 1) hx hb dX5_opened_5 (by decide) ?_
  refine lv_iadd hx hb dX5_opened_6 ?_
  refine lv_topi (fun v_1 ev_1 => ?_)
  have lo_v_1 := k_lo v_1
  have hi_v_1 := k_hi v_1
  refine va_put (D := D) (ci := 5) (v := .int v_1) (ty := .int) (C := RX5) (T := TX5) (N := 8) hx hb hT giX5 tyX5 tyX5_ok nmX5 hown hK hP hD hS 0 rfl rfl 2 (by decide) (hT (Cond.fieldLink RX5 19 "DesertWire$Reader" "at" "I") mw_170) (fun _ h9 => h9) rfl (by decide +kernel) rfl rfl (Nat.le_of_ble_eq_true rfl) dX5_opened_7 ?_
  clear hP hD hS
  intro H locs hP hD hS
  replace hP : va_P D vwCl [(k, .inr (5, [.ref k0, .int c1, .int v_1, .int c3, .int c4, .int c5, .int c6, .int c7])), (k0, .inl (cI, 50, .inl c0))] H := hP
  replace hD : va_D A [(k, .inr (5, [.ref k0, .int c1, .int v_1, .int c3, .int c4, .int c5, .int c6, .int c7])), (k0, .inl (cI, 50, .inl c0))] := hD
  refine lv_iload_n hx hb dX5_opened_10 rfl (lv_at hl 1 rfl) ?_
  refine lv_bipush (v := 45) hx hb dX5_opened_11 (by decide) ?_
  refine b_icmp_ne hx hb rfl zl_45 (tgt := 23) dX5_opened_13 (by decide) (fun c_2 => ?_) (fun c_2 => ?_)
  · refine lv_iload_n hx hb dX5_opened_23 rfl (lv_at hl 1 rfl) ?_
    refine lv_bipush (v := 33) hx hb dX5_opened_24 (by decide) ?_
    refine b_icmp_ne hx hb rfl zl_33 (tgt := 46) dX5_opened_26 (by decide) (fun c_3 => ?_) (fun c_3 => ?_)
    · refine lv_aload_n hx hb dX5_opened_46 rfl (lv_at hl 0 rfl) ?_
      refine lv_iload_n hx hb dX5_opened_47 rfl (lv_at hl 2 rfl) ?_
      refine kJi (wr := []) (va_runV (As := [.int 1]) (rest := []) ⟨hx, hb, hml, hown, hT⟩ (c_X5_eitherG1 l D cI aK aV k k0 H.size c1 v_1 c3 c4 c5 c6 c7 c0 1 (by first | omega | (simp only [zl_1] <;> omega) | decide | assumption | rfl)) (cwV 1 hT (gV_in mw_460 mw_457 mw_459 mw_p1_5 mw_6) rfl rfl rfl (by decide +kernel) ⟨Nat.le_of_ble_eq_true rfl, Nat.le_of_ble_eq_true rfl⟩) (kRecvX (q0 := 0) (ci := 5) hK hP hD hN hXS hS hA rfl rfl [0, 1] rfl (by decide)) rfl rfl hl.1 rfl (lv_room (Nat.le_of_ble_eq_true rfl)) dX5_opened_48 ⟨Nat.le_of_ble_eq_true rfl, Nat.le_of_ble_eq_true rfl⟩) hP hD hS hA [0, 1] [] rfl rfl (by decide) (by decide) ?_
      clear hP hD hS
      intro r_4 u_8 H locs w_5 hP hD hS
      obtain ⟨sc2_6, sc3_7⟩ := u_8
      replace hP : va_P D vwCl [(k, .inr (5, [.ref k0, .int c1, .int sc2_6, .int sc3_7, .int c4, .int c5, .int c6, .int c7])), (k0, .inl (cI, 50, .inl c0))] H := hP
      replace hD : va_D A [(k, .inr (5, [.ref k0, .int c1, .int sc2_6, .int sc3_7, .int c4, .int c5, .int c6, .int c7])), (k0, .inl (cI, 50, .inl c0))] := hD
      have lo_sc2_6 := k_lo sc2_6
      have hi_sc2_6 := k_hi sc2_6
      have lo_r_4 := k_lo r_4
      have hi_r_4 := k_hi r_4
      refine lv_istore_n (lv' := [(3, .int r_4), (0, .ref k), (1, .int a0), (2, .int 1)]) hx hb dX5_opened_51 rfl hl (by decide) rfl ?_
      clear hl
      intro ls hl
      refine lv_aload_n hx hb dX5_opened_52 rfl (lv_at hl 1 rfl) ?_
      refine kJi (wr := []) (va_runV (As := []) (rest := []) ⟨hx, hb, hml, hown, hT⟩ (c_X5_nextG l D cI aK aV k k0 H.size c1 sc2_6 sc3_7 c4 c5 c6 c7 c0) (cwV 0 hT (gV_in mw_484 mw_481 mw_483 mw_p1_11 mw_6) rfl rfl rfl (by decide +kernel) ⟨Nat.le_of_ble_eq_true rfl, Nat.le_of_ble_eq_true rfl⟩) (kRecvX (q0 := 0) (ci := 5) hK hP hD hN hXS hS hA rfl rfl [0, 1] rfl (by decide)) rfl rfl hl.1 rfl (lv_room (Nat.le_of_ble_eq_true rfl)) dX5_opened_53 ⟨Nat.le_of_ble_eq_true rfl, Nat.le_of_ble_eq_true rfl⟩) hP hD hS hA [0, 1] [] rfl rfl (by decide) (by decide) ?_
      clear hP hD hS
      intro r_9 u_11 H locs w_10 hP hD hS
      replace hP : va_P D vwCl [(k, .inr (5, [.ref k0, .int c1, .int sc2_6, .int sc3_7, .int c4, .int c5, .int c6, .int c7])), (k0, .inl (cI, 50, .inl c0))] H := hP
      replace hD : va_D A [(k, .inr (5, [.ref k0, .int c1, .int sc2_6, .int sc3_7, .int c4, .int c5, .int c6, .int c7])), (k0, .inl (cI, 50, .inl c0))] := hD
      have lo_r_9 := k_lo r_9
      have hi_r_9 := k_hi r_9
      refine lv_bipush (v := 41) hx hb dX5_opened_56 (by decide) ?_
      refine b_icmp_eq hx hb rfl zl_41 (tgt := 66) dX5_opened_58 (by decide) (fun c_12 => ?_) (fun c_12 => ?_)
      · refine lv_aload_n hx hb dX5_opened_66 rfl (lv_at hl 1 rfl) ?_
        refine lv_dup hx hb dX5_opened_67 rfl ?_
        refine va_get (D := D) (ci := 5) (v := .int sc2_6) (C := RX5) (T := TX5) (N := 8) hx hb hT giX5 hown hK hP 0 rfl rfl 2 (by decide) (hT (Cond.fieldLink RX5 19 "DesertWire$Reader" "at" "I") mw_170) (fun _ h9 => h9) rfl dX5_opened_68 ?_
        refine lv_iconst (v := 1) hx hb dX5_opened_71 (by decide) ?_
        refine lv_iadd hx hb dX5_opened_72 ?_
        refine lv_topi (fun v_13 ev_13 => ?_)
        have lo_v_13 := k_lo v_13
        have hi_v_13 := k_hi v_13
        refine va_put (D := D) (ci := 5) (v := .int v_13) (ty := .int) (C := RX5) (T := TX5) (N := 8) hx hb hT giX5 tyX5 tyX5_ok nmX5 hown hK hP hD hS 0 rfl rfl 2 (by decide) (hT (Cond.fieldLink RX5 19 "DesertWire$Reader" "at" "I") mw_170) (fun _ h9 => h9) rfl (by decide +kernel) rfl rfl (Nat.le_of_ble_eq_true rfl) dX5_opened_73 ?_
        clear hP hD hS
        intro H locs hP hD hS
        replace hP : va_P D vwCl [(k, .inr (5, [.ref k0, .int c1, .int v_13, .int sc3_7, .int c4, .int c5, .int c6, .int c7])), (k0, .inl (cI, 50, .inl c0))] H := hP
        replace hD : va_D A [(k, .inr (5, [.ref k0, .int c1, .int v_13, .int sc3_7, .int c4, .int c5, .int c6, .int c7])), (k0, .inl (cI, 50, .inl c0))] := hD
        refine lv_iload_n hx hb dX5_opened_76 rfl (lv_at hl 0 rfl) ?_
        exact hRet (v_13, sc3_7) [0, 1] trivial hP hD (by decide) rfl hS rfl dX5_opened_77
      · refine lv_aload_n hx hb dX5_opened_61 rfl (lv_at hl 1 rfl) ?_
        refine kJi (wr := [(k0, .inl (cI, 50, .inl c0))]) (va_runV (As := []) (rest := []) ⟨hx, hb, hml, hown, hT⟩ (c_X5_failG l D cI aK aV k k0 H.size c1 sc2_6 sc3_7 c4 c5 c6 c7) (cwV 0 hT (gV_in mw_495 mw_492 mw_494 mw_p1_13 mw_6) rfl rfl rfl (by decide +kernel) ⟨Nat.le_of_ble_eq_true rfl, Nat.le_of_ble_eq_true rfl⟩) (kRecvX (q0 := 0) (ci := 5) hK hP hD hN hXS hS hA rfl rfl [0] rfl (by decide)) rfl rfl hl.1 rfl (lv_room (Nat.le_of_ble_eq_true rfl)) dX5_opened_62 ⟨Nat.le_of_ble_eq_true rfl, Nat.le_of_ble_eq_true rfl⟩) hP hD hS hA [0] [1] rfl rfl (by decide) (by decide) ?_
        clear hP hD hS
        intro r_14 sc3_16 H locs w_15 hP hD hS
        replace hP : va_P D vwCl [(k0, .inl (cI, 50, .inl c0)), (k, .inr (5, [.ref k0, .int c1, .int sc2_6, .int sc3_16, .int c4, .int c5, .int c6, .int c7]))] H := hP
        replace hD : va_D A [(k0, .inl (cI, 50, .inl c0)), (k, .inr (5, [.ref k0, .int c1, .int sc2_6, .int sc3_16, .int c4, .int c5, .int c6, .int c7]))] := hD
        have lo_sc3_16 := k_lo sc3_16
        have hi_sc3_16 := k_hi sc3_16
        have lo_r_14 := k_lo r_14
        have hi_r_14 := k_hi r_14
        exact hRet (sc2_6, sc3_16) [1, 0] trivial hP hD (by decide) rfl hS rfl dX5_opened_65
    · refine lv_aload_n hx hb dX5_opened_29 rfl (lv_at hl 0 rfl) ?_
      refine lv_iload_n hx hb dX5_opened_30 rfl (lv_at hl 2 rfl) ?_
      refine kJi (wr := []) (va_runV (As := [.int 1]) (rest := []) ⟨hx, hb, hml, hown, hT⟩ (c_X5_partG1 l D cI aK aV k k0 H.size c1 v_1 c3 c4 c5 c6 c7 c0 1 (by first | omega | (simp only [zl_1] <;> omega) | decide | assumption | rfl)) (cwV 1 hT (gV_in mw_480 mw_477 mw_479 mw_p1_10 mw_6) rfl rfl rfl (by decide +kernel) ⟨Nat.le_of_ble_eq_true rfl, Nat.le_of_ble_eq_true rfl⟩) (kRecvX (q0 := 0) (ci := 5) hK hP hD hN hXS hS hA rfl rfl [0, 1] rfl (by decide)) rfl rfl hl.1 rfl (lv_room (Nat.le_of_ble_eq_true rfl)) dX5_opened_31 ⟨Nat.le_of_ble_eq_true rfl, Nat.le_of_ble_eq_true rfl⟩) hP hD hS hA [0, 1] [] rfl rfl (by decide) (by decide) ?_
      clear hP hD hS
      intro r_17 u_21 H locs w_18 hP hD hS
      obtain ⟨sc2_19, sc3_20⟩ := u_21
      replace hP : va_P D vwCl [(k, .inr (5, [.ref k0, .int c1, .int sc2_19, .int sc3_20, .int c4, .int c5, .int c6, .int c7])), (k0, .inl (cI, 50, .inl c0))] H := hP
      replace hD : va_D A [(k, .inr (5, [.ref k0, .int c1, .int sc2_19, .int sc3_20, .int c4, .int c5, .int c6, .int c7])), (k0, .inl (cI, 50, .inl c0))] := hD
      have lo_r_17 := k_lo r_17
      have hi_r_17 := k_hi r_17
      refine b_if_ne hx hb rfl (tgt := 41) dX5_opened_34 (by decide) (fun c_22 => ?_) (fun c_22 => ?_)
      · refine lv_iconst (v := 0) hx hb dX5_opened_41 (by decide) ?_
        refine kJi (wr := [(k, .inr (5, [.ref k0, .int c1, .int sc2_19, .int sc3_20, .int c4, .int c5, .int c6, .int c7])), (k0, .inl (cI, 50, .inl c0))]) (va_runS (As := [.int 0]) (rest := []) ⟨hx, hb, hml, hown, hT⟩ (c_X5_truthG l D cI aK aV H.size 0) (cwS 1 hT (gS_in mw_502 mw_500 mw_501 mw_6) rfl rfl rfl (by decide +kernel) ⟨Nat.le_of_ble_eq_true rfl, Nat.le_of_ble_eq_true rfl⟩) (kStatX hK hP hD hN hXS hS hA [] rfl (by decide)) rfl rfl hl.1 rfl (lv_room (Nat.le_of_ble_eq_true rfl)) dX5_opened_42 ⟨Nat.le_of_ble_eq_true rfl, Nat.le_of_ble_eq_true rfl⟩) hP hD hS hA [] [0, 1] rfl rfl (by decide) (by decide) ?_
        clear hP hD hS
        intro r_23 u_25 H locs w_24 hP hD hS
        replace hP : va_P D vwCl [(k, .inr (5, [.ref k0, .int c1, .int sc2_19, .int sc3_20, .int c4, .int c5, .int c6, .int c7])), (k0, .inl (cI, 50, .inl c0))] H := hP
        replace hD : va_D A [(k, .inr (5, [.ref k0, .int c1, .int sc2_19, .int sc3_20, .int c4, .int c5, .int c6, .int c7])), (k0, .inl (cI, 50, .inl c0))] := hD
        have lo_r_23 := k_lo r_23
        have hi_r_23 := k_hi r_23
        exact hRet (sc2_19, sc3_20) [0, 1] trivial hP hD (by decide) rfl hS rfl dX5_opened_45
      · refine lv_iconst (v := 1) hx hb dX5_opened_37 (by decide) ?_
        refine lv_goto (tgt := 42) hx hb dX5_opened_38 (by decide) ?_
        refine kJi (wr := [(k, .inr (5, [.ref k0, .int c1, .int sc2_19, .int sc3_20, .int c4, .int c5, .int c6, .int c7])), (k0, .inl (cI, 50, .inl c0))]) (va_runS (As := [.int 1]) (rest := []) ⟨hx, hb, hml, hown, hT⟩ (c_X5_truthG l D cI aK aV H.size 1) (cwS 1 hT (gS_in mw_502 mw_500 mw_501 mw_6) rfl rfl rfl (by decide +kernel) ⟨Nat.le_of_ble_eq_true rfl, Nat.le_of_ble_eq_true rfl⟩) (kStatX hK hP hD hN hXS hS hA [] rfl (by decide)) rfl rfl hl.1 rfl (lv_room (Nat.le_of_ble_eq_true rfl)) dX5_opened_42 ⟨Nat.le_of_ble_eq_true rfl, Nat.le_of_ble_eq_true rfl⟩) hP hD hS hA [] [0, 1] rfl rfl (by decide) (by decide) ?_
        clear hP hD hS
        intro r_26 u_28 H locs w_27 hP hD hS
        replace hP : va_P D vwCl [(k, .inr (5, [.ref k0, .int c1, .int sc2_19, .int sc3_20, .int c4, .int c5, .int c6, .int c7])), (k0, .inl (cI, 50, .inl c0))] H := hP
        replace hD : va_D A [(k, .inr (5, [.ref k0, .int c1, .int sc2_19, .int sc3_20, .int c4, .int c5, .int c6, .int c7])), (k0, .inl (cI, 50, .inl c0))] := hD
        have lo_r_26 := k_lo r_26
        have hi_r_26 := k_hi r_26
        exact hRet (sc2_19, sc3_20) [0, 1] trivial hP hD (by decide) rfl hS rfl dX5_opened_45
  · refine lv_aload_n hx hb dX5_opened_16 rfl (lv_at hl 0 rfl) ?_
    refine lv_iload_n hx hb dX5_opened_17 rfl (lv_at hl 2 rfl) ?_
    refine kJi (wr := []) (va_runV (As := [.int 1]) (rest := []) ⟨hx, hb, hml, hown, hT⟩ (c_X5_partG1 l D cI aK aV k k0 H.size c1 v_1 c3 c4 c5 c6 c7 c0 1 (by first | omega | (simp only [zl_1] <;> omega) | decide | assumption | rfl)) (cwV 1 hT (gV_in mw_480 mw_477 mw_479 mw_p1_10 mw_6) rfl rfl rfl (by decide +kernel) ⟨Nat.le_of_ble_eq_true rfl, Nat.le_of_ble_eq_true rfl⟩) (kRecvX (q0 := 0) (ci := 5) hK hP hD hN hXS hS hA rfl rfl [0, 1] rfl (by decide)) rfl rfl hl.1 rfl (lv_room (Nat.le_of_ble_eq_true rfl)) dX5_opened_18 ⟨Nat.le_of_ble_eq_true rfl, Nat.le_of_ble_eq_true rfl⟩) hP hD hS hA [0, 1] [] rfl rfl (by decide) (by decide) ?_
    clear hP hD hS
    intro r_29 u_33 H locs w_30 hP hD hS
    obtain ⟨sc2_31, sc3_32⟩ := u_33
    replace hP : va_P D vwCl [(k, .inr (5, [.ref k0, .int c1, .int sc2_31, .int sc3_32, .int c4, .int c5, .int c6, .int c7])), (k0, .inl (cI, 50, .inl c0))] H := hP
    replace hD : va_D A [(k, .inr (5, [.ref k0, .int c1, .int sc2_31, .int sc3_32, .int c4, .int c5, .int c6, .int c7])), (k0, .inl (cI, 50, .inl c0))] := hD
    have lo_r_29 := k_lo r_29
    have hi_r_29 := k_hi r_29
    refine lv_ineg hx hb dX5_opened_21 ?_
    refine lv_topi (fun v_34 ev_34 => ?_)
    have lo_v_34 := k_lo v_34
    have hi_v_34 := k_hi v_34
    exact hRet (sc2_31, sc3_32) [0, 1] trivial hP hD (by decide) rfl hS rfl dX5_opened_22

set_option maxHeartbeats 4000000 in
set_option maxRecDepth 100000 in
theorem c_X5_partG0 (l : Launch) (D : va_G) (cI : ClassId) (aK aV : Nat → Nat) (k k0 : Nat) (sz : Nat) (c1 : Int32) (c2 : Int32) (c3 : Int32) (c4 : Int32) (c5 : Int32) (c6 : Int32) (c7 : Int32) (c0 : Nat → Int32) (a0 : Int32) (pre0 : a0 = 0) : Met l yX5_part (gW yX5_part cX5_part 4 (some .int)) ({ frames := 33, cells := 0, slots := 0, locals := 799 } : Room) (kPreX D cI aK aV [.ref k, .int 0] [(k, .inr (5, [.ref k0, .int c1, .int c2, .int c3, .int c4, .int c5, .int c6, .int c7])), (k0, .inl (cI, 50, .inl c0))] sz) (va_Qi (fun (r : Int32) (u : Int32 × Int32) => True) (fun u t => kWd D cI (va_A [(k, .inr (5, [.ref k0, .int c1, .int c2, .int c3, .int c4, .int c5, .int c6, .int c7])), (k0, .inl (cI, 50, .inl c0))] sz) [(k, .inr (5, [.ref k0, .int c1, .int u.1, .int u.2, .int c4, .int c5, .int c6, .int c7])), (k0, .inl (cI, 50, .inl c0))] t) (va_A [(k, .inr (5, [.ref k0, .int c1, .int c2, .int c3, .int c4, .int c5, .int c6, .int c7])), (k0, .inl (cI, 50, .inl c0))] sz)) 0 0 (va_A [(k, .inr (5, [.ref k0, .int c1, .int c2, .int c3, .int c4, .int c5, .int c6, .int c7])), (k0, .inl (cI, 50, .inl c0))] sz) := by
  refine kMetIX (own := RX5) (by decide) rfl (Nat.le_of_ble_eq_true rfl) ?_
  intro p e s m args below meth c hx hb hT hown hname hml A Q hK hP hD hS hA hN hXS hRet ls hl
  subst pre0
  have hl : lv_has ls 4 [(0, .ref k), (1, .int 0)] := hl
  have lo_c2 := k_lo c2
  have hi_c2 := k_hi c2
  have lo_c5 := k_lo c5
  have hi_c5 := k_hi c5
  have lo_c6 := k_lo c6
  have hi_c6 := k_hi c6
  have lo_c7 := k_lo c7
  have hi_c7 := k_hi c7
  refine lv_aload_n hx hb dX5_part_0 rfl (lv_at hl 0 rfl) ?_
  refine kJi (wr := []) (va_runV (As := []) (rest := []) ⟨hx, hb, hml, hown, hT⟩ (c_X5_nextG l D cI aK aV k k0 s.heap.size c1 c2 c3 c4 c5 c6 c7 c0) (cwV 0 hT (gV_in mw_484 mw_481 mw_483 mw_p1_11 mw_6) rfl rfl rfl (by decide +kernel) ⟨Nat.le_of_ble_eq_true rfl, Nat.le_of_ble_eq_true rfl⟩) (kRecvX (q0 := 0) (ci := 5) hK hP hD hN hXS hS hA rfl rfl [0, 1] rfl (by decide)) rfl rfl hl.1 rfl (lv_room (Nat.le_of_ble_eq_true rfl)) dX5_part_1 ⟨Nat.le_of_ble_eq_true rfl, Nat.le_of_ble_eq_true rfl⟩) hP hD hS hA [0, 1] [] rfl rfl (by decide) (by decide) ?_
  clear hP hD hS
  intro r_1 u_3 H locs w_2 hP hD hS
  replace hP : va_P D vwCl [(k, .inr (5, [.ref k0, .int c1, .int c2, .int c3, .int c4, .int c5, .int c6, .int c7])), (k0, .inl (cI, 50, .inl c0))] H := hP
  replace hD : va_D A [(k, .inr (5, [.ref k0, .int c1, .int c2, .int c3, .int c4, .int c5, .int c6, .int c7])), (k0, .inl (cI, 50, .inl c0))] := hD
  have lo_r_1 := k_lo r_1
  have hi_r_1 := k_hi r_1
  refine lv_istore_n (lv' := [(2, .int r_1), (0, .ref k), (1, .int 0)]) hx hb dX5_part_4 rfl hl (by decide) rfl ?_
  clear hl
  intro ls hl
  refine lv_iload_n hx hb dX5_part_5 rfl (lv_at hl 0 rfl) ?_
  refine kJi (wr := [(k, .inr (5, [.ref k0, .int c1, .int c2, .int c3, .int c4, .int c5, .int c6, .int c7])), (k0, .inl (cI, 50, .inl c0))]) (va_runS (As := [.int r_1]) (rest := []) ⟨hx, hb, hml, hown, hT⟩ (c_X5_isDigitG l D cI aK aV H.size r_1) (cwS 1 hT (gS_in mw_487 mw_485 mw_486 mw_6) rfl rfl rfl (by decide +kernel) ⟨Nat.le_of_ble_eq_true rfl, Nat.le_of_ble_eq_true rfl⟩) (kStatX hK hP hD hN hXS hS hA [] rfl (by decide)) rfl rfl hl.1 rfl (lv_room (Nat.le_of_ble_eq_true rfl)) dX5_part_6 ⟨Nat.le_of_ble_eq_true rfl, Nat.le_of_ble_eq_true rfl⟩) hP hD hS hA [] [0, 1] rfl rfl (by decide) (by decide) ?_
  clear hP hD hS
  intro r_4 u_6 H locs w_5 hP hD hS
  replace hP : va_P D vwCl [(k, .inr (5, [.ref k0, .int c1, .int c2, .int c3, .int c4, .int c5, .int c6, .int c7])), (k0, .inl (cI, 50, .inl c0))] H := hP
  replace hD : va_D A [(k, .inr (5, [.ref k0, .int c1, .int c2, .int c3, .int c4, .int c5, .int c6, .int c7])), (k0, .inl (cI, 50, .inl c0))] := hD
  rcases w_5 with ⟨hr_4, h_7, h_8⟩ | ⟨hr_4, h_9⟩
  · have h_7 : 48 ≤ r_1.toInt := h_7
    have h_8 : r_1.toInt ≤ 57 := h_8
    obtain rfl : r_4 = 1 := hr_4.trans (by decide)
    refine b_if_eq hx hb zl_1 (tgt := 17) dX5_part_9 (by decide) (fun c_10 => by exfalso; omega) (fun c_10 => ?_)
    refine lv_aload_n hx hb dX5_part_12 rfl (lv_at hl 1 rfl) ?_
    refine kJi (wr := []) (va_runV (As := []) (rest := []) ⟨hx, hb, hml, hown, hT⟩ (c_X5_numeralG l D cI aK aV k k0 H.size c1 c2 c3 c4 c5 c6 c7 c0) (cwV 0 hT (gV_in mw_491 mw_488 mw_490 mw_p1_12 mw_6) rfl rfl rfl (by decide +kernel) ⟨Nat.le_of_ble_eq_true rfl, Nat.le_of_ble_eq_true rfl⟩) (kRecvX (q0 := 0) (ci := 5) hK hP hD hN hXS hS hA rfl rfl [0, 1] rfl (by decide)) rfl rfl hl.1 rfl (lv_room (Nat.le_of_ble_eq_true rfl)) dX5_part_13 ⟨Nat.le_of_ble_eq_true rfl, Nat.le_of_ble_eq_true rfl⟩) hP hD hS hA [0, 1] [] rfl rfl (by decide) (by decide) ?_
    clear hP hD hS
    intro r_11 sc2_13 H locs w_12 hP hD hS
    replace hP : va_P D vwCl [(k, .inr (5, [.ref k0, .int c1, .int sc2_13, .int c3, .int c4, .int c5, .int c6, .int c7])), (k0, .inl (cI, 50, .inl c0))] H := hP
    replace hD : va_D A [(k, .inr (5, [.ref k0, .int c1, .int sc2_13, .int c3, .int c4, .int c5, .int c6, .int c7])), (k0, .inl (cI, 50, .inl c0))] := hD
    have lo_sc2_13 := k_lo sc2_13
    have hi_sc2_13 := k_hi sc2_13
    have lo_r_11 := k_lo r_11
    have hi_r_11 := k_hi r_11
    exact hRet (sc2_13, c3) [0, 1] trivial hP hD (by decide) rfl hS rfl dX5_part_16
  · have h_9 : r_1.toInt < 48 ∨ 57 < r_1.toInt := h_9
    obtain rfl : r_4 = 0 := hr_4.trans (by decide)
    refine b_if_eq hx hb zl_0 (tgt := 17) dX5_part_9 (by decide) (fun c_14 => ?_) (fun c_14 => by exfalso; omega)
    refine lv_iload_n hx hb dX5_part_17 rfl (lv_at hl 0 rfl) ?_
    refine lv_bipush (v := 45) hx hb dX5_part_18 (by decide) ?_
    refine b_icmp_eq hx hb rfl zl_45 (tgt := 35) dX5_part_20 (by decide) (fun c_15 => ?_) (fun c_15 => ?_)
    · refine lv_iload_n hx hb dX5_part_35 rfl (lv_at hl 2 rfl) ?_
      refine lv_iconst (v := 4) hx hb dX5_part_36 (by decide) ?_
      refine b_icmp_lt hx hb zl_0 zl_4 (tgt := 47) dX5_part_37 (by decide) (fun c_16 => ?_) (fun c_16 => by exfalso; omega)
      refine lv_aload_n hx hb dX5_part_47 rfl (lv_at hl 1 rfl) ?_
      refine lv_iload_n hx hb dX5_part_48 rfl (lv_at hl 0 rfl) ?_
      refine lv_iload_n hx hb dX5_part_49 rfl (lv_at hl 2 rfl) ?_
      refine lv_iconst (v := 1) hx hb dX5_part_50 (by decide) ?_
      refine k_iadd (v := 1) hx hb dX5_part_51 (by decide) ?_
      refine kJi (wr := []) (va_runV (As := [.int r_1, .int 1]) (rest := []) ⟨hx, hb, hml, hown, hT⟩ (c_X5_openedG1 l D cI aK aV k k0 H.size c1 c2 c3 c4 c5 c6 c7 c0 r_1 1 (by first | omega | (simp only [zl_1] <;> omega) | decide | assumption | rfl)) (cwV 2 hT (gV_in mw_499 mw_496 mw_498 mw_p1_14 mw_6) rfl rfl rfl (by decide +kernel) ⟨Nat.le_of_ble_eq_true rfl, Nat.le_of_ble_eq_true rfl⟩) (kRecvX (q0 := 0) (ci := 5) hK hP hD hN hXS hS hA rfl rfl [0, 1] rfl (by decide)) rfl rfl hl.1 rfl (lv_room (Nat.le_of_ble_eq_true rfl)) dX5_part_52 ⟨Nat.le_of_ble_eq_true rfl, Nat.le_of_ble_eq_true rfl⟩) hP hD hS hA [0, 1] [] rfl rfl (by decide) (by decide) ?_
      clear hP hD hS
      intro r_17 u_21 H locs w_18 hP hD hS
      obtain ⟨sc2_19, sc3_20⟩ := u_21
      replace hP : va_P D vwCl [(k, .inr (5, [.ref k0, .int c1, .int sc2_19, .int sc3_20, .int c4, .int c5, .int c6, .int c7])), (k0, .inl (cI, 50, .inl c0))] H := hP
      replace hD : va_D A [(k, .inr (5, [.ref k0, .int c1, .int sc2_19, .int sc3_20, .int c4, .int c5, .int c6, .int c7])), (k0, .inl (cI, 50, .inl c0))] := hD
      have lo_r_17 := k_lo r_17
      have hi_r_17 := k_hi r_17
      exact hRet (sc2_19, sc3_20) [0, 1] trivial hP hD (by decide) rfl hS rfl dX5_part_55
    · refine lv_iload_n hx hb dX5_part_23 rfl (lv_at hl 0 rfl) ?_
      refine lv_bipush (v := 33) hx hb dX5_part_24 (by decide) ?_
      refine b_icmp_eq hx hb rfl zl_33 (tgt := 35) dX5_part_26 (by decide) (fun c_22 => ?_) (fun c_22 => ?_)
      · refine lv_iload_n hx hb dX5_part_35 rfl (lv_at hl 2 rfl) ?_
        refine lv_iconst (v := 4) hx hb dX5_part_36 (by decide) ?_
        refine b_icmp_lt hx hb zl_0 zl_4 (tgt := 47) dX5_part_37 (by decide) (fun c_23 => ?_) (fun c_23 => by exfalso; omega)
        refine lv_aload_n hx hb dX5_part_47 rfl (lv_at hl 1 rfl) ?_
        refine lv_iload_n hx hb dX5_part_48 rfl (lv_at hl 0 rfl) ?_
        refine lv_iload_n hx hb dX5_part_49 rfl (lv_at hl 2 rfl) ?_
        refine lv_iconst (v := 1) hx hb dX5_part_50 (by decide) ?_
        refine k_iadd (v := 1) hx hb dX5_part_51 (by decide) ?_
        refine kJi (wr := []) (va_runV (As := [.int r_1, .int 1]) (rest := []) ⟨hx, hb, hml, hown, hT⟩ (c_X5_openedG1 l D cI aK aV k k0 H.size c1 c2 c3 c4 c5 c6 c7 c0 r_1 1 (by first | omega | (simp only [zl_1] <;> omega) | decide | assumption | rfl)) (cwV 2 hT (gV_in mw_499 mw_496 mw_498 mw_p1_14 mw_6) rfl rfl rfl (by decide +kernel) ⟨Nat.le_of_ble_eq_true rfl, Nat.le_of_ble_eq_true rfl⟩) (kRecvX (q0 := 0) (ci := 5) hK hP hD hN hXS hS hA rfl rfl [0, 1] rfl (by decide)) rfl rfl hl.1 rfl (lv_room (Nat.le_of_ble_eq_true rfl)) dX5_part_52 ⟨Nat.le_of_ble_eq_true rfl, Nat.le_of_ble_eq_true rfl⟩) hP hD hS hA [0, 1] [] rfl rfl (by decide) (by decide) ?_
        clear hP hD hS
        intro r_24 u_28 H locs w_25 hP hD hS
        obtain ⟨sc2_26, sc3_27⟩ := u_28
        replace hP : va_P D vwCl [(k, .inr (5, [.ref k0, .int c1, .int sc2_26, .int sc3_27, .int c4, .int c5, .int c6, .int c7])), (k0, .inl (cI, 50, .inl c0))] H := hP
        replace hD : va_D A [(k, .inr (5, [.ref k0, .int c1, .int sc2_26, .int sc3_27, .int c4, .int c5, .int c6, .int c7])), (k0, .inl (cI, 50, .inl c0))] := hD
        have lo_r_24 := k_lo r_24
        have hi_r_24 := k_hi r_24
        exact hRet (sc2_26, sc3_27) [0, 1] trivial hP hD (by decide) rfl hS rfl dX5_part_55
      · refine lv_iload_n hx hb dX5_part_29 rfl (lv_at hl 0 rfl) ?_
        refine lv_bipush (v := 40) hx hb dX5_part_30 (by decide) ?_
        refine b_icmp_ne hx hb rfl zl_40 (tgt := 56) dX5_part_32 (by decide) (fun c_29 => ?_) (fun c_29 => ?_)
        · refine lv_aload_n hx hb dX5_part_56 rfl (lv_at hl 1 rfl) ?_
          refine lv_iload_n hx hb dX5_part_57 rfl (lv_at hl 0 rfl) ?_
          refine kJi (wr := [(k0, .inl (cI, 50, .inl c0))]) (va_runV (As := [.int r_1]) (rest := []) ⟨hx, hb, hml, hown, hT⟩ (c_X5_nameOfG l D cI aK aV k k0 H.size c1 c2 c3 c4 c5 c6 c7 r_1) (cwV 1 hT (gV_in mw_506 mw_503 mw_505 mw_p1_15 mw_6) rfl rfl rfl (by decide +kernel) ⟨Nat.le_of_ble_eq_true rfl, Nat.le_of_ble_eq_true rfl⟩) (kRecvX (q0 := 0) (ci := 5) hK hP hD hN hXS hS hA rfl rfl [0] rfl (by decide)) rfl rfl hl.1 rfl (lv_room (Nat.le_of_ble_eq_true rfl)) dX5_part_58 ⟨Nat.le_of_ble_eq_true rfl, Nat.le_of_ble_eq_true rfl⟩) hP hD hS hA [0] [1] rfl rfl (by decide) (by decide) ?_
          clear hP hD hS
          intro r_30 u_32 H locs w_31 hP hD hS
          replace hP : va_P D vwCl [(k0, .inl (cI, 50, .inl c0)), (k, .inr (5, [.ref k0, .int c1, .int c2, .int c3, .int c4, .int c5, .int c6, .int c7]))] H := hP
          replace hD : va_D A [(k0, .inl (cI, 50, .inl c0)), (k, .inr (5, [.ref k0, .int c1, .int c2, .int c3, .int c4, .int c5, .int c6, .int c7]))] := hD
          have lo_r_30 := k_lo r_30
          have hi_r_30 := k_hi r_30
          refine lv_istore_n (lv' := [(3, .int r_30), (2, .int r_1), (0, .ref k), (1, .int 0)]) hx hb dX5_part_61 rfl hl (by decide) rfl ?_
          clear hl
          intro ls hl
          refine lv_iload_n hx hb dX5_part_62 rfl (lv_at hl 0 rfl) ?_
          refine b_if_ge hx hb rfl (tgt := 71) dX5_part_63 (by decide) (fun c_33 => ?_) (fun c_33 => ?_)
          · refine lv_aload_n hx hb dX5_part_71 rfl (lv_at hl 2 rfl) ?_
            refine lv_dup hx hb dX5_part_72 rfl ?_
            refine va_get (D := D) (ci := 5) (v := .int c2) (C := RX5) (T := TX5) (N := 8) hx hb hT giX5 hown hK hP 1 rfl rfl 2 (by decide) (hT (Cond.fieldLink RX5 19 "DesertWire$Reader" "at" "I") mw_170) (fun _ h9 => h9) rfl dX5_part_73 ?_
            refine lv_iconst (v := 1) hx hb dX5_part_76 (by decide) ?_
            refine lv_iadd hx hb dX5_part_77 ?_
            refine lv_topi (fun v_34 ev_34 => ?_)
            have lo_v_34 := k_lo v_34
            have hi_v_34 := k_hi v_34
            refine va_put (D := D) (ci := 5) (v := .int v_34) (ty := .int) (C := RX5) (T := TX5) (N := 8) hx hb hT giX5 tyX5 tyX5_ok nmX5 hown hK hP hD hS 1 rfl rfl 2 (by decide) (hT (Cond.fieldLink RX5 19 "DesertWire$Reader" "at" "I") mw_170) (fun _ h9 => h9) rfl (by decide +kernel) rfl rfl (Nat.le_of_ble_eq_true rfl) dX5_part_78 ?_
            clear hP hD hS
            intro H locs hP hD hS
            replace hP : va_P D vwCl [(k0, .inl (cI, 50, .inl c0)), (k, .inr (5, [.ref k0, .int c1, .int v_34, .int c3, .int c4, .int c5, .int c6, .int c7]))] H := hP
            replace hD : va_D A [(k0, .inl (cI, 50, .inl c0)), (k, .inr (5, [.ref k0, .int c1, .int v_34, .int c3, .int c4, .int c5, .int c6, .int c7]))] := hD
            refine lv_iload_n hx hb dX5_part_81 rfl (lv_at hl 0 rfl) ?_
            refine b_if_ne hx hb rfl (tgt := 92) dX5_part_82 (by decide) (fun c_35 => ?_) (fun c_35 => ?_)
            · refine lv_iload_n hx hb dX5_part_92 rfl (lv_at hl 0 rfl) ?_
              refine lv_iconst (v := 1) hx hb dX5_part_93 (by decide) ?_
              refine b_icmp_ne hx hb rfl zl_1 (tgt := 104) dX5_part_94 (by decide) (fun c_36 => ?_) (fun c_36 => ?_)
              · refine lv_aload_n hx hb dX5_part_104 rfl (lv_at hl 2 rfl) ?_
                refine va_get (D := D) (ci := 5) (v := .int c7) (C := RX5) (T := TX5) (N := 8) hx hb hT giX5 hown hK hP 1 rfl rfl 7 (by decide) (hT (Cond.fieldLink RX5 35 "DesertWire$Reader" "third" "I") mw_175) (fun _ h9 => h9) rfl dX5_part_105 ?_
                exact hRet (v_34, c3) [1, 0] trivial hP hD (by decide) rfl hS rfl dX5_part_108
              · refine lv_aload_n hx hb dX5_part_97 rfl (lv_at hl 2 rfl) ?_
                refine va_get (D := D) (ci := 5) (v := .int c6) (C := RX5) (T := TX5) (N := 8) hx hb hT giX5 hown hK hP 1 rfl rfl 6 (by decide) (hT (Cond.fieldLink RX5 32 "DesertWire$Reader" "second" "I") mw_174) (fun _ h9 => h9) rfl dX5_part_98 ?_
                refine lv_goto (tgt := 108) hx hb dX5_part_101 (by decide) ?_
                exact hRet (v_34, c3) [1, 0] trivial hP hD (by decide) rfl hS rfl dX5_part_108
            · refine lv_aload_n hx hb dX5_part_85 rfl (lv_at hl 2 rfl) ?_
              refine va_get (D := D) (ci := 5) (v := .int c5) (C := RX5) (T := TX5) (N := 8) hx hb hT giX5 hown hK hP 1 rfl rfl 5 (by decide) (hT (Cond.fieldLink RX5 29 "DesertWire$Reader" "first" "I") mw_173) (fun _ h9 => h9) rfl dX5_part_86 ?_
              refine lv_goto (tgt := 108) hx hb dX5_part_89 (by decide) ?_
              exact hRet (v_34, c3) [1, 0] trivial hP hD (by decide) rfl hS rfl dX5_part_108
          · refine lv_aload_n hx hb dX5_part_66 rfl (lv_at hl 2 rfl) ?_
            refine kJi (wr := [(k0, .inl (cI, 50, .inl c0))]) (va_runV (As := []) (rest := []) ⟨hx, hb, hml, hown, hT⟩ (c_X5_failG l D cI aK aV k k0 H.size c1 c2 c3 c4 c5 c6 c7) (cwV 0 hT (gV_in mw_495 mw_492 mw_494 mw_p1_13 mw_6) rfl rfl rfl (by decide +kernel) ⟨Nat.le_of_ble_eq_true rfl, Nat.le_of_ble_eq_true rfl⟩) (kRecvX (q0 := 1) (ci := 5) hK hP hD hN hXS hS hA rfl rfl [1] rfl (by decide)) rfl rfl hl.1 rfl (lv_room (Nat.le_of_ble_eq_true rfl)) dX5_part_67 ⟨Nat.le_of_ble_eq_true rfl, Nat.le_of_ble_eq_true rfl⟩) hP hD hS hA [1] [0] rfl rfl (by decide) (by decide) ?_
            clear hP hD hS
            intro r_37 sc3_39 H locs w_38 hP hD hS
            replace hP : va_P D vwCl [(k0, .inl (cI, 50, .inl c0)), (k, .inr (5, [.ref k0, .int c1, .int c2, .int sc3_39, .int c4, .int c5, .int c6, .int c7]))] H := hP
            replace hD : va_D A [(k0, .inl (cI, 50, .inl c0)), (k, .inr (5, [.ref k0, .int c1, .int c2, .int sc3_39, .int c4, .int c5, .int c6, .int c7]))] := hD
            have lo_sc3_39 := k_lo sc3_39
            have hi_sc3_39 := k_hi sc3_39
            have lo_r_37 := k_lo r_37
            have hi_r_37 := k_hi r_37
            exact hRet (c2, sc3_39) [1, 0] trivial hP hD (by decide) rfl hS rfl dX5_part_70
        · refine lv_iload_n hx hb dX5_part_35 rfl (lv_at hl 2 rfl) ?_
          refine lv_iconst (v := 4) hx hb dX5_part_36 (by decide) ?_
          refine b_icmp_lt hx hb zl_0 zl_4 (tgt := 47) dX5_part_37 (by decide) (fun c_40 => ?_) (fun c_40 => by exfalso; omega)
          refine lv_aload_n hx hb dX5_part_47 rfl (lv_at hl 1 rfl) ?_
          refine lv_iload_n hx hb dX5_part_48 rfl (lv_at hl 0 rfl) ?_
          refine lv_iload_n hx hb dX5_part_49 rfl (lv_at hl 2 rfl) ?_
          refine lv_iconst (v := 1) hx hb dX5_part_50 (by decide) ?_
          refine k_iadd (v := 1) hx hb dX5_part_51 (by decide) ?_
          refine kJi (wr := []) (va_runV (As := [.int r_1, .int 1]) (rest := []) ⟨hx, hb, hml, hown, hT⟩ (c_X5_openedG1 l D cI aK aV k k0 H.size c1 c2 c3 c4 c5 c6 c7 c0 r_1 1 (by first | omega | (simp only [zl_1] <;> omega) | decide | assumption | rfl)) (cwV 2 hT (gV_in mw_499 mw_496 mw_498 mw_p1_14 mw_6) rfl rfl rfl (by decide +kernel) ⟨Nat.le_of_ble_eq_true rfl, Nat.le_of_ble_eq_true rfl⟩) (kRecvX (q0 := 0) (ci := 5) hK hP hD hN hXS hS hA rfl rfl [0, 1] rfl (by decide)) rfl rfl hl.1 rfl (lv_room (Nat.le_of_ble_eq_true rfl)) dX5_part_52 ⟨Nat.le_of_ble_eq_true rfl, Nat.le_of_ble_eq_true rfl⟩) hP hD hS hA [0, 1] [] rfl rfl (by decide) (by decide) ?_
          clear hP hD hS
          intro r_41 u_45 H locs w_42 hP hD hS
          obtain ⟨sc2_43, sc3_44⟩ := u_45
          replace hP : va_P D vwCl [(k, .inr (5, [.ref k0, .int c1, .int sc2_43, .int sc3_44, .int c4, .int c5, .int c6, .int c7])), (k0, .inl (cI, 50, .inl c0))] H := hP
          replace hD : va_D A [(k, .inr (5, [.ref k0, .int c1, .int sc2_43, .int sc3_44, .int c4, .int c5, .int c6, .int c7])), (k0, .inl (cI, 50, .inl c0))] := hD
          have lo_r_41 := k_lo r_41
          have hi_r_41 := k_hi r_41
          exact hRet (sc2_43, sc3_44) [0, 1] trivial hP hD (by decide) rfl hS rfl dX5_part_55

set_option maxHeartbeats 4000000 in
set_option maxRecDepth 100000 in
theorem c_X5_productG0 (l : Launch) (D : va_G) (cI : ClassId) (aK aV : Nat → Nat) (k k0 : Nat) (sz : Nat) (c1 : Int32) (c2 : Int32) (c3 : Int32) (c4 : Int32) (c5 : Int32) (c6 : Int32) (c7 : Int32) (c0 : Nat → Int32) (a0 : Int32) (pre0 : a0 = 0) : Met l yX5_product (gW yX5_product cX5_product 6 (some .int)) ({ frames := 34, cells := 0, slots := 0, locals := 822 } : Room) (kPreX D cI aK aV [.ref k, .int 0] [(k, .inr (5, [.ref k0, .int c1, .int c2, .int c3, .int c4, .int c5, .int c6, .int c7])), (k0, .inl (cI, 50, .inl c0))] sz) (va_Qi (fun (r : Int32) (u : Int32 × Int32) => True) (fun u t => kWd D cI (va_A [(k, .inr (5, [.ref k0, .int c1, .int c2, .int c3, .int c4, .int c5, .int c6, .int c7])), (k0, .inl (cI, 50, .inl c0))] sz) [(k, .inr (5, [.ref k0, .int c1, .int u.1, .int u.2, .int c4, .int c5, .int c6, .int c7])), (k0, .inl (cI, 50, .inl c0))] t) (va_A [(k, .inr (5, [.ref k0, .int c1, .int c2, .int c3, .int c4, .int c5, .int c6, .int c7])), (k0, .inl (cI, 50, .inl c0))] sz)) 0 0 (va_A [(k, .inr (5, [.ref k0, .int c1, .int c2, .int c3, .int c4, .int c5, .int c6, .int c7])), (k0, .inl (cI, 50, .inl c0))] sz) := by
  refine kMetIX (own := RX5) (by decide) rfl (Nat.le_of_ble_eq_true rfl) ?_
  intro p e s m args below meth c hx hb hT hown hname hml A Q hK hP hD hS hA hN hXS hRet ls hl
  subst pre0
  have hl : lv_has ls 6 [(0, .ref k), (1, .int 0)] := hl
  refine lv_aload_n hx hb dX5_product_0 rfl (lv_at hl 0 rfl) ?_
  refine lv_iload_n hx hb dX5_product_1 rfl (lv_at hl 1 rfl) ?_
  refine kJi (wr := []) (va_runV (As := [.int 0]) (rest := []) ⟨hx, hb, hml, hown, hT⟩ (c_X5_partG0 l D cI aK aV k k0 s.heap.size c1 c2 c3 c4 c5 c6 c7 c0 0 (by first | omega | (simp only [zl_0] <;> omega) | decide | assumption | rfl)) (cwV 1 hT (gV_in mw_480 mw_477 mw_479 mw_p1_10 mw_6) rfl rfl rfl (by decide +kernel) ⟨Nat.le_of_ble_eq_true rfl, Nat.le_of_ble_eq_true rfl⟩) (kRecvX (q0 := 0) (ci := 5) hK hP hD hN hXS hS hA rfl rfl [0, 1] rfl (by decide)) rfl rfl hl.1 rfl (lv_room (Nat.le_of_ble_eq_true rfl)) dX5_product_2 ⟨Nat.le_of_ble_eq_true rfl, Nat.le_of_ble_eq_true rfl⟩) hP hD hS hA [0, 1] [] rfl rfl (by decide) (by decide) ?_
  clear hP hD hS
  intro r_1 u_5 H locs w_2 hP hD hS
  obtain ⟨sc2_3, sc3_4⟩ := u_5
  replace hP : va_P D vwCl [(k, .inr (5, [.ref k0, .int c1, .int sc2_3, .int sc3_4, .int c4, .int c5, .int c6, .int c7])), (k0, .inl (cI, 50, .inl c0))] H := hP
  replace hD : va_D A [(k, .inr (5, [.ref k0, .int c1, .int sc2_3, .int sc3_4, .int c4, .int c5, .int c6, .int c7])), (k0, .inl (cI, 50, .inl c0))] := hD
  have lo_r_1 := k_lo r_1
  have hi_r_1 := k_hi r_1
  refine lv_istore_n (lv' := [(2, .int r_1), (0, .ref k), (1, .int 0)]) hx hb dX5_product_5 rfl hl (by decide) rfl ?_
  clear hl
  intro ls hl
  refine lv_iconst (v := 0) hx hb dX5_product_6 (by decide) ?_
  refine lv_istore_n (lv' := [(3, .int 0), (2, .int r_1), (0, .ref k), (1, .int 0)]) hx hb dX5_product_7 rfl hl (by decide) rfl ?_
  clear hl
  intro ls hl
  have hloop_8 : ∀ (fu_ : Nat) (l8_2 : Int32) (l8_3 : Int32) (f8_k2 : Int32) (f8_k3 : Int32), 0 ≤ l8_3.toInt → (50 - l8_3.toInt).toNat < fu_ → ∀ (ls : Array Slot) (H : Heap) (locs : List Loc), lv_has ls 6 [(3, .int l8_3), (2, .int l8_2), (0, .ref k), (1, .int 0)] → va_P D vwCl [(k, .inr (5, [.ref k0, .int c1, .int f8_k2, .int f8_k3, .int c4, .int c5, .int c6, .int c7])), (k0, .inl (cI, 50, .inl c0))] H → va_D A [(k, .inr (5, [.ref k0, .int c1, .int f8_k2, .int f8_k3, .int c4, .int c5, .int c6, .int c7])), (k0, .inl (cI, 50, .inl c0))] → va_S A s.heap H locs → W p l e ({ frames := 34, cells := 0, slots := 0, locals := 822 } : Room) s m args below meth c H locs 0 0 Q (F0 m 8 ls []) := by
    intro fu_; induction fu_ with
    | zero => intro l8_2 l8_3 f8_k2 f8_k3 i8_0 hm; exact absurd hm (by omega)
    | succ fu_ ih8 =>
        intro l8_2 l8_3 f8_k2 f8_k3 i8_0 hm ls H locs hl hP hD hS
        have lo_l8_2 := k_lo l8_2
        have hi_l8_2 := k_hi l8_2
        have lo_l8_3 := k_lo l8_3
        have hi_l8_3 := k_hi l8_3
        have lo_f8_k2 := k_lo f8_k2
        have hi_f8_k2 := k_hi f8_k2
        have lo_f8_k3 := k_lo f8_k3
        have hi_f8_k3 := k_hi f8_k3
        refine lv_iload_n hx hb dX5_product_8 rfl (lv_at hl 0 rfl) ?_
        refine lv_bipush (v := 50) hx hb dX5_product_9 (by decide) ?_
        refine b_icmp_ge hx hb rfl zl_50 (tgt := 89) dX5_product_11 (by decide) (fun c_6 => ?_) (fun c_6 => ?_)
        · refine lv_iload_n hx hb dX5_product_89 rfl (lv_at hl 1 rfl) ?_
          exact hRet (f8_k2, f8_k3) [0, 1] trivial hP hD (by decide) rfl hS rfl dX5_product_90
        · refine lv_aload_n hx hb dX5_product_14 rfl (lv_at hl 2 rfl) ?_
          refine kJi (wr := []) (va_runV (As := []) (rest := []) ⟨hx, hb, hml, hown, hT⟩ (c_X5_nextG l D cI aK aV k k0 H.size c1 f8_k2 f8_k3 c4 c5 c6 c7 c0) (cwV 0 hT (gV_in mw_484 mw_481 mw_483 mw_p1_11 mw_6) rfl rfl rfl (by decide +kernel) ⟨Nat.le_of_ble_eq_true rfl, Nat.le_of_ble_eq_true rfl⟩) (kRecvX (q0 := 0) (ci := 5) hK hP hD hN hXS hS hA rfl rfl [0, 1] rfl (by decide)) rfl rfl hl.1 rfl (lv_room (Nat.le_of_ble_eq_true rfl)) dX5_product_15 ⟨Nat.le_of_ble_eq_true rfl, Nat.le_of_ble_eq_true rfl⟩) hP hD hS hA [0, 1] [] rfl rfl (by decide) (by decide) ?_
          clear hP hD hS
          intro r_7 u_9 H locs w_8 hP hD hS
          replace hP : va_P D vwCl [(k, .inr (5, [.ref k0, .int c1, .int f8_k2, .int f8_k3, .int c4, .int c5, .int c6, .int c7])), (k0, .inl (cI, 50, .inl c0))] H := hP
          replace hD : va_D A [(k, .inr (5, [.ref k0, .int c1, .int f8_k2, .int f8_k3, .int c4, .int c5, .int c6, .int c7])), (k0, .inl (cI, 50, .inl c0))] := hD
          have lo_r_7 := k_lo r_7
          have hi_r_7 := k_hi r_7
          refine lv_bipush (v := 42) hx hb dX5_product_18 (by decide) ?_
          refine b_icmp_eq hx hb rfl zl_42 (tgt := 32) dX5_product_20 (by decide) (fun c_10 => ?_) (fun c_10 => ?_)
          · refine lv_aload_n hx hb dX5_product_32 rfl (lv_at hl 2 rfl) ?_
            refine kJi (wr := []) (va_runV (As := []) (rest := []) ⟨hx, hb, hml, hown, hT⟩ (c_X5_nextG l D cI aK aV k k0 H.size c1 f8_k2 f8_k3 c4 c5 c6 c7 c0) (cwV 0 hT (gV_in mw_484 mw_481 mw_483 mw_p1_11 mw_6) rfl rfl rfl (by decide +kernel) ⟨Nat.le_of_ble_eq_true rfl, Nat.le_of_ble_eq_true rfl⟩) (kRecvX (q0 := 0) (ci := 5) hK hP hD hN hXS hS hA rfl rfl [0, 1] rfl (by decide)) rfl rfl hl.1 rfl (lv_room (Nat.le_of_ble_eq_true rfl)) dX5_product_33 ⟨Nat.le_of_ble_eq_true rfl, Nat.le_of_ble_eq_true rfl⟩) hP hD hS hA [0, 1] [] rfl rfl (by decide) (by decide) ?_
            clear hP hD hS
            intro r_11 u_13 H locs w_12 hP hD hS
            replace hP : va_P D vwCl [(k, .inr (5, [.ref k0, .int c1, .int f8_k2, .int f8_k3, .int c4, .int c5, .int c6, .int c7])), (k0, .inl (cI, 50, .inl c0))] H := hP
            replace hD : va_D A [(k, .inr (5, [.ref k0, .int c1, .int f8_k2, .int f8_k3, .int c4, .int c5, .int c6, .int c7])), (k0, .inl (cI, 50, .inl c0))] := hD
            have lo_r_11 := k_lo r_11
            have hi_r_11 := k_hi r_11
            refine lv_istore (lv' := [(4, .int r_11), (3, .int l8_3), (2, .int l8_2), (0, .ref k), (1, .int 0)]) hx hb dX5_product_36 hl (by decide) rfl ?_
            clear hl
            intro ls hl
            refine lv_aload_n hx hb dX5_product_38 rfl (lv_at hl 3 rfl) ?_
            refine lv_dup hx hb dX5_product_39 rfl ?_
            refine va_get (D := D) (ci := 5) (v := .int f8_k2) (C := RX5) (T := TX5) (N := 8) hx hb hT giX5 hown hK hP 0 rfl rfl 2 (by decide) (hT (Cond.fieldLink RX5 19 "DesertWire$Reader" "at" "I") mw_170) (fun _ h9 => h9) rfl dX5_product_40 ?_
            refine lv_iconst (v := 1) hx hb dX5_product_43 (by decide) ?_
            refine lv_iadd hx hb dX5_product_44 ?_
            refine lv_topi (fun v_14 ev_14 => ?_)
            have lo_v_14 := k_lo v_14
            have hi_v_14 := k_hi v_14
            refine va_put (D := D) (ci := 5) (v := .int v_14) (ty := .int) (C := RX5) (T := TX5) (N := 8) hx hb hT giX5 tyX5 tyX5_ok nmX5 hown hK hP hD hS 0 rfl rfl 2 (by decide) (hT (Cond.fieldLink RX5 19 "DesertWire$Reader" "at" "I") mw_170) (fun _ h9 => h9) rfl (by decide +kernel) rfl rfl (Nat.le_of_ble_eq_true rfl) dX5_product_45 ?_
            clear hP hD hS
            intro H locs hP hD hS
            replace hP : va_P D vwCl [(k, .inr (5, [.ref k0, .int c1, .int v_14, .int f8_k3, .int c4, .int c5, .int c6, .int c7])), (k0, .inl (cI, 50, .inl c0))] H := hP
            replace hD : va_D A [(k, .inr (5, [.ref k0, .int c1, .int v_14, .int f8_k3, .int c4, .int c5, .int c6, .int c7])), (k0, .inl (cI, 50, .inl c0))] := hD
            refine lv_aload_n hx hb dX5_product_48 rfl (lv_at hl 3 rfl) ?_
            refine lv_iload_n hx hb dX5_product_49 rfl (lv_at hl 4 rfl) ?_
            refine kJi (wr := []) (va_runV (As := [.int 0]) (rest := []) ⟨hx, hb, hml, hown, hT⟩ (c_X5_partG0 l D cI aK aV k k0 H.size c1 v_14 f8_k3 c4 c5 c6 c7 c0 0 (by first | omega | (simp only [zl_0] <;> omega) | decide | assumption | rfl)) (cwV 1 hT (gV_in mw_480 mw_477 mw_479 mw_p1_10 mw_6) rfl rfl rfl (by decide +kernel) ⟨Nat.le_of_ble_eq_true rfl, Nat.le_of_ble_eq_true rfl⟩) (kRecvX (q0 := 0) (ci := 5) hK hP hD hN hXS hS hA rfl rfl [0, 1] rfl (by decide)) rfl rfl hl.1 rfl (lv_room (Nat.le_of_ble_eq_true rfl)) dX5_product_50 ⟨Nat.le_of_ble_eq_true rfl, Nat.le_of_ble_eq_true rfl⟩) hP hD hS hA [0, 1] [] rfl rfl (by decide) (by decide) ?_
            clear hP hD hS
            intro r_15 u_19 H locs w_16 hP hD hS
            obtain ⟨sc2_17, sc3_18⟩ := u_19
            replace hP : va_P D vwCl [(k, .inr (5, [.ref k0, .int c1, .int sc2_17, .int sc3_18, .int c4, .int c5, .int c6, .int c7])), (k0, .inl (cI, 50, .inl c0))] H := hP
            replace hD : va_D A [(k, .inr (5, [.ref k0, .int c1, .int sc2_17, .int sc3_18, .int c4, .int c5, .int c6, .int c7])), (k0, .inl (cI, 50, .inl c0))] := hD
            have lo_r_15 := k_lo r_15
            have hi_r_15 := k_hi r_15
            refine lv_istore (lv' := [(5, .int r_15), (4, .int r_11), (3, .int l8_3), (2, .int l8_2), (0, .ref k), (1, .int 0)]) hx hb dX5_product_53 hl (by decide) rfl ?_
            clear hl
            intro ls hl
            refine lv_iload hx hb dX5_product_55 (lv_at hl 1 rfl) ?_
            refine lv_bipush (v := 42) hx hb dX5_product_57 (by decide) ?_
            refine b_icmp_ne hx hb rfl zl_42 (tgt := 69) dX5_product_59 (by decide) (fun c_20 => ?_) (fun c_20 => ?_)
            · refine lv_iload hx hb dX5_product_69 (lv_at hl 0 rfl) ?_
              refine b_if_ne hx hb rfl (tgt := 78) dX5_product_71 (by decide) (fun c_21 => ?_) (fun c_21 => ?_)
              · refine lv_iload_n hx hb dX5_product_78 rfl (lv_at hl 3 rfl) ?_
                refine lv_iload hx hb dX5_product_79 (lv_at hl 0 rfl) ?_
                refine lv_irem hx hb dX5_product_81 (k_ne0 (by omega)) ?_
                refine lv_topi (fun v_22 ev_22 => ?_)
                have lo_v_22 := k_lo v_22
                have hi_v_22 := k_hi v_22
                refine lv_istore_n (lv' := [(2, .int v_22), (5, .int r_15), (4, .int r_11), (3, .int l8_3), (0, .ref k), (1, .int 0)]) hx hb dX5_product_82 rfl hl (by decide) rfl ?_
                clear hl
                intro ls hl
                obtain ⟨v_23, ev_23⟩ : ∃ y : Int32, y = l8_3 + 1 := ⟨_, rfl⟩
                have tv_23 : v_23.toInt = l8_3.toInt + 1 := by rw [ev_23]; exact k_addv rfl zl_1 (by omega) (by omega)
                refine lv_iinc (v := v_23) (lv' := [(3, .int v_23), (2, .int v_22), (5, .int r_15), (4, .int r_11), (0, .ref k), (1, .int 0)]) hx hb dX5_product_83 hl (k := 3) rfl (by rw [ev_23]; rfl) (by decide) rfl ?_
                clear hl
                intro ls hl
                refine lv_goto (tgt := 8) hx hb dX5_product_86 (by decide) ?_
                exact ih8 v_22 v_23 sc2_17 sc3_18 (by first | omega | decide | assumption | rfl) (by omega) ls _ _ (lv_sub hl [0, 1, 4, 5] rfl) (hP.sub [0, 1] rfl) (hD.sub [0, 1] (by decide) rfl) hS
              · refine lv_iconst (v := 0) hx hb dX5_product_74 (by decide) ?_
                refine lv_goto (tgt := 82) hx hb dX5_product_75 (by decide) ?_
                refine lv_istore_n (lv' := [(2, .int 0), (5, .int r_15), (4, .int r_11), (3, .int l8_3), (0, .ref k), (1, .int 0)]) hx hb dX5_product_82 rfl hl (by decide) rfl ?_
                clear hl
                intro ls hl
                obtain ⟨v_24, ev_24⟩ : ∃ y : Int32, y = l8_3 + 1 := ⟨_, rfl⟩
                have tv_24 : v_24.toInt = l8_3.toInt + 1 := by rw [ev_24]; exact k_addv rfl zl_1 (by omega) (by omega)
                refine lv_iinc (v := v_24) (lv' := [(3, .int v_24), (2, .int 0), (5, .int r_15), (4, .int r_11), (0, .ref k), (1, .int 0)]) hx hb dX5_product_83 hl (k := 3) rfl (by rw [ev_24]; rfl) (by decide) rfl ?_
                clear hl
                intro ls hl
                refine lv_goto (tgt := 8) hx hb dX5_product_86 (by decide) ?_
                exact ih8 0 v_24 sc2_17 sc3_18 (by first | omega | (simp only [zl_0] <;> omega) | decide | assumption | rfl) (by omega) ls _ _ (lv_sub hl [0, 1, 4, 5] rfl) (hP.sub [0, 1] rfl) (hD.sub [0, 1] (by decide) rfl) hS
            · refine lv_iload_n hx hb dX5_product_62 rfl (lv_at hl 3 rfl) ?_
              refine lv_iload hx hb dX5_product_63 (lv_at hl 0 rfl) ?_
              refine lv_imul hx hb dX5_product_65 ?_
              refine lv_topi (fun v_25 ev_25 => ?_)
              have lo_v_25 := k_lo v_25
              have hi_v_25 := k_hi v_25
              refine lv_goto (tgt := 82) hx hb dX5_product_66 (by decide) ?_
              refine lv_istore_n (lv' := [(2, .int v_25), (5, .int r_15), (4, .int r_11), (3, .int l8_3), (0, .ref k), (1, .int 0)]) hx hb dX5_product_82 rfl hl (by decide) rfl ?_
              clear hl
              intro ls hl
              obtain ⟨v_26, ev_26⟩ : ∃ y : Int32, y = l8_3 + 1 := ⟨_, rfl⟩
              have tv_26 : v_26.toInt = l8_3.toInt + 1 := by rw [ev_26]; exact k_addv rfl zl_1 (by omega) (by omega)
              refine lv_iinc (v := v_26) (lv' := [(3, .int v_26), (2, .int v_25), (5, .int r_15), (4, .int r_11), (0, .ref k), (1, .int 0)]) hx hb dX5_product_83 hl (k := 3) rfl (by rw [ev_26]; rfl) (by decide) rfl ?_
              clear hl
              intro ls hl
              refine lv_goto (tgt := 8) hx hb dX5_product_86 (by decide) ?_
              exact ih8 v_25 v_26 sc2_17 sc3_18 (by first | omega | decide | assumption | rfl) (by omega) ls _ _ (lv_sub hl [0, 1, 4, 5] rfl) (hP.sub [0, 1] rfl) (hD.sub [0, 1] (by decide) rfl) hS
          · refine lv_aload_n hx hb dX5_product_23 rfl (lv_at hl 2 rfl) ?_
            refine kJi (wr := []) (va_runV (As := []) (rest := []) ⟨hx, hb, hml, hown, hT⟩ (c_X5_nextG l D cI aK aV k k0 H.size c1 f8_k2 f8_k3 c4 c5 c6 c7 c0) (cwV 0 hT (gV_in mw_484 mw_481 mw_483 mw_p1_11 mw_6) rfl rfl rfl (by decide +kernel) ⟨Nat.le_of_ble_eq_true rfl, Nat.le_of_ble_eq_true rfl⟩) (kRecvX (q0 := 0) (ci := 5) hK hP hD hN hXS hS hA rfl rfl [0, 1] rfl (by decide)) rfl rfl hl.1 rfl (lv_room (Nat.le_of_ble_eq_true rfl)) dX5_product_24 ⟨Nat.le_of_ble_eq_true rfl, Nat.le_of_ble_eq_true rfl⟩) hP hD hS hA [0, 1] [] rfl rfl (by decide) (by decide) ?_
            clear hP hD hS
            intro r_27 u_29 H locs w_28 hP hD hS
            replace hP : va_P D vwCl [(k, .inr (5, [.ref k0, .int c1, .int f8_k2, .int f8_k3, .int c4, .int c5, .int c6, .int c7])), (k0, .inl (cI, 50, .inl c0))] H := hP
            replace hD : va_D A [(k, .inr (5, [.ref k0, .int c1, .int f8_k2, .int f8_k3, .int c4, .int c5, .int c6, .int c7])), (k0, .inl (cI, 50, .inl c0))] := hD
            have lo_r_27 := k_lo r_27
            have hi_r_27 := k_hi r_27
            refine lv_bipush (v := 37) hx hb dX5_product_27 (by decide) ?_
            refine b_icmp_ne hx hb rfl zl_37 (tgt := 89) dX5_product_29 (by decide) (fun c_30 => ?_) (fun c_30 => ?_)
            · refine lv_iload_n hx hb dX5_product_89 rfl (lv_at hl 1 rfl) ?_
              exact hRet (f8_k2, f8_k3) [0, 1] trivial hP hD (by decide) rfl hS rfl dX5_product_90
            · refine lv_aload_n hx hb dX5_product_32 rfl (lv_at hl 2 rfl) ?_
              refine kJi (wr := []) (va_runV (As := []) (rest := []) ⟨hx, hb, hml, hown, hT⟩ (c_X5_nextG l D cI aK aV k k0 H.size c1 f8_k2 f8_k3 c4 c5 c6 c7 c0) (cwV 0 hT (gV_in mw_484 mw_481 mw_483 mw_p1_11 mw_6) rfl rfl rfl (by decide +kernel) ⟨Nat.le_of_ble_eq_true rfl, Nat.le_of_ble_eq_true rfl⟩) (kRecvX (q0 := 0) (ci := 5) hK hP hD hN hXS hS hA rfl rfl [0, 1] rfl (by decide)) rfl rfl hl.1 rfl (lv_room (Nat.le_of_ble_eq_true rfl)) dX5_product_33 ⟨Nat.le_of_ble_eq_true rfl, Nat.le_of_ble_eq_true rfl⟩) hP hD hS hA [0, 1] [] rfl rfl (by decide) (by decide) ?_
              clear hP hD hS
              intro r_31 u_33 H locs w_32 hP hD hS
              replace hP : va_P D vwCl [(k, .inr (5, [.ref k0, .int c1, .int f8_k2, .int f8_k3, .int c4, .int c5, .int c6, .int c7])), (k0, .inl (cI, 50, .inl c0))] H := hP
              replace hD : va_D A [(k, .inr (5, [.ref k0, .int c1, .int f8_k2, .int f8_k3, .int c4, .int c5, .int c6, .int c7])), (k0, .inl (cI, 50, .inl c0))] := hD
              have lo_r_31 := k_lo r_31
              have hi_r_31 := k_hi r_31
              refine lv_istore (lv' := [(4, .int r_31), (3, .int l8_3), (2, .int l8_2), (0, .ref k), (1, .int 0)]) hx hb dX5_product_36 hl (by decide) rfl ?_
              clear hl
              intro ls hl
              refine lv_aload_n hx hb dX5_product_38 rfl (lv_at hl 3 rfl) ?_
              refine lv_dup hx hb dX5_product_39 rfl ?_
              refine va_get (D := D) (ci := 5) (v := .int f8_k2) (C := RX5) (T := TX5) (N := 8) hx hb hT giX5 hown hK hP 0 rfl rfl 2 (by decide) (hT (Cond.fieldLink RX5 19 "DesertWire$Reader" "at" "I") mw_170) (fun _ h9 => h9) rfl dX5_product_40 ?_
              refine lv_iconst (v := 1) hx hb dX5_product_43 (by decide) ?_
              refine lv_iadd hx hb dX5_product_44 ?_
              refine lv_topi (fun v_34 ev_34 => ?_)
              have lo_v_34 := k_lo v_34
              have hi_v_34 := k_hi v_34
              refine va_put (D := D) (ci := 5) (v := .int v_34) (ty := .int) (C := RX5) (T := TX5) (N := 8) hx hb hT giX5 tyX5 tyX5_ok nmX5 hown hK hP hD hS 0 rfl rfl 2 (by decide) (hT (Cond.fieldLink RX5 19 "DesertWire$Reader" "at" "I") mw_170) (fun _ h9 => h9) rfl (by decide +kernel) rfl rfl (Nat.le_of_ble_eq_true rfl) dX5_product_45 ?_
              clear hP hD hS
              intro H locs hP hD hS
              replace hP : va_P D vwCl [(k, .inr (5, [.ref k0, .int c1, .int v_34, .int f8_k3, .int c4, .int c5, .int c6, .int c7])), (k0, .inl (cI, 50, .inl c0))] H := hP
              replace hD : va_D A [(k, .inr (5, [.ref k0, .int c1, .int v_34, .int f8_k3, .int c4, .int c5, .int c6, .int c7])), (k0, .inl (cI, 50, .inl c0))] := hD
              refine lv_aload_n hx hb dX5_product_48 rfl (lv_at hl 3 rfl) ?_
              refine lv_iload_n hx hb dX5_product_49 rfl (lv_at hl 4 rfl) ?_
              refine kJi (wr := []) (va_runV (As := [.int 0]) (rest := []) ⟨hx, hb, hml, hown, hT⟩ (c_X5_partG0 l D cI aK aV k k0 H.size c1 v_34 f8_k3 c4 c5 c6 c7 c0 0 (by first | omega | (simp only [zl_0] <;> omega) | decide | assumption | rfl)) (cwV 1 hT (gV_in mw_480 mw_477 mw_479 mw_p1_10 mw_6) rfl rfl rfl (by decide +kernel) ⟨Nat.le_of_ble_eq_true rfl, Nat.le_of_ble_eq_true rfl⟩) (kRecvX (q0 := 0) (ci := 5) hK hP hD hN hXS hS hA rfl rfl [0, 1] rfl (by decide)) rfl rfl hl.1 rfl (lv_room (Nat.le_of_ble_eq_true rfl)) dX5_product_50 ⟨Nat.le_of_ble_eq_true rfl, Nat.le_of_ble_eq_true rfl⟩) hP hD hS hA [0, 1] [] rfl rfl (by decide) (by decide) ?_
              clear hP hD hS
              intro r_35 u_39 H locs w_36 hP hD hS
              obtain ⟨sc2_37, sc3_38⟩ := u_39
              replace hP : va_P D vwCl [(k, .inr (5, [.ref k0, .int c1, .int sc2_37, .int sc3_38, .int c4, .int c5, .int c6, .int c7])), (k0, .inl (cI, 50, .inl c0))] H := hP
              replace hD : va_D A [(k, .inr (5, [.ref k0, .int c1, .int sc2_37, .int sc3_38, .int c4, .int c5, .int c6, .int c7])), (k0, .inl (cI, 50, .inl c0))] := hD
              have lo_r_35 := k_lo r_35
              have hi_r_35 := k_hi r_35
              refine lv_istore (lv' := [(5, .int r_35), (4, .int r_31), (3, .int l8_3), (2, .int l8_2), (0, .ref k), (1, .int 0)]) hx hb dX5_product_53 hl (by decide) rfl ?_
              clear hl
              intro ls hl
              refine lv_iload hx hb dX5_product_55 (lv_at hl 1 rfl) ?_
              refine lv_bipush (v := 42) hx hb dX5_product_57 (by decide) ?_
              refine b_icmp_ne hx hb rfl zl_42 (tgt := 69) dX5_product_59 (by decide) (fun c_40 => ?_) (fun c_40 => ?_)
              · refine lv_iload hx hb dX5_product_69 (lv_at hl 0 rfl) ?_
                refine b_if_ne hx hb rfl (tgt := 78) dX5_product_71 (by decide) (fun c_41 => ?_) (fun c_41 => ?_)
                · refine lv_iload_n hx hb dX5_product_78 rfl (lv_at hl 3 rfl) ?_
                  refine lv_iload hx hb dX5_product_79 (lv_at hl 0 rfl) ?_
                  refine lv_irem hx hb dX5_product_81 (k_ne0 (by omega)) ?_
                  refine lv_topi (fun v_42 ev_42 => ?_)
                  have lo_v_42 := k_lo v_42
                  have hi_v_42 := k_hi v_42
                  refine lv_istore_n (lv' := [(2, .int v_42), (5, .int r_35), (4, .int r_31), (3, .int l8_3), (0, .ref k), (1, .int 0)]) hx hb dX5_product_82 rfl hl (by decide) rfl ?_
                  clear hl
                  intro ls hl
                  obtain ⟨v_43, ev_43⟩ : ∃ y : Int32, y = l8_3 + 1 := ⟨_, rfl⟩
                  have tv_43 : v_43.toInt = l8_3.toInt + 1 := by rw [ev_43]; exact k_addv rfl zl_1 (by omega) (by omega)
                  refine lv_iinc (v := v_43) (lv' := [(3, .int v_43), (2, .int v_42), (5, .int r_35), (4, .int r_31), (0, .ref k), (1, .int 0)]) hx hb dX5_product_83 hl (k := 3) rfl (by rw [ev_43]; rfl) (by decide) rfl ?_
                  clear hl
                  intro ls hl
                  refine lv_goto (tgt := 8) hx hb dX5_product_86 (by decide) ?_
                  exact ih8 v_42 v_43 sc2_37 sc3_38 (by first | omega | decide | assumption | rfl) (by omega) ls _ _ (lv_sub hl [0, 1, 4, 5] rfl) (hP.sub [0, 1] rfl) (hD.sub [0, 1] (by decide) rfl) hS
                · refine lv_iconst (v := 0) hx hb dX5_product_74 (by decide) ?_
                  refine lv_goto (tgt := 82) hx hb dX5_product_75 (by decide) ?_
                  refine lv_istore_n (lv' := [(2, .int 0), (5, .int r_35), (4, .int r_31), (3, .int l8_3), (0, .ref k), (1, .int 0)]) hx hb dX5_product_82 rfl hl (by decide) rfl ?_
                  clear hl
                  intro ls hl
                  obtain ⟨v_44, ev_44⟩ : ∃ y : Int32, y = l8_3 + 1 := ⟨_, rfl⟩
                  have tv_44 : v_44.toInt = l8_3.toInt + 1 := by rw [ev_44]; exact k_addv rfl zl_1 (by omega) (by omega)
                  refine lv_iinc (v := v_44) (lv' := [(3, .int v_44), (2, .int 0), (5, .int r_35), (4, .int r_31), (0, .ref k), (1, .int 0)]) hx hb dX5_product_83 hl (k := 3) rfl (by rw [ev_44]; rfl) (by decide) rfl ?_
                  clear hl
                  intro ls hl
                  refine lv_goto (tgt := 8) hx hb dX5_product_86 (by decide) ?_
                  exact ih8 0 v_44 sc2_37 sc3_38 (by first | omega | (simp only [zl_0] <;> omega) | decide | assumption | rfl) (by omega) ls _ _ (lv_sub hl [0, 1, 4, 5] rfl) (hP.sub [0, 1] rfl) (hD.sub [0, 1] (by decide) rfl) hS
              · refine lv_iload_n hx hb dX5_product_62 rfl (lv_at hl 3 rfl) ?_
                refine lv_iload hx hb dX5_product_63 (lv_at hl 0 rfl) ?_
                refine lv_imul hx hb dX5_product_65 ?_
                refine lv_topi (fun v_45 ev_45 => ?_)
                have lo_v_45 := k_lo v_45
                have hi_v_45 := k_hi v_45
                refine lv_goto (tgt := 82) hx hb dX5_product_66 (by decide) ?_
                refine lv_istore_n (lv' := [(2, .int v_45), (5, .int r_35), (4, .int r_31), (3, .int l8_3), (0, .ref k), (1, .int 0)]) hx hb dX5_product_82 rfl hl (by decide) rfl ?_
                clear hl
                intro ls hl
                obtain ⟨v_46, ev_46⟩ : ∃ y : Int32, y = l8_3 + 1 := ⟨_, rfl⟩
                have tv_46 : v_46.toInt = l8_3.toInt + 1 := by rw [ev_46]; exact k_addv rfl zl_1 (by omega) (by omega)
                refine lv_iinc (v := v_46) (lv' := [(3, .int v_46), (2, .int v_45), (5, .int r_35), (4, .int r_31), (0, .ref k), (1, .int 0)]) hx hb dX5_product_83 hl (k := 3) rfl (by rw [ev_46]; rfl) (by decide) rfl ?_
                clear hl
                intro ls hl
                refine lv_goto (tgt := 8) hx hb dX5_product_86 (by decide) ?_
                exact ih8 v_45 v_46 sc2_37 sc3_38 (by first | omega | decide | assumption | rfl) (by omega) ls _ _ (lv_sub hl [0, 1, 4, 5] rfl) (hP.sub [0, 1] rfl) (hD.sub [0, 1] (by decide) rfl) hS
  exact hloop_8 _ r_1 0 sc2_3 sc3_4 (by first | omega | (simp only [zl_0] <;> omega) | decide | assumption | rfl) (Nat.lt_succ_self _) ls _ _ (lv_sub hl [0, 1, 2, 3] rfl) hP hD hS

set_option maxHeartbeats 4000000 in
set_option maxRecDepth 100000 in
theorem c_X5_sumG0 (l : Launch) (D : va_G) (cI : ClassId) (aK aV : Nat → Nat) (k k0 : Nat) (sz : Nat) (c1 : Int32) (c2 : Int32) (c3 : Int32) (c4 : Int32) (c5 : Int32) (c6 : Int32) (c7 : Int32) (c0 : Nat → Int32) (a0 : Int32) (pre0 : a0 = 0) : Met l yX5_sum (gW yX5_sum cX5_sum 6 (some .int)) ({ frames := 35, cells := 0, slots := 0, locals := 847 } : Room) (kPreX D cI aK aV [.ref k, .int 0] [(k, .inr (5, [.ref k0, .int c1, .int c2, .int c3, .int c4, .int c5, .int c6, .int c7])), (k0, .inl (cI, 50, .inl c0))] sz) (va_Qi (fun (r : Int32) (u : Int32 × Int32) => True) (fun u t => kWd D cI (va_A [(k, .inr (5, [.ref k0, .int c1, .int c2, .int c3, .int c4, .int c5, .int c6, .int c7])), (k0, .inl (cI, 50, .inl c0))] sz) [(k, .inr (5, [.ref k0, .int c1, .int u.1, .int u.2, .int c4, .int c5, .int c6, .int c7])), (k0, .inl (cI, 50, .inl c0))] t) (va_A [(k, .inr (5, [.ref k0, .int c1, .int c2, .int c3, .int c4, .int c5, .int c6, .int c7])), (k0, .inl (cI, 50, .inl c0))] sz)) 0 0 (va_A [(k, .inr (5, [.ref k0, .int c1, .int c2, .int c3, .int c4, .int c5, .int c6, .int c7])), (k0, .inl (cI, 50, .inl c0))] sz) := by
  refine kMetIX (own := RX5) (by decide) rfl (Nat.le_of_ble_eq_true rfl) ?_
  intro p e s m args below meth c hx hb hT hown hname hml A Q hK hP hD hS hA hN hXS hRet ls hl
  subst pre0
  have hl : lv_has ls 6 [(0, .ref k), (1, .int 0)] := hl
  refine lv_aload_n hx hb dX5_sum_0 rfl (lv_at hl 0 rfl) ?_
  refine lv_iload_n hx hb dX5_sum_1 rfl (lv_at hl 1 rfl) ?_
  refine kJi (wr := []) (va_runV (As := [.int 0]) (rest := []) ⟨hx, hb, hml, hown, hT⟩ (c_X5_productG0 l D cI aK aV k k0 s.heap.size c1 c2 c3 c4 c5 c6 c7 c0 0 (by first | omega | (simp only [zl_0] <;> omega) | decide | assumption | rfl)) (cwV 1 hT (gV_in mw_476 mw_473 mw_475 mw_p1_9 mw_6) rfl rfl rfl (by decide +kernel) ⟨Nat.le_of_ble_eq_true rfl, Nat.le_of_ble_eq_true rfl⟩) (kRecvX (q0 := 0) (ci := 5) hK hP hD hN hXS hS hA rfl rfl [0, 1] rfl (by decide)) rfl rfl hl.1 rfl (lv_room (Nat.le_of_ble_eq_true rfl)) dX5_sum_2 ⟨Nat.le_of_ble_eq_true rfl, Nat.le_of_ble_eq_true rfl⟩) hP hD hS hA [0, 1] [] rfl rfl (by decide) (by decide) ?_
  clear hP hD hS
  intro r_1 u_5 H locs w_2 hP hD hS
  obtain ⟨sc2_3, sc3_4⟩ := u_5
  replace hP : va_P D vwCl [(k, .inr (5, [.ref k0, .int c1, .int sc2_3, .int sc3_4, .int c4, .int c5, .int c6, .int c7])), (k0, .inl (cI, 50, .inl c0))] H := hP
  replace hD : va_D A [(k, .inr (5, [.ref k0, .int c1, .int sc2_3, .int sc3_4, .int c4, .int c5, .int c6, .int c7])), (k0, .inl (cI, 50, .inl c0))] := hD
  have lo_r_1 := k_lo r_1
  have hi_r_1 := k_hi r_1
  refine lv_istore_n (lv' := [(2, .int r_1), (0, .ref k), (1, .int 0)]) hx hb dX5_sum_5 rfl hl (by decide) rfl ?_
  clear hl
  intro ls hl
  refine lv_iconst (v := 0) hx hb dX5_sum_6 (by decide) ?_
  refine lv_istore_n (lv' := [(3, .int 0), (2, .int r_1), (0, .ref k), (1, .int 0)]) hx hb dX5_sum_7 rfl hl (by decide) rfl ?_
  clear hl
  intro ls hl
  have hloop_8 : ∀ (fu_ : Nat) (l8_2 : Int32) (l8_3 : Int32) (f8_k2 : Int32) (f8_k3 : Int32), 0 ≤ l8_3.toInt → (50 - l8_3.toInt).toNat < fu_ → ∀ (ls : Array Slot) (H : Heap) (locs : List Loc), lv_has ls 6 [(3, .int l8_3), (2, .int l8_2), (0, .ref k), (1, .int 0)] → va_P D vwCl [(k, .inr (5, [.ref k0, .int c1, .int f8_k2, .int f8_k3, .int c4, .int c5, .int c6, .int c7])), (k0, .inl (cI, 50, .inl c0))] H → va_D A [(k, .inr (5, [.ref k0, .int c1, .int f8_k2, .int f8_k3, .int c4, .int c5, .int c6, .int c7])), (k0, .inl (cI, 50, .inl c0))] → va_S A s.heap H locs → W p l e ({ frames := 35, cells := 0, slots := 0, locals := 847 } : Room) s m args below meth c H locs 0 0 Q (F0 m 8 ls []) := by
    intro fu_; induction fu_ with
    | zero => intro l8_2 l8_3 f8_k2 f8_k3 i8_0 hm; exact absurd hm (by omega)
    | succ fu_ ih8 =>
        intro l8_2 l8_3 f8_k2 f8_k3 i8_0 hm ls H locs hl hP hD hS
        have lo_l8_2 := k_lo l8_2
        have hi_l8_2 := k_hi l8_2
        have lo_l8_3 := k_lo l8_3
        have hi_l8_3 := k_hi l8_3
        have lo_f8_k2 := k_lo f8_k2
        have hi_f8_k2 := k_hi f8_k2
        have lo_f8_k3 := k_lo f8_k3
        have hi_f8_k3 := k_hi f8_k3
        refine lv_iload_n hx hb dX5_sum_8 rfl (lv_at hl 0 rfl) ?_
        refine lv_bipush (v := 50) hx hb dX5_sum_9 (by decide) ?_
        refine b_icmp_ge hx hb rfl zl_50 (tgt := 80) dX5_sum_11 (by decide) (fun c_6 => ?_) (fun c_6 => ?_)
        · refine lv_iload_n hx hb dX5_sum_80 rfl (lv_at hl 1 rfl) ?_
          exact hRet (f8_k2, f8_k3) [0, 1] trivial hP hD (by decide) rfl hS rfl dX5_sum_81
        · refine lv_aload_n hx hb dX5_sum_14 rfl (lv_at hl 2 rfl) ?_
          refine kJi (wr := []) (va_runV (As := []) (rest := []) ⟨hx, hb, hml, hown, hT⟩ (c_X5_nextG l D cI aK aV k k0 H.size c1 f8_k2 f8_k3 c4 c5 c6 c7 c0) (cwV 0 hT (gV_in mw_484 mw_481 mw_483 mw_p1_11 mw_6) rfl rfl rfl (by decide +kernel) ⟨Nat.le_of_ble_eq_true rfl, Nat.le_of_ble_eq_true rfl⟩) (kRecvX (q0 := 0) (ci := 5) hK hP hD hN hXS hS hA rfl rfl [0, 1] rfl (by decide)) rfl rfl hl.1 rfl (lv_room (Nat.le_of_ble_eq_true rfl)) dX5_sum_15 ⟨Nat.le_of_ble_eq_true rfl, Nat.le_of_ble_eq_true rfl⟩) hP hD hS hA [0, 1] [] rfl rfl (by decide) (by decide) ?_
          clear hP hD hS
          intro r_7 u_9 H locs w_8 hP hD hS
          replace hP : va_P D vwCl [(k, .inr (5, [.ref k0, .int c1, .int f8_k2, .int f8_k3, .int c4, .int c5, .int c6, .int c7])), (k0, .inl (cI, 50, .inl c0))] H := hP
          replace hD : va_D A [(k, .inr (5, [.ref k0, .int c1, .int f8_k2, .int f8_k3, .int c4, .int c5, .int c6, .int c7])), (k0, .inl (cI, 50, .inl c0))] := hD
          have lo_r_7 := k_lo r_7
          have hi_r_7 := k_hi r_7
          refine lv_bipush (v := 43) hx hb dX5_sum_18 (by decide) ?_
          refine b_icmp_eq hx hb rfl zl_43 (tgt := 32) dX5_sum_20 (by decide) (fun c_10 => ?_) (fun c_10 => ?_)
          · refine lv_aload_n hx hb dX5_sum_32 rfl (lv_at hl 2 rfl) ?_
            refine kJi (wr := []) (va_runV (As := []) (rest := []) ⟨hx, hb, hml, hown, hT⟩ (c_X5_nextG l D cI aK aV k k0 H.size c1 f8_k2 f8_k3 c4 c5 c6 c7 c0) (cwV 0 hT (gV_in mw_484 mw_481 mw_483 mw_p1_11 mw_6) rfl rfl rfl (by decide +kernel) ⟨Nat.le_of_ble_eq_true rfl, Nat.le_of_ble_eq_true rfl⟩) (kRecvX (q0 := 0) (ci := 5) hK hP hD hN hXS hS hA rfl rfl [0, 1] rfl (by decide)) rfl rfl hl.1 rfl (lv_room (Nat.le_of_ble_eq_true rfl)) dX5_sum_33 ⟨Nat.le_of_ble_eq_true rfl, Nat.le_of_ble_eq_true rfl⟩) hP hD hS hA [0, 1] [] rfl rfl (by decide) (by decide) ?_
            clear hP hD hS
            intro r_11 u_13 H locs w_12 hP hD hS
            replace hP : va_P D vwCl [(k, .inr (5, [.ref k0, .int c1, .int f8_k2, .int f8_k3, .int c4, .int c5, .int c6, .int c7])), (k0, .inl (cI, 50, .inl c0))] H := hP
            replace hD : va_D A [(k, .inr (5, [.ref k0, .int c1, .int f8_k2, .int f8_k3, .int c4, .int c5, .int c6, .int c7])), (k0, .inl (cI, 50, .inl c0))] := hD
            have lo_r_11 := k_lo r_11
            have hi_r_11 := k_hi r_11
            refine lv_istore (lv' := [(4, .int r_11), (3, .int l8_3), (2, .int l8_2), (0, .ref k), (1, .int 0)]) hx hb dX5_sum_36 hl (by decide) rfl ?_
            clear hl
            intro ls hl
            refine lv_aload_n hx hb dX5_sum_38 rfl (lv_at hl 3 rfl) ?_
            refine lv_dup hx hb dX5_sum_39 rfl ?_
            refine va_get (D := D) (ci := 5) (v := .int f8_k2) (C := RX5) (T := TX5) (N := 8) hx hb hT giX5 hown hK hP 0 rfl rfl 2 (by decide) (hT (Cond.fieldLink RX5 19 "DesertWire$Reader" "at" "I") mw_170) (fun _ h9 => h9) rfl dX5_sum_40 ?_
            refine lv_iconst (v := 1) hx hb dX5_sum_43 (by decide) ?_
            refine lv_iadd hx hb dX5_sum_44 ?_
            refine lv_topi (fun v_14 ev_14 => ?_)
            have lo_v_14 := k_lo v_14
            have hi_v_14 := k_hi v_14
            refine va_put (D := D) (ci := 5) (v := .int v_14) (ty := .int) (C := RX5) (T := TX5) (N := 8) hx hb hT giX5 tyX5 tyX5_ok nmX5 hown hK hP hD hS 0 rfl rfl 2 (by decide) (hT (Cond.fieldLink RX5 19 "DesertWire$Reader" "at" "I") mw_170) (fun _ h9 => h9) rfl (by decide +kernel) rfl rfl (Nat.le_of_ble_eq_true rfl) dX5_sum_45 ?_
            clear hP hD hS
            intro H locs hP hD hS
            replace hP : va_P D vwCl [(k, .inr (5, [.ref k0, .int c1, .int v_14, .int f8_k3, .int c4, .int c5, .int c6, .int c7])), (k0, .inl (cI, 50, .inl c0))] H := hP
            replace hD : va_D A [(k, .inr (5, [.ref k0, .int c1, .int v_14, .int f8_k3, .int c4, .int c5, .int c6, .int c7])), (k0, .inl (cI, 50, .inl c0))] := hD
            refine lv_aload_n hx hb dX5_sum_48 rfl (lv_at hl 3 rfl) ?_
            refine lv_iload_n hx hb dX5_sum_49 rfl (lv_at hl 4 rfl) ?_
            refine kJi (wr := []) (va_runV (As := [.int 0]) (rest := []) ⟨hx, hb, hml, hown, hT⟩ (c_X5_productG0 l D cI aK aV k k0 H.size c1 v_14 f8_k3 c4 c5 c6 c7 c0 0 (by first | omega | (simp only [zl_0] <;> omega) | decide | assumption | rfl)) (cwV 1 hT (gV_in mw_476 mw_473 mw_475 mw_p1_9 mw_6) rfl rfl rfl (by decide +kernel) ⟨Nat.le_of_ble_eq_true rfl, Nat.le_of_ble_eq_true rfl⟩) (kRecvX (q0 := 0) (ci := 5) hK hP hD hN hXS hS hA rfl rfl [0, 1] rfl (by decide)) rfl rfl hl.1 rfl (lv_room (Nat.le_of_ble_eq_true rfl)) dX5_sum_50 ⟨Nat.le_of_ble_eq_true rfl, Nat.le_of_ble_eq_true rfl⟩) hP hD hS hA [0, 1] [] rfl rfl (by decide) (by decide) ?_
            clear hP hD hS
            intro r_15 u_19 H locs w_16 hP hD hS
            obtain ⟨sc2_17, sc3_18⟩ := u_19
            replace hP : va_P D vwCl [(k, .inr (5, [.ref k0, .int c1, .int sc2_17, .int sc3_18, .int c4, .int c5, .int c6, .int c7])), (k0, .inl (cI, 50, .inl c0))] H := hP
            replace hD : va_D A [(k, .inr (5, [.ref k0, .int c1, .int sc2_17, .int sc3_18, .int c4, .int c5, .int c6, .int c7])), (k0, .inl (cI, 50, .inl c0))] := hD
            have lo_r_15 := k_lo r_15
            have hi_r_15 := k_hi r_15
            refine lv_istore (lv' := [(5, .int r_15), (4, .int r_11), (3, .int l8_3), (2, .int l8_2), (0, .ref k), (1, .int 0)]) hx hb dX5_sum_53 hl (by decide) rfl ?_
            clear hl
            intro ls hl
            refine lv_iload hx hb dX5_sum_55 (lv_at hl 1 rfl) ?_
            refine lv_bipush (v := 43) hx hb dX5_sum_57 (by decide) ?_
            refine b_icmp_ne hx hb rfl zl_43 (tgt := 69) dX5_sum_59 (by decide) (fun c_20 => ?_) (fun c_20 => ?_)
            · refine lv_iload_n hx hb dX5_sum_69 rfl (lv_at hl 3 rfl) ?_
              refine lv_iload hx hb dX5_sum_70 (lv_at hl 0 rfl) ?_
              refine lv_isub hx hb dX5_sum_72 ?_
              refine lv_topi (fun v_21 ev_21 => ?_)
              have lo_v_21 := k_lo v_21
              have hi_v_21 := k_hi v_21
              refine lv_istore_n (lv' := [(2, .int v_21), (5, .int r_15), (4, .int r_11), (3, .int l8_3), (0, .ref k), (1, .int 0)]) hx hb dX5_sum_73 rfl hl (by decide) rfl ?_
              clear hl
              intro ls hl
              obtain ⟨v_22, ev_22⟩ : ∃ y : Int32, y = l8_3 + 1 := ⟨_, rfl⟩
              have tv_22 : v_22.toInt = l8_3.toInt + 1 := by rw [ev_22]; exact k_addv rfl zl_1 (by omega) (by omega)
              refine lv_iinc (v := v_22) (lv' := [(3, .int v_22), (2, .int v_21), (5, .int r_15), (4, .int r_11), (0, .ref k), (1, .int 0)]) hx hb dX5_sum_74 hl (k := 3) rfl (by rw [ev_22]; rfl) (by decide) rfl ?_
              clear hl
              intro ls hl
              refine lv_goto (tgt := 8) hx hb dX5_sum_77 (by decide) ?_
              exact ih8 v_21 v_22 sc2_17 sc3_18 (by first | omega | decide | assumption | rfl) (by omega) ls _ _ (lv_sub hl [0, 1, 4, 5] rfl) (hP.sub [0, 1] rfl) (hD.sub [0, 1] (by decide) rfl) hS
            · refine lv_iload_n hx hb dX5_sum_62 rfl (lv_at hl 3 rfl) ?_
              refine lv_iload hx hb dX5_sum_63 (lv_at hl 0 rfl) ?_
              refine lv_iadd hx hb dX5_sum_65 ?_
              refine lv_topi (fun v_23 ev_23 => ?_)
              have lo_v_23 := k_lo v_23
              have hi_v_23 := k_hi v_23
              refine lv_goto (tgt := 73) hx hb dX5_sum_66 (by decide) ?_
              refine lv_istore_n (lv' := [(2, .int v_23), (5, .int r_15), (4, .int r_11), (3, .int l8_3), (0, .ref k), (1, .int 0)]) hx hb dX5_sum_73 rfl hl (by decide) rfl ?_
              clear hl
              intro ls hl
              obtain ⟨v_24, ev_24⟩ : ∃ y : Int32, y = l8_3 + 1 := ⟨_, rfl⟩
              have tv_24 : v_24.toInt = l8_3.toInt + 1 := by rw [ev_24]; exact k_addv rfl zl_1 (by omega) (by omega)
              refine lv_iinc (v := v_24) (lv' := [(3, .int v_24), (2, .int v_23), (5, .int r_15), (4, .int r_11), (0, .ref k), (1, .int 0)]) hx hb dX5_sum_74 hl (k := 3) rfl (by rw [ev_24]; rfl) (by decide) rfl ?_
              clear hl
              intro ls hl
              refine lv_goto (tgt := 8) hx hb dX5_sum_77 (by decide) ?_
              exact ih8 v_23 v_24 sc2_17 sc3_18 (by first | omega | decide | assumption | rfl) (by omega) ls _ _ (lv_sub hl [0, 1, 4, 5] rfl) (hP.sub [0, 1] rfl) (hD.sub [0, 1] (by decide) rfl) hS
          · refine lv_aload_n hx hb dX5_sum_23 rfl (lv_at hl 2 rfl) ?_
            refine kJi (wr := []) (va_runV (As := []) (rest := []) ⟨hx, hb, hml, hown, hT⟩ (c_X5_nextG l D cI aK aV k k0 H.size c1 f8_k2 f8_k3 c4 c5 c6 c7 c0) (cwV 0 hT (gV_in mw_484 mw_481 mw_483 mw_p1_11 mw_6) rfl rfl rfl (by decide +kernel) ⟨Nat.le_of_ble_eq_true rfl, Nat.le_of_ble_eq_true rfl⟩) (kRecvX (q0 := 0) (ci := 5) hK hP hD hN hXS hS hA rfl rfl [0, 1] rfl (by decide)) rfl rfl hl.1 rfl (lv_room (Nat.le_of_ble_eq_true rfl)) dX5_sum_24 ⟨Nat.le_of_ble_eq_true rfl, Nat.le_of_ble_eq_true rfl⟩) hP hD hS hA [0, 1] [] rfl rfl (by decide) (by decide) ?_
            clear hP hD hS
            intro r_25 u_27 H locs w_26 hP hD hS
            replace hP : va_P D vwCl [(k, .inr (5, [.ref k0, .int c1, .int f8_k2, .int f8_k3, .int c4, .int c5, .int c6, .int c7])), (k0, .inl (cI, 50, .inl c0))] H := hP
            replace hD : va_D A [(k, .inr (5, [.ref k0, .int c1, .int f8_k2, .int f8_k3, .int c4, .int c5, .int c6, .int c7])), (k0, .inl (cI, 50, .inl c0))] := hD
            have lo_r_25 := k_lo r_25
            have hi_r_25 := k_hi r_25
            refine lv_bipush (v := 45) hx hb dX5_sum_27 (by decide) ?_
            refine b_icmp_ne hx hb rfl zl_45 (tgt := 80) dX5_sum_29 (by decide) (fun c_28 => ?_) (fun c_28 => ?_)
            · refine lv_iload_n hx hb dX5_sum_80 rfl (lv_at hl 1 rfl) ?_
              exact hRet (f8_k2, f8_k3) [0, 1] trivial hP hD (by decide) rfl hS rfl dX5_sum_81
            · refine lv_aload_n hx hb dX5_sum_32 rfl (lv_at hl 2 rfl) ?_
              refine kJi (wr := []) (va_runV (As := []) (rest := []) ⟨hx, hb, hml, hown, hT⟩ (c_X5_nextG l D cI aK aV k k0 H.size c1 f8_k2 f8_k3 c4 c5 c6 c7 c0) (cwV 0 hT (gV_in mw_484 mw_481 mw_483 mw_p1_11 mw_6) rfl rfl rfl (by decide +kernel) ⟨Nat.le_of_ble_eq_true rfl, Nat.le_of_ble_eq_true rfl⟩) (kRecvX (q0 := 0) (ci := 5) hK hP hD hN hXS hS hA rfl rfl [0, 1] rfl (by decide)) rfl rfl hl.1 rfl (lv_room (Nat.le_of_ble_eq_true rfl)) dX5_sum_33 ⟨Nat.le_of_ble_eq_true rfl, Nat.le_of_ble_eq_true rfl⟩) hP hD hS hA [0, 1] [] rfl rfl (by decide) (by decide) ?_
              clear hP hD hS
              intro r_29 u_31 H locs w_30 hP hD hS
              replace hP : va_P D vwCl [(k, .inr (5, [.ref k0, .int c1, .int f8_k2, .int f8_k3, .int c4, .int c5, .int c6, .int c7])), (k0, .inl (cI, 50, .inl c0))] H := hP
              replace hD : va_D A [(k, .inr (5, [.ref k0, .int c1, .int f8_k2, .int f8_k3, .int c4, .int c5, .int c6, .int c7])), (k0, .inl (cI, 50, .inl c0))] := hD
              have lo_r_29 := k_lo r_29
              have hi_r_29 := k_hi r_29
              refine lv_istore (lv' := [(4, .int r_29), (3, .int l8_3), (2, .int l8_2), (0, .ref k), (1, .int 0)]) hx hb dX5_sum_36 hl (by decide) rfl ?_
              clear hl
              intro ls hl
              refine lv_aload_n hx hb dX5_sum_38 rfl (lv_at hl 3 rfl) ?_
              refine lv_dup hx hb dX5_sum_39 rfl ?_
              refine va_get (D := D) (ci := 5) (v := .int f8_k2) (C := RX5) (T := TX5) (N := 8) hx hb hT giX5 hown hK hP 0 rfl rfl 2 (by decide) (hT (Cond.fieldLink RX5 19 "DesertWire$Reader" "at" "I") mw_170) (fun _ h9 => h9) rfl dX5_sum_40 ?_
              refine lv_iconst (v := 1) hx hb dX5_sum_43 (by decide) ?_
              refine lv_iadd hx hb dX5_sum_44 ?_
              refine lv_topi (fun v_32 ev_32 => ?_)
              have lo_v_32 := k_lo v_32
              have hi_v_32 := k_hi v_32
              refine va_put (D := D) (ci := 5) (v := .int v_32) (ty := .int) (C := RX5) (T := TX5) (N := 8) hx hb hT giX5 tyX5 tyX5_ok nmX5 hown hK hP hD hS 0 rfl rfl 2 (by decide) (hT (Cond.fieldLink RX5 19 "DesertWire$Reader" "at" "I") mw_170) (fun _ h9 => h9) rfl (by decide +kernel) rfl rfl (Nat.le_of_ble_eq_true rfl) dX5_sum_45 ?_
              clear hP hD hS
              intro H locs hP hD hS
              replace hP : va_P D vwCl [(k, .inr (5, [.ref k0, .int c1, .int v_32, .int f8_k3, .int c4, .int c5, .int c6, .int c7])), (k0, .inl (cI, 50, .inl c0))] H := hP
              replace hD : va_D A [(k, .inr (5, [.ref k0, .int c1, .int v_32, .int f8_k3, .int c4, .int c5, .int c6, .int c7])), (k0, .inl (cI, 50, .inl c0))] := hD
              refine lv_aload_n hx hb dX5_sum_48 rfl (lv_at hl 3 rfl) ?_
              refine lv_iload_n hx hb dX5_sum_49 rfl (lv_at hl 4 rfl) ?_
              refine kJi (wr := []) (va_runV (As := [.int 0]) (rest := []) ⟨hx, hb, hml, hown, hT⟩ (c_X5_productG0 l D cI aK aV k k0 H.size c1 v_32 f8_k3 c4 c5 c6 c7 c0 0 (by first | omega | (simp only [zl_0] <;> omega) | decide | assumption | rfl)) (cwV 1 hT (gV_in mw_476 mw_473 mw_475 mw_p1_9 mw_6) rfl rfl rfl (by decide +kernel) ⟨Nat.le_of_ble_eq_true rfl, Nat.le_of_ble_eq_true rfl⟩) (kRecvX (q0 := 0) (ci := 5) hK hP hD hN hXS hS hA rfl rfl [0, 1] rfl (by decide)) rfl rfl hl.1 rfl (lv_room (Nat.le_of_ble_eq_true rfl)) dX5_sum_50 ⟨Nat.le_of_ble_eq_true rfl, Nat.le_of_ble_eq_true rfl⟩) hP hD hS hA [0, 1] [] rfl rfl (by decide) (by decide) ?_
              clear hP hD hS
              intro r_33 u_37 H locs w_34 hP hD hS
              obtain ⟨sc2_35, sc3_36⟩ := u_37
              replace hP : va_P D vwCl [(k, .inr (5, [.ref k0, .int c1, .int sc2_35, .int sc3_36, .int c4, .int c5, .int c6, .int c7])), (k0, .inl (cI, 50, .inl c0))] H := hP
              replace hD : va_D A [(k, .inr (5, [.ref k0, .int c1, .int sc2_35, .int sc3_36, .int c4, .int c5, .int c6, .int c7])), (k0, .inl (cI, 50, .inl c0))] := hD
              have lo_r_33 := k_lo r_33
              have hi_r_33 := k_hi r_33
              refine lv_istore (lv' := [(5, .int r_33), (4, .int r_29), (3, .int l8_3), (2, .int l8_2), (0, .ref k), (1, .int 0)]) hx hb dX5_sum_53 hl (by decide) rfl ?_
              clear hl
              intro ls hl
              refine lv_iload hx hb dX5_sum_55 (lv_at hl 1 rfl) ?_
              refine lv_bipush (v := 43) hx hb dX5_sum_57 (by decide) ?_
              refine b_icmp_ne hx hb rfl zl_43 (tgt := 69) dX5_sum_59 (by decide) (fun c_38 => ?_) (fun c_38 => ?_)
              · refine lv_iload_n hx hb dX5_sum_69 rfl (lv_at hl 3 rfl) ?_
                refine lv_iload hx hb dX5_sum_70 (lv_at hl 0 rfl) ?_
                refine lv_isub hx hb dX5_sum_72 ?_
                refine lv_topi (fun v_39 ev_39 => ?_)
                have lo_v_39 := k_lo v_39
                have hi_v_39 := k_hi v_39
                refine lv_istore_n (lv' := [(2, .int v_39), (5, .int r_33), (4, .int r_29), (3, .int l8_3), (0, .ref k), (1, .int 0)]) hx hb dX5_sum_73 rfl hl (by decide) rfl ?_
                clear hl
                intro ls hl
                obtain ⟨v_40, ev_40⟩ : ∃ y : Int32, y = l8_3 + 1 := ⟨_, rfl⟩
                have tv_40 : v_40.toInt = l8_3.toInt + 1 := by rw [ev_40]; exact k_addv rfl zl_1 (by omega) (by omega)
                refine lv_iinc (v := v_40) (lv' := [(3, .int v_40), (2, .int v_39), (5, .int r_33), (4, .int r_29), (0, .ref k), (1, .int 0)]) hx hb dX5_sum_74 hl (k := 3) rfl (by rw [ev_40]; rfl) (by decide) rfl ?_
                clear hl
                intro ls hl
                refine lv_goto (tgt := 8) hx hb dX5_sum_77 (by decide) ?_
                exact ih8 v_39 v_40 sc2_35 sc3_36 (by first | omega | decide | assumption | rfl) (by omega) ls _ _ (lv_sub hl [0, 1, 4, 5] rfl) (hP.sub [0, 1] rfl) (hD.sub [0, 1] (by decide) rfl) hS
              · refine lv_iload_n hx hb dX5_sum_62 rfl (lv_at hl 3 rfl) ?_
                refine lv_iload hx hb dX5_sum_63 (lv_at hl 0 rfl) ?_
                refine lv_iadd hx hb dX5_sum_65 ?_
                refine lv_topi (fun v_41 ev_41 => ?_)
                have lo_v_41 := k_lo v_41
                have hi_v_41 := k_hi v_41
                refine lv_goto (tgt := 73) hx hb dX5_sum_66 (by decide) ?_
                refine lv_istore_n (lv' := [(2, .int v_41), (5, .int r_33), (4, .int r_29), (3, .int l8_3), (0, .ref k), (1, .int 0)]) hx hb dX5_sum_73 rfl hl (by decide) rfl ?_
                clear hl
                intro ls hl
                obtain ⟨v_42, ev_42⟩ : ∃ y : Int32, y = l8_3 + 1 := ⟨_, rfl⟩
                have tv_42 : v_42.toInt = l8_3.toInt + 1 := by rw [ev_42]; exact k_addv rfl zl_1 (by omega) (by omega)
                refine lv_iinc (v := v_42) (lv' := [(3, .int v_42), (2, .int v_41), (5, .int r_33), (4, .int r_29), (0, .ref k), (1, .int 0)]) hx hb dX5_sum_74 hl (k := 3) rfl (by rw [ev_42]; rfl) (by decide) rfl ?_
                clear hl
                intro ls hl
                refine lv_goto (tgt := 8) hx hb dX5_sum_77 (by decide) ?_
                exact ih8 v_41 v_42 sc2_35 sc3_36 (by first | omega | decide | assumption | rfl) (by omega) ls _ _ (lv_sub hl [0, 1, 4, 5] rfl) (hP.sub [0, 1] rfl) (hD.sub [0, 1] (by decide) rfl) hS
  exact hloop_8 _ r_1 0 sc2_3 sc3_4 (by first | omega | (simp only [zl_0] <;> omega) | decide | assumption | rfl) (Nat.lt_succ_self _) ls _ _ (lv_sub hl [0, 1, 2, 3] rfl) hP hD hS

set_option maxHeartbeats 4000000 in
set_option maxRecDepth 100000 in
theorem c_X5_comparedG0 (l : Launch) (D : va_G) (cI : ClassId) (aK aV : Nat → Nat) (k k0 : Nat) (sz : Nat) (c1 : Int32) (c2 : Int32) (c3 : Int32) (c4 : Int32) (c5 : Int32) (c6 : Int32) (c7 : Int32) (c0 : Nat → Int32) (a0 : Int32) (pre0 : a0 = 0) : Met l yX5_compared (gW yX5_compared cX5_compared 5 (some .int)) ({ frames := 36, cells := 0, slots := 0, locals := 872 } : Room) (kPreX D cI aK aV [.ref k, .int 0] [(k, .inr (5, [.ref k0, .int c1, .int c2, .int c3, .int c4, .int c5, .int c6, .int c7])), (k0, .inl (cI, 50, .inl c0))] sz) (va_Qi (fun (r : Int32) (u : Int32 × Int32) => True) (fun u t => kWd D cI (va_A [(k, .inr (5, [.ref k0, .int c1, .int c2, .int c3, .int c4, .int c5, .int c6, .int c7])), (k0, .inl (cI, 50, .inl c0))] sz) [(k, .inr (5, [.ref k0, .int c1, .int u.1, .int u.2, .int c4, .int c5, .int c6, .int c7])), (k0, .inl (cI, 50, .inl c0))] t) (va_A [(k, .inr (5, [.ref k0, .int c1, .int c2, .int c3, .int c4, .int c5, .int c6, .int c7])), (k0, .inl (cI, 50, .inl c0))] sz)) 0 0 (va_A [(k, .inr (5, [.ref k0, .int c1, .int c2, .int c3, .int c4, .int c5, .int c6, .int c7])), (k0, .inl (cI, 50, .inl c0))] sz) := by
  refine kMetIX (own := RX5) (by decide) rfl (Nat.le_of_ble_eq_true rfl) ?_
  intro p e s m args below meth c hx hb hT hown hname hml A Q hK hP hD hS hA hN hXS hRet ls hl
  subst pre0
  have hl : lv_has ls 5 [(0, .ref k), (1, .int 0)] := hl
  refine lv_aload_n hx hb dX5_compared_0 rfl (lv_at hl 0 rfl) ?_
  refine lv_iload_n hx hb dX5_compared_1 rfl (lv_at hl 1 rfl) ?_
  refine kJi (wr := []) (va_runV (As := [.int 0]) (rest := []) ⟨hx, hb, hml, hown, hT⟩ (c_X5_sumG0 l D cI aK aV k k0 s.heap.size c1 c2 c3 c4 c5 c6 c7 c0 0 (by first | omega | (simp only [zl_0] <;> omega) | decide | assumption | rfl)) (cwV 1 hT (gV_in mw_472 mw_469 mw_471 mw_p1_8 mw_6) rfl rfl rfl (by decide +kernel) ⟨Nat.le_of_ble_eq_true rfl, Nat.le_of_ble_eq_true rfl⟩) (kRecvX (q0 := 0) (ci := 5) hK hP hD hN hXS hS hA rfl rfl [0, 1] rfl (by decide)) rfl rfl hl.1 rfl (lv_room (Nat.le_of_ble_eq_true rfl)) dX5_compared_2 ⟨Nat.le_of_ble_eq_true rfl, Nat.le_of_ble_eq_true rfl⟩) hP hD hS hA [0, 1] [] rfl rfl (by decide) (by decide) ?_
  clear hP hD hS
  intro r_1 u_5 H locs w_2 hP hD hS
  obtain ⟨sc2_3, sc3_4⟩ := u_5
  replace hP : va_P D vwCl [(k, .inr (5, [.ref k0, .int c1, .int sc2_3, .int sc3_4, .int c4, .int c5, .int c6, .int c7])), (k0, .inl (cI, 50, .inl c0))] H := hP
  replace hD : va_D A [(k, .inr (5, [.ref k0, .int c1, .int sc2_3, .int sc3_4, .int c4, .int c5, .int c6, .int c7])), (k0, .inl (cI, 50, .inl c0))] := hD
  have lo_sc2_3 := k_lo sc2_3
  have hi_sc2_3 := k_hi sc2_3
  have lo_r_1 := k_lo r_1
  have hi_r_1 := k_hi r_1
  refine lv_istore_n (lv' := [(2, .int r_1), (0, .ref k), (1, .int 0)]) hx hb dX5_compared_5 rfl hl (by decide) rfl ?_
  clear hl
  intro ls hl
  refine lv_aload_n hx hb dX5_compared_6 rfl (lv_at hl 1 rfl) ?_
  refine kJi (wr := []) (va_runV (As := []) (rest := []) ⟨hx, hb, hml, hown, hT⟩ (c_X5_nextG l D cI aK aV k k0 H.size c1 sc2_3 sc3_4 c4 c5 c6 c7 c0) (cwV 0 hT (gV_in mw_484 mw_481 mw_483 mw_p1_11 mw_6) rfl rfl rfl (by decide +kernel) ⟨Nat.le_of_ble_eq_true rfl, Nat.le_of_ble_eq_true rfl⟩) (kRecvX (q0 := 0) (ci := 5) hK hP hD hN hXS hS hA rfl rfl [0, 1] rfl (by decide)) rfl rfl hl.1 rfl (lv_room (Nat.le_of_ble_eq_true rfl)) dX5_compared_7 ⟨Nat.le_of_ble_eq_true rfl, Nat.le_of_ble_eq_true rfl⟩) hP hD hS hA [0, 1] [] rfl rfl (by decide) (by decide) ?_
  clear hP hD hS
  intro r_6 u_8 H locs w_7 hP hD hS
  replace hP : va_P D vwCl [(k, .inr (5, [.ref k0, .int c1, .int sc2_3, .int sc3_4, .int c4, .int c5, .int c6, .int c7])), (k0, .inl (cI, 50, .inl c0))] H := hP
  replace hD : va_D A [(k, .inr (5, [.ref k0, .int c1, .int sc2_3, .int sc3_4, .int c4, .int c5, .int c6, .int c7])), (k0, .inl (cI, 50, .inl c0))] := hD
  have lo_r_6 := k_lo r_6
  have hi_r_6 := k_hi r_6
  refine lv_istore_n (lv' := [(3, .int r_6), (2, .int r_1), (0, .ref k), (1, .int 0)]) hx hb dX5_compared_10 rfl hl (by decide) rfl ?_
  clear hl
  intro ls hl
  refine lv_iload_n hx hb dX5_compared_11 rfl (lv_at hl 0 rfl) ?_
  refine lv_bipush (v := 60) hx hb dX5_compared_12 (by decide) ?_
  refine b_icmp_eq hx hb rfl zl_60 (tgt := 31) dX5_compared_14 (by decide) (fun c_9 => ?_) (fun c_9 => ?_)
  · refine lv_aload_n hx hb dX5_compared_31 rfl (lv_at hl 2 rfl) ?_
    refine lv_dup hx hb dX5_compared_32 rfl ?_
    refine va_get (D := D) (ci := 5) (v := .int sc2_3) (C := RX5) (T := TX5) (N := 8) hx hb hT giX5 hown hK hP 0 rfl rfl 2 (by decide) (hT (Cond.fieldLink RX5 19 "DesertWire$Reader" "at" "I") mw_170) (fun _ h9 => h9) rfl dX5_compared_33 ?_
    refine lv_iconst (v := 1) hx hb dX5_compared_36 (by decide) ?_
    refine lv_iadd hx hb dX5_compared_37 ?_
    refine lv_topi (fun v_10 ev_10 => ?_)
    have lo_v_10 := k_lo v_10
    have hi_v_10 := k_hi v_10
    refine va_put (D := D) (ci := 5) (v := .int v_10) (ty := .int) (C := RX5) (T := TX5) (N := 8) hx hb hT giX5 tyX5 tyX5_ok nmX5 hown hK hP hD hS 0 rfl rfl 2 (by decide) (hT (Cond.fieldLink RX5 19 "DesertWire$Reader" "at" "I") mw_170) (fun _ h9 => h9) rfl (by decide +kernel) rfl rfl (Nat.le_of_ble_eq_true rfl) dX5_compared_38 ?_
    clear hP hD hS
    intro H locs hP hD hS
    replace hP : va_P D vwCl [(k, .inr (5, [.ref k0, .int c1, .int v_10, .int sc3_4, .int c4, .int c5, .int c6, .int c7])), (k0, .inl (cI, 50, .inl c0))] H := hP
    replace hD : va_D A [(k, .inr (5, [.ref k0, .int c1, .int v_10, .int sc3_4, .int c4, .int c5, .int c6, .int c7])), (k0, .inl (cI, 50, .inl c0))] := hD
    refine lv_aload_n hx hb dX5_compared_41 rfl (lv_at hl 2 rfl) ?_
    refine lv_iload_n hx hb dX5_compared_42 rfl (lv_at hl 3 rfl) ?_
    refine kJi (wr := []) (va_runV (As := [.int 0]) (rest := []) ⟨hx, hb, hml, hown, hT⟩ (c_X5_sumG0 l D cI aK aV k k0 H.size c1 v_10 sc3_4 c4 c5 c6 c7 c0 0 (by first | omega | (simp only [zl_0] <;> omega) | decide | assumption | rfl)) (cwV 1 hT (gV_in mw_472 mw_469 mw_471 mw_p1_8 mw_6) rfl rfl rfl (by decide +kernel) ⟨Nat.le_of_ble_eq_true rfl, Nat.le_of_ble_eq_true rfl⟩) (kRecvX (q0 := 0) (ci := 5) hK hP hD hN hXS hS hA rfl rfl [0, 1] rfl (by decide)) rfl rfl hl.1 rfl (lv_room (Nat.le_of_ble_eq_true rfl)) dX5_compared_43 ⟨Nat.le_of_ble_eq_true rfl, Nat.le_of_ble_eq_true rfl⟩) hP hD hS hA [0, 1] [] rfl rfl (by decide) (by decide) ?_
    clear hP hD hS
    intro r_11 u_15 H locs w_12 hP hD hS
    obtain ⟨sc2_13, sc3_14⟩ := u_15
    replace hP : va_P D vwCl [(k, .inr (5, [.ref k0, .int c1, .int sc2_13, .int sc3_14, .int c4, .int c5, .int c6, .int c7])), (k0, .inl (cI, 50, .inl c0))] H := hP
    replace hD : va_D A [(k, .inr (5, [.ref k0, .int c1, .int sc2_13, .int sc3_14, .int c4, .int c5, .int c6, .int c7])), (k0, .inl (cI, 50, .inl c0))] := hD
    have lo_r_11 := k_lo r_11
    have hi_r_11 := k_hi r_11
    refine lv_istore (lv' := [(4, .int r_11), (3, .int r_6), (2, .int r_1), (0, .ref k), (1, .int 0)]) hx hb dX5_compared_46 hl (by decide) rfl ?_
    clear hl
    intro ls hl
    refine lv_iload_n hx hb dX5_compared_48 rfl (lv_at hl 1 rfl) ?_
    refine lv_bipush (v := 60) hx hb dX5_compared_49 (by decide) ?_
    refine b_icmp_ne hx hb rfl zl_60 (tgt := 68) dX5_compared_51 (by decide) (fun c_16 => by exfalso; omega) (fun c_16 => ?_)
    refine lv_iload_n hx hb dX5_compared_54 rfl (lv_at hl 2 rfl) ?_
    refine lv_iload hx hb dX5_compared_55 (lv_at hl 0 rfl) ?_
    refine b_icmp_ge hx hb rfl rfl (tgt := 64) dX5_compared_57 (by decide) (fun c_17 => ?_) (fun c_17 => ?_)
    · refine lv_iconst (v := 0) hx hb dX5_compared_64 (by decide) ?_
      refine lv_goto (tgt := 99) hx hb dX5_compared_65 (by decide) ?_
      refine kJi (wr := [(k, .inr (5, [.ref k0, .int c1, .int sc2_13, .int sc3_14, .int c4, .int c5, .int c6, .int c7])), (k0, .inl (cI, 50, .inl c0))]) (va_runS (As := [.int 0]) (rest := []) ⟨hx, hb, hml, hown, hT⟩ (c_X5_truthG l D cI aK aV H.size 0) (cwS 1 hT (gS_in mw_502 mw_500 mw_501 mw_6) rfl rfl rfl (by decide +kernel) ⟨Nat.le_of_ble_eq_true rfl, Nat.le_of_ble_eq_true rfl⟩) (kStatX hK hP hD hN hXS hS hA [] rfl (by decide)) rfl rfl hl.1 rfl (lv_room (Nat.le_of_ble_eq_true rfl)) dX5_compared_99 ⟨Nat.le_of_ble_eq_true rfl, Nat.le_of_ble_eq_true rfl⟩) hP hD hS hA [] [0, 1] rfl rfl (by decide) (by decide) ?_
      clear hP hD hS
      intro r_18 u_20 H locs w_19 hP hD hS
      replace hP : va_P D vwCl [(k, .inr (5, [.ref k0, .int c1, .int sc2_13, .int sc3_14, .int c4, .int c5, .int c6, .int c7])), (k0, .inl (cI, 50, .inl c0))] H := hP
      replace hD : va_D A [(k, .inr (5, [.ref k0, .int c1, .int sc2_13, .int sc3_14, .int c4, .int c5, .int c6, .int c7])), (k0, .inl (cI, 50, .inl c0))] := hD
      have lo_r_18 := k_lo r_18
      have hi_r_18 := k_hi r_18
      exact hRet (sc2_13, sc3_14) [0, 1] trivial hP hD (by decide) rfl hS rfl dX5_compared_102
    · refine lv_iconst (v := 1) hx hb dX5_compared_60 (by decide) ?_
      refine lv_goto (tgt := 99) hx hb dX5_compared_61 (by decide) ?_
      refine kJi (wr := [(k, .inr (5, [.ref k0, .int c1, .int sc2_13, .int sc3_14, .int c4, .int c5, .int c6, .int c7])), (k0, .inl (cI, 50, .inl c0))]) (va_runS (As := [.int 1]) (rest := []) ⟨hx, hb, hml, hown, hT⟩ (c_X5_truthG l D cI aK aV H.size 1) (cwS 1 hT (gS_in mw_502 mw_500 mw_501 mw_6) rfl rfl rfl (by decide +kernel) ⟨Nat.le_of_ble_eq_true rfl, Nat.le_of_ble_eq_true rfl⟩) (kStatX hK hP hD hN hXS hS hA [] rfl (by decide)) rfl rfl hl.1 rfl (lv_room (Nat.le_of_ble_eq_true rfl)) dX5_compared_99 ⟨Nat.le_of_ble_eq_true rfl, Nat.le_of_ble_eq_true rfl⟩) hP hD hS hA [] [0, 1] rfl rfl (by decide) (by decide) ?_
      clear hP hD hS
      intro r_21 u_23 H locs w_22 hP hD hS
      replace hP : va_P D vwCl [(k, .inr (5, [.ref k0, .int c1, .int sc2_13, .int sc3_14, .int c4, .int c5, .int c6, .int c7])), (k0, .inl (cI, 50, .inl c0))] H := hP
      replace hD : va_D A [(k, .inr (5, [.ref k0, .int c1, .int sc2_13, .int sc3_14, .int c4, .int c5, .int c6, .int c7])), (k0, .inl (cI, 50, .inl c0))] := hD
      have lo_r_21 := k_lo r_21
      have hi_r_21 := k_hi r_21
      exact hRet (sc2_13, sc3_14) [0, 1] trivial hP hD (by decide) rfl hS rfl dX5_compared_102
  · refine lv_iload_n hx hb dX5_compared_17 rfl (lv_at hl 0 rfl) ?_
    refine lv_bipush (v := 61) hx hb dX5_compared_18 (by decide) ?_
    refine b_icmp_eq hx hb rfl zl_61 (tgt := 31) dX5_compared_20 (by decide) (fun c_24 => ?_) (fun c_24 => ?_)
    · refine lv_aload_n hx hb dX5_compared_31 rfl (lv_at hl 2 rfl) ?_
      refine lv_dup hx hb dX5_compared_32 rfl ?_
      refine va_get (D := D) (ci := 5) (v := .int sc2_3) (C := RX5) (T := TX5) (N := 8) hx hb hT giX5 hown hK hP 0 rfl rfl 2 (by decide) (hT (Cond.fieldLink RX5 19 "DesertWire$Reader" "at" "I") mw_170) (fun _ h9 => h9) rfl dX5_compared_33 ?_
      refine lv_iconst (v := 1) hx hb dX5_compared_36 (by decide) ?_
      refine lv_iadd hx hb dX5_compared_37 ?_
      refine lv_topi (fun v_25 ev_25 => ?_)
      have lo_v_25 := k_lo v_25
      have hi_v_25 := k_hi v_25
      refine va_put (D := D) (ci := 5) (v := .int v_25) (ty := .int) (C := RX5) (T := TX5) (N := 8) hx hb hT giX5 tyX5 tyX5_ok nmX5 hown hK hP hD hS 0 rfl rfl 2 (by decide) (hT (Cond.fieldLink RX5 19 "DesertWire$Reader" "at" "I") mw_170) (fun _ h9 => h9) rfl (by decide +kernel) rfl rfl (Nat.le_of_ble_eq_true rfl) dX5_compared_38 ?_
      clear hP hD hS
      intro H locs hP hD hS
      replace hP : va_P D vwCl [(k, .inr (5, [.ref k0, .int c1, .int v_25, .int sc3_4, .int c4, .int c5, .int c6, .int c7])), (k0, .inl (cI, 50, .inl c0))] H := hP
      replace hD : va_D A [(k, .inr (5, [.ref k0, .int c1, .int v_25, .int sc3_4, .int c4, .int c5, .int c6, .int c7])), (k0, .inl (cI, 50, .inl c0))] := hD
      refine lv_aload_n hx hb dX5_compared_41 rfl (lv_at hl 2 rfl) ?_
      refine lv_iload_n hx hb dX5_compared_42 rfl (lv_at hl 3 rfl) ?_
      refine kJi (wr := []) (va_runV (As := [.int 0]) (rest := []) ⟨hx, hb, hml, hown, hT⟩ (c_X5_sumG0 l D cI aK aV k k0 H.size c1 v_25 sc3_4 c4 c5 c6 c7 c0 0 (by first | omega | (simp only [zl_0] <;> omega) | decide | assumption | rfl)) (cwV 1 hT (gV_in mw_472 mw_469 mw_471 mw_p1_8 mw_6) rfl rfl rfl (by decide +kernel) ⟨Nat.le_of_ble_eq_true rfl, Nat.le_of_ble_eq_true rfl⟩) (kRecvX (q0 := 0) (ci := 5) hK hP hD hN hXS hS hA rfl rfl [0, 1] rfl (by decide)) rfl rfl hl.1 rfl (lv_room (Nat.le_of_ble_eq_true rfl)) dX5_compared_43 ⟨Nat.le_of_ble_eq_true rfl, Nat.le_of_ble_eq_true rfl⟩) hP hD hS hA [0, 1] [] rfl rfl (by decide) (by decide) ?_
      clear hP hD hS
      intro r_26 u_30 H locs w_27 hP hD hS
      obtain ⟨sc2_28, sc3_29⟩ := u_30
      replace hP : va_P D vwCl [(k, .inr (5, [.ref k0, .int c1, .int sc2_28, .int sc3_29, .int c4, .int c5, .int c6, .int c7])), (k0, .inl (cI, 50, .inl c0))] H := hP
      replace hD : va_D A [(k, .inr (5, [.ref k0, .int c1, .int sc2_28, .int sc3_29, .int c4, .int c5, .int c6, .int c7])), (k0, .inl (cI, 50, .inl c0))] := hD
      have lo_r_26 := k_lo r_26
      have hi_r_26 := k_hi r_26
      refine lv_istore (lv' := [(4, .int r_26), (3, .int r_6), (2, .int r_1), (0, .ref k), (1, .int 0)]) hx hb dX5_compared_46 hl (by decide) rfl ?_
      clear hl
      intro ls hl
      refine lv_iload_n hx hb dX5_compared_48 rfl (lv_at hl 1 rfl) ?_
      refine lv_bipush (v := 60) hx hb dX5_compared_49 (by decide) ?_
      refine b_icmp_ne hx hb rfl zl_60 (tgt := 68) dX5_compared_51 (by decide) (fun c_31 => ?_) (fun c_31 => by exfalso; omega)
      refine lv_iload_n hx hb dX5_compared_68 rfl (lv_at hl 1 rfl) ?_
      refine lv_bipush (v := 61) hx hb dX5_compared_69 (by decide) ?_
      refine b_icmp_ne hx hb rfl zl_61 (tgt := 88) dX5_compared_71 (by decide) (fun c_32 => by exfalso; omega) (fun c_32 => ?_)
      refine lv_iload_n hx hb dX5_compared_74 rfl (lv_at hl 2 rfl) ?_
      refine lv_iload hx hb dX5_compared_75 (lv_at hl 0 rfl) ?_
      refine b_icmp_ne hx hb rfl rfl (tgt := 84) dX5_compared_77 (by decide) (fun c_33 => ?_) (fun c_33 => ?_)
      · refine lv_iconst (v := 0) hx hb dX5_compared_84 (by decide) ?_
        refine lv_goto (tgt := 99) hx hb dX5_compared_85 (by decide) ?_
        refine kJi (wr := [(k, .inr (5, [.ref k0, .int c1, .int sc2_28, .int sc3_29, .int c4, .int c5, .int c6, .int c7])), (k0, .inl (cI, 50, .inl c0))]) (va_runS (As := [.int 0]) (rest := []) ⟨hx, hb, hml, hown, hT⟩ (c_X5_truthG l D cI aK aV H.size 0) (cwS 1 hT (gS_in mw_502 mw_500 mw_501 mw_6) rfl rfl rfl (by decide +kernel) ⟨Nat.le_of_ble_eq_true rfl, Nat.le_of_ble_eq_true rfl⟩) (kStatX hK hP hD hN hXS hS hA [] rfl (by decide)) rfl rfl hl.1 rfl (lv_room (Nat.le_of_ble_eq_true rfl)) dX5_compared_99 ⟨Nat.le_of_ble_eq_true rfl, Nat.le_of_ble_eq_true rfl⟩) hP hD hS hA [] [0, 1] rfl rfl (by decide) (by decide) ?_
        clear hP hD hS
        intro r_34 u_36 H locs w_35 hP hD hS
        replace hP : va_P D vwCl [(k, .inr (5, [.ref k0, .int c1, .int sc2_28, .int sc3_29, .int c4, .int c5, .int c6, .int c7])), (k0, .inl (cI, 50, .inl c0))] H := hP
        replace hD : va_D A [(k, .inr (5, [.ref k0, .int c1, .int sc2_28, .int sc3_29, .int c4, .int c5, .int c6, .int c7])), (k0, .inl (cI, 50, .inl c0))] := hD
        have lo_r_34 := k_lo r_34
        have hi_r_34 := k_hi r_34
        exact hRet (sc2_28, sc3_29) [0, 1] trivial hP hD (by decide) rfl hS rfl dX5_compared_102
      · refine lv_iconst (v := 1) hx hb dX5_compared_80 (by decide) ?_
        refine lv_goto (tgt := 99) hx hb dX5_compared_81 (by decide) ?_
        refine kJi (wr := [(k, .inr (5, [.ref k0, .int c1, .int sc2_28, .int sc3_29, .int c4, .int c5, .int c6, .int c7])), (k0, .inl (cI, 50, .inl c0))]) (va_runS (As := [.int 1]) (rest := []) ⟨hx, hb, hml, hown, hT⟩ (c_X5_truthG l D cI aK aV H.size 1) (cwS 1 hT (gS_in mw_502 mw_500 mw_501 mw_6) rfl rfl rfl (by decide +kernel) ⟨Nat.le_of_ble_eq_true rfl, Nat.le_of_ble_eq_true rfl⟩) (kStatX hK hP hD hN hXS hS hA [] rfl (by decide)) rfl rfl hl.1 rfl (lv_room (Nat.le_of_ble_eq_true rfl)) dX5_compared_99 ⟨Nat.le_of_ble_eq_true rfl, Nat.le_of_ble_eq_true rfl⟩) hP hD hS hA [] [0, 1] rfl rfl (by decide) (by decide) ?_
        clear hP hD hS
        intro r_37 u_39 H locs w_38 hP hD hS
        replace hP : va_P D vwCl [(k, .inr (5, [.ref k0, .int c1, .int sc2_28, .int sc3_29, .int c4, .int c5, .int c6, .int c7])), (k0, .inl (cI, 50, .inl c0))] H := hP
        replace hD : va_D A [(k, .inr (5, [.ref k0, .int c1, .int sc2_28, .int sc3_29, .int c4, .int c5, .int c6, .int c7])), (k0, .inl (cI, 50, .inl c0))] := hD
        have lo_r_37 := k_lo r_37
        have hi_r_37 := k_hi r_37
        exact hRet (sc2_28, sc3_29) [0, 1] trivial hP hD (by decide) rfl hS rfl dX5_compared_102
    · refine lv_iload_n hx hb dX5_compared_23 rfl (lv_at hl 0 rfl) ?_
      refine lv_bipush (v := 62) hx hb dX5_compared_24 (by decide) ?_
      refine b_icmp_eq hx hb rfl zl_62 (tgt := 31) dX5_compared_26 (by decide) (fun c_40 => ?_) (fun c_40 => ?_)
      · refine lv_aload_n hx hb dX5_compared_31 rfl (lv_at hl 2 rfl) ?_
        refine lv_dup hx hb dX5_compared_32 rfl ?_
        refine va_get (D := D) (ci := 5) (v := .int sc2_3) (C := RX5) (T := TX5) (N := 8) hx hb hT giX5 hown hK hP 0 rfl rfl 2 (by decide) (hT (Cond.fieldLink RX5 19 "DesertWire$Reader" "at" "I") mw_170) (fun _ h9 => h9) rfl dX5_compared_33 ?_
        refine lv_iconst (v := 1) hx hb dX5_compared_36 (by decide) ?_
        refine lv_iadd hx hb dX5_compared_37 ?_
        refine lv_topi (fun v_41 ev_41 => ?_)
        have lo_v_41 := k_lo v_41
        have hi_v_41 := k_hi v_41
        refine va_put (D := D) (ci := 5) (v := .int v_41) (ty := .int) (C := RX5) (T := TX5) (N := 8) hx hb hT giX5 tyX5 tyX5_ok nmX5 hown hK hP hD hS 0 rfl rfl 2 (by decide) (hT (Cond.fieldLink RX5 19 "DesertWire$Reader" "at" "I") mw_170) (fun _ h9 => h9) rfl (by decide +kernel) rfl rfl (Nat.le_of_ble_eq_true rfl) dX5_compared_38 ?_
        clear hP hD hS
        intro H locs hP hD hS
        replace hP : va_P D vwCl [(k, .inr (5, [.ref k0, .int c1, .int v_41, .int sc3_4, .int c4, .int c5, .int c6, .int c7])), (k0, .inl (cI, 50, .inl c0))] H := hP
        replace hD : va_D A [(k, .inr (5, [.ref k0, .int c1, .int v_41, .int sc3_4, .int c4, .int c5, .int c6, .int c7])), (k0, .inl (cI, 50, .inl c0))] := hD
        refine lv_aload_n hx hb dX5_compared_41 rfl (lv_at hl 2 rfl) ?_
        refine lv_iload_n hx hb dX5_compared_42 rfl (lv_at hl 3 rfl) ?_
        refine kJi (wr := []) (va_runV (As := [.int 0]) (rest := []) ⟨hx, hb, hml, hown, hT⟩ (c_X5_sumG0 l D cI aK aV k k0 H.size c1 v_41 sc3_4 c4 c5 c6 c7 c0 0 (by first | omega | (simp only [zl_0] <;> omega) | decide | assumption | rfl)) (cwV 1 hT (gV_in mw_472 mw_469 mw_471 mw_p1_8 mw_6) rfl rfl rfl (by decide +kernel) ⟨Nat.le_of_ble_eq_true rfl, Nat.le_of_ble_eq_true rfl⟩) (kRecvX (q0 := 0) (ci := 5) hK hP hD hN hXS hS hA rfl rfl [0, 1] rfl (by decide)) rfl rfl hl.1 rfl (lv_room (Nat.le_of_ble_eq_true rfl)) dX5_compared_43 ⟨Nat.le_of_ble_eq_true rfl, Nat.le_of_ble_eq_true rfl⟩) hP hD hS hA [0, 1] [] rfl rfl (by decide) (by decide) ?_
        clear hP hD hS
        intro r_42 u_46 H locs w_43 hP hD hS
        obtain ⟨sc2_44, sc3_45⟩ := u_46
        replace hP : va_P D vwCl [(k, .inr (5, [.ref k0, .int c1, .int sc2_44, .int sc3_45, .int c4, .int c5, .int c6, .int c7])), (k0, .inl (cI, 50, .inl c0))] H := hP
        replace hD : va_D A [(k, .inr (5, [.ref k0, .int c1, .int sc2_44, .int sc3_45, .int c4, .int c5, .int c6, .int c7])), (k0, .inl (cI, 50, .inl c0))] := hD
        have lo_r_42 := k_lo r_42
        have hi_r_42 := k_hi r_42
        refine lv_istore (lv' := [(4, .int r_42), (3, .int r_6), (2, .int r_1), (0, .ref k), (1, .int 0)]) hx hb dX5_compared_46 hl (by decide) rfl ?_
        clear hl
        intro ls hl
        refine lv_iload_n hx hb dX5_compared_48 rfl (lv_at hl 1 rfl) ?_
        refine lv_bipush (v := 60) hx hb dX5_compared_49 (by decide) ?_
        refine b_icmp_ne hx hb rfl zl_60 (tgt := 68) dX5_compared_51 (by decide) (fun c_47 => ?_) (fun c_47 => by exfalso; omega)
        refine lv_iload_n hx hb dX5_compared_68 rfl (lv_at hl 1 rfl) ?_
        refine lv_bipush (v := 61) hx hb dX5_compared_69 (by decide) ?_
        refine b_icmp_ne hx hb rfl zl_61 (tgt := 88) dX5_compared_71 (by decide) (fun c_48 => ?_) (fun c_48 => by exfalso; omega)
        refine lv_iload_n hx hb dX5_compared_88 rfl (lv_at hl 2 rfl) ?_
        refine lv_iload hx hb dX5_compared_89 (lv_at hl 0 rfl) ?_
        refine b_icmp_le hx hb rfl rfl (tgt := 98) dX5_compared_91 (by decide) (fun c_49 => ?_) (fun c_49 => ?_)
        · refine lv_iconst (v := 0) hx hb dX5_compared_98 (by decide) ?_
          refine kJi (wr := [(k, .inr (5, [.ref k0, .int c1, .int sc2_44, .int sc3_45, .int c4, .int c5, .int c6, .int c7])), (k0, .inl (cI, 50, .inl c0))]) (va_runS (As := [.int 0]) (rest := []) ⟨hx, hb, hml, hown, hT⟩ (c_X5_truthG l D cI aK aV H.size 0) (cwS 1 hT (gS_in mw_502 mw_500 mw_501 mw_6) rfl rfl rfl (by decide +kernel) ⟨Nat.le_of_ble_eq_true rfl, Nat.le_of_ble_eq_true rfl⟩) (kStatX hK hP hD hN hXS hS hA [] rfl (by decide)) rfl rfl hl.1 rfl (lv_room (Nat.le_of_ble_eq_true rfl)) dX5_compared_99 ⟨Nat.le_of_ble_eq_true rfl, Nat.le_of_ble_eq_true rfl⟩) hP hD hS hA [] [0, 1] rfl rfl (by decide) (by decide) ?_
          clear hP hD hS
          intro r_50 u_52 H locs w_51 hP hD hS
          replace hP : va_P D vwCl [(k, .inr (5, [.ref k0, .int c1, .int sc2_44, .int sc3_45, .int c4, .int c5, .int c6, .int c7])), (k0, .inl (cI, 50, .inl c0))] H := hP
          replace hD : va_D A [(k, .inr (5, [.ref k0, .int c1, .int sc2_44, .int sc3_45, .int c4, .int c5, .int c6, .int c7])), (k0, .inl (cI, 50, .inl c0))] := hD
          have lo_r_50 := k_lo r_50
          have hi_r_50 := k_hi r_50
          exact hRet (sc2_44, sc3_45) [0, 1] trivial hP hD (by decide) rfl hS rfl dX5_compared_102
        · refine lv_iconst (v := 1) hx hb dX5_compared_94 (by decide) ?_
          refine lv_goto (tgt := 99) hx hb dX5_compared_95 (by decide) ?_
          refine kJi (wr := [(k, .inr (5, [.ref k0, .int c1, .int sc2_44, .int sc3_45, .int c4, .int c5, .int c6, .int c7])), (k0, .inl (cI, 50, .inl c0))]) (va_runS (As := [.int 1]) (rest := []) ⟨hx, hb, hml, hown, hT⟩ (c_X5_truthG l D cI aK aV H.size 1) (cwS 1 hT (gS_in mw_502 mw_500 mw_501 mw_6) rfl rfl rfl (by decide +kernel) ⟨Nat.le_of_ble_eq_true rfl, Nat.le_of_ble_eq_true rfl⟩) (kStatX hK hP hD hN hXS hS hA [] rfl (by decide)) rfl rfl hl.1 rfl (lv_room (Nat.le_of_ble_eq_true rfl)) dX5_compared_99 ⟨Nat.le_of_ble_eq_true rfl, Nat.le_of_ble_eq_true rfl⟩) hP hD hS hA [] [0, 1] rfl rfl (by decide) (by decide) ?_
          clear hP hD hS
          intro r_53 u_55 H locs w_54 hP hD hS
          replace hP : va_P D vwCl [(k, .inr (5, [.ref k0, .int c1, .int sc2_44, .int sc3_45, .int c4, .int c5, .int c6, .int c7])), (k0, .inl (cI, 50, .inl c0))] H := hP
          replace hD : va_D A [(k, .inr (5, [.ref k0, .int c1, .int sc2_44, .int sc3_45, .int c4, .int c5, .int c6, .int c7])), (k0, .inl (cI, 50, .inl c0))] := hD
          have lo_r_53 := k_lo r_53
          have hi_r_53 := k_hi r_53
          exact hRet (sc2_44, sc3_45) [0, 1] trivial hP hD (by decide) rfl hS rfl dX5_compared_102
      · refine lv_iload_n hx hb dX5_compared_29 rfl (lv_at hl 1 rfl) ?_
        exact hRet (sc2_3, sc3_4) [0, 1] trivial hP hD (by decide) rfl hS rfl dX5_compared_30

set_option maxHeartbeats 4000000 in
set_option maxRecDepth 100000 in
theorem c_X5_bothG0 (l : Launch) (D : va_G) (cI : ClassId) (aK aV : Nat → Nat) (k k0 : Nat) (sz : Nat) (c1 : Int32) (c2 : Int32) (c3 : Int32) (c4 : Int32) (c5 : Int32) (c6 : Int32) (c7 : Int32) (c0 : Nat → Int32) (a0 : Int32) (pre0 : a0 = 0) : Met l yX5_both (gW yX5_both cX5_both 5 (some .int)) ({ frames := 37, cells := 0, slots := 0, locals := 896 } : Room) (kPreX D cI aK aV [.ref k, .int 0] [(k, .inr (5, [.ref k0, .int c1, .int c2, .int c3, .int c4, .int c5, .int c6, .int c7])), (k0, .inl (cI, 50, .inl c0))] sz) (va_Qi (fun (r : Int32) (u : Int32 × Int32) => True) (fun u t => kWd D cI (va_A [(k, .inr (5, [.ref k0, .int c1, .int c2, .int c3, .int c4, .int c5, .int c6, .int c7])), (k0, .inl (cI, 50, .inl c0))] sz) [(k, .inr (5, [.ref k0, .int c1, .int u.1, .int u.2, .int c4, .int c5, .int c6, .int c7])), (k0, .inl (cI, 50, .inl c0))] t) (va_A [(k, .inr (5, [.ref k0, .int c1, .int c2, .int c3, .int c4, .int c5, .int c6, .int c7])), (k0, .inl (cI, 50, .inl c0))] sz)) 0 0 (va_A [(k, .inr (5, [.ref k0, .int c1, .int c2, .int c3, .int c4, .int c5, .int c6, .int c7])), (k0, .inl (cI, 50, .inl c0))] sz) := by
  refine kMetIX (own := RX5) (by decide) rfl (Nat.le_of_ble_eq_true rfl) ?_
  intro p e s m args below meth c hx hb hT hown hname hml A Q hK hP hD hS hA hN hXS hRet ls hl
  subst pre0
  have hl : lv_has ls 5 [(0, .ref k), (1, .int 0)] := hl
  refine lv_aload_n hx hb dX5_both_0 rfl (lv_at hl 0 rfl) ?_
  refine lv_iload_n hx hb dX5_both_1 rfl (lv_at hl 1 rfl) ?_
  refine kJi (wr := []) (va_runV (As := [.int 0]) (rest := []) ⟨hx, hb, hml, hown, hT⟩ (c_X5_comparedG0 l D cI aK aV k k0 s.heap.size c1 c2 c3 c4 c5 c6 c7 c0 0 (by first | omega | (simp only [zl_0] <;> omega) | decide | assumption | rfl)) (cwV 1 hT (gV_in mw_468 mw_465 mw_467 mw_p1_7 mw_6) rfl rfl rfl (by decide +kernel) ⟨Nat.le_of_ble_eq_true rfl, Nat.le_of_ble_eq_true rfl⟩) (kRecvX (q0 := 0) (ci := 5) hK hP hD hN hXS hS hA rfl rfl [0, 1] rfl (by decide)) rfl rfl hl.1 rfl (lv_room (Nat.le_of_ble_eq_true rfl)) dX5_both_2 ⟨Nat.le_of_ble_eq_true rfl, Nat.le_of_ble_eq_true rfl⟩) hP hD hS hA [0, 1] [] rfl rfl (by decide) (by decide) ?_
  clear hP hD hS
  intro r_1 u_5 H locs w_2 hP hD hS
  obtain ⟨sc2_3, sc3_4⟩ := u_5
  replace hP : va_P D vwCl [(k, .inr (5, [.ref k0, .int c1, .int sc2_3, .int sc3_4, .int c4, .int c5, .int c6, .int c7])), (k0, .inl (cI, 50, .inl c0))] H := hP
  replace hD : va_D A [(k, .inr (5, [.ref k0, .int c1, .int sc2_3, .int sc3_4, .int c4, .int c5, .int c6, .int c7])), (k0, .inl (cI, 50, .inl c0))] := hD
  have lo_r_1 := k_lo r_1
  have hi_r_1 := k_hi r_1
  refine lv_istore_n (lv' := [(2, .int r_1), (0, .ref k), (1, .int 0)]) hx hb dX5_both_5 rfl hl (by decide) rfl ?_
  clear hl
  intro ls hl
  refine lv_iconst (v := 0) hx hb dX5_both_6 (by decide) ?_
  refine lv_istore_n (lv' := [(3, .int 0), (2, .int r_1), (0, .ref k), (1, .int 0)]) hx hb dX5_both_7 rfl hl (by decide) rfl ?_
  clear hl
  intro ls hl
  have hloop_8 : ∀ (fu_ : Nat) (l8_2 : Int32) (l8_3 : Int32) (f8_k2 : Int32) (f8_k3 : Int32), 0 ≤ l8_3.toInt → (50 - l8_3.toInt).toNat < fu_ → ∀ (ls : Array Slot) (H : Heap) (locs : List Loc), lv_has ls 5 [(3, .int l8_3), (2, .int l8_2), (0, .ref k), (1, .int 0)] → va_P D vwCl [(k, .inr (5, [.ref k0, .int c1, .int f8_k2, .int f8_k3, .int c4, .int c5, .int c6, .int c7])), (k0, .inl (cI, 50, .inl c0))] H → va_D A [(k, .inr (5, [.ref k0, .int c1, .int f8_k2, .int f8_k3, .int c4, .int c5, .int c6, .int c7])), (k0, .inl (cI, 50, .inl c0))] → va_S A s.heap H locs → W p l e ({ frames := 37, cells := 0, slots := 0, locals := 896 } : Room) s m args below meth c H locs 0 0 Q (F0 m 8 ls []) := by
    intro fu_; induction fu_ with
    | zero => intro l8_2 l8_3 f8_k2 f8_k3 i8_0 hm; exact absurd hm (by omega)
    | succ fu_ ih8 =>
        intro l8_2 l8_3 f8_k2 f8_k3 i8_0 hm ls H locs hl hP hD hS
        have lo_l8_2 := k_lo l8_2
        have hi_l8_2 := k_hi l8_2
        have lo_l8_3 := k_lo l8_3
        have hi_l8_3 := k_hi l8_3
        have lo_f8_k2 := k_lo f8_k2
        have hi_f8_k2 := k_hi f8_k2
        have lo_f8_k3 := k_lo f8_k3
        have hi_f8_k3 := k_hi f8_k3
        refine lv_iload_n hx hb dX5_both_8 rfl (lv_at hl 0 rfl) ?_
        refine lv_bipush (v := 50) hx hb dX5_both_9 (by decide) ?_
        refine b_icmp_ge hx hb rfl zl_50 (tgt := 64) dX5_both_11 (by decide) (fun c_6 => ?_) (fun c_6 => ?_)
        · refine lv_iload_n hx hb dX5_both_64 rfl (lv_at hl 1 rfl) ?_
          exact hRet (f8_k2, f8_k3) [0, 1] trivial hP hD (by decide) rfl hS rfl dX5_both_65
        · refine lv_aload_n hx hb dX5_both_14 rfl (lv_at hl 2 rfl) ?_
          refine kJi (wr := []) (va_runV (As := []) (rest := []) ⟨hx, hb, hml, hown, hT⟩ (c_X5_nextG l D cI aK aV k k0 H.size c1 f8_k2 f8_k3 c4 c5 c6 c7 c0) (cwV 0 hT (gV_in mw_484 mw_481 mw_483 mw_p1_11 mw_6) rfl rfl rfl (by decide +kernel) ⟨Nat.le_of_ble_eq_true rfl, Nat.le_of_ble_eq_true rfl⟩) (kRecvX (q0 := 0) (ci := 5) hK hP hD hN hXS hS hA rfl rfl [0, 1] rfl (by decide)) rfl rfl hl.1 rfl (lv_room (Nat.le_of_ble_eq_true rfl)) dX5_both_15 ⟨Nat.le_of_ble_eq_true rfl, Nat.le_of_ble_eq_true rfl⟩) hP hD hS hA [0, 1] [] rfl rfl (by decide) (by decide) ?_
          clear hP hD hS
          intro r_7 u_9 H locs w_8 hP hD hS
          replace hP : va_P D vwCl [(k, .inr (5, [.ref k0, .int c1, .int f8_k2, .int f8_k3, .int c4, .int c5, .int c6, .int c7])), (k0, .inl (cI, 50, .inl c0))] H := hP
          replace hD : va_D A [(k, .inr (5, [.ref k0, .int c1, .int f8_k2, .int f8_k3, .int c4, .int c5, .int c6, .int c7])), (k0, .inl (cI, 50, .inl c0))] := hD
          have lo_r_7 := k_lo r_7
          have hi_r_7 := k_hi r_7
          refine lv_bipush (v := 38) hx hb dX5_both_18 (by decide) ?_
          refine b_icmp_ne hx hb rfl zl_38 (tgt := 64) dX5_both_20 (by decide) (fun c_10 => ?_) (fun c_10 => ?_)
          · refine lv_iload_n hx hb dX5_both_64 rfl (lv_at hl 1 rfl) ?_
            exact hRet (f8_k2, f8_k3) [0, 1] trivial hP hD (by decide) rfl hS rfl dX5_both_65
          · refine lv_aload_n hx hb dX5_both_23 rfl (lv_at hl 2 rfl) ?_
            refine lv_dup hx hb dX5_both_24 rfl ?_
            refine va_get (D := D) (ci := 5) (v := .int f8_k2) (C := RX5) (T := TX5) (N := 8) hx hb hT giX5 hown hK hP 0 rfl rfl 2 (by decide) (hT (Cond.fieldLink RX5 19 "DesertWire$Reader" "at" "I") mw_170) (fun _ h9 => h9) rfl dX5_both_25 ?_
            refine lv_iconst (v := 1) hx hb dX5_both_28 (by decide) ?_
            refine lv_iadd hx hb dX5_both_29 ?_
            refine lv_topi (fun v_11 ev_11 => ?_)
            have lo_v_11 := k_lo v_11
            have hi_v_11 := k_hi v_11
            refine va_put (D := D) (ci := 5) (v := .int v_11) (ty := .int) (C := RX5) (T := TX5) (N := 8) hx hb hT giX5 tyX5 tyX5_ok nmX5 hown hK hP hD hS 0 rfl rfl 2 (by decide) (hT (Cond.fieldLink RX5 19 "DesertWire$Reader" "at" "I") mw_170) (fun _ h9 => h9) rfl (by decide +kernel) rfl rfl (Nat.le_of_ble_eq_true rfl) dX5_both_30 ?_
            clear hP hD hS
            intro H locs hP hD hS
            replace hP : va_P D vwCl [(k, .inr (5, [.ref k0, .int c1, .int v_11, .int f8_k3, .int c4, .int c5, .int c6, .int c7])), (k0, .inl (cI, 50, .inl c0))] H := hP
            replace hD : va_D A [(k, .inr (5, [.ref k0, .int c1, .int v_11, .int f8_k3, .int c4, .int c5, .int c6, .int c7])), (k0, .inl (cI, 50, .inl c0))] := hD
            refine lv_aload_n hx hb dX5_both_33 rfl (lv_at hl 2 rfl) ?_
            refine lv_iload_n hx hb dX5_both_34 rfl (lv_at hl 3 rfl) ?_
            refine kJi (wr := []) (va_runV (As := [.int 0]) (rest := []) ⟨hx, hb, hml, hown, hT⟩ (c_X5_comparedG0 l D cI aK aV k k0 H.size c1 v_11 f8_k3 c4 c5 c6 c7 c0 0 (by first | omega | (simp only [zl_0] <;> omega) | decide | assumption | rfl)) (cwV 1 hT (gV_in mw_468 mw_465 mw_467 mw_p1_7 mw_6) rfl rfl rfl (by decide +kernel) ⟨Nat.le_of_ble_eq_true rfl, Nat.le_of_ble_eq_true rfl⟩) (kRecvX (q0 := 0) (ci := 5) hK hP hD hN hXS hS hA rfl rfl [0, 1] rfl (by decide)) rfl rfl hl.1 rfl (lv_room (Nat.le_of_ble_eq_true rfl)) dX5_both_35 ⟨Nat.le_of_ble_eq_true rfl, Nat.le_of_ble_eq_true rfl⟩) hP hD hS hA [0, 1] [] rfl rfl (by decide) (by decide) ?_
            clear hP hD hS
            intro r_12 u_16 H locs w_13 hP hD hS
            obtain ⟨sc2_14, sc3_15⟩ := u_16
            replace hP : va_P D vwCl [(k, .inr (5, [.ref k0, .int c1, .int sc2_14, .int sc3_15, .int c4, .int c5, .int c6, .int c7])), (k0, .inl (cI, 50, .inl c0))] H := hP
            replace hD : va_D A [(k, .inr (5, [.ref k0, .int c1, .int sc2_14, .int sc3_15, .int c4, .int c5, .int c6, .int c7])), (k0, .inl (cI, 50, .inl c0))] := hD
            have lo_r_12 := k_lo r_12
            have hi_r_12 := k_hi r_12
            refine lv_istore (lv' := [(4, .int r_12), (3, .int l8_3), (2, .int l8_2), (0, .ref k), (1, .int 0)]) hx hb dX5_both_38 hl (by decide) rfl ?_
            clear hl
            intro ls hl
            refine lv_iload_n hx hb dX5_both_40 rfl (lv_at hl 2 rfl) ?_
            refine b_if_eq hx hb rfl (tgt := 53) dX5_both_41 (by decide) (fun c_17 => ?_) (fun c_17 => ?_)
            · refine lv_iconst (v := 0) hx hb dX5_both_53 (by decide) ?_
              refine kJi (wr := [(k, .inr (5, [.ref k0, .int c1, .int sc2_14, .int sc3_15, .int c4, .int c5, .int c6, .int c7])), (k0, .inl (cI, 50, .inl c0))]) (va_runS (As := [.int 0]) (rest := []) ⟨hx, hb, hml, hown, hT⟩ (c_X5_truthG l D cI aK aV H.size 0) (cwS 1 hT (gS_in mw_502 mw_500 mw_501 mw_6) rfl rfl rfl (by decide +kernel) ⟨Nat.le_of_ble_eq_true rfl, Nat.le_of_ble_eq_true rfl⟩) (kStatX hK hP hD hN hXS hS hA [] rfl (by decide)) rfl rfl hl.1 rfl (lv_room (Nat.le_of_ble_eq_true rfl)) dX5_both_54 ⟨Nat.le_of_ble_eq_true rfl, Nat.le_of_ble_eq_true rfl⟩) hP hD hS hA [] [0, 1] rfl rfl (by decide) (by decide) ?_
              clear hP hD hS
              intro r_18 u_20 H locs w_19 hP hD hS
              replace hP : va_P D vwCl [(k, .inr (5, [.ref k0, .int c1, .int sc2_14, .int sc3_15, .int c4, .int c5, .int c6, .int c7])), (k0, .inl (cI, 50, .inl c0))] H := hP
              replace hD : va_D A [(k, .inr (5, [.ref k0, .int c1, .int sc2_14, .int sc3_15, .int c4, .int c5, .int c6, .int c7])), (k0, .inl (cI, 50, .inl c0))] := hD
              have lo_r_18 := k_lo r_18
              have hi_r_18 := k_hi r_18
              refine lv_istore_n (lv' := [(2, .int r_18), (4, .int r_12), (3, .int l8_3), (0, .ref k), (1, .int 0)]) hx hb dX5_both_57 rfl hl (by decide) rfl ?_
              clear hl
              intro ls hl
              obtain ⟨v_21, ev_21⟩ : ∃ y : Int32, y = l8_3 + 1 := ⟨_, rfl⟩
              have tv_21 : v_21.toInt = l8_3.toInt + 1 := by rw [ev_21]; exact k_addv rfl zl_1 (by omega) (by omega)
              refine lv_iinc (v := v_21) (lv' := [(3, .int v_21), (2, .int r_18), (4, .int r_12), (0, .ref k), (1, .int 0)]) hx hb dX5_both_58 hl (k := 2) rfl (by rw [ev_21]; rfl) (by decide) rfl ?_
              clear hl
              intro ls hl
              refine lv_goto (tgt := 8) hx hb dX5_both_61 (by decide) ?_
              exact ih8 r_18 v_21 sc2_14 sc3_15 (by first | omega | decide | assumption | rfl) (by omega) ls _ _ (lv_sub hl [0, 1, 3, 4] rfl) (hP.sub [0, 1] rfl) (hD.sub [0, 1] (by decide) rfl) hS
            · refine lv_iload hx hb dX5_both_44 (lv_at hl 0 rfl) ?_
              refine b_if_eq hx hb rfl (tgt := 53) dX5_both_46 (by decide) (fun c_22 => ?_) (fun c_22 => ?_)
              · refine lv_iconst (v := 0) hx hb dX5_both_53 (by decide) ?_
                refine kJi (wr := [(k, .inr (5, [.ref k0, .int c1, .int sc2_14, .int sc3_15, .int c4, .int c5, .int c6, .int c7])), (k0, .inl (cI, 50, .inl c0))]) (va_runS (As := [.int 0]) (rest := []) ⟨hx, hb, hml, hown, hT⟩ (c_X5_truthG l D cI aK aV H.size 0) (cwS 1 hT (gS_in mw_502 mw_500 mw_501 mw_6) rfl rfl rfl (by decide +kernel) ⟨Nat.le_of_ble_eq_true rfl, Nat.le_of_ble_eq_true rfl⟩) (kStatX hK hP hD hN hXS hS hA [] rfl (by decide)) rfl rfl hl.1 rfl (lv_room (Nat.le_of_ble_eq_true rfl)) dX5_both_54 ⟨Nat.le_of_ble_eq_true rfl, Nat.le_of_ble_eq_true rfl⟩) hP hD hS hA [] [0, 1] rfl rfl (by decide) (by decide) ?_
                clear hP hD hS
                intro r_23 u_25 H locs w_24 hP hD hS
                replace hP : va_P D vwCl [(k, .inr (5, [.ref k0, .int c1, .int sc2_14, .int sc3_15, .int c4, .int c5, .int c6, .int c7])), (k0, .inl (cI, 50, .inl c0))] H := hP
                replace hD : va_D A [(k, .inr (5, [.ref k0, .int c1, .int sc2_14, .int sc3_15, .int c4, .int c5, .int c6, .int c7])), (k0, .inl (cI, 50, .inl c0))] := hD
                have lo_r_23 := k_lo r_23
                have hi_r_23 := k_hi r_23
                refine lv_istore_n (lv' := [(2, .int r_23), (4, .int r_12), (3, .int l8_3), (0, .ref k), (1, .int 0)]) hx hb dX5_both_57 rfl hl (by decide) rfl ?_
                clear hl
                intro ls hl
                obtain ⟨v_26, ev_26⟩ : ∃ y : Int32, y = l8_3 + 1 := ⟨_, rfl⟩
                have tv_26 : v_26.toInt = l8_3.toInt + 1 := by rw [ev_26]; exact k_addv rfl zl_1 (by omega) (by omega)
                refine lv_iinc (v := v_26) (lv' := [(3, .int v_26), (2, .int r_23), (4, .int r_12), (0, .ref k), (1, .int 0)]) hx hb dX5_both_58 hl (k := 2) rfl (by rw [ev_26]; rfl) (by decide) rfl ?_
                clear hl
                intro ls hl
                refine lv_goto (tgt := 8) hx hb dX5_both_61 (by decide) ?_
                exact ih8 r_23 v_26 sc2_14 sc3_15 (by first | omega | decide | assumption | rfl) (by omega) ls _ _ (lv_sub hl [0, 1, 3, 4] rfl) (hP.sub [0, 1] rfl) (hD.sub [0, 1] (by decide) rfl) hS
              · refine lv_iconst (v := 1) hx hb dX5_both_49 (by decide) ?_
                refine lv_goto (tgt := 54) hx hb dX5_both_50 (by decide) ?_
                refine kJi (wr := [(k, .inr (5, [.ref k0, .int c1, .int sc2_14, .int sc3_15, .int c4, .int c5, .int c6, .int c7])), (k0, .inl (cI, 50, .inl c0))]) (va_runS (As := [.int 1]) (rest := []) ⟨hx, hb, hml, hown, hT⟩ (c_X5_truthG l D cI aK aV H.size 1) (cwS 1 hT (gS_in mw_502 mw_500 mw_501 mw_6) rfl rfl rfl (by decide +kernel) ⟨Nat.le_of_ble_eq_true rfl, Nat.le_of_ble_eq_true rfl⟩) (kStatX hK hP hD hN hXS hS hA [] rfl (by decide)) rfl rfl hl.1 rfl (lv_room (Nat.le_of_ble_eq_true rfl)) dX5_both_54 ⟨Nat.le_of_ble_eq_true rfl, Nat.le_of_ble_eq_true rfl⟩) hP hD hS hA [] [0, 1] rfl rfl (by decide) (by decide) ?_
                clear hP hD hS
                intro r_27 u_29 H locs w_28 hP hD hS
                replace hP : va_P D vwCl [(k, .inr (5, [.ref k0, .int c1, .int sc2_14, .int sc3_15, .int c4, .int c5, .int c6, .int c7])), (k0, .inl (cI, 50, .inl c0))] H := hP
                replace hD : va_D A [(k, .inr (5, [.ref k0, .int c1, .int sc2_14, .int sc3_15, .int c4, .int c5, .int c6, .int c7])), (k0, .inl (cI, 50, .inl c0))] := hD
                have lo_r_27 := k_lo r_27
                have hi_r_27 := k_hi r_27
                refine lv_istore_n (lv' := [(2, .int r_27), (4, .int r_12), (3, .int l8_3), (0, .ref k), (1, .int 0)]) hx hb dX5_both_57 rfl hl (by decide) rfl ?_
                clear hl
                intro ls hl
                obtain ⟨v_30, ev_30⟩ : ∃ y : Int32, y = l8_3 + 1 := ⟨_, rfl⟩
                have tv_30 : v_30.toInt = l8_3.toInt + 1 := by rw [ev_30]; exact k_addv rfl zl_1 (by omega) (by omega)
                refine lv_iinc (v := v_30) (lv' := [(3, .int v_30), (2, .int r_27), (4, .int r_12), (0, .ref k), (1, .int 0)]) hx hb dX5_both_58 hl (k := 2) rfl (by rw [ev_30]; rfl) (by decide) rfl ?_
                clear hl
                intro ls hl
                refine lv_goto (tgt := 8) hx hb dX5_both_61 (by decide) ?_
                exact ih8 r_27 v_30 sc2_14 sc3_15 (by first | omega | decide | assumption | rfl) (by omega) ls _ _ (lv_sub hl [0, 1, 3, 4] rfl) (hP.sub [0, 1] rfl) (hD.sub [0, 1] (by decide) rfl) hS
  exact hloop_8 _ r_1 0 sc2_3 sc3_4 (by first | omega | (simp only [zl_0] <;> omega) | decide | assumption | rfl) (Nat.lt_succ_self _) ls _ _ (lv_sub hl [0, 1, 2, 3] rfl) hP hD hS

set_option maxHeartbeats 4000000 in
set_option maxRecDepth 100000 in
theorem c_X5_eitherG0 (l : Launch) (D : va_G) (cI : ClassId) (aK aV : Nat → Nat) (k k0 : Nat) (sz : Nat) (c1 : Int32) (c2 : Int32) (c3 : Int32) (c4 : Int32) (c5 : Int32) (c6 : Int32) (c7 : Int32) (c0 : Nat → Int32) (a0 : Int32) (pre0 : a0 = 0) : Met l yX5_either (gW yX5_either cX5_either 5 (some .int)) ({ frames := 38, cells := 0, slots := 0, locals := 920 } : Room) (kPreX D cI aK aV [.ref k, .int 0] [(k, .inr (5, [.ref k0, .int c1, .int c2, .int c3, .int c4, .int c5, .int c6, .int c7])), (k0, .inl (cI, 50, .inl c0))] sz) (va_Qi (fun (r : Int32) (u : Int32 × Int32) => True) (fun u t => kWd D cI (va_A [(k, .inr (5, [.ref k0, .int c1, .int c2, .int c3, .int c4, .int c5, .int c6, .int c7])), (k0, .inl (cI, 50, .inl c0))] sz) [(k, .inr (5, [.ref k0, .int c1, .int u.1, .int u.2, .int c4, .int c5, .int c6, .int c7])), (k0, .inl (cI, 50, .inl c0))] t) (va_A [(k, .inr (5, [.ref k0, .int c1, .int c2, .int c3, .int c4, .int c5, .int c6, .int c7])), (k0, .inl (cI, 50, .inl c0))] sz)) 0 0 (va_A [(k, .inr (5, [.ref k0, .int c1, .int c2, .int c3, .int c4, .int c5, .int c6, .int c7])), (k0, .inl (cI, 50, .inl c0))] sz) := by
  refine kMetIX (own := RX5) (by decide) rfl (Nat.le_of_ble_eq_true rfl) ?_
  intro p e s m args below meth c hx hb hT hown hname hml A Q hK hP hD hS hA hN hXS hRet ls hl
  subst pre0
  have hl : lv_has ls 5 [(0, .ref k), (1, .int 0)] := hl
  refine lv_aload_n hx hb dX5_either_0 rfl (lv_at hl 0 rfl) ?_
  refine lv_iload_n hx hb dX5_either_1 rfl (lv_at hl 1 rfl) ?_
  refine kJi (wr := []) (va_runV (As := [.int 0]) (rest := []) ⟨hx, hb, hml, hown, hT⟩ (c_X5_bothG0 l D cI aK aV k k0 s.heap.size c1 c2 c3 c4 c5 c6 c7 c0 0 (by first | omega | (simp only [zl_0] <;> omega) | decide | assumption | rfl)) (cwV 1 hT (gV_in mw_464 mw_461 mw_463 mw_p1_6 mw_6) rfl rfl rfl (by decide +kernel) ⟨Nat.le_of_ble_eq_true rfl, Nat.le_of_ble_eq_true rfl⟩) (kRecvX (q0 := 0) (ci := 5) hK hP hD hN hXS hS hA rfl rfl [0, 1] rfl (by decide)) rfl rfl hl.1 rfl (lv_room (Nat.le_of_ble_eq_true rfl)) dX5_either_2 ⟨Nat.le_of_ble_eq_true rfl, Nat.le_of_ble_eq_true rfl⟩) hP hD hS hA [0, 1] [] rfl rfl (by decide) (by decide) ?_
  clear hP hD hS
  intro r_1 u_5 H locs w_2 hP hD hS
  obtain ⟨sc2_3, sc3_4⟩ := u_5
  replace hP : va_P D vwCl [(k, .inr (5, [.ref k0, .int c1, .int sc2_3, .int sc3_4, .int c4, .int c5, .int c6, .int c7])), (k0, .inl (cI, 50, .inl c0))] H := hP
  replace hD : va_D A [(k, .inr (5, [.ref k0, .int c1, .int sc2_3, .int sc3_4, .int c4, .int c5, .int c6, .int c7])), (k0, .inl (cI, 50, .inl c0))] := hD
  have lo_r_1 := k_lo r_1
  have hi_r_1 := k_hi r_1
  refine lv_istore_n (lv' := [(2, .int r_1), (0, .ref k), (1, .int 0)]) hx hb dX5_either_5 rfl hl (by decide) rfl ?_
  clear hl
  intro ls hl
  refine lv_iconst (v := 0) hx hb dX5_either_6 (by decide) ?_
  refine lv_istore_n (lv' := [(3, .int 0), (2, .int r_1), (0, .ref k), (1, .int 0)]) hx hb dX5_either_7 rfl hl (by decide) rfl ?_
  clear hl
  intro ls hl
  have hloop_8 : ∀ (fu_ : Nat) (l8_2 : Int32) (l8_3 : Int32) (f8_k2 : Int32) (f8_k3 : Int32), 0 ≤ l8_3.toInt → (50 - l8_3.toInt).toNat < fu_ → ∀ (ls : Array Slot) (H : Heap) (locs : List Loc), lv_has ls 5 [(3, .int l8_3), (2, .int l8_2), (0, .ref k), (1, .int 0)] → va_P D vwCl [(k, .inr (5, [.ref k0, .int c1, .int f8_k2, .int f8_k3, .int c4, .int c5, .int c6, .int c7])), (k0, .inl (cI, 50, .inl c0))] H → va_D A [(k, .inr (5, [.ref k0, .int c1, .int f8_k2, .int f8_k3, .int c4, .int c5, .int c6, .int c7])), (k0, .inl (cI, 50, .inl c0))] → va_S A s.heap H locs → W p l e ({ frames := 38, cells := 0, slots := 0, locals := 920 } : Room) s m args below meth c H locs 0 0 Q (F0 m 8 ls []) := by
    intro fu_; induction fu_ with
    | zero => intro l8_2 l8_3 f8_k2 f8_k3 i8_0 hm; exact absurd hm (by omega)
    | succ fu_ ih8 =>
        intro l8_2 l8_3 f8_k2 f8_k3 i8_0 hm ls H locs hl hP hD hS
        have lo_l8_2 := k_lo l8_2
        have hi_l8_2 := k_hi l8_2
        have lo_l8_3 := k_lo l8_3
        have hi_l8_3 := k_hi l8_3
        have lo_f8_k2 := k_lo f8_k2
        have hi_f8_k2 := k_hi f8_k2
        have lo_f8_k3 := k_lo f8_k3
        have hi_f8_k3 := k_hi f8_k3
        refine lv_iload_n hx hb dX5_either_8 rfl (lv_at hl 0 rfl) ?_
        refine lv_bipush (v := 50) hx hb dX5_either_9 (by decide) ?_
        refine b_icmp_ge hx hb rfl zl_50 (tgt := 64) dX5_either_11 (by decide) (fun c_6 => ?_) (fun c_6 => ?_)
        · refine lv_iload_n hx hb dX5_either_64 rfl (lv_at hl 1 rfl) ?_
          exact hRet (f8_k2, f8_k3) [0, 1] trivial hP hD (by decide) rfl hS rfl dX5_either_65
        · refine lv_aload_n hx hb dX5_either_14 rfl (lv_at hl 2 rfl) ?_
          refine kJi (wr := []) (va_runV (As := []) (rest := []) ⟨hx, hb, hml, hown, hT⟩ (c_X5_nextG l D cI aK aV k k0 H.size c1 f8_k2 f8_k3 c4 c5 c6 c7 c0) (cwV 0 hT (gV_in mw_484 mw_481 mw_483 mw_p1_11 mw_6) rfl rfl rfl (by decide +kernel) ⟨Nat.le_of_ble_eq_true rfl, Nat.le_of_ble_eq_true rfl⟩) (kRecvX (q0 := 0) (ci := 5) hK hP hD hN hXS hS hA rfl rfl [0, 1] rfl (by decide)) rfl rfl hl.1 rfl (lv_room (Nat.le_of_ble_eq_true rfl)) dX5_either_15 ⟨Nat.le_of_ble_eq_true rfl, Nat.le_of_ble_eq_true rfl⟩) hP hD hS hA [0, 1] [] rfl rfl (by decide) (by decide) ?_
          clear hP hD hS
          intro r_7 u_9 H locs w_8 hP hD hS
          replace hP : va_P D vwCl [(k, .inr (5, [.ref k0, .int c1, .int f8_k2, .int f8_k3, .int c4, .int c5, .int c6, .int c7])), (k0, .inl (cI, 50, .inl c0))] H := hP
          replace hD : va_D A [(k, .inr (5, [.ref k0, .int c1, .int f8_k2, .int f8_k3, .int c4, .int c5, .int c6, .int c7])), (k0, .inl (cI, 50, .inl c0))] := hD
          have lo_r_7 := k_lo r_7
          have hi_r_7 := k_hi r_7
          refine lv_bipush (v := 124) hx hb dX5_either_18 (by decide) ?_
          refine b_icmp_ne hx hb rfl zl_124 (tgt := 64) dX5_either_20 (by decide) (fun c_10 => ?_) (fun c_10 => ?_)
          · refine lv_iload_n hx hb dX5_either_64 rfl (lv_at hl 1 rfl) ?_
            exact hRet (f8_k2, f8_k3) [0, 1] trivial hP hD (by decide) rfl hS rfl dX5_either_65
          · refine lv_aload_n hx hb dX5_either_23 rfl (lv_at hl 2 rfl) ?_
            refine lv_dup hx hb dX5_either_24 rfl ?_
            refine va_get (D := D) (ci := 5) (v := .int f8_k2) (C := RX5) (T := TX5) (N := 8) hx hb hT giX5 hown hK hP 0 rfl rfl 2 (by decide) (hT (Cond.fieldLink RX5 19 "DesertWire$Reader" "at" "I") mw_170) (fun _ h9 => h9) rfl dX5_either_25 ?_
            refine lv_iconst (v := 1) hx hb dX5_either_28 (by decide) ?_
            refine lv_iadd hx hb dX5_either_29 ?_
            refine lv_topi (fun v_11 ev_11 => ?_)
            have lo_v_11 := k_lo v_11
            have hi_v_11 := k_hi v_11
            refine va_put (D := D) (ci := 5) (v := .int v_11) (ty := .int) (C := RX5) (T := TX5) (N := 8) hx hb hT giX5 tyX5 tyX5_ok nmX5 hown hK hP hD hS 0 rfl rfl 2 (by decide) (hT (Cond.fieldLink RX5 19 "DesertWire$Reader" "at" "I") mw_170) (fun _ h9 => h9) rfl (by decide +kernel) rfl rfl (Nat.le_of_ble_eq_true rfl) dX5_either_30 ?_
            clear hP hD hS
            intro H locs hP hD hS
            replace hP : va_P D vwCl [(k, .inr (5, [.ref k0, .int c1, .int v_11, .int f8_k3, .int c4, .int c5, .int c6, .int c7])), (k0, .inl (cI, 50, .inl c0))] H := hP
            replace hD : va_D A [(k, .inr (5, [.ref k0, .int c1, .int v_11, .int f8_k3, .int c4, .int c5, .int c6, .int c7])), (k0, .inl (cI, 50, .inl c0))] := hD
            refine lv_aload_n hx hb dX5_either_33 rfl (lv_at hl 2 rfl) ?_
            refine lv_iload_n hx hb dX5_either_34 rfl (lv_at hl 3 rfl) ?_
            refine kJi (wr := []) (va_runV (As := [.int 0]) (rest := []) ⟨hx, hb, hml, hown, hT⟩ (c_X5_bothG0 l D cI aK aV k k0 H.size c1 v_11 f8_k3 c4 c5 c6 c7 c0 0 (by first | omega | (simp only [zl_0] <;> omega) | decide | assumption | rfl)) (cwV 1 hT (gV_in mw_464 mw_461 mw_463 mw_p1_6 mw_6) rfl rfl rfl (by decide +kernel) ⟨Nat.le_of_ble_eq_true rfl, Nat.le_of_ble_eq_true rfl⟩) (kRecvX (q0 := 0) (ci := 5) hK hP hD hN hXS hS hA rfl rfl [0, 1] rfl (by decide)) rfl rfl hl.1 rfl (lv_room (Nat.le_of_ble_eq_true rfl)) dX5_either_35 ⟨Nat.le_of_ble_eq_true rfl, Nat.le_of_ble_eq_true rfl⟩) hP hD hS hA [0, 1] [] rfl rfl (by decide) (by decide) ?_
            clear hP hD hS
            intro r_12 u_16 H locs w_13 hP hD hS
            obtain ⟨sc2_14, sc3_15⟩ := u_16
            replace hP : va_P D vwCl [(k, .inr (5, [.ref k0, .int c1, .int sc2_14, .int sc3_15, .int c4, .int c5, .int c6, .int c7])), (k0, .inl (cI, 50, .inl c0))] H := hP
            replace hD : va_D A [(k, .inr (5, [.ref k0, .int c1, .int sc2_14, .int sc3_15, .int c4, .int c5, .int c6, .int c7])), (k0, .inl (cI, 50, .inl c0))] := hD
            have lo_r_12 := k_lo r_12
            have hi_r_12 := k_hi r_12
            refine lv_istore (lv' := [(4, .int r_12), (3, .int l8_3), (2, .int l8_2), (0, .ref k), (1, .int 0)]) hx hb dX5_either_38 hl (by decide) rfl ?_
            clear hl
            intro ls hl
            refine lv_iload_n hx hb dX5_either_40 rfl (lv_at hl 2 rfl) ?_
            refine b_if_ne hx hb rfl (tgt := 49) dX5_either_41 (by decide) (fun c_17 => ?_) (fun c_17 => ?_)
            · refine lv_iconst (v := 1) hx hb dX5_either_49 (by decide) ?_
              refine lv_goto (tgt := 54) hx hb dX5_either_50 (by decide) ?_
              refine kJi (wr := [(k, .inr (5, [.ref k0, .int c1, .int sc2_14, .int sc3_15, .int c4, .int c5, .int c6, .int c7])), (k0, .inl (cI, 50, .inl c0))]) (va_runS (As := [.int 1]) (rest := []) ⟨hx, hb, hml, hown, hT⟩ (c_X5_truthG l D cI aK aV H.size 1) (cwS 1 hT (gS_in mw_502 mw_500 mw_501 mw_6) rfl rfl rfl (by decide +kernel) ⟨Nat.le_of_ble_eq_true rfl, Nat.le_of_ble_eq_true rfl⟩) (kStatX hK hP hD hN hXS hS hA [] rfl (by decide)) rfl rfl hl.1 rfl (lv_room (Nat.le_of_ble_eq_true rfl)) dX5_either_54 ⟨Nat.le_of_ble_eq_true rfl, Nat.le_of_ble_eq_true rfl⟩) hP hD hS hA [] [0, 1] rfl rfl (by decide) (by decide) ?_
              clear hP hD hS
              intro r_18 u_20 H locs w_19 hP hD hS
              replace hP : va_P D vwCl [(k, .inr (5, [.ref k0, .int c1, .int sc2_14, .int sc3_15, .int c4, .int c5, .int c6, .int c7])), (k0, .inl (cI, 50, .inl c0))] H := hP
              replace hD : va_D A [(k, .inr (5, [.ref k0, .int c1, .int sc2_14, .int sc3_15, .int c4, .int c5, .int c6, .int c7])), (k0, .inl (cI, 50, .inl c0))] := hD
              have lo_r_18 := k_lo r_18
              have hi_r_18 := k_hi r_18
              refine lv_istore_n (lv' := [(2, .int r_18), (4, .int r_12), (3, .int l8_3), (0, .ref k), (1, .int 0)]) hx hb dX5_either_57 rfl hl (by decide) rfl ?_
              clear hl
              intro ls hl
              obtain ⟨v_21, ev_21⟩ : ∃ y : Int32, y = l8_3 + 1 := ⟨_, rfl⟩
              have tv_21 : v_21.toInt = l8_3.toInt + 1 := by rw [ev_21]; exact k_addv rfl zl_1 (by omega) (by omega)
              refine lv_iinc (v := v_21) (lv' := [(3, .int v_21), (2, .int r_18), (4, .int r_12), (0, .ref k), (1, .int 0)]) hx hb dX5_either_58 hl (k := 2) rfl (by rw [ev_21]; rfl) (by decide) rfl ?_
              clear hl
              intro ls hl
              refine lv_goto (tgt := 8) hx hb dX5_either_61 (by decide) ?_
              exact ih8 r_18 v_21 sc2_14 sc3_15 (by first | omega | decide | assumption | rfl) (by omega) ls _ _ (lv_sub hl [0, 1, 3, 4] rfl) (hP.sub [0, 1] rfl) (hD.sub [0, 1] (by decide) rfl) hS
            · refine lv_iload hx hb dX5_either_44 (lv_at hl 0 rfl) ?_
              refine b_if_eq hx hb rfl (tgt := 53) dX5_either_46 (by decide) (fun c_22 => ?_) (fun c_22 => ?_)
              · refine lv_iconst (v := 0) hx hb dX5_either_53 (by decide) ?_
                refine kJi (wr := [(k, .inr (5, [.ref k0, .int c1, .int sc2_14, .int sc3_15, .int c4, .int c5, .int c6, .int c7])), (k0, .inl (cI, 50, .inl c0))]) (va_runS (As := [.int 0]) (rest := []) ⟨hx, hb, hml, hown, hT⟩ (c_X5_truthG l D cI aK aV H.size 0) (cwS 1 hT (gS_in mw_502 mw_500 mw_501 mw_6) rfl rfl rfl (by decide +kernel) ⟨Nat.le_of_ble_eq_true rfl, Nat.le_of_ble_eq_true rfl⟩) (kStatX hK hP hD hN hXS hS hA [] rfl (by decide)) rfl rfl hl.1 rfl (lv_room (Nat.le_of_ble_eq_true rfl)) dX5_either_54 ⟨Nat.le_of_ble_eq_true rfl, Nat.le_of_ble_eq_true rfl⟩) hP hD hS hA [] [0, 1] rfl rfl (by decide) (by decide) ?_
                clear hP hD hS
                intro r_23 u_25 H locs w_24 hP hD hS
                replace hP : va_P D vwCl [(k, .inr (5, [.ref k0, .int c1, .int sc2_14, .int sc3_15, .int c4, .int c5, .int c6, .int c7])), (k0, .inl (cI, 50, .inl c0))] H := hP
                replace hD : va_D A [(k, .inr (5, [.ref k0, .int c1, .int sc2_14, .int sc3_15, .int c4, .int c5, .int c6, .int c7])), (k0, .inl (cI, 50, .inl c0))] := hD
                have lo_r_23 := k_lo r_23
                have hi_r_23 := k_hi r_23
                refine lv_istore_n (lv' := [(2, .int r_23), (4, .int r_12), (3, .int l8_3), (0, .ref k), (1, .int 0)]) hx hb dX5_either_57 rfl hl (by decide) rfl ?_
                clear hl
                intro ls hl
                obtain ⟨v_26, ev_26⟩ : ∃ y : Int32, y = l8_3 + 1 := ⟨_, rfl⟩
                have tv_26 : v_26.toInt = l8_3.toInt + 1 := by rw [ev_26]; exact k_addv rfl zl_1 (by omega) (by omega)
                refine lv_iinc (v := v_26) (lv' := [(3, .int v_26), (2, .int r_23), (4, .int r_12), (0, .ref k), (1, .int 0)]) hx hb dX5_either_58 hl (k := 2) rfl (by rw [ev_26]; rfl) (by decide) rfl ?_
                clear hl
                intro ls hl
                refine lv_goto (tgt := 8) hx hb dX5_either_61 (by decide) ?_
                exact ih8 r_23 v_26 sc2_14 sc3_15 (by first | omega | decide | assumption | rfl) (by omega) ls _ _ (lv_sub hl [0, 1, 3, 4] rfl) (hP.sub [0, 1] rfl) (hD.sub [0, 1] (by decide) rfl) hS
              · refine lv_iconst (v := 1) hx hb dX5_either_49 (by decide) ?_
                refine lv_goto (tgt := 54) hx hb dX5_either_50 (by decide) ?_
                refine kJi (wr := [(k, .inr (5, [.ref k0, .int c1, .int sc2_14, .int sc3_15, .int c4, .int c5, .int c6, .int c7])), (k0, .inl (cI, 50, .inl c0))]) (va_runS (As := [.int 1]) (rest := []) ⟨hx, hb, hml, hown, hT⟩ (c_X5_truthG l D cI aK aV H.size 1) (cwS 1 hT (gS_in mw_502 mw_500 mw_501 mw_6) rfl rfl rfl (by decide +kernel) ⟨Nat.le_of_ble_eq_true rfl, Nat.le_of_ble_eq_true rfl⟩) (kStatX hK hP hD hN hXS hS hA [] rfl (by decide)) rfl rfl hl.1 rfl (lv_room (Nat.le_of_ble_eq_true rfl)) dX5_either_54 ⟨Nat.le_of_ble_eq_true rfl, Nat.le_of_ble_eq_true rfl⟩) hP hD hS hA [] [0, 1] rfl rfl (by decide) (by decide) ?_
                clear hP hD hS
                intro r_27 u_29 H locs w_28 hP hD hS
                replace hP : va_P D vwCl [(k, .inr (5, [.ref k0, .int c1, .int sc2_14, .int sc3_15, .int c4, .int c5, .int c6, .int c7])), (k0, .inl (cI, 50, .inl c0))] H := hP
                replace hD : va_D A [(k, .inr (5, [.ref k0, .int c1, .int sc2_14, .int sc3_15, .int c4, .int c5, .int c6, .int c7])), (k0, .inl (cI, 50, .inl c0))] := hD
                have lo_r_27 := k_lo r_27
                have hi_r_27 := k_hi r_27
                refine lv_istore_n (lv' := [(2, .int r_27), (4, .int r_12), (3, .int l8_3), (0, .ref k), (1, .int 0)]) hx hb dX5_either_57 rfl hl (by decide) rfl ?_
                clear hl
                intro ls hl
                obtain ⟨v_30, ev_30⟩ : ∃ y : Int32, y = l8_3 + 1 := ⟨_, rfl⟩
                have tv_30 : v_30.toInt = l8_3.toInt + 1 := by rw [ev_30]; exact k_addv rfl zl_1 (by omega) (by omega)
                refine lv_iinc (v := v_30) (lv' := [(3, .int v_30), (2, .int r_27), (4, .int r_12), (0, .ref k), (1, .int 0)]) hx hb dX5_either_58 hl (k := 2) rfl (by rw [ev_30]; rfl) (by decide) rfl ?_
                clear hl
                intro ls hl
                refine lv_goto (tgt := 8) hx hb dX5_either_61 (by decide) ?_
                exact ih8 r_27 v_30 sc2_14 sc3_15 (by first | omega | decide | assumption | rfl) (by omega) ls _ _ (lv_sub hl [0, 1, 3, 4] rfl) (hP.sub [0, 1] rfl) (hD.sub [0, 1] (by decide) rfl) hS
  exact hloop_8 _ r_1 0 sc2_3 sc3_4 (by first | omega | (simp only [zl_0] <;> omega) | decide | assumption | rfl) (Nat.lt_succ_self _) ls _ _ (lv_sub hl [0, 1, 2, 3] rfl) hP hD hS

set_option maxHeartbeats 4000000 in
set_option maxRecDepth 100000 in
theorem c_X4_inForceH (l : Launch) (D : va_G) (cI : ClassId) (aK aV : Nat → Nat) (k k0 k1 k2 k3 k4 : Nat) (sz : Nat) (c5 : Int32) (c6 : Int32) (c3 : Nat → Int32) (c4 : Nat → Int32) (a0 : Int32) (a1 : Int32) : Met l yX4_inForce (gW yX4_inForce cX4_inForce 4 (some .int)) ({ frames := 0, cells := 0, slots := 0, locals := 0 } : Room) (kPreX D cI aK aV [.ref k, .int a0, .int a1] [(k, .inr (4, [.ref k0, .ref k1, .ref k2, .ref k3, .ref k4, .int c5, .int c6])), (k3, .inl (cI, 12, .inl c3)), (k4, .inl (cI, 12, .inl c4))] sz) (va_Qi (fun (r : Int32) (u : Unit) => -1 ≤ r.toInt ∧ r.toInt ≤ 11) (fun u t => kWd D cI (va_A [(k, .inr (4, [.ref k0, .ref k1, .ref k2, .ref k3, .ref k4, .int c5, .int c6])), (k3, .inl (cI, 12, .inl c3)), (k4, .inl (cI, 12, .inl c4))] sz) [(k, .inr (4, [.ref k0, .ref k1, .ref k2, .ref k3, .ref k4, .int c5, .int c6])), (k3, .inl (cI, 12, .inl c3)), (k4, .inl (cI, 12, .inl c4))] t) (va_A [(k, .inr (4, [.ref k0, .ref k1, .ref k2, .ref k3, .ref k4, .int c5, .int c6])), (k3, .inl (cI, 12, .inl c3)), (k4, .inl (cI, 12, .inl c4))] sz)) 0 0 (va_A [(k, .inr (4, [.ref k0, .ref k1, .ref k2, .ref k3, .ref k4, .int c5, .int c6])), (k3, .inl (cI, 12, .inl c3)), (k4, .inl (cI, 12, .inl c4))] sz) := by
  refine kMetIX (own := RX4) (by decide) rfl (Nat.le_of_ble_eq_true rfl) ?_
  intro p e s m args below meth c hx hb hT hown hname hml A Q hK hP hD hS hA hN hXS hRet ls hl
  have hl : lv_has ls 4 [(0, .ref k), (1, .int a0), (2, .int a1)] := hl
  have lo_a0 := k_lo a0
  have hi_a0 := k_hi a0
  have lo_a1 := k_lo a1
  have hi_a1 := k_hi a1
  have lo_c6 := k_lo c6
  have hi_c6 := k_hi c6
  refine lv_aload_n hx hb dX4_inForce_0 rfl (lv_at hl 0 rfl) ?_
  refine va_get (D := D) (ci := 4) (v := .int c6) (C := RX4) (T := TX4) (N := 7) hx hb hT giX4 hown hK hP 0 rfl rfl 6 (by decide) (hT (Cond.fieldLink RX4 31 "DesertWire$Rates" "number" "I") mw_145) (fun _ h9 => h9) rfl dX4_inForce_1 ?_
  refine lv_iconst (v := 1) hx hb dX4_inForce_4 (by decide) ?_
  refine lv_isub hx hb dX4_inForce_5 ?_
  refine lv_topi (fun v_1 ev_1 => ?_)
  have lo_v_1 := k_lo v_1
  have hi_v_1 := k_hi v_1
  refine lv_istore_n (lv' := [(3, .int v_1), (0, .ref k), (1, .int a0), (2, .int a1)]) hx hb dX4_inForce_6 rfl hl (by decide) rfl ?_
  clear hl
  intro ls hl
  have hloop_7 : ∀ (fu_ : Nat) (l7_3 : Int32), l7_3.toInt ≤ v_1.toInt → (l7_3.toInt + 1 - 0).toNat < fu_ → ∀ (ls : Array Slot) (H : Heap) (locs : List Loc), lv_has ls 4 [(3, .int l7_3), (0, .ref k), (1, .int a0), (2, .int a1)] → va_P D vwCl [(k, .inr (4, [.ref k0, .ref k1, .ref k2, .ref k3, .ref k4, .int c5, .int c6])), (k3, .inl (cI, 12, .inl c3)), (k4, .inl (cI, 12, .inl c4))] H → va_D A [(k, .inr (4, [.ref k0, .ref k1, .ref k2, .ref k3, .ref k4, .int c5, .int c6])), (k3, .inl (cI, 12, .inl c3)), (k4, .inl (cI, 12, .inl c4))] → va_S A s.heap H locs → W p l e ({ frames := 0, cells := 0, slots := 0, locals := 0 } : Room) s m args below meth c H locs 0 0 Q (F0 m 7 ls []) := by
    intro fu_; induction fu_ with
    | zero => intro l7_3 i7_0 hm; exact absurd hm (by omega)
    | succ fu_ ih7 =>
        intro l7_3 i7_0 hm ls H locs hl hP hD hS
        have lo_l7_3 := k_lo l7_3
        have hi_l7_3 := k_hi l7_3
        refine lv_iload_n hx hb dX4_inForce_7 rfl (lv_at hl 0 rfl) ?_
        refine b_if_lt hx hb rfl (tgt := 45) dX4_inForce_8 (by decide) (fun c_2 => ?_) (fun c_2 => ?_)
        · refine lv_iconst (v := (-1)) hx hb dX4_inForce_45 (by decide) ?_
          exact hRet () [0, 1, 2] ⟨(by first | omega | (simp only [zl_m1] <;> omega) | decide | assumption | rfl), (by first | omega | (simp only [zl_m1] <;> omega) | decide | assumption | rfl)⟩ hP hD (by decide) rfl hS rfl dX4_inForce_46
        · refine lv_iload_n hx hb dX4_inForce_11 rfl (lv_at hl 0 rfl) ?_
          refine lv_bipush (v := 12) hx hb dX4_inForce_12 (by decide) ?_
          refine b_icmp_ge hx hb rfl zl_12 (tgt := 45) dX4_inForce_14 (by decide) (fun c_3 => ?_) (fun c_3 => ?_)
          · refine lv_iconst (v := (-1)) hx hb dX4_inForce_45 (by decide) ?_
            exact hRet () [0, 1, 2] ⟨(by first | omega | (simp only [zl_m1] <;> omega) | decide | assumption | rfl), (by first | omega | (simp only [zl_m1] <;> omega) | decide | assumption | rfl)⟩ hP hD (by decide) rfl hS rfl dX4_inForce_46
          · refine lv_aload_n hx hb dX4_inForce_17 rfl (lv_at hl 1 rfl) ?_
            refine va_get (D := D) (ci := 4) (v := .ref k3) (C := RX4) (T := TX4) (N := 7) hx hb hT giX4 hown hK hP 0 rfl rfl 3 (by decide) (hT (Cond.fieldLink RX4 21 "DesertWire$Rates" "uses" "[I") mw_141) (fun _ h9 => h9) rfl dX4_inForce_18 ?_
            refine lv_iload_n hx hb dX4_inForce_21 rfl (lv_at hl 0 rfl) ?_
            refine k_iald (v := (c3 l7_3.toNatClampNeg)) hx hb hK hP 1 0 rfl rfl (k_in (by omega) (by omega)) rfl dX4_inForce_22 ?_
            refine lv_topi (fun v_4 ev_4 => ?_)
            have lo_v_4 := k_lo v_4
            have hi_v_4 := k_hi v_4
            have tv_4 : v_4.toInt = (c3 l7_3.toNatClampNeg).toInt := by rw [ev_4]
            refine lv_iload_n hx hb dX4_inForce_23 rfl (lv_at hl 2 rfl) ?_
            refine b_icmp_ne hx hb rfl rfl (tgt := 39) dX4_inForce_24 (by decide) (fun c_5 => ?_) (fun c_5 => ?_)
            · obtain ⟨v_6, ev_6⟩ : ∃ y : Int32, y = l7_3 + (-1) := ⟨_, rfl⟩
              have tv_6 : v_6.toInt = l7_3.toInt + (-1) := by rw [ev_6]; exact k_addv rfl zl_m1 (by omega) (by omega)
              refine lv_iinc (v := v_6) (lv' := [(3, .int v_6), (0, .ref k), (1, .int a0), (2, .int a1)]) hx hb dX4_inForce_39 hl (k := 0) rfl (by rw [ev_6]; rfl) (by decide) rfl ?_
              clear hl
              intro ls hl
              refine lv_goto (tgt := 7) hx hb dX4_inForce_42 (by decide) ?_
              exact ih7 v_6 (by first | omega | decide | assumption | rfl) (by omega) ls _ _ (lv_sub hl [0, 1, 2, 3] rfl) (hP.sub [0, 1, 2] rfl) (hD.sub [0, 1, 2] (by decide) rfl) hS
            · refine lv_aload_n hx hb dX4_inForce_27 rfl (lv_at hl 1 rfl) ?_
              refine va_get (D := D) (ci := 4) (v := .ref k4) (C := RX4) (T := TX4) (N := 7) hx hb hT giX4 hown hK hP 0 rfl rfl 4 (by decide) (hT (Cond.fieldLink RX4 24 "DesertWire$Rates" "froms" "[I") mw_142) (fun _ h9 => h9) rfl dX4_inForce_28 ?_
              refine lv_iload_n hx hb dX4_inForce_31 rfl (lv_at hl 0 rfl) ?_
              refine k_iald (v := (c4 l7_3.toNatClampNeg)) hx hb hK hP 2 0 rfl rfl (k_in (by omega) (by omega)) rfl dX4_inForce_32 ?_
              refine lv_topi (fun v_7 ev_7 => ?_)
              have lo_v_7 := k_lo v_7
              have hi_v_7 := k_hi v_7
              have tv_7 : v_7.toInt = (c4 l7_3.toNatClampNeg).toInt := by rw [ev_7]
              refine lv_iload_n hx hb dX4_inForce_33 rfl (lv_at hl 3 rfl) ?_
              refine b_icmp_gt hx hb rfl rfl (tgt := 39) dX4_inForce_34 (by decide) (fun c_8 => ?_) (fun c_8 => ?_)
              · obtain ⟨v_9, ev_9⟩ : ∃ y : Int32, y = l7_3 + (-1) := ⟨_, rfl⟩
                have tv_9 : v_9.toInt = l7_3.toInt + (-1) := by rw [ev_9]; exact k_addv rfl zl_m1 (by omega) (by omega)
                refine lv_iinc (v := v_9) (lv' := [(3, .int v_9), (0, .ref k), (1, .int a0), (2, .int a1)]) hx hb dX4_inForce_39 hl (k := 0) rfl (by rw [ev_9]; rfl) (by decide) rfl ?_
                clear hl
                intro ls hl
                refine lv_goto (tgt := 7) hx hb dX4_inForce_42 (by decide) ?_
                exact ih7 v_9 (by first | omega | decide | assumption | rfl) (by omega) ls _ _ (lv_sub hl [0, 1, 2, 3] rfl) (hP.sub [0, 1, 2] rfl) (hD.sub [0, 1, 2] (by decide) rfl) hS
              · refine lv_iload_n hx hb dX4_inForce_37 rfl (lv_at hl 0 rfl) ?_
                exact hRet () [0, 1, 2] ⟨(by first | omega | decide | assumption | rfl), (by first | omega | decide | assumption | rfl)⟩ hP hD (by decide) rfl hS rfl dX4_inForce_38
  exact hloop_7 _ v_1 (by first | omega | decide | assumption | rfl) (Nat.lt_succ_self _) ls _ _ (lv_sub hl [0, 1, 2, 3] rfl) hP hD hS
theorem dX5_open_0 : decode cX5_open 0 = .ok (.aload_n 0, 1) := by decide +kernel
theorem dX5_open_1 : decode cX5_open 1 = .ok (.iconst 0, 1) := by decide +kernel
theorem dX5_open_2 : decode cX5_open 2 = .ok (.putfield 15, 3) := by decide +kernel
theorem dX5_open_5 : decode cX5_open 5 = .ok (.iconst 0, 1) := by decide +kernel
theorem dX5_open_6 : decode cX5_open 6 = .ok (.istore 4, 2) := by decide +kernel
theorem dX5_open_8 : decode cX5_open 8 = .ok (.iload 4, 2) := by decide +kernel
theorem dX5_open_10 : decode cX5_open 10 = .ok (.iload_n 3, 1) := by decide +kernel
theorem dX5_open_11 : decode cX5_open 11 = .ok (.if_icmp .ge 50, 3) := by decide +kernel
theorem dX5_open_14 : decode cX5_open 14 = .ok (.iload 4, 2) := by decide +kernel
theorem dX5_open_16 : decode cX5_open 16 = .ok (.bipush 50, 2) := by decide +kernel
theorem dX5_open_18 : decode cX5_open 18 = .ok (.if_icmp .ge 43, 3) := by decide +kernel
theorem dX5_open_21 : decode cX5_open 21 = .ok (.iload_n 2, 1) := by decide +kernel
theorem dX5_open_22 : decode cX5_open 22 = .ok (.ifCond .lt 39, 3) := by decide +kernel
theorem dX5_open_25 : decode cX5_open 25 = .ok (.iload_n 2, 1) := by decide +kernel
theorem dX5_open_26 : decode cX5_open 26 = .ok (.iload 4, 2) := by decide +kernel
theorem dX5_open_28 : decode cX5_open 28 = .ok (.iadd, 1) := by decide +kernel
theorem dX5_open_29 : decode cX5_open 29 = .ok (.aload_n 1, 1) := by decide +kernel
theorem dX5_open_30 : decode cX5_open 30 = .ok (.arraylength, 1) := by decide +kernel
theorem dX5_open_31 : decode cX5_open 31 = .ok (.if_icmp .ge 30, 3) := by decide +kernel
theorem dX5_open_34 : decode cX5_open 34 = .ok (.aload_n 0, 1) := by decide +kernel
theorem dX5_open_35 : decode cX5_open 35 = .ok (.getfield 9, 3) := by decide +kernel
theorem dX5_open_38 : decode cX5_open 38 = .ok (.iload 4, 2) := by decide +kernel
theorem dX5_open_40 : decode cX5_open 40 = .ok (.aload_n 1, 1) := by decide +kernel
theorem dX5_open_41 : decode cX5_open 41 = .ok (.iload_n 2, 1) := by decide +kernel
theorem dX5_open_42 : decode cX5_open 42 = .ok (.iload 4, 2) := by decide +kernel
theorem dX5_open_44 : decode cX5_open 44 = .ok (.iadd, 1) := by decide +kernel
theorem dX5_open_45 : decode cX5_open 45 = .ok (.iaload, 1) := by decide +kernel
theorem dX5_open_46 : decode cX5_open 46 = .ok (.iastore, 1) := by decide +kernel
theorem dX5_open_47 : decode cX5_open 47 = .ok (.aload_n 0, 1) := by decide +kernel
theorem dX5_open_48 : decode cX5_open 48 = .ok (.iload 4, 2) := by decide +kernel
theorem dX5_open_50 : decode cX5_open 50 = .ok (.iconst 1, 1) := by decide +kernel
theorem dX5_open_51 : decode cX5_open 51 = .ok (.iadd, 1) := by decide +kernel
theorem dX5_open_52 : decode cX5_open 52 = .ok (.putfield 15, 3) := by decide +kernel
theorem dX5_open_55 : decode cX5_open 55 = .ok (.iinc 4 1, 3) := by decide +kernel
theorem dX5_open_58 : decode cX5_open 58 = .ok (.goto (-50), 3) := by decide +kernel
theorem dX5_open_61 : decode cX5_open 61 = .ok (.return_, 1) := by decide +kernel
set_option maxHeartbeats 4000000 in
set_option maxRecDepth 100000 in
theorem c_X5_openG50 (l : Launch) (D : va_G) (cI : ClassId) (aK aV : Nat → Nat) (k o k0 : Nat) (sz : Nat) (c1 : Int32) (c2 : Int32) (c3 : Int32) (c4 : Int32) (c5 : Int32) (c6 : Int32) (c7 : Int32) (c0 : Nat → Int32) (d : Nat → Int32) (a1 : Int32) (a2 : Int32) (pre0 : 0 ≤ a1.toInt) (pre1 : a1.toInt ≤ 550) : Met l yX5_open (gW yX5_open cX5_open 5 none) ({ frames := 0, cells := 0, slots := 0, locals := 0 } : Room) (kPreX D cI aK aV [.ref k, .ref o, .int a1, .int a2] [(k, .inr (5, [.ref k0, .int c1, .int c2, .int c3, .int c4, .int c5, .int c6, .int c7])), (k0, .inl (cI, 50, .inl c0)), (o, .inl (cI, 50, .inl d))] sz) (va_Qv (fun (u : Int32 × (Nat → Int32)) => True) (fun u t => kWd D cI (va_A [(k, .inr (5, [.ref k0, .int c1, .int c2, .int c3, .int c4, .int c5, .int c6, .int c7])), (k0, .inl (cI, 50, .inl c0)), (o, .inl (cI, 50, .inl d))] sz) [(k, .inr (5, [.ref k0, .int u.1, .int c2, .int c3, .int c4, .int c5, .int c6, .int c7])), (k0, .inl (cI, 50, .inl u.2)), (o, .inl (cI, 50, .inl d))] t) (va_A [(k, .inr (5, [.ref k0, .int c1, .int c2, .int c3, .int c4, .int c5, .int c6, .int c7])), (k0, .inl (cI, 50, .inl c0)), (o, .inl (cI, 50, .inl d))] sz)) 0 0 (va_A [(k, .inr (5, [.ref k0, .int c1, .int c2, .int c3, .int c4, .int c5, .int c6, .int c7])), (k0, .inl (cI, 50, .inl c0)), (o, .inl (cI, 50, .inl d))] sz) := by
  refine kMetVX (own := RX5) (by decide) rfl (Nat.le_of_ble_eq_true rfl) ?_
  intro p e s m args below meth c hx hb hT hown hname hml A Q hK hP hD hS hA hN hXS hRet ls hl
  have hl : lv_has ls 5 [(0, .ref k), (1, .ref o), (2, .int a1), (3, .int a2)] := hl
  have lo_a1 := k_lo a1
  have hi_a1 := k_hi a1
  have lo_a2 := k_lo a2
  have hi_a2 := k_hi a2
  refine lv_aload_n hx hb dX5_open_0 rfl (lv_at hl 0 rfl) ?_
  refine lv_iconst (v := 0) hx hb dX5_open_1 (by decide) ?_
  refine va_put (D := D) (ci := 5) (v := .int 0) (ty := .int) (C := RX5) (T := TX5) (N := 8) hx hb hT giX5 tyX5 tyX5_ok nmX5 hown hK hP hD hS 0 rfl rfl 1 (by decide) (hT (Cond.fieldLink RX5 15 "DesertWire$Reader" "length" "I") mw_169) (fun _ h9 => h9) rfl (by decide +kernel) rfl rfl (Nat.le_of_ble_eq_true rfl) dX5_open_2 ?_
  clear hP hD hS
  intro H locs hP hD hS
  replace hP : va_P D vwCl [(k, .inr (5, [.ref k0, .int 0, .int c2, .int c3, .int c4, .int c5, .int c6, .int c7])), (k0, .inl (cI, 50, .inl c0)), (o, .inl (cI, 50, .inl d))] H := hP
  replace hD : va_D A [(k, .inr (5, [.ref k0, .int 0, .int c2, .int c3, .int c4, .int c5, .int c6, .int c7])), (k0, .inl (cI, 50, .inl c0)), (o, .inl (cI, 50, .inl d))] := hD
  refine lv_iconst (v := 0) hx hb dX5_open_5 (by decide) ?_
  refine lv_istore (lv' := [(4, .int 0), (0, .ref k), (1, .ref o), (2, .int a1), (3, .int a2)]) hx hb dX5_open_6 hl (by decide) rfl ?_
  clear hl
  intro ls hl
  have hloop_8 : ∀ (fu_ : Nat) (l8_4 : Int32) (f8_k1 : Int32) (g8_k0 : Nat → Int32), 0 ≤ l8_4.toInt → 0 ≤ f8_k1.toInt → (a2.toInt - l8_4.toInt).toNat < fu_ → ∀ (ls : Array Slot) (H : Heap) (locs : List Loc), lv_has ls 5 [(4, .int l8_4), (0, .ref k), (1, .ref o), (2, .int a1), (3, .int a2)] → va_P D vwCl [(k, .inr (5, [.ref k0, .int f8_k1, .int c2, .int c3, .int c4, .int c5, .int c6, .int c7])), (k0, .inl (cI, 50, .inl g8_k0)), (o, .inl (cI, 50, .inl d))] H → va_D A [(k, .inr (5, [.ref k0, .int f8_k1, .int c2, .int c3, .int c4, .int c5, .int c6, .int c7])), (k0, .inl (cI, 50, .inl g8_k0)), (o, .inl (cI, 50, .inl d))] → va_S A s.heap H locs → W p l e ({ frames := 0, cells := 0, slots := 0, locals := 0 } : Room) s m args below meth c H locs 0 0 Q (F0 m 8 ls []) := by
    intro fu_; induction fu_ with
    | zero => intro l8_4 f8_k1 g8_k0 i8_0 i8_1 hm; exact absurd hm (by omega)
    | succ fu_ ih8 =>
        intro l8_4 f8_k1 g8_k0 i8_0 i8_1 hm ls H locs hl hP hD hS
        have lo_l8_4 := k_lo l8_4
        have hi_l8_4 := k_hi l8_4
        have lo_f8_k1 := k_lo f8_k1
        have hi_f8_k1 := k_hi f8_k1
        refine lv_iload hx hb dX5_open_8 (lv_at hl 0 rfl) ?_
        refine lv_iload_n hx hb dX5_open_10 rfl (lv_at hl 4 rfl) ?_
        refine b_icmp_ge hx hb rfl rfl (tgt := 61) dX5_open_11 (by decide) (fun c_1 => ?_) (fun c_1 => ?_)
        · exact hRet (f8_k1, g8_k0) [0, 1, 2] trivial hP hD (by decide) rfl hS dX5_open_61
        · refine lv_iload hx hb dX5_open_14 (lv_at hl 0 rfl) ?_
          refine lv_bipush (v := 50) hx hb dX5_open_16 (by decide) ?_
          refine b_icmp_ge hx hb rfl zl_50 (tgt := 61) dX5_open_18 (by decide) (fun c_2 => ?_) (fun c_2 => ?_)
          · exact hRet (f8_k1, g8_k0) [0, 1, 2] trivial hP hD (by decide) rfl hS dX5_open_61
          · refine lv_iload_n hx hb dX5_open_21 rfl (lv_at hl 3 rfl) ?_
            refine b_if_lt hx hb rfl (tgt := 61) dX5_open_22 (by decide) (fun c_3 => by exfalso; omega) (fun c_3 => ?_)
            refine lv_iload_n hx hb dX5_open_25 rfl (lv_at hl 3 rfl) ?_
            refine lv_iload hx hb dX5_open_26 (lv_at hl 0 rfl) ?_
            refine lv_iadd hx hb dX5_open_28 ?_
            refine lv_topi (fun v_4 ev_4 => ?_)
            have tv_4 : v_4.toInt = a1.toInt + l8_4.toInt := by rw [ev_4]; exact k_addv rfl rfl (by omega) (by omega)
            refine lv_aload_n hx hb dX5_open_29 rfl (lv_at hl 2 rfl) ?_
            refine va_alen (v := 50) hx hb hK hP 2 0 rfl rfl (show Int32.ofNat 50 = 50 from by decide) dX5_open_30 ?_
            refine b_icmp_ge hx hb rfl zl_50 (tgt := 61) dX5_open_31 (by decide) (fun c_5 => ?_) (fun c_5 => ?_)
            · exact hRet (f8_k1, g8_k0) [0, 1, 2] trivial hP hD (by decide) rfl hS dX5_open_61
            · refine lv_aload_n hx hb dX5_open_34 rfl (lv_at hl 1 rfl) ?_
              refine va_get (D := D) (ci := 5) (v := .ref k0) (C := RX5) (T := TX5) (N := 8) hx hb hT giX5 hown hK hP 0 rfl rfl 0 (by decide) (hT (Cond.fieldLink RX5 9 "DesertWire$Reader" "text" "[I") mw_168) (fun _ h9 => h9) rfl dX5_open_35 ?_
              refine lv_iload hx hb dX5_open_38 (lv_at hl 0 rfl) ?_
              refine lv_aload_n hx hb dX5_open_40 rfl (lv_at hl 2 rfl) ?_
              refine lv_iload_n hx hb dX5_open_41 rfl (lv_at hl 3 rfl) ?_
              refine lv_iload hx hb dX5_open_42 (lv_at hl 0 rfl) ?_
              refine lv_iadd hx hb dX5_open_44 ?_
              refine lv_topi (fun v_6 ev_6 => ?_)
              have tv_6 : v_6.toInt = a1.toInt + l8_4.toInt := by rw [ev_6]; exact k_addv rfl rfl (by omega) (by omega)
              refine k_iald (v := (d v_6.toNatClampNeg)) hx hb hK hP 2 0 rfl rfl (k_in (by omega) (by omega)) rfl dX5_open_45 ?_
              refine lv_topi (fun v_7 ev_7 => ?_)
              have lo_v_7 := k_lo v_7
              have hi_v_7 := k_hi v_7
              have tv_7 : v_7.toInt = (d v_6.toNatClampNeg).toInt := by rw [ev_7]
              refine va_iast hx hb hK hP hD hS 1 0 rfl rfl (k_in (by omega) (by omega)) dX5_open_46 ?_
              clear hP hD hS
              intro H locs hP hD hS
              replace hP : va_P D vwCl [(k, .inr (5, [.ref k0, .int f8_k1, .int c2, .int c3, .int c4, .int c5, .int c6, .int c7])), (k0, .inl (cI, 50, .inl (upd g8_k0 l8_4.toNatClampNeg v_7))), (o, .inl (cI, 50, .inl d))] H := hP
              replace hD : va_D A [(k, .inr (5, [.ref k0, .int f8_k1, .int c2, .int c3, .int c4, .int c5, .int c6, .int c7])), (k0, .inl (cI, 50, .inl (upd g8_k0 l8_4.toNatClampNeg v_7))), (o, .inl (cI, 50, .inl d))] := hD
              obtain ⟨f_8, ef_8⟩ : ∃ g : Nat → Int32, g = upd g8_k0 l8_4.toNatClampNeg v_7 := ⟨_, rfl⟩
              rw [← ef_8] at hP hD
              refine lv_aload_n hx hb dX5_open_47 rfl (lv_at hl 1 rfl) ?_
              refine lv_iload hx hb dX5_open_48 (lv_at hl 0 rfl) ?_
              refine lv_iconst (v := 1) hx hb dX5_open_50 (by decide) ?_
              refine lv_iadd hx hb dX5_open_51 ?_
              refine lv_topi (fun v_9 ev_9 => ?_)
              have tv_9 : v_9.toInt = l8_4.toInt + 1 := by rw [ev_9]; exact k_addv rfl zl_1 (by omega) (by omega)
              refine va_put (D := D) (ci := 5) (v := .int v_9) (ty := .int) (C := RX5) (T := TX5) (N := 8) hx hb hT giX5 tyX5 tyX5_ok nmX5 hown hK hP hD hS 0 rfl rfl 1 (by decide) (hT (Cond.fieldLink RX5 15 "DesertWire$Reader" "length" "I") mw_169) (fun _ h9 => h9) rfl (by decide +kernel) rfl rfl (Nat.le_of_ble_eq_true rfl) dX5_open_52 ?_
              clear hP hD hS
              intro H locs hP hD hS
              replace hP : va_P D vwCl [(k, .inr (5, [.ref k0, .int v_9, .int c2, .int c3, .int c4, .int c5, .int c6, .int c7])), (k0, .inl (cI, 50, .inl f_8)), (o, .inl (cI, 50, .inl d))] H := hP
              replace hD : va_D A [(k, .inr (5, [.ref k0, .int v_9, .int c2, .int c3, .int c4, .int c5, .int c6, .int c7])), (k0, .inl (cI, 50, .inl f_8)), (o, .inl (cI, 50, .inl d))] := hD
              obtain ⟨v_10, ev_10⟩ : ∃ y : Int32, y = l8_4 + 1 := ⟨_, rfl⟩
              have tv_10 : v_10.toInt = l8_4.toInt + 1 := by rw [ev_10]; exact k_addv rfl zl_1 (by omega) (by omega)
              refine lv_iinc (v := v_10) (lv' := [(4, .int v_10), (0, .ref k), (1, .ref o), (2, .int a1), (3, .int a2)]) hx hb dX5_open_55 hl (k := 0) rfl (by rw [ev_10]; rfl) (by decide) rfl ?_
              clear hl
              intro ls hl
              refine lv_goto (tgt := 8) hx hb dX5_open_58 (by decide) ?_
              exact ih8 v_10 v_9 f_8 (by first | omega | decide | assumption | rfl) (by first | omega | decide | assumption | rfl) (by omega) ls _ _ (lv_sub hl [0, 1, 2, 3, 4] rfl) (hP.sub [0, 1, 2] rfl) (hD.sub [0, 1, 2] (by decide) rfl) hS
  exact hloop_8 _ 0 0 c0 (by first | omega | (simp only [zl_0] <;> omega) | decide | assumption | rfl) (by first | omega | (simp only [zl_0] <;> omega) | decide | assumption | rfl) (Nat.lt_succ_self _) ls _ _ (lv_sub hl [0, 1, 2, 3, 4] rfl) hP hD hS
