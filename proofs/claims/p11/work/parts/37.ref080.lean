theorem dX11_nameAt_0 : decode cX11_nameAt 0 = .ok (.aload_n 0, 1) := by decide +kernel
theorem dX11_nameAt_1 : decode cX11_nameAt 1 = .ok (.getfield 155, 3) := by decide +kernel
theorem dX11_nameAt_4 : decode cX11_nameAt 4 = .ok (.lookupswitch 82 #[(0, 28), (1, 60)], 28) := by decide +kernel
theorem dX11_nameAt_32 : decode cX11_nameAt 32 = .ok (.iload_n 1, 1) := by decide +kernel
theorem dX11_nameAt_33 : decode cX11_nameAt 33 = .ok (.bipush 110, 2) := by decide +kernel
theorem dX11_nameAt_35 : decode cX11_nameAt 35 = .ok (.if_icmp .ne 7, 3) := by decide +kernel
theorem dX11_nameAt_38 : decode cX11_nameAt 38 = .ok (.iconst 0, 1) := by decide +kernel
theorem dX11_nameAt_39 : decode cX11_nameAt 39 = .ok (.goto 24, 3) := by decide +kernel
theorem dX11_nameAt_42 : decode cX11_nameAt 42 = .ok (.iload_n 1, 1) := by decide +kernel
theorem dX11_nameAt_43 : decode cX11_nameAt 43 = .ok (.bipush 99, 2) := by decide +kernel
theorem dX11_nameAt_45 : decode cX11_nameAt 45 = .ok (.if_icmp .ne 7, 3) := by decide +kernel
theorem dX11_nameAt_48 : decode cX11_nameAt 48 = .ok (.iconst 1, 1) := by decide +kernel
theorem dX11_nameAt_49 : decode cX11_nameAt 49 = .ok (.goto 14, 3) := by decide +kernel
theorem dX11_nameAt_52 : decode cX11_nameAt 52 = .ok (.iload_n 1, 1) := by decide +kernel
theorem dX11_nameAt_53 : decode cX11_nameAt 53 = .ok (.bipush 109, 2) := by decide +kernel
theorem dX11_nameAt_55 : decode cX11_nameAt 55 = .ok (.if_icmp .ne 7, 3) := by decide +kernel
theorem dX11_nameAt_58 : decode cX11_nameAt 58 = .ok (.iconst 2, 1) := by decide +kernel
theorem dX11_nameAt_59 : decode cX11_nameAt 59 = .ok (.goto 4, 3) := by decide +kernel
theorem dX11_nameAt_62 : decode cX11_nameAt 62 = .ok (.iconst (-1), 1) := by decide +kernel
theorem dX11_nameAt_63 : decode cX11_nameAt 63 = .ok (.ireturn, 1) := by decide +kernel
theorem dX11_nameAt_64 : decode cX11_nameAt 64 = .ok (.iload_n 1, 1) := by decide +kernel
theorem dX11_nameAt_65 : decode cX11_nameAt 65 = .ok (.bipush 108, 2) := by decide +kernel
theorem dX11_nameAt_67 : decode cX11_nameAt 67 = .ok (.if_icmp .ne 7, 3) := by decide +kernel
theorem dX11_nameAt_70 : decode cX11_nameAt 70 = .ok (.iconst 0, 1) := by decide +kernel
theorem dX11_nameAt_71 : decode cX11_nameAt 71 = .ok (.goto 14, 3) := by decide +kernel
theorem dX11_nameAt_74 : decode cX11_nameAt 74 = .ok (.iload_n 1, 1) := by decide +kernel
theorem dX11_nameAt_75 : decode cX11_nameAt 75 = .ok (.bipush 100, 2) := by decide +kernel
theorem dX11_nameAt_77 : decode cX11_nameAt 77 = .ok (.if_icmp .ne 7, 3) := by decide +kernel
theorem dX11_nameAt_80 : decode cX11_nameAt 80 = .ok (.iconst 1, 1) := by decide +kernel
theorem dX11_nameAt_81 : decode cX11_nameAt 81 = .ok (.goto 4, 3) := by decide +kernel
theorem dX11_nameAt_84 : decode cX11_nameAt 84 = .ok (.iconst (-1), 1) := by decide +kernel
theorem dX11_nameAt_85 : decode cX11_nameAt 85 = .ok (.ireturn, 1) := by decide +kernel
theorem dX11_nameAt_86 : decode cX11_nameAt 86 = .ok (.iload_n 1, 1) := by decide +kernel
theorem dX11_nameAt_87 : decode cX11_nameAt 87 = .ok (.bipush 107, 2) := by decide +kernel
theorem dX11_nameAt_89 : decode cX11_nameAt 89 = .ok (.if_icmp .ne 7, 3) := by decide +kernel
theorem dX11_nameAt_92 : decode cX11_nameAt 92 = .ok (.iconst 0, 1) := by decide +kernel
theorem dX11_nameAt_93 : decode cX11_nameAt 93 = .ok (.goto 24, 3) := by decide +kernel
theorem dX11_nameAt_96 : decode cX11_nameAt 96 = .ok (.iload_n 1, 1) := by decide +kernel
theorem dX11_nameAt_97 : decode cX11_nameAt 97 = .ok (.bipush 115, 2) := by decide +kernel
theorem dX11_nameAt_99 : decode cX11_nameAt 99 = .ok (.if_icmp .ne 7, 3) := by decide +kernel
theorem dX11_nameAt_102 : decode cX11_nameAt 102 = .ok (.iconst 1, 1) := by decide +kernel
theorem dX11_nameAt_103 : decode cX11_nameAt 103 = .ok (.goto 14, 3) := by decide +kernel
theorem dX11_nameAt_106 : decode cX11_nameAt 106 = .ok (.iload_n 1, 1) := by decide +kernel
theorem dX11_nameAt_107 : decode cX11_nameAt 107 = .ok (.bipush 103, 2) := by decide +kernel
theorem dX11_nameAt_109 : decode cX11_nameAt 109 = .ok (.if_icmp .ne 7, 3) := by decide +kernel
theorem dX11_nameAt_112 : decode cX11_nameAt 112 = .ok (.iconst 2, 1) := by decide +kernel
theorem dX11_nameAt_113 : decode cX11_nameAt 113 = .ok (.goto 4, 3) := by decide +kernel
theorem dX11_nameAt_116 : decode cX11_nameAt 116 = .ok (.iconst (-1), 1) := by decide +kernel
theorem dX11_nameAt_117 : decode cX11_nameAt 117 = .ok (.ireturn, 1) := by decide +kernel
set_option maxHeartbeats 4000000 in
set_option maxRecDepth 100000 in
theorem c_X11_nameAtG (l : Launch) (D : va_G) (cI : ClassId) (aK aV : Nat → Nat) (k k0 k1 k2 k4 k5 k6 k7 k8 ka kb kl ko : Nat) (sz : Nat) (c3 : Int32) (c9 : Int32) (cc : Int32) (cd : Int32) (ce : Int32) (cf : Int32) (cg : Int32) (ch : Int32) (ci : Int32) (cj : Int32) (ck : Int32) (cm : Int32) (cn : Int32) (a0 : Int32) : Met l yX11_nameAt (gW yX11_nameAt cX11_nameAt 2 (some .int)) ({ frames := 0, cells := 0, slots := 0, locals := 0 } : Room) (kPreX D cI aK aV [.ref k, .int a0] [(k, .inr (11, [.ref k0, .ref k1, .ref k2, .int c3, .ref k4, .ref k5, .ref k6, .ref k7, .ref k8, .int c9, .ref ka, .ref kb, .int cc, .int cd, .int ce, .int cf, .int cg, .int ch, .int ci, .int cj, .int ck, .ref kl, .int cm, .int cn, .ref ko]))] sz) (va_Qi (fun (r : Int32) (u : Unit) => (97 ≤ a0.toInt) ∨ (r = (-1))) (fun u t => kWd D cI (va_A [(k, .inr (11, [.ref k0, .ref k1, .ref k2, .int c3, .ref k4, .ref k5, .ref k6, .ref k7, .ref k8, .int c9, .ref ka, .ref kb, .int cc, .int cd, .int ce, .int cf, .int cg, .int ch, .int ci, .int cj, .int ck, .ref kl, .int cm, .int cn, .ref ko]))] sz) [(k, .inr (11, [.ref k0, .ref k1, .ref k2, .int c3, .ref k4, .ref k5, .ref k6, .ref k7, .ref k8, .int c9, .ref ka, .ref kb, .int cc, .int cd, .int ce, .int cf, .int cg, .int ch, .int ci, .int cj, .int ck, .ref kl, .int cm, .int cn, .ref ko]))] t) (va_A [(k, .inr (11, [.ref k0, .ref k1, .ref k2, .int c3, .ref k4, .ref k5, .ref k6, .ref k7, .ref k8, .int c9, .ref ka, .ref kb, .int cc, .int cd, .int ce, .int cf, .int cg, .int ch, .int ci, .int cj, .int ck, .ref kl, .int cm, .int cn, .ref ko]))] sz)) 0 0 (va_A [(k, .inr (11, [.ref k0, .ref k1, .ref k2, .int c3, .ref k4, .ref k5, .ref k6, .ref k7, .ref k8, .int c9, .ref ka, .ref kb, .int cc, .int cd, .int ce, .int cf, .int cg, .int ch, .int ci, .int cj, .int ck, .ref kl, .int cm, .int cn, .ref ko]))] sz) := by
  refine kMetIX (own := RX11) (by decide) rfl (Nat.le_of_ble_eq_true rfl) ?_
  intro p e s m args below meth c hx hb hT hown hname hml A Q hK hP hD hS hA hN hXS hRet ls hl
  have hl : lv_has ls 2 [(0, .ref k), (1, .int a0)] := hl
  have lo_ch := k_lo ch
  have hi_ch := k_hi ch
  have lo_ci := k_lo ci
  have hi_ci := k_hi ci
  refine lv_aload_n hx hb dX11_nameAt_0 rfl (lv_at hl 0 rfl) ?_
  refine va_get (D := D) (ci := 11) (v := .int ch) (C := RX11) (T := TX11) (N := 25) hx hb hT giX11 hown hK hP 0 rfl rfl 17 (by decide) (hT (Cond.fieldLink RX11 155 "DesertWireModel" "use" "I") mw_1173) (fun _ h9 => h9) rfl dX11_nameAt_1 ?_
  by_cases c_1 : ch.toInt = 0
  · refine lv_lookup (off := 28) (tgt := 32) hx hb dX11_nameAt_4 (by decide) (by rw [c_1]; decide) (by decide) ?_
    refine lv_iload_n hx hb dX11_nameAt_32 rfl (lv_at hl 1 rfl) ?_
    refine lv_bipush (v := 110) hx hb dX11_nameAt_33 (by decide) ?_
    refine b_icmp_ne hx hb rfl zl_110 (tgt := 42) dX11_nameAt_35 (by decide) (fun c_2 => ?_) (fun c_2 => ?_)
    · refine lv_iload_n hx hb dX11_nameAt_42 rfl (lv_at hl 1 rfl) ?_
      refine lv_bipush (v := 99) hx hb dX11_nameAt_43 (by decide) ?_
      refine b_icmp_ne hx hb rfl zl_99 (tgt := 52) dX11_nameAt_45 (by decide) (fun c_3 => ?_) (fun c_3 => ?_)
      · refine lv_iload_n hx hb dX11_nameAt_52 rfl (lv_at hl 1 rfl) ?_
        refine lv_bipush (v := 109) hx hb dX11_nameAt_53 (by decide) ?_
        refine b_icmp_ne hx hb rfl zl_109 (tgt := 62) dX11_nameAt_55 (by decide) (fun c_4 => ?_) (fun c_4 => ?_)
        · refine lv_iconst (v := (-1)) hx hb dX11_nameAt_62 (by decide) ?_
          exact hRet () [0] (by first | exact Or.inl (by omega) | exact Or.inr (rfl)) hP hD (by decide) rfl hS rfl dX11_nameAt_63
        · refine lv_iconst (v := 2) hx hb dX11_nameAt_58 (by decide) ?_
          refine lv_goto (tgt := 63) hx hb dX11_nameAt_59 (by decide) ?_
          exact hRet () [0] (Or.inl (by omega)) hP hD (by decide) rfl hS rfl dX11_nameAt_63
      · refine lv_iconst (v := 1) hx hb dX11_nameAt_48 (by decide) ?_
        refine lv_goto (tgt := 63) hx hb dX11_nameAt_49 (by decide) ?_
        exact hRet () [0] (Or.inl (by omega)) hP hD (by decide) rfl hS rfl dX11_nameAt_63
    · refine lv_iconst (v := 0) hx hb dX11_nameAt_38 (by decide) ?_
      refine lv_goto (tgt := 63) hx hb dX11_nameAt_39 (by decide) ?_
      exact hRet () [0] (Or.inl (by omega)) hP hD (by decide) rfl hS rfl dX11_nameAt_63
  by_cases c_5 : ch.toInt = 1
  · refine lv_lookup (off := 60) (tgt := 64) hx hb dX11_nameAt_4 (by decide) (by rw [c_5]; decide) (by decide) ?_
    refine lv_iload_n hx hb dX11_nameAt_64 rfl (lv_at hl 1 rfl) ?_
    refine lv_bipush (v := 108) hx hb dX11_nameAt_65 (by decide) ?_
    refine b_icmp_ne hx hb rfl zl_108 (tgt := 74) dX11_nameAt_67 (by decide) (fun c_6 => ?_) (fun c_6 => ?_)
    · refine lv_iload_n hx hb dX11_nameAt_74 rfl (lv_at hl 1 rfl) ?_
      refine lv_bipush (v := 100) hx hb dX11_nameAt_75 (by decide) ?_
      refine b_icmp_ne hx hb rfl zl_100 (tgt := 84) dX11_nameAt_77 (by decide) (fun c_7 => ?_) (fun c_7 => ?_)
      · refine lv_iconst (v := (-1)) hx hb dX11_nameAt_84 (by decide) ?_
        exact hRet () [0] (by first | exact Or.inl (by omega) | exact Or.inr (rfl)) hP hD (by decide) rfl hS rfl dX11_nameAt_85
      · refine lv_iconst (v := 1) hx hb dX11_nameAt_80 (by decide) ?_
        refine lv_goto (tgt := 85) hx hb dX11_nameAt_81 (by decide) ?_
        exact hRet () [0] (Or.inl (by omega)) hP hD (by decide) rfl hS rfl dX11_nameAt_85
    · refine lv_iconst (v := 0) hx hb dX11_nameAt_70 (by decide) ?_
      refine lv_goto (tgt := 85) hx hb dX11_nameAt_71 (by decide) ?_
      exact hRet () [0] (Or.inl (by omega)) hP hD (by decide) rfl hS rfl dX11_nameAt_85
  refine lv_lookup (off := 82) (tgt := 86) hx hb dX11_nameAt_4 (by decide) (k_osw2 (by omega) (by omega)) (by decide) ?_
  refine lv_iload_n hx hb dX11_nameAt_86 rfl (lv_at hl 1 rfl) ?_
  refine lv_bipush (v := 107) hx hb dX11_nameAt_87 (by decide) ?_
  refine b_icmp_ne hx hb rfl zl_107 (tgt := 96) dX11_nameAt_89 (by decide) (fun c_8 => ?_) (fun c_8 => ?_)
  · refine lv_iload_n hx hb dX11_nameAt_96 rfl (lv_at hl 1 rfl) ?_
    refine lv_bipush (v := 115) hx hb dX11_nameAt_97 (by decide) ?_
    refine b_icmp_ne hx hb rfl zl_115 (tgt := 106) dX11_nameAt_99 (by decide) (fun c_9 => ?_) (fun c_9 => ?_)
    · refine lv_iload_n hx hb dX11_nameAt_106 rfl (lv_at hl 1 rfl) ?_
      refine lv_bipush (v := 103) hx hb dX11_nameAt_107 (by decide) ?_
      refine b_icmp_ne hx hb rfl zl_103 (tgt := 116) dX11_nameAt_109 (by decide) (fun c_10 => ?_) (fun c_10 => ?_)
      · refine lv_iconst (v := (-1)) hx hb dX11_nameAt_116 (by decide) ?_
        exact hRet () [0] (by first | exact Or.inl (by omega) | exact Or.inr (rfl)) hP hD (by decide) rfl hS rfl dX11_nameAt_117
      · refine lv_iconst (v := 2) hx hb dX11_nameAt_112 (by decide) ?_
        refine lv_goto (tgt := 117) hx hb dX11_nameAt_113 (by decide) ?_
        exact hRet () [0] (Or.inl (by omega)) hP hD (by decide) rfl hS rfl dX11_nameAt_117
    · refine lv_iconst (v := 1) hx hb dX11_nameAt_102 (by decide) ?_
      refine lv_goto (tgt := 117) hx hb dX11_nameAt_103 (by decide) ?_
      exact hRet () [0] (Or.inl (by omega)) hP hD (by decide) rfl hS rfl dX11_nameAt_117
  · refine lv_iconst (v := 0) hx hb dX11_nameAt_92 (by decide) ?_
    refine lv_goto (tgt := 117) hx hb dX11_nameAt_93 (by decide) ?_
    exact hRet () [0] (Or.inl (by omega)) hP hD (by decide) rfl hS rfl dX11_nameAt_117
theorem dX11_one_0 : decode cX11_one 0 = .ok (.aload_n 0, 1) := by decide +kernel
theorem dX11_one_1 : decode cX11_one 1 = .ok (.invokevirtual 152, 3) := by decide +kernel
theorem dX11_one_4 : decode cX11_one 4 = .ok (.istore_n 1, 1) := by decide +kernel
theorem dX11_one_5 : decode cX11_one 5 = .ok (.aload_n 0, 1) := by decide +kernel
theorem dX11_one_6 : decode cX11_one 6 = .ok (.getfield 148, 3) := by decide +kernel
theorem dX11_one_9 : decode cX11_one 9 = .ok (.ifCond .eq 5, 3) := by decide +kernel
theorem dX11_one_12 : decode cX11_one 12 = .ok (.iconst 0, 1) := by decide +kernel
theorem dX11_one_13 : decode cX11_one 13 = .ok (.ireturn, 1) := by decide +kernel
theorem dX11_one_14 : decode cX11_one 14 = .ok (.iload_n 1, 1) := by decide +kernel
theorem dX11_one_15 : decode cX11_one 15 = .ok (.bipush 48, 2) := by decide +kernel
theorem dX11_one_17 : decode cX11_one 17 = .ok (.bipush 57, 2) := by decide +kernel
theorem dX11_one_19 : decode cX11_one 19 = .ok (.invokestatic 47, 3) := by decide +kernel
theorem dX11_one_22 : decode cX11_one 22 = .ok (.ifCond .eq 57, 3) := by decide +kernel
theorem dX11_one_25 : decode cX11_one 25 = .ok (.iconst 0, 1) := by decide +kernel
theorem dX11_one_26 : decode cX11_one 26 = .ok (.istore_n 2, 1) := by decide +kernel
theorem dX11_one_27 : decode cX11_one 27 = .ok (.iconst 0, 1) := by decide +kernel
theorem dX11_one_28 : decode cX11_one 28 = .ok (.istore_n 3, 1) := by decide +kernel
theorem dX11_one_29 : decode cX11_one 29 = .ok (.iload_n 3, 1) := by decide +kernel
theorem dX11_one_30 : decode cX11_one 30 = .ok (.iconst 4, 1) := by decide +kernel
theorem dX11_one_31 : decode cX11_one 31 = .ok (.if_icmp .ge 46, 3) := by decide +kernel
theorem dX11_one_34 : decode cX11_one 34 = .ok (.aload_n 0, 1) := by decide +kernel
theorem dX11_one_35 : decode cX11_one 35 = .ok (.invokevirtual 152, 3) := by decide +kernel
theorem dX11_one_38 : decode cX11_one 38 = .ok (.bipush 48, 2) := by decide +kernel
theorem dX11_one_40 : decode cX11_one 40 = .ok (.bipush 57, 2) := by decide +kernel
theorem dX11_one_42 : decode cX11_one 42 = .ok (.invokestatic 47, 3) := by decide +kernel
theorem dX11_one_45 : decode cX11_one 45 = .ok (.ifCond .eq 32, 3) := by decide +kernel
theorem dX11_one_48 : decode cX11_one 48 = .ok (.bipush 10, 2) := by decide +kernel
theorem dX11_one_50 : decode cX11_one 50 = .ok (.iload_n 2, 1) := by decide +kernel
theorem dX11_one_51 : decode cX11_one 51 = .ok (.imul, 1) := by decide +kernel
theorem dX11_one_52 : decode cX11_one 52 = .ok (.aload_n 0, 1) := by decide +kernel
theorem dX11_one_53 : decode cX11_one 53 = .ok (.invokevirtual 152, 3) := by decide +kernel
theorem dX11_one_56 : decode cX11_one 56 = .ok (.iadd, 1) := by decide +kernel
theorem dX11_one_57 : decode cX11_one 57 = .ok (.bipush 48, 2) := by decide +kernel
theorem dX11_one_59 : decode cX11_one 59 = .ok (.isub, 1) := by decide +kernel
theorem dX11_one_60 : decode cX11_one 60 = .ok (.istore_n 2, 1) := by decide +kernel
theorem dX11_one_61 : decode cX11_one 61 = .ok (.aload_n 0, 1) := by decide +kernel
theorem dX11_one_62 : decode cX11_one 62 = .ok (.dup, 1) := by decide +kernel
theorem dX11_one_63 : decode cX11_one 63 = .ok (.getfield 138, 3) := by decide +kernel
theorem dX11_one_66 : decode cX11_one 66 = .ok (.iconst 1, 1) := by decide +kernel
theorem dX11_one_67 : decode cX11_one 67 = .ok (.iadd, 1) := by decide +kernel
theorem dX11_one_68 : decode cX11_one 68 = .ok (.putfield 138, 3) := by decide +kernel
theorem dX11_one_71 : decode cX11_one 71 = .ok (.iinc 3 1, 3) := by decide +kernel
theorem dX11_one_74 : decode cX11_one 74 = .ok (.goto (-45), 3) := by decide +kernel
theorem dX11_one_77 : decode cX11_one 77 = .ok (.iload_n 2, 1) := by decide +kernel
theorem dX11_one_78 : decode cX11_one 78 = .ok (.ireturn, 1) := by decide +kernel
theorem dX11_one_79 : decode cX11_one 79 = .ok (.aload_n 0, 1) := by decide +kernel
theorem dX11_one_80 : decode cX11_one 80 = .ok (.iload_n 1, 1) := by decide +kernel
theorem dX11_one_81 : decode cX11_one 81 = .ok (.invokevirtual 158, 3) := by decide +kernel
theorem dX11_one_84 : decode cX11_one 84 = .ok (.istore_n 2, 1) := by decide +kernel
theorem dX11_one_85 : decode cX11_one 85 = .ok (.iload_n 2, 1) := by decide +kernel
theorem dX11_one_86 : decode cX11_one 86 = .ok (.ifCond .lt 41, 3) := by decide +kernel
theorem dX11_one_89 : decode cX11_one 89 = .ok (.aload_n 0, 1) := by decide +kernel
theorem dX11_one_90 : decode cX11_one 90 = .ok (.dup, 1) := by decide +kernel
theorem dX11_one_91 : decode cX11_one 91 = .ok (.getfield 138, 3) := by decide +kernel
theorem dX11_one_94 : decode cX11_one 94 = .ok (.iconst 1, 1) := by decide +kernel
theorem dX11_one_95 : decode cX11_one 95 = .ok (.iadd, 1) := by decide +kernel
theorem dX11_one_96 : decode cX11_one 96 = .ok (.putfield 138, 3) := by decide +kernel
theorem dX11_one_99 : decode cX11_one 99 = .ok (.iload_n 2, 1) := by decide +kernel
theorem dX11_one_100 : decode cX11_one 100 = .ok (.ifCond .ne 10, 3) := by decide +kernel
theorem dX11_one_103 : decode cX11_one 103 = .ok (.aload_n 0, 1) := by decide +kernel
theorem dX11_one_104 : decode cX11_one 104 = .ok (.getfield 161, 3) := by decide +kernel
theorem dX11_one_107 : decode cX11_one 107 = .ok (.goto 19, 3) := by decide +kernel
theorem dX11_one_110 : decode cX11_one 110 = .ok (.iload_n 2, 1) := by decide +kernel
theorem dX11_one_111 : decode cX11_one 111 = .ok (.iconst 1, 1) := by decide +kernel
theorem dX11_one_112 : decode cX11_one 112 = .ok (.if_icmp .ne 10, 3) := by decide +kernel
theorem dX11_one_115 : decode cX11_one 115 = .ok (.aload_n 0, 1) := by decide +kernel
theorem dX11_one_116 : decode cX11_one 116 = .ok (.getfield 164, 3) := by decide +kernel
theorem dX11_one_119 : decode cX11_one 119 = .ok (.goto 7, 3) := by decide +kernel
theorem dX11_one_122 : decode cX11_one 122 = .ok (.aload_n 0, 1) := by decide +kernel
theorem dX11_one_123 : decode cX11_one 123 = .ok (.getfield 167, 3) := by decide +kernel
theorem dX11_one_126 : decode cX11_one 126 = .ok (.ireturn, 1) := by decide +kernel
theorem dX11_one_127 : decode cX11_one 127 = .ok (.aload_n 0, 1) := by decide +kernel
theorem dX11_one_128 : decode cX11_one 128 = .ok (.iload_n 1, 1) := by decide +kernel
theorem dX11_one_129 : decode cX11_one 129 = .ok (.bipush 45, 2) := by decide +kernel
theorem dX11_one_131 : decode cX11_one 131 = .ok (.if_icmp .eq 15, 3) := by decide +kernel
theorem dX11_one_134 : decode cX11_one 134 = .ok (.iload_n 1, 1) := by decide +kernel
theorem dX11_one_135 : decode cX11_one 135 = .ok (.bipush 33, 2) := by decide +kernel
theorem dX11_one_137 : decode cX11_one 137 = .ok (.if_icmp .eq 9, 3) := by decide +kernel
theorem dX11_one_140 : decode cX11_one 140 = .ok (.iload_n 1, 1) := by decide +kernel
theorem dX11_one_141 : decode cX11_one 141 = .ok (.bipush 40, 2) := by decide +kernel
theorem dX11_one_143 : decode cX11_one 143 = .ok (.if_icmp .ne 15, 3) := by decide +kernel
theorem dX11_one_146 : decode cX11_one 146 = .ok (.aload_n 0, 1) := by decide +kernel
theorem dX11_one_147 : decode cX11_one 147 = .ok (.getfield 170, 3) := by decide +kernel
theorem dX11_one_150 : decode cX11_one 150 = .ok (.iconst 4, 1) := by decide +kernel
theorem dX11_one_151 : decode cX11_one 151 = .ok (.if_icmp .ge 7, 3) := by decide +kernel
theorem dX11_one_158 : decode cX11_one 158 = .ok (.iconst 0, 1) := by decide +kernel
theorem dX11_one_159 : decode cX11_one 159 = .ok (.invokevirtual 173, 3) := by decide +kernel
theorem dX11_one_162 : decode cX11_one 162 = .ok (.aload_n 0, 1) := by decide +kernel
theorem dX11_one_163 : decode cX11_one 163 = .ok (.getfield 148, 3) := by decide +kernel
theorem dX11_one_166 : decode cX11_one 166 = .ok (.ifCond .eq 5, 3) := by decide +kernel
theorem dX11_one_169 : decode cX11_one 169 = .ok (.iconst 0, 1) := by decide +kernel
theorem dX11_one_170 : decode cX11_one 170 = .ok (.ireturn, 1) := by decide +kernel
set_option maxHeartbeats 4000000 in
set_option maxRecDepth 100000 in
theorem c_X11_oneG4 (l : Launch) (D : va_G) (cI : ClassId) (aK aV : Nat → Nat) (k k0 k1 k2 k4 k5 k6 k7 k8 ka kb kl ko : Nat) (sz : Nat) (c3 : Int32) (c9 : Int32) (cc : Int32) (cd : Int32) (ce : Int32) (cf : Int32) (cg : Int32) (ch : Int32) (ci : Int32) (cj : Int32) (ck : Int32) (cm : Int32) (cn : Int32) (c0 : Nat → Int32) (pre0 : 0 ≤ cc.toInt) (pre1 : cc.toInt ≤ 1151) (pre2 : 0 ≤ cd.toInt) (pre3 : cd.toInt ≤ ce.toInt) (pre4 : ce.toInt ≤ 50) (pre5 : cg.toInt = 4) : Met l yX11_one (gW yX11_one cX11_one 4 (some .int)) ({ frames := 1, cells := 0, slots := 0, locals := 22 } : Room) (kPreX D cI aK aV [.ref k] [(k, .inr (11, [.ref k0, .ref k1, .ref k2, .int c3, .ref k4, .ref k5, .ref k6, .ref k7, .ref k8, .int c9, .ref ka, .ref kb, .int cc, .int cd, .int ce, .int cf, .int cg, .int ch, .int ci, .int cj, .int ck, .ref kl, .int cm, .int cn, .ref ko])), (k0, .inl (cI, 1201, .inl c0))] sz) (va_Qi (fun (r : Int32) (u : Int32 × Int32) => cd.toInt ≤ u.1.toInt ∧ u.1.toInt ≤ ce.toInt) (fun u t => kWd D cI (va_A [(k, .inr (11, [.ref k0, .ref k1, .ref k2, .int c3, .ref k4, .ref k5, .ref k6, .ref k7, .ref k8, .int c9, .ref ka, .ref kb, .int cc, .int cd, .int ce, .int cf, .int cg, .int ch, .int ci, .int cj, .int ck, .ref kl, .int cm, .int cn, .ref ko])), (k0, .inl (cI, 1201, .inl c0))] sz) [(k, .inr (11, [.ref k0, .ref k1, .ref k2, .int c3, .ref k4, .ref k5, .ref k6, .ref k7, .ref k8, .int c9, .ref ka, .ref kb, .int cc, .int u.1, .int ce, .int u.2, .int cg, .int ch, .int ci, .int cj, .int ck, .ref kl, .int cm, .int cn, .ref ko])), (k0, .inl (cI, 1201, .inl c0))] t) (va_A [(k, .inr (11, [.ref k0, .ref k1, .ref k2, .int c3, .ref k4, .ref k5, .ref k6, .ref k7, .ref k8, .int c9, .ref ka, .ref kb, .int cc, .int cd, .int ce, .int cf, .int cg, .int ch, .int ci, .int cj, .int ck, .ref kl, .int cm, .int cn, .ref ko])), (k0, .inl (cI, 1201, .inl c0))] sz)) 0 0 (va_A [(k, .inr (11, [.ref k0, .ref k1, .ref k2, .int c3, .ref k4, .ref k5, .ref k6, .ref k7, .ref k8, .int c9, .ref ka, .ref kb, .int cc, .int cd, .int ce, .int cf, .int cg, .int ch, .int ci, .int cj, .int ck, .ref kl, .int cm, .int cn, .ref ko])), (k0, .inl (cI, 1201, .inl c0))] sz) := by
  refine kMetIX (own := RX11) (by decide) rfl (Nat.le_of_ble_eq_true rfl) ?_
  intro p e s m args below meth c hx hb hT hown hname hml A Q hK hP hD hS hA hN hXS hRet ls hl
  have hl : lv_has ls 4 [(0, .ref k)] := hl
  have lo_cd := k_lo cd
  have hi_cd := k_hi cd
  have lo_ce := k_lo ce
  have hi_ce := k_hi ce
  have lo_cf := k_lo cf
  have hi_cf := k_hi cf
  have lo_cg := k_lo cg
  have hi_cg := k_hi cg
  have lo_ci := k_lo ci
  have hi_ci := k_hi ci
  have lo_cj := k_lo cj
  have hi_cj := k_hi cj
  have lo_ck := k_lo ck
  have hi_ck := k_hi ck
  refine lv_aload_n hx hb dX11_one_0 rfl (lv_at hl 0 rfl) ?_
  refine kJi (wr := []) (va_runV (As := []) (rest := []) ⟨hx, hb, hml, hown, hT⟩ (c_X11_nowG l D cI aK aV k k0 k1 k2 k4 k5 k6 k7 k8 ka kb kl ko s.heap.size c3 c9 cc cd ce cf cg ch ci cj ck cm cn c0 (by first | omega | decide | assumption | rfl) (by first | omega | decide | assumption | rfl) (by first | omega | decide | assumption | rfl) (by first | omega | decide | assumption | rfl) (by first | omega | decide | assumption | rfl)) (cwV 0 hT (gV_in mw_1339 mw_1336 mw_1338 mw_p4_9 mw_12) rfl rfl rfl (by decide +kernel) ⟨Nat.le_of_ble_eq_true rfl, Nat.le_of_ble_eq_true rfl⟩) (kRecvX (q0 := 0) (ci := 11) hK hP hD hN hXS hS hA rfl rfl [0, 1] rfl (by decide)) rfl rfl hl.1 rfl (lv_room (Nat.le_of_ble_eq_true rfl)) dX11_one_1 ⟨Nat.le_of_ble_eq_true rfl, Nat.le_of_ble_eq_true rfl⟩) hP hD hS hA [0, 1] [] rfl rfl (by decide) (by decide) ?_
  clear hP hD hS
  intro r_1 u_3 H locs w_2 hP hD hS
  replace hP : va_P D vwCl [(k, .inr (11, [.ref k0, .ref k1, .ref k2, .int c3, .ref k4, .ref k5, .ref k6, .ref k7, .ref k8, .int c9, .ref ka, .ref kb, .int cc, .int cd, .int ce, .int cf, .int cg, .int ch, .int ci, .int cj, .int ck, .ref kl, .int cm, .int cn, .ref ko])), (k0, .inl (cI, 1201, .inl c0))] H := hP
  replace hD : va_D A [(k, .inr (11, [.ref k0, .ref k1, .ref k2, .int c3, .ref k4, .ref k5, .ref k6, .ref k7, .ref k8, .int c9, .ref ka, .ref kb, .int cc, .int cd, .int ce, .int cf, .int cg, .int ch, .int ci, .int cj, .int ck, .ref kl, .int cm, .int cn, .ref ko])), (k0, .inl (cI, 1201, .inl c0))] := hD
  rcases w_2 with h_4 | ⟨hr_1, h_5⟩
  · have h_4 : cd.toInt < ce.toInt := h_4
    have lo_r_1 := k_lo r_1
    have hi_r_1 := k_hi r_1
    refine lv_istore_n (lv' := [(1, .int r_1), (0, .ref k)]) hx hb dX11_one_4 rfl hl (by decide) rfl ?_
    clear hl
    intro ls hl
    refine lv_aload_n hx hb dX11_one_5 rfl (lv_at hl 1 rfl) ?_
    refine va_get (D := D) (ci := 11) (v := .int cf) (C := RX11) (T := TX11) (N := 25) hx hb hT giX11 hown hK hP 0 rfl rfl 15 (by decide) (hT (Cond.fieldLink RX11 148 "DesertWireModel" "isWrong" "Z") mw_1171) (fun _ h9 => h9) rfl dX11_one_6 ?_
    refine b_if_eq hx hb rfl (tgt := 14) dX11_one_9 (by decide) (fun c_6 => ?_) (fun c_6 => ?_)
    · refine lv_iload_n hx hb dX11_one_14 rfl (lv_at hl 0 rfl) ?_
      refine lv_bipush (v := 48) hx hb dX11_one_15 (by decide) ?_
      refine lv_bipush (v := 57) hx hb dX11_one_17 (by decide) ?_
      refine kJi (wr := [(k, .inr (11, [.ref k0, .ref k1, .ref k2, .int c3, .ref k4, .ref k5, .ref k6, .ref k7, .ref k8, .int c9, .ref ka, .ref kb, .int cc, .int cd, .int ce, .int cf, .int cg, .int ch, .int ci, .int cj, .int ck, .ref kl, .int cm, .int cn, .ref ko])), (k0, .inl (cI, 1201, .inl c0))]) (va_runS (As := [.int r_1, .int 48, .int 57]) (rest := []) ⟨hx, hb, hml, hown, hT⟩ (c_X11_inG l D cI aK aV H.size r_1 48 57) (cwS 3 hT (gS_in mw_1238 mw_1236 mw_1237 mw_12) rfl rfl rfl (by decide +kernel) ⟨Nat.le_of_ble_eq_true rfl, Nat.le_of_ble_eq_true rfl⟩) (kStatX hK hP hD hN hXS hS hA [] rfl (by decide)) rfl rfl hl.1 rfl (lv_room (Nat.le_of_ble_eq_true rfl)) dX11_one_19 ⟨Nat.le_of_ble_eq_true rfl, Nat.le_of_ble_eq_true rfl⟩) hP hD hS hA [] [0, 1] rfl rfl (by decide) (by decide) ?_
      clear hP hD hS
      intro r_7 u_9 H locs w_8 hP hD hS
      replace hP : va_P D vwCl [(k, .inr (11, [.ref k0, .ref k1, .ref k2, .int c3, .ref k4, .ref k5, .ref k6, .ref k7, .ref k8, .int c9, .ref ka, .ref kb, .int cc, .int cd, .int ce, .int cf, .int cg, .int ch, .int ci, .int cj, .int ck, .ref kl, .int cm, .int cn, .ref ko])), (k0, .inl (cI, 1201, .inl c0))] H := hP
      replace hD : va_D A [(k, .inr (11, [.ref k0, .ref k1, .ref k2, .int c3, .ref k4, .ref k5, .ref k6, .ref k7, .ref k8, .int c9, .ref ka, .ref kb, .int cc, .int cd, .int ce, .int cf, .int cg, .int ch, .int ci, .int cj, .int ck, .ref kl, .int cm, .int cn, .ref ko])), (k0, .inl (cI, 1201, .inl c0))] := hD
      rcases w_8 with ⟨hr_7, h_10, h_11⟩ | ⟨hr_7, h_12⟩
      · try simp only [zl_48, zl_57] at h_10
        have h_10 : 48 ≤ r_1.toInt := h_10
        try simp only [zl_48, zl_57] at h_11
        have h_11 : r_1.toInt ≤ 57 := h_11
        obtain rfl : r_7 = 1 := hr_7.trans (by decide)
        refine b_if_eq hx hb zl_1 (tgt := 79) dX11_one_22 (by decide) (fun c_13 => by exfalso; omega) (fun c_13 => ?_)
        refine lv_iconst (v := 0) hx hb dX11_one_25 (by decide) ?_
        refine lv_istore_n (lv' := [(2, .int 0), (1, .int r_1), (0, .ref k)]) hx hb dX11_one_26 rfl hl (by decide) rfl ?_
        clear hl
        intro ls hl
        refine lv_iconst (v := 0) hx hb dX11_one_27 (by decide) ?_
        refine lv_istore_n (lv' := [(3, .int 0), (2, .int 0), (1, .int r_1), (0, .ref k)]) hx hb dX11_one_28 rfl hl (by decide) rfl ?_
        clear hl
        intro ls hl
        have hloop_29 : ∀ (fu_ : Nat) (l29_2 : Int32) (l29_3 : Int32) (f29_kd : Int32), 0 ≤ l29_3.toInt → cd.toInt ≤ f29_kd.toInt → f29_kd.toInt ≤ ce.toInt → (4 - l29_3.toInt).toNat < fu_ → ∀ (ls : Array Slot) (H : Heap) (locs : List Loc), lv_has ls 4 [(3, .int l29_3), (2, .int l29_2), (1, .int r_1), (0, .ref k)] → va_P D vwCl [(k, .inr (11, [.ref k0, .ref k1, .ref k2, .int c3, .ref k4, .ref k5, .ref k6, .ref k7, .ref k8, .int c9, .ref ka, .ref kb, .int cc, .int f29_kd, .int ce, .int cf, .int cg, .int ch, .int ci, .int cj, .int ck, .ref kl, .int cm, .int cn, .ref ko])), (k0, .inl (cI, 1201, .inl c0))] H → va_D A [(k, .inr (11, [.ref k0, .ref k1, .ref k2, .int c3, .ref k4, .ref k5, .ref k6, .ref k7, .ref k8, .int c9, .ref ka, .ref kb, .int cc, .int f29_kd, .int ce, .int cf, .int cg, .int ch, .int ci, .int cj, .int ck, .ref kl, .int cm, .int cn, .ref ko])), (k0, .inl (cI, 1201, .inl c0))] → va_S A s.heap H locs → W p l e ({ frames := 1, cells := 0, slots := 0, locals := 22 } : Room) s m args below meth c H locs 0 0 Q (F0 m 29 ls []) := by
          intro fu_; induction fu_ with
          | zero => intro l29_2 l29_3 f29_kd i29_0 i29_1 i29_2 hm; exact absurd hm (by omega)
          | succ fu_ ih29 =>
              intro l29_2 l29_3 f29_kd i29_0 i29_1 i29_2 hm ls H locs hl hP hD hS
              have lo_l29_2 := k_lo l29_2
              have hi_l29_2 := k_hi l29_2
              have lo_l29_3 := k_lo l29_3
              have hi_l29_3 := k_hi l29_3
              have lo_f29_kd := k_lo f29_kd
              have hi_f29_kd := k_hi f29_kd
              refine lv_iload_n hx hb dX11_one_29 rfl (lv_at hl 0 rfl) ?_
              refine lv_iconst (v := 4) hx hb dX11_one_30 (by decide) ?_
              refine b_icmp_ge hx hb rfl zl_4 (tgt := 77) dX11_one_31 (by decide) (fun c_14 => ?_) (fun c_14 => ?_)
              · refine lv_iload_n hx hb dX11_one_77 rfl (lv_at hl 1 rfl) ?_
                exact hRet (f29_kd, cf) [0, 1] ⟨(by first | omega | decide | assumption | rfl | (dsimp only; first | omega)), (by first | omega | decide | assumption | rfl | (dsimp only; first | omega))⟩ hP hD (by decide) rfl hS rfl dX11_one_78
              · refine lv_aload_n hx hb dX11_one_34 rfl (lv_at hl 3 rfl) ?_
                refine kJi (wr := []) (va_runV (As := []) (rest := []) ⟨hx, hb, hml, hown, hT⟩ (c_X11_nowG l D cI aK aV k k0 k1 k2 k4 k5 k6 k7 k8 ka kb kl ko H.size c3 c9 cc f29_kd ce cf cg ch ci cj ck cm cn c0 (by first | omega | decide | assumption | rfl) (by first | omega | decide | assumption | rfl) (by first | omega | decide | assumption | rfl) (by first | omega | decide | assumption | rfl) (by first | omega | decide | assumption | rfl)) (cwV 0 hT (gV_in mw_1339 mw_1336 mw_1338 mw_p4_9 mw_12) rfl rfl rfl (by decide +kernel) ⟨Nat.le_of_ble_eq_true rfl, Nat.le_of_ble_eq_true rfl⟩) (kRecvX (q0 := 0) (ci := 11) hK hP hD hN hXS hS hA rfl rfl [0, 1] rfl (by decide)) rfl rfl hl.1 rfl (lv_room (Nat.le_of_ble_eq_true rfl)) dX11_one_35 ⟨Nat.le_of_ble_eq_true rfl, Nat.le_of_ble_eq_true rfl⟩) hP hD hS hA [0, 1] [] rfl rfl (by decide) (by decide) ?_
                clear hP hD hS
                intro r_15 u_17 H locs w_16 hP hD hS
                replace hP : va_P D vwCl [(k, .inr (11, [.ref k0, .ref k1, .ref k2, .int c3, .ref k4, .ref k5, .ref k6, .ref k7, .ref k8, .int c9, .ref ka, .ref kb, .int cc, .int f29_kd, .int ce, .int cf, .int cg, .int ch, .int ci, .int cj, .int ck, .ref kl, .int cm, .int cn, .ref ko])), (k0, .inl (cI, 1201, .inl c0))] H := hP
                replace hD : va_D A [(k, .inr (11, [.ref k0, .ref k1, .ref k2, .int c3, .ref k4, .ref k5, .ref k6, .ref k7, .ref k8, .int c9, .ref ka, .ref kb, .int cc, .int f29_kd, .int ce, .int cf, .int cg, .int ch, .int ci, .int cj, .int ck, .ref kl, .int cm, .int cn, .ref ko])), (k0, .inl (cI, 1201, .inl c0))] := hD
                rcases w_16 with h_18 | ⟨hr_15, h_19⟩
                · have h_18 : f29_kd.toInt < ce.toInt := h_18
                  have lo_r_15 := k_lo r_15
                  have hi_r_15 := k_hi r_15
                  refine lv_bipush (v := 48) hx hb dX11_one_38 (by decide) ?_
                  refine lv_bipush (v := 57) hx hb dX11_one_40 (by decide) ?_
                  refine kJi (wr := [(k, .inr (11, [.ref k0, .ref k1, .ref k2, .int c3, .ref k4, .ref k5, .ref k6, .ref k7, .ref k8, .int c9, .ref ka, .ref kb, .int cc, .int f29_kd, .int ce, .int cf, .int cg, .int ch, .int ci, .int cj, .int ck, .ref kl, .int cm, .int cn, .ref ko])), (k0, .inl (cI, 1201, .inl c0))]) (va_runS (As := [.int r_15, .int 48, .int 57]) (rest := []) ⟨hx, hb, hml, hown, hT⟩ (c_X11_inG l D cI aK aV H.size r_15 48 57) (cwS 3 hT (gS_in mw_1238 mw_1236 mw_1237 mw_12) rfl rfl rfl (by decide +kernel) ⟨Nat.le_of_ble_eq_true rfl, Nat.le_of_ble_eq_true rfl⟩) (kStatX hK hP hD hN hXS hS hA [] rfl (by decide)) rfl rfl hl.1 rfl (lv_room (Nat.le_of_ble_eq_true rfl)) dX11_one_42 ⟨Nat.le_of_ble_eq_true rfl, Nat.le_of_ble_eq_true rfl⟩) hP hD hS hA [] [0, 1] rfl rfl (by decide) (by decide) ?_
                  clear hP hD hS
                  intro r_20 u_22 H locs w_21 hP hD hS
                  replace hP : va_P D vwCl [(k, .inr (11, [.ref k0, .ref k1, .ref k2, .int c3, .ref k4, .ref k5, .ref k6, .ref k7, .ref k8, .int c9, .ref ka, .ref kb, .int cc, .int f29_kd, .int ce, .int cf, .int cg, .int ch, .int ci, .int cj, .int ck, .ref kl, .int cm, .int cn, .ref ko])), (k0, .inl (cI, 1201, .inl c0))] H := hP
                  replace hD : va_D A [(k, .inr (11, [.ref k0, .ref k1, .ref k2, .int c3, .ref k4, .ref k5, .ref k6, .ref k7, .ref k8, .int c9, .ref ka, .ref kb, .int cc, .int f29_kd, .int ce, .int cf, .int cg, .int ch, .int ci, .int cj, .int ck, .ref kl, .int cm, .int cn, .ref ko])), (k0, .inl (cI, 1201, .inl c0))] := hD
                  rcases w_21 with ⟨hr_20, h_23, h_24⟩ | ⟨hr_20, h_25⟩
                  · try simp only [zl_48, zl_57] at h_23
                    have h_23 : 48 ≤ r_15.toInt := h_23
                    try simp only [zl_48, zl_57] at h_24
                    have h_24 : r_15.toInt ≤ 57 := h_24
                    obtain rfl : r_20 = 1 := hr_20.trans (by decide)
                    refine b_if_eq hx hb zl_1 (tgt := 77) dX11_one_45 (by decide) (fun c_26 => by exfalso; omega) (fun c_26 => ?_)
                    refine lv_bipush (v := 10) hx hb dX11_one_48 (by decide) ?_
                    refine lv_iload_n hx hb dX11_one_50 rfl (lv_at hl 1 rfl) ?_
                    refine lv_imul hx hb dX11_one_51 ?_
                    refine lv_topi (fun v_27 ev_27 => ?_)
                    have lo_v_27 := k_lo v_27
                    have hi_v_27 := k_hi v_27
                    refine lv_aload_n hx hb dX11_one_52 rfl (lv_at hl 3 rfl) ?_
                    refine kJi (wr := []) (va_runV (As := []) (rest := [.int v_27]) ⟨hx, hb, hml, hown, hT⟩ (c_X11_nowG l D cI aK aV k k0 k1 k2 k4 k5 k6 k7 k8 ka kb kl ko H.size c3 c9 cc f29_kd ce cf cg ch ci cj ck cm cn c0 (by first | omega | decide | assumption | rfl) (by first | omega | decide | assumption | rfl) (by first | omega | decide | assumption | rfl) (by first | omega | decide | assumption | rfl) (by first | omega | decide | assumption | rfl)) (cwV 0 hT (gV_in mw_1339 mw_1336 mw_1338 mw_p4_9 mw_12) rfl rfl rfl (by decide +kernel) ⟨Nat.le_of_ble_eq_true rfl, Nat.le_of_ble_eq_true rfl⟩) (kRecvX (q0 := 0) (ci := 11) hK hP hD hN hXS hS hA rfl rfl [0, 1] rfl (by decide)) rfl rfl hl.1 rfl (lv_room (Nat.le_of_ble_eq_true rfl)) dX11_one_53 ⟨Nat.le_of_ble_eq_true rfl, Nat.le_of_ble_eq_true rfl⟩) hP hD hS hA [0, 1] [] rfl rfl (by decide) (by decide) ?_
                    clear hP hD hS
                    intro r_28 u_30 H locs w_29 hP hD hS
                    replace hP : va_P D vwCl [(k, .inr (11, [.ref k0, .ref k1, .ref k2, .int c3, .ref k4, .ref k5, .ref k6, .ref k7, .ref k8, .int c9, .ref ka, .ref kb, .int cc, .int f29_kd, .int ce, .int cf, .int cg, .int ch, .int ci, .int cj, .int ck, .ref kl, .int cm, .int cn, .ref ko])), (k0, .inl (cI, 1201, .inl c0))] H := hP
                    replace hD : va_D A [(k, .inr (11, [.ref k0, .ref k1, .ref k2, .int c3, .ref k4, .ref k5, .ref k6, .ref k7, .ref k8, .int c9, .ref ka, .ref kb, .int cc, .int f29_kd, .int ce, .int cf, .int cg, .int ch, .int ci, .int cj, .int ck, .ref kl, .int cm, .int cn, .ref ko])), (k0, .inl (cI, 1201, .inl c0))] := hD
                    rcases w_29 with h_31 | ⟨hr_28, h_32⟩
                    · have h_31 : f29_kd.toInt < ce.toInt := h_31
                      have lo_r_28 := k_lo r_28
                      have hi_r_28 := k_hi r_28
                      refine lv_iadd hx hb dX11_one_56 ?_
                      refine lv_topi (fun v_33 ev_33 => ?_)
                      have lo_v_33 := k_lo v_33
                      have hi_v_33 := k_hi v_33
                      refine lv_bipush (v := 48) hx hb dX11_one_57 (by decide) ?_
                      refine lv_isub hx hb dX11_one_59 ?_
                      refine lv_topi (fun v_34 ev_34 => ?_)
                      have lo_v_34 := k_lo v_34
                      have hi_v_34 := k_hi v_34
                      refine lv_istore_n (lv' := [(2, .int v_34), (3, .int l29_3), (1, .int r_1), (0, .ref k)]) hx hb dX11_one_60 rfl hl (by decide) rfl ?_
                      clear hl
                      intro ls hl
                      refine lv_aload_n hx hb dX11_one_61 rfl (lv_at hl 3 rfl) ?_
                      refine lv_dup hx hb dX11_one_62 rfl ?_
                      refine va_get (D := D) (ci := 11) (v := .int f29_kd) (C := RX11) (T := TX11) (N := 25) hx hb hT giX11 hown hK hP 0 rfl rfl 13 (by decide) (hT (Cond.fieldLink RX11 138 "DesertWireModel" "here" "I") mw_1169) (fun _ h9 => h9) rfl dX11_one_63 ?_
                      refine lv_iconst (v := 1) hx hb dX11_one_66 (by decide) ?_
                      refine lv_iadd hx hb dX11_one_67 ?_
                      refine lv_topi (fun v_35 ev_35 => ?_)
                      have tv_35 : v_35.toInt = f29_kd.toInt + 1 := by rw [ev_35]; exact k_addv rfl zl_1 (by omega) (by omega)
                      refine va_put (D := D) (ci := 11) (v := .int v_35) (ty := .int) (C := RX11) (T := TX11) (N := 25) hx hb hT giX11 tyX11 tyX11_ok nmX11 hown hK hP hD hS 0 rfl rfl 13 (by decide) (hT (Cond.fieldLink RX11 138 "DesertWireModel" "here" "I") mw_1169) (fun _ h9 => h9) rfl (by decide +kernel) rfl rfl (Nat.le_of_ble_eq_true rfl) dX11_one_68 ?_
                      clear hP hD hS
                      intro H locs hP hD hS
                      replace hP : va_P D vwCl [(k, .inr (11, [.ref k0, .ref k1, .ref k2, .int c3, .ref k4, .ref k5, .ref k6, .ref k7, .ref k8, .int c9, .ref ka, .ref kb, .int cc, .int v_35, .int ce, .int cf, .int cg, .int ch, .int ci, .int cj, .int ck, .ref kl, .int cm, .int cn, .ref ko])), (k0, .inl (cI, 1201, .inl c0))] H := hP
                      replace hD : va_D A [(k, .inr (11, [.ref k0, .ref k1, .ref k2, .int c3, .ref k4, .ref k5, .ref k6, .ref k7, .ref k8, .int c9, .ref ka, .ref kb, .int cc, .int v_35, .int ce, .int cf, .int cg, .int ch, .int ci, .int cj, .int ck, .ref kl, .int cm, .int cn, .ref ko])), (k0, .inl (cI, 1201, .inl c0))] := hD
                      obtain ⟨v_36, ev_36⟩ : ∃ y : Int32, y = l29_3 + 1 := ⟨_, rfl⟩
                      have tv_36 : v_36.toInt = l29_3.toInt + 1 := by rw [ev_36]; exact k_addv rfl zl_1 (by omega) (by omega)
                      refine lv_iinc (v := v_36) (lv' := [(3, .int v_36), (2, .int v_34), (1, .int r_1), (0, .ref k)]) hx hb dX11_one_71 hl (k := 1) rfl (by rw [ev_36]; rfl) (by decide) rfl ?_
                      clear hl
                      intro ls hl
                      refine lv_goto (tgt := 29) hx hb dX11_one_74 (by decide) ?_
                      exact ih29 v_34 v_36 v_35 (by first | omega | decide | assumption | rfl) (by first | omega | decide | assumption | rfl) (by first | omega | decide | assumption | rfl) (by omega) ls _ _ (lv_sub hl [0, 1, 2, 3] rfl) (hP.sub [0, 1] rfl) (hD.sub [0, 1] (by decide) rfl) hS
                    · exfalso; omega
                  · try simp only [zl_48, zl_57] at h_25
                    have h_25 : r_15.toInt < 48 ∨ 57 < r_15.toInt := h_25
                    obtain rfl : r_20 = 0 := hr_20.trans (by decide)
                    refine b_if_eq hx hb zl_0 (tgt := 77) dX11_one_45 (by decide) (fun c_37 => ?_) (fun c_37 => by exfalso; omega)
                    refine lv_iload_n hx hb dX11_one_77 rfl (lv_at hl 1 rfl) ?_
                    exact hRet (f29_kd, cf) [0, 1] ⟨(by first | omega | decide | assumption | rfl | (dsimp only; first | omega)), (by first | omega | decide | assumption | rfl | (dsimp only; first | omega))⟩ hP hD (by decide) rfl hS rfl dX11_one_78
                · have h_19 : f29_kd.toInt = ce.toInt := h_19
                  obtain rfl : r_15 = (-1) := hr_15.trans (by decide)
                  refine lv_bipush (v := 48) hx hb dX11_one_38 (by decide) ?_
                  refine lv_bipush (v := 57) hx hb dX11_one_40 (by decide) ?_
                  refine kJi (wr := [(k, .inr (11, [.ref k0, .ref k1, .ref k2, .int c3, .ref k4, .ref k5, .ref k6, .ref k7, .ref k8, .int c9, .ref ka, .ref kb, .int cc, .int f29_kd, .int ce, .int cf, .int cg, .int ch, .int ci, .int cj, .int ck, .ref kl, .int cm, .int cn, .ref ko])), (k0, .inl (cI, 1201, .inl c0))]) (va_runS (As := [.int (-1), .int 48, .int 57]) (rest := []) ⟨hx, hb, hml, hown, hT⟩ (c_X11_inG l D cI aK aV H.size (-1) 48 57) (cwS 3 hT (gS_in mw_1238 mw_1236 mw_1237 mw_12) rfl rfl rfl (by decide +kernel) ⟨Nat.le_of_ble_eq_true rfl, Nat.le_of_ble_eq_true rfl⟩) (kStatX hK hP hD hN hXS hS hA [] rfl (by decide)) rfl rfl hl.1 rfl (lv_room (Nat.le_of_ble_eq_true rfl)) dX11_one_42 ⟨Nat.le_of_ble_eq_true rfl, Nat.le_of_ble_eq_true rfl⟩) hP hD hS hA [] [0, 1] rfl rfl (by decide) (by decide) ?_
                  clear hP hD hS
                  intro r_38 u_40 H locs w_39 hP hD hS
                  replace hP : va_P D vwCl [(k, .inr (11, [.ref k0, .ref k1, .ref k2, .int c3, .ref k4, .ref k5, .ref k6, .ref k7, .ref k8, .int c9, .ref ka, .ref kb, .int cc, .int f29_kd, .int ce, .int cf, .int cg, .int ch, .int ci, .int cj, .int ck, .ref kl, .int cm, .int cn, .ref ko])), (k0, .inl (cI, 1201, .inl c0))] H := hP
                  replace hD : va_D A [(k, .inr (11, [.ref k0, .ref k1, .ref k2, .int c3, .ref k4, .ref k5, .ref k6, .ref k7, .ref k8, .int c9, .ref ka, .ref kb, .int cc, .int f29_kd, .int ce, .int cf, .int cg, .int ch, .int ci, .int cj, .int ck, .ref kl, .int cm, .int cn, .ref ko])), (k0, .inl (cI, 1201, .inl c0))] := hD
                  rcases w_39 with ⟨hr_38, h_41, h_42⟩ | ⟨hr_38, h_43⟩
                  · (try simp only [zl_m1, zl_48, zl_57] at h_41 h_42); exfalso; omega
                  · try simp only [zl_m1, zl_48, zl_57] at h_43
                    obtain rfl : r_38 = 0 := hr_38.trans (by decide)
                    refine b_if_eq hx hb zl_0 (tgt := 77) dX11_one_45 (by decide) (fun c_44 => ?_) (fun c_44 => by exfalso; omega)
                    refine lv_iload_n hx hb dX11_one_77 rfl (lv_at hl 1 rfl) ?_
                    exact hRet (f29_kd, cf) [0, 1] ⟨(by first | omega | decide | assumption | rfl | (dsimp only; first | omega)), (by first | omega | decide | assumption | rfl | (dsimp only; first | omega))⟩ hP hD (by decide) rfl hS rfl dX11_one_78
        exact hloop_29 _ 0 0 cd (by first | omega | (simp only [zl_0] <;> omega) | decide | assumption | rfl) (by first | omega | (simp only [zl_0] <;> omega) | decide | assumption | rfl) (by first | omega | (simp only [zl_0] <;> omega) | decide | assumption | rfl) (Nat.lt_succ_self _) ls _ _ (lv_sub hl [0, 1, 2, 3] rfl) hP hD hS
      · try simp only [zl_48, zl_57] at h_12
        have h_12 : r_1.toInt < 48 ∨ 57 < r_1.toInt := h_12
        obtain rfl : r_7 = 0 := hr_7.trans (by decide)
        refine b_if_eq hx hb zl_0 (tgt := 79) dX11_one_22 (by decide) (fun c_45 => ?_) (fun c_45 => by exfalso; omega)
        refine lv_aload_n hx hb dX11_one_79 rfl (lv_at hl 1 rfl) ?_
        refine lv_iload_n hx hb dX11_one_80 rfl (lv_at hl 0 rfl) ?_
        refine kJi (wr := [(k0, .inl (cI, 1201, .inl c0))]) (va_runV (As := [.int r_1]) (rest := []) ⟨hx, hb, hml, hown, hT⟩ (c_X11_nameAtG l D cI aK aV k k0 k1 k2 k4 k5 k6 k7 k8 ka kb kl ko H.size c3 c9 cc cd ce cf cg ch ci cj ck cm cn r_1) (cwV 1 hT (gV_in mw_1343 mw_1340 mw_1342 mw_p4_10 mw_12) rfl rfl rfl (by decide +kernel) ⟨Nat.le_of_ble_eq_true rfl, Nat.le_of_ble_eq_true rfl⟩) (kRecvX (q0 := 0) (ci := 11) hK hP hD hN hXS hS hA rfl rfl [0] rfl (by decide)) rfl rfl hl.1 rfl (lv_room (Nat.le_of_ble_eq_true rfl)) dX11_one_81 ⟨Nat.le_of_ble_eq_true rfl, Nat.le_of_ble_eq_true rfl⟩) hP hD hS hA [0] [1] rfl rfl (by decide) (by decide) ?_
        clear hP hD hS
        intro r_46 u_48 H locs w_47 hP hD hS
        replace hP : va_P D vwCl [(k0, .inl (cI, 1201, .inl c0)), (k, .inr (11, [.ref k0, .ref k1, .ref k2, .int c3, .ref k4, .ref k5, .ref k6, .ref k7, .ref k8, .int c9, .ref ka, .ref kb, .int cc, .int cd, .int ce, .int cf, .int cg, .int ch, .int ci, .int cj, .int ck, .ref kl, .int cm, .int cn, .ref ko]))] H := hP
        replace hD : va_D A [(k0, .inl (cI, 1201, .inl c0)), (k, .inr (11, [.ref k0, .ref k1, .ref k2, .int c3, .ref k4, .ref k5, .ref k6, .ref k7, .ref k8, .int c9, .ref ka, .ref kb, .int cc, .int cd, .int ce, .int cf, .int cg, .int ch, .int ci, .int cj, .int ck, .ref kl, .int cm, .int cn, .ref ko]))] := hD
        rcases w_47 with h_49 | hr_46
        · have h_49 : 97 ≤ r_1.toInt := h_49
          have lo_r_46 := k_lo r_46
          have hi_r_46 := k_hi r_46
          refine lv_istore_n (lv' := [(2, .int r_46), (1, .int r_1), (0, .ref k)]) hx hb dX11_one_84 rfl hl (by decide) rfl ?_
          clear hl
          intro ls hl
          refine lv_iload_n hx hb dX11_one_85 rfl (lv_at hl 0 rfl) ?_
          refine b_if_lt hx hb rfl (tgt := 127) dX11_one_86 (by decide) (fun c_50 => ?_) (fun c_50 => ?_)
          · refine lv_aload_n hx hb dX11_one_127 rfl (lv_at hl 2 rfl) ?_
            refine lv_iload_n hx hb dX11_one_128 rfl (lv_at hl 1 rfl) ?_
            refine lv_bipush (v := 45) hx hb dX11_one_129 (by decide) ?_
            refine b_icmp_eq hx hb rfl zl_45 (tgt := 146) dX11_one_131 (by decide) (fun c_51 => by exfalso; omega) (fun c_51 => ?_)
            refine lv_iload_n hx hb dX11_one_134 rfl (lv_at hl 1 rfl) ?_
            refine lv_bipush (v := 33) hx hb dX11_one_135 (by decide) ?_
            refine b_icmp_eq hx hb rfl zl_33 (tgt := 146) dX11_one_137 (by decide) (fun c_52 => by exfalso; omega) (fun c_52 => ?_)
            refine lv_iload_n hx hb dX11_one_140 rfl (lv_at hl 1 rfl) ?_
            refine lv_bipush (v := 40) hx hb dX11_one_141 (by decide) ?_
            refine b_icmp_ne hx hb rfl zl_40 (tgt := 158) dX11_one_143 (by decide) (fun c_53 => ?_) (fun c_53 => by exfalso; omega)
            refine lv_iconst (v := 0) hx hb dX11_one_158 (by decide) ?_
            refine kJv (wr := [(k0, .inl (cI, 1201, .inl c0))]) (va_runV (As := [.int 0]) (rest := []) ⟨hx, hb, hml, hown, hT⟩ (c_X11_needsG l D cI aK aV k k0 k1 k2 k4 k5 k6 k7 k8 ka kb kl ko H.size c3 c9 cc cd ce cf cg ch ci cj ck cm cn 0) (cwV 1 hT (gV_in mw_1347 mw_1344 mw_1346 mw_p4_11 mw_12) rfl rfl rfl (by decide +kernel) ⟨Nat.le_of_ble_eq_true rfl, Nat.le_of_ble_eq_true rfl⟩) (kRecvX (q0 := 1) (ci := 11) hK hP hD hN hXS hS hA rfl rfl [1] rfl (by decide)) rfl rfl hl.1 rfl (lv_room (Nat.le_of_ble_eq_true rfl)) dX11_one_159 ⟨Nat.le_of_ble_eq_true rfl, Nat.le_of_ble_eq_true rfl⟩) hP hD hS hA [1] [0] rfl rfl (by decide) (by decide) ?_
            clear hP hD hS
            intro scf_56 H locs w_55 hP hD hS
            replace hP : va_P D vwCl [(k0, .inl (cI, 1201, .inl c0)), (k, .inr (11, [.ref k0, .ref k1, .ref k2, .int c3, .ref k4, .ref k5, .ref k6, .ref k7, .ref k8, .int c9, .ref ka, .ref kb, .int cc, .int cd, .int ce, .int scf_56, .int cg, .int ch, .int ci, .int cj, .int ck, .ref kl, .int cm, .int cn, .ref ko]))] H := hP
            replace hD : va_D A [(k0, .inl (cI, 1201, .inl c0)), (k, .inr (11, [.ref k0, .ref k1, .ref k2, .int c3, .ref k4, .ref k5, .ref k6, .ref k7, .ref k8, .int c9, .ref ka, .ref kb, .int cc, .int cd, .int ce, .int scf_56, .int cg, .int ch, .int ci, .int cj, .int ck, .ref kl, .int cm, .int cn, .ref ko]))] := hD
            have lo_scf_56 := k_lo scf_56
            have hi_scf_56 := k_hi scf_56
            rcases w_55 with ⟨h_57, h_58, h_59⟩ | h_60
            · (try simp only [zl_0] at h_57 h_58 h_59); exfalso; omega
            · try simp only [zl_0] at h_60
              have h_60 : scf_56.toInt = 1 := h_60
              refine lv_aload_n hx hb dX11_one_162 rfl (lv_at hl 2 rfl) ?_
              refine va_get (D := D) (ci := 11) (v := .int scf_56) (C := RX11) (T := TX11) (N := 25) hx hb hT giX11 hown hK hP 1 rfl rfl 15 (by decide) (hT (Cond.fieldLink RX11 148 "DesertWireModel" "isWrong" "Z") mw_1171) (fun _ h9 => h9) rfl dX11_one_163 ?_
              refine b_if_eq hx hb rfl (tgt := 171) dX11_one_166 (by decide) (fun c_61 => by exfalso; omega) (fun c_61 => ?_)
              refine lv_iconst (v := 0) hx hb dX11_one_169 (by decide) ?_
              exact hRet (cd, scf_56) [1, 0] ⟨(by first | omega | (simp only [zl_0] <;> omega) | decide | assumption | rfl | (dsimp only; first | omega | (simp only [zl_0] <;> omega))), (by first | omega | (simp only [zl_0] <;> omega) | decide | assumption | rfl | (dsimp only; first | omega | (simp only [zl_0] <;> omega)))⟩ hP hD (by decide) rfl hS rfl dX11_one_170
          · refine lv_aload_n hx hb dX11_one_89 rfl (lv_at hl 2 rfl) ?_
            refine lv_dup hx hb dX11_one_90 rfl ?_
            refine va_get (D := D) (ci := 11) (v := .int cd) (C := RX11) (T := TX11) (N := 25) hx hb hT giX11 hown hK hP 1 rfl rfl 13 (by decide) (hT (Cond.fieldLink RX11 138 "DesertWireModel" "here" "I") mw_1169) (fun _ h9 => h9) rfl dX11_one_91 ?_
            refine lv_iconst (v := 1) hx hb dX11_one_94 (by decide) ?_
            refine lv_iadd hx hb dX11_one_95 ?_
            refine lv_topi (fun v_62 ev_62 => ?_)
            have tv_62 : v_62.toInt = cd.toInt + 1 := by rw [ev_62]; exact k_addv rfl zl_1 (by omega) (by omega)
            refine va_put (D := D) (ci := 11) (v := .int v_62) (ty := .int) (C := RX11) (T := TX11) (N := 25) hx hb hT giX11 tyX11 tyX11_ok nmX11 hown hK hP hD hS 1 rfl rfl 13 (by decide) (hT (Cond.fieldLink RX11 138 "DesertWireModel" "here" "I") mw_1169) (fun _ h9 => h9) rfl (by decide +kernel) rfl rfl (Nat.le_of_ble_eq_true rfl) dX11_one_96 ?_
            clear hP hD hS
            intro H locs hP hD hS
            replace hP : va_P D vwCl [(k0, .inl (cI, 1201, .inl c0)), (k, .inr (11, [.ref k0, .ref k1, .ref k2, .int c3, .ref k4, .ref k5, .ref k6, .ref k7, .ref k8, .int c9, .ref ka, .ref kb, .int cc, .int v_62, .int ce, .int cf, .int cg, .int ch, .int ci, .int cj, .int ck, .ref kl, .int cm, .int cn, .ref ko]))] H := hP
            replace hD : va_D A [(k0, .inl (cI, 1201, .inl c0)), (k, .inr (11, [.ref k0, .ref k1, .ref k2, .int c3, .ref k4, .ref k5, .ref k6, .ref k7, .ref k8, .int c9, .ref ka, .ref kb, .int cc, .int v_62, .int ce, .int cf, .int cg, .int ch, .int ci, .int cj, .int ck, .ref kl, .int cm, .int cn, .ref ko]))] := hD
            refine lv_iload_n hx hb dX11_one_99 rfl (lv_at hl 0 rfl) ?_
            refine b_if_ne hx hb rfl (tgt := 110) dX11_one_100 (by decide) (fun c_63 => ?_) (fun c_63 => ?_)
            · refine lv_iload_n hx hb dX11_one_110 rfl (lv_at hl 0 rfl) ?_
              refine lv_iconst (v := 1) hx hb dX11_one_111 (by decide) ?_
              refine b_icmp_ne hx hb rfl zl_1 (tgt := 122) dX11_one_112 (by decide) (fun c_64 => ?_) (fun c_64 => ?_)
              · refine lv_aload_n hx hb dX11_one_122 rfl (lv_at hl 2 rfl) ?_
                refine va_get (D := D) (ci := 11) (v := .int ck) (C := RX11) (T := TX11) (N := 25) hx hb hT giX11 hown hK hP 1 rfl rfl 20 (by decide) (hT (Cond.fieldLink RX11 167 "DesertWireModel" "nameC" "I") mw_1176) (fun _ h9 => h9) rfl dX11_one_123 ?_
                exact hRet (v_62, cf) [1, 0] ⟨(by first | omega | decide | assumption | rfl | (dsimp only; first | omega)), (by first | omega | decide | assumption | rfl | (dsimp only; first | omega))⟩ hP hD (by decide) rfl hS rfl dX11_one_126
              · refine lv_aload_n hx hb dX11_one_115 rfl (lv_at hl 2 rfl) ?_
                refine va_get (D := D) (ci := 11) (v := .int cj) (C := RX11) (T := TX11) (N := 25) hx hb hT giX11 hown hK hP 1 rfl rfl 19 (by decide) (hT (Cond.fieldLink RX11 164 "DesertWireModel" "nameB" "I") mw_1175) (fun _ h9 => h9) rfl dX11_one_116 ?_
                refine lv_goto (tgt := 126) hx hb dX11_one_119 (by decide) ?_
                exact hRet (v_62, cf) [1, 0] ⟨(by first | omega | decide | assumption | rfl | (dsimp only; first | omega)), (by first | omega | decide | assumption | rfl | (dsimp only; first | omega))⟩ hP hD (by decide) rfl hS rfl dX11_one_126
            · refine lv_aload_n hx hb dX11_one_103 rfl (lv_at hl 2 rfl) ?_
              refine va_get (D := D) (ci := 11) (v := .int ci) (C := RX11) (T := TX11) (N := 25) hx hb hT giX11 hown hK hP 1 rfl rfl 18 (by decide) (hT (Cond.fieldLink RX11 161 "DesertWireModel" "nameA" "I") mw_1174) (fun _ h9 => h9) rfl dX11_one_104 ?_
              refine lv_goto (tgt := 126) hx hb dX11_one_107 (by decide) ?_
              exact hRet (v_62, cf) [1, 0] ⟨(by first | omega | decide | assumption | rfl | (dsimp only; first | omega)), (by first | omega | decide | assumption | rfl | (dsimp only; first | omega))⟩ hP hD (by decide) rfl hS rfl dX11_one_126
        · obtain rfl : r_46 = (-1) := hr_46.trans (by decide)
          refine lv_istore_n (lv' := [(2, .int (-1)), (1, .int r_1), (0, .ref k)]) hx hb dX11_one_84 rfl hl (by decide) rfl ?_
          clear hl
          intro ls hl
          refine lv_iload_n hx hb dX11_one_85 rfl (lv_at hl 0 rfl) ?_
          refine b_if_lt hx hb zl_m1 (tgt := 127) dX11_one_86 (by decide) (fun c_65 => ?_) (fun c_65 => by exfalso; omega)
          refine lv_aload_n hx hb dX11_one_127 rfl (lv_at hl 2 rfl) ?_
          refine lv_iload_n hx hb dX11_one_128 rfl (lv_at hl 1 rfl) ?_
          refine lv_bipush (v := 45) hx hb dX11_one_129 (by decide) ?_
          refine b_icmp_eq hx hb rfl zl_45 (tgt := 146) dX11_one_131 (by decide) (fun c_66 => ?_) (fun c_66 => ?_)
          · refine lv_aload_n hx hb dX11_one_146 rfl (lv_at hl 2 rfl) ?_
            refine va_get (D := D) (ci := 11) (v := .int cg) (C := RX11) (T := TX11) (N := 25) hx hb hT giX11 hown hK hP 1 rfl rfl 16 (by decide) (hT (Cond.fieldLink RX11 170 "DesertWireModel" "open" "I") mw_1172) (fun _ h9 => h9) rfl dX11_one_147 ?_
            refine lv_iconst (v := 4) hx hb dX11_one_150 (by decide) ?_
            refine b_icmp_ge hx hb rfl zl_4 (tgt := 158) dX11_one_151 (by decide) (fun c_67 => ?_) (fun c_67 => by exfalso; omega)
            refine lv_iconst (v := 0) hx hb dX11_one_158 (by decide) ?_
            refine kJv (wr := [(k0, .inl (cI, 1201, .inl c0))]) (va_runV (As := [.int 0]) (rest := []) ⟨hx, hb, hml, hown, hT⟩ (c_X11_needsG l D cI aK aV k k0 k1 k2 k4 k5 k6 k7 k8 ka kb kl ko H.size c3 c9 cc cd ce cf cg ch ci cj ck cm cn 0) (cwV 1 hT (gV_in mw_1347 mw_1344 mw_1346 mw_p4_11 mw_12) rfl rfl rfl (by decide +kernel) ⟨Nat.le_of_ble_eq_true rfl, Nat.le_of_ble_eq_true rfl⟩) (kRecvX (q0 := 1) (ci := 11) hK hP hD hN hXS hS hA rfl rfl [1] rfl (by decide)) rfl rfl hl.1 rfl (lv_room (Nat.le_of_ble_eq_true rfl)) dX11_one_159 ⟨Nat.le_of_ble_eq_true rfl, Nat.le_of_ble_eq_true rfl⟩) hP hD hS hA [1] [0] rfl rfl (by decide) (by decide) ?_
            clear hP hD hS
            intro scf_70 H locs w_69 hP hD hS
            replace hP : va_P D vwCl [(k0, .inl (cI, 1201, .inl c0)), (k, .inr (11, [.ref k0, .ref k1, .ref k2, .int c3, .ref k4, .ref k5, .ref k6, .ref k7, .ref k8, .int c9, .ref ka, .ref kb, .int cc, .int cd, .int ce, .int scf_70, .int cg, .int ch, .int ci, .int cj, .int ck, .ref kl, .int cm, .int cn, .ref ko]))] H := hP
            replace hD : va_D A [(k0, .inl (cI, 1201, .inl c0)), (k, .inr (11, [.ref k0, .ref k1, .ref k2, .int c3, .ref k4, .ref k5, .ref k6, .ref k7, .ref k8, .int c9, .ref ka, .ref kb, .int cc, .int cd, .int ce, .int scf_70, .int cg, .int ch, .int ci, .int cj, .int ck, .ref kl, .int cm, .int cn, .ref ko]))] := hD
            have lo_scf_70 := k_lo scf_70
            have hi_scf_70 := k_hi scf_70
            rcases w_69 with ⟨h_71, h_72, h_73⟩ | h_74
            · (try simp only [zl_0] at h_71 h_72 h_73); exfalso; omega
            · try simp only [zl_0] at h_74
              have h_74 : scf_70.toInt = 1 := h_74
              refine lv_aload_n hx hb dX11_one_162 rfl (lv_at hl 2 rfl) ?_
              refine va_get (D := D) (ci := 11) (v := .int scf_70) (C := RX11) (T := TX11) (N := 25) hx hb hT giX11 hown hK hP 1 rfl rfl 15 (by decide) (hT (Cond.fieldLink RX11 148 "DesertWireModel" "isWrong" "Z") mw_1171) (fun _ h9 => h9) rfl dX11_one_163 ?_
              refine b_if_eq hx hb rfl (tgt := 171) dX11_one_166 (by decide) (fun c_75 => by exfalso; omega) (fun c_75 => ?_)
              refine lv_iconst (v := 0) hx hb dX11_one_169 (by decide) ?_
              exact hRet (cd, scf_70) [1, 0] ⟨(by first | omega | (simp only [zl_0] <;> omega) | decide | assumption | rfl | (dsimp only; first | omega | (simp only [zl_0] <;> omega))), (by first | omega | (simp only [zl_0] <;> omega) | decide | assumption | rfl | (dsimp only; first | omega | (simp only [zl_0] <;> omega)))⟩ hP hD (by decide) rfl hS rfl dX11_one_170
          · refine lv_iload_n hx hb dX11_one_134 rfl (lv_at hl 1 rfl) ?_
            refine lv_bipush (v := 33) hx hb dX11_one_135 (by decide) ?_
            refine b_icmp_eq hx hb rfl zl_33 (tgt := 146) dX11_one_137 (by decide) (fun c_76 => ?_) (fun c_76 => ?_)
            · refine lv_aload_n hx hb dX11_one_146 rfl (lv_at hl 2 rfl) ?_
              refine va_get (D := D) (ci := 11) (v := .int cg) (C := RX11) (T := TX11) (N := 25) hx hb hT giX11 hown hK hP 1 rfl rfl 16 (by decide) (hT (Cond.fieldLink RX11 170 "DesertWireModel" "open" "I") mw_1172) (fun _ h9 => h9) rfl dX11_one_147 ?_
              refine lv_iconst (v := 4) hx hb dX11_one_150 (by decide) ?_
              refine b_icmp_ge hx hb rfl zl_4 (tgt := 158) dX11_one_151 (by decide) (fun c_77 => ?_) (fun c_77 => by exfalso; omega)
              refine lv_iconst (v := 0) hx hb dX11_one_158 (by decide) ?_
              refine kJv (wr := [(k0, .inl (cI, 1201, .inl c0))]) (va_runV (As := [.int 0]) (rest := []) ⟨hx, hb, hml, hown, hT⟩ (c_X11_needsG l D cI aK aV k k0 k1 k2 k4 k5 k6 k7 k8 ka kb kl ko H.size c3 c9 cc cd ce cf cg ch ci cj ck cm cn 0) (cwV 1 hT (gV_in mw_1347 mw_1344 mw_1346 mw_p4_11 mw_12) rfl rfl rfl (by decide +kernel) ⟨Nat.le_of_ble_eq_true rfl, Nat.le_of_ble_eq_true rfl⟩) (kRecvX (q0 := 1) (ci := 11) hK hP hD hN hXS hS hA rfl rfl [1] rfl (by decide)) rfl rfl hl.1 rfl (lv_room (Nat.le_of_ble_eq_true rfl)) dX11_one_159 ⟨Nat.le_of_ble_eq_true rfl, Nat.le_of_ble_eq_true rfl⟩) hP hD hS hA [1] [0] rfl rfl (by decide) (by decide) ?_
              clear hP hD hS
              intro scf_80 H locs w_79 hP hD hS
              replace hP : va_P D vwCl [(k0, .inl (cI, 1201, .inl c0)), (k, .inr (11, [.ref k0, .ref k1, .ref k2, .int c3, .ref k4, .ref k5, .ref k6, .ref k7, .ref k8, .int c9, .ref ka, .ref kb, .int cc, .int cd, .int ce, .int scf_80, .int cg, .int ch, .int ci, .int cj, .int ck, .ref kl, .int cm, .int cn, .ref ko]))] H := hP
              replace hD : va_D A [(k0, .inl (cI, 1201, .inl c0)), (k, .inr (11, [.ref k0, .ref k1, .ref k2, .int c3, .ref k4, .ref k5, .ref k6, .ref k7, .ref k8, .int c9, .ref ka, .ref kb, .int cc, .int cd, .int ce, .int scf_80, .int cg, .int ch, .int ci, .int cj, .int ck, .ref kl, .int cm, .int cn, .ref ko]))] := hD
              have lo_scf_80 := k_lo scf_80
              have hi_scf_80 := k_hi scf_80
              rcases w_79 with ⟨h_81, h_82, h_83⟩ | h_84
              · (try simp only [zl_0] at h_81 h_82 h_83); exfalso; omega
              · try simp only [zl_0] at h_84
                have h_84 : scf_80.toInt = 1 := h_84
                refine lv_aload_n hx hb dX11_one_162 rfl (lv_at hl 2 rfl) ?_
                refine va_get (D := D) (ci := 11) (v := .int scf_80) (C := RX11) (T := TX11) (N := 25) hx hb hT giX11 hown hK hP 1 rfl rfl 15 (by decide) (hT (Cond.fieldLink RX11 148 "DesertWireModel" "isWrong" "Z") mw_1171) (fun _ h9 => h9) rfl dX11_one_163 ?_
                refine b_if_eq hx hb rfl (tgt := 171) dX11_one_166 (by decide) (fun c_85 => by exfalso; omega) (fun c_85 => ?_)
                refine lv_iconst (v := 0) hx hb dX11_one_169 (by decide) ?_
                exact hRet (cd, scf_80) [1, 0] ⟨(by first | omega | (simp only [zl_0] <;> omega) | decide | assumption | rfl | (dsimp only; first | omega | (simp only [zl_0] <;> omega))), (by first | omega | (simp only [zl_0] <;> omega) | decide | assumption | rfl | (dsimp only; first | omega | (simp only [zl_0] <;> omega)))⟩ hP hD (by decide) rfl hS rfl dX11_one_170
            · refine lv_iload_n hx hb dX11_one_140 rfl (lv_at hl 1 rfl) ?_
              refine lv_bipush (v := 40) hx hb dX11_one_141 (by decide) ?_
              refine b_icmp_ne hx hb rfl zl_40 (tgt := 158) dX11_one_143 (by decide) (fun c_86 => ?_) (fun c_86 => ?_)
              · refine lv_iconst (v := 0) hx hb dX11_one_158 (by decide) ?_
                refine kJv (wr := [(k0, .inl (cI, 1201, .inl c0))]) (va_runV (As := [.int 0]) (rest := []) ⟨hx, hb, hml, hown, hT⟩ (c_X11_needsG l D cI aK aV k k0 k1 k2 k4 k5 k6 k7 k8 ka kb kl ko H.size c3 c9 cc cd ce cf cg ch ci cj ck cm cn 0) (cwV 1 hT (gV_in mw_1347 mw_1344 mw_1346 mw_p4_11 mw_12) rfl rfl rfl (by decide +kernel) ⟨Nat.le_of_ble_eq_true rfl, Nat.le_of_ble_eq_true rfl⟩) (kRecvX (q0 := 1) (ci := 11) hK hP hD hN hXS hS hA rfl rfl [1] rfl (by decide)) rfl rfl hl.1 rfl (lv_room (Nat.le_of_ble_eq_true rfl)) dX11_one_159 ⟨Nat.le_of_ble_eq_true rfl, Nat.le_of_ble_eq_true rfl⟩) hP hD hS hA [1] [0] rfl rfl (by decide) (by decide) ?_
                clear hP hD hS
                intro scf_89 H locs w_88 hP hD hS
                replace hP : va_P D vwCl [(k0, .inl (cI, 1201, .inl c0)), (k, .inr (11, [.ref k0, .ref k1, .ref k2, .int c3, .ref k4, .ref k5, .ref k6, .ref k7, .ref k8, .int c9, .ref ka, .ref kb, .int cc, .int cd, .int ce, .int scf_89, .int cg, .int ch, .int ci, .int cj, .int ck, .ref kl, .int cm, .int cn, .ref ko]))] H := hP
                replace hD : va_D A [(k0, .inl (cI, 1201, .inl c0)), (k, .inr (11, [.ref k0, .ref k1, .ref k2, .int c3, .ref k4, .ref k5, .ref k6, .ref k7, .ref k8, .int c9, .ref ka, .ref kb, .int cc, .int cd, .int ce, .int scf_89, .int cg, .int ch, .int ci, .int cj, .int ck, .ref kl, .int cm, .int cn, .ref ko]))] := hD
                have lo_scf_89 := k_lo scf_89
                have hi_scf_89 := k_hi scf_89
                rcases w_88 with ⟨h_90, h_91, h_92⟩ | h_93
                · (try simp only [zl_0] at h_90 h_91 h_92); exfalso; omega
                · try simp only [zl_0] at h_93
                  have h_93 : scf_89.toInt = 1 := h_93
                  refine lv_aload_n hx hb dX11_one_162 rfl (lv_at hl 2 rfl) ?_
                  refine va_get (D := D) (ci := 11) (v := .int scf_89) (C := RX11) (T := TX11) (N := 25) hx hb hT giX11 hown hK hP 1 rfl rfl 15 (by decide) (hT (Cond.fieldLink RX11 148 "DesertWireModel" "isWrong" "Z") mw_1171) (fun _ h9 => h9) rfl dX11_one_163 ?_
                  refine b_if_eq hx hb rfl (tgt := 171) dX11_one_166 (by decide) (fun c_94 => by exfalso; omega) (fun c_94 => ?_)
                  refine lv_iconst (v := 0) hx hb dX11_one_169 (by decide) ?_
                  exact hRet (cd, scf_89) [1, 0] ⟨(by first | omega | (simp only [zl_0] <;> omega) | decide | assumption | rfl | (dsimp only; first | omega | (simp only [zl_0] <;> omega))), (by first | omega | (simp only [zl_0] <;> omega) | decide | assumption | rfl | (dsimp only; first | omega | (simp only [zl_0] <;> omega)))⟩ hP hD (by decide) rfl hS rfl dX11_one_170
              · refine lv_aload_n hx hb dX11_one_146 rfl (lv_at hl 2 rfl) ?_
                refine va_get (D := D) (ci := 11) (v := .int cg) (C := RX11) (T := TX11) (N := 25) hx hb hT giX11 hown hK hP 1 rfl rfl 16 (by decide) (hT (Cond.fieldLink RX11 170 "DesertWireModel" "open" "I") mw_1172) (fun _ h9 => h9) rfl dX11_one_147 ?_
                refine lv_iconst (v := 4) hx hb dX11_one_150 (by decide) ?_
                refine b_icmp_ge hx hb rfl zl_4 (tgt := 158) dX11_one_151 (by decide) (fun c_95 => ?_) (fun c_95 => by exfalso; omega)
                refine lv_iconst (v := 0) hx hb dX11_one_158 (by decide) ?_
                refine kJv (wr := [(k0, .inl (cI, 1201, .inl c0))]) (va_runV (As := [.int 0]) (rest := []) ⟨hx, hb, hml, hown, hT⟩ (c_X11_needsG l D cI aK aV k k0 k1 k2 k4 k5 k6 k7 k8 ka kb kl ko H.size c3 c9 cc cd ce cf cg ch ci cj ck cm cn 0) (cwV 1 hT (gV_in mw_1347 mw_1344 mw_1346 mw_p4_11 mw_12) rfl rfl rfl (by decide +kernel) ⟨Nat.le_of_ble_eq_true rfl, Nat.le_of_ble_eq_true rfl⟩) (kRecvX (q0 := 1) (ci := 11) hK hP hD hN hXS hS hA rfl rfl [1] rfl (by decide)) rfl rfl hl.1 rfl (lv_room (Nat.le_of_ble_eq_true rfl)) dX11_one_159 ⟨Nat.le_of_ble_eq_true rfl, Nat.le_of_ble_eq_true rfl⟩) hP hD hS hA [1] [0] rfl rfl (by decide) (by decide) ?_
                clear hP hD hS
                intro scf_98 H locs w_97 hP hD hS
                replace hP : va_P D vwCl [(k0, .inl (cI, 1201, .inl c0)), (k, .inr (11, [.ref k0, .ref k1, .ref k2, .int c3, .ref k4, .ref k5, .ref k6, .ref k7, .ref k8, .int c9, .ref ka, .ref kb, .int cc, .int cd, .int ce, .int scf_98, .int cg, .int ch, .int ci, .int cj, .int ck, .ref kl, .int cm, .int cn, .ref ko]))] H := hP
                replace hD : va_D A [(k0, .inl (cI, 1201, .inl c0)), (k, .inr (11, [.ref k0, .ref k1, .ref k2, .int c3, .ref k4, .ref k5, .ref k6, .ref k7, .ref k8, .int c9, .ref ka, .ref kb, .int cc, .int cd, .int ce, .int scf_98, .int cg, .int ch, .int ci, .int cj, .int ck, .ref kl, .int cm, .int cn, .ref ko]))] := hD
                have lo_scf_98 := k_lo scf_98
                have hi_scf_98 := k_hi scf_98
                rcases w_97 with ⟨h_99, h_100, h_101⟩ | h_102
                · (try simp only [zl_0] at h_99 h_100 h_101); exfalso; omega
                · try simp only [zl_0] at h_102
                  have h_102 : scf_98.toInt = 1 := h_102
                  refine lv_aload_n hx hb dX11_one_162 rfl (lv_at hl 2 rfl) ?_
                  refine va_get (D := D) (ci := 11) (v := .int scf_98) (C := RX11) (T := TX11) (N := 25) hx hb hT giX11 hown hK hP 1 rfl rfl 15 (by decide) (hT (Cond.fieldLink RX11 148 "DesertWireModel" "isWrong" "Z") mw_1171) (fun _ h9 => h9) rfl dX11_one_163 ?_
                  refine b_if_eq hx hb rfl (tgt := 171) dX11_one_166 (by decide) (fun c_103 => by exfalso; omega) (fun c_103 => ?_)
                  refine lv_iconst (v := 0) hx hb dX11_one_169 (by decide) ?_
                  exact hRet (cd, scf_98) [1, 0] ⟨(by first | omega | (simp only [zl_0] <;> omega) | decide | assumption | rfl | (dsimp only; first | omega | (simp only [zl_0] <;> omega))), (by first | omega | (simp only [zl_0] <;> omega) | decide | assumption | rfl | (dsimp only; first | omega | (simp only [zl_0] <;> omega)))⟩ hP hD (by decide) rfl hS rfl dX11_one_170
    · refine lv_iconst (v := 0) hx hb dX11_one_12 (by decide) ?_
      exact hRet (cd, cf) [0, 1] ⟨(by first | omega | (simp only [zl_0] <;> omega) | decide | assumption | rfl | (dsimp only; first | omega | (simp only [zl_0] <;> omega))), (by first | omega | (simp only [zl_0] <;> omega) | decide | assumption | rfl | (dsimp only; first | omega | (simp only [zl_0] <;> omega)))⟩ hP hD (by decide) rfl hS rfl dX11_one_13
  · have h_5 : cd.toInt = ce.toInt := h_5
    obtain rfl : r_1 = (-1) := hr_1.trans (by decide)
    refine lv_istore_n (lv' := [(1, .int (-1)), (0, .ref k)]) hx hb dX11_one_4 rfl hl (by decide) rfl ?_
    clear hl
    intro ls hl
    refine lv_aload_n hx hb dX11_one_5 rfl (lv_at hl 1 rfl) ?_
    refine va_get (D := D) (ci := 11) (v := .int cf) (C := RX11) (T := TX11) (N := 25) hx hb hT giX11 hown hK hP 0 rfl rfl 15 (by decide) (hT (Cond.fieldLink RX11 148 "DesertWireModel" "isWrong" "Z") mw_1171) (fun _ h9 => h9) rfl dX11_one_6 ?_
    refine b_if_eq hx hb rfl (tgt := 14) dX11_one_9 (by decide) (fun c_104 => ?_) (fun c_104 => ?_)
    · refine lv_iload_n hx hb dX11_one_14 rfl (lv_at hl 0 rfl) ?_
      refine lv_bipush (v := 48) hx hb dX11_one_15 (by decide) ?_
      refine lv_bipush (v := 57) hx hb dX11_one_17 (by decide) ?_
      refine kJi (wr := [(k, .inr (11, [.ref k0, .ref k1, .ref k2, .int c3, .ref k4, .ref k5, .ref k6, .ref k7, .ref k8, .int c9, .ref ka, .ref kb, .int cc, .int cd, .int ce, .int cf, .int cg, .int ch, .int ci, .int cj, .int ck, .ref kl, .int cm, .int cn, .ref ko])), (k0, .inl (cI, 1201, .inl c0))]) (va_runS (As := [.int (-1), .int 48, .int 57]) (rest := []) ⟨hx, hb, hml, hown, hT⟩ (c_X11_inG l D cI aK aV H.size (-1) 48 57) (cwS 3 hT (gS_in mw_1238 mw_1236 mw_1237 mw_12) rfl rfl rfl (by decide +kernel) ⟨Nat.le_of_ble_eq_true rfl, Nat.le_of_ble_eq_true rfl⟩) (kStatX hK hP hD hN hXS hS hA [] rfl (by decide)) rfl rfl hl.1 rfl (lv_room (Nat.le_of_ble_eq_true rfl)) dX11_one_19 ⟨Nat.le_of_ble_eq_true rfl, Nat.le_of_ble_eq_true rfl⟩) hP hD hS hA [] [0, 1] rfl rfl (by decide) (by decide) ?_
      clear hP hD hS
      intro r_105 u_107 H locs w_106 hP hD hS
      replace hP : va_P D vwCl [(k, .inr (11, [.ref k0, .ref k1, .ref k2, .int c3, .ref k4, .ref k5, .ref k6, .ref k7, .ref k8, .int c9, .ref ka, .ref kb, .int cc, .int cd, .int ce, .int cf, .int cg, .int ch, .int ci, .int cj, .int ck, .ref kl, .int cm, .int cn, .ref ko])), (k0, .inl (cI, 1201, .inl c0))] H := hP
      replace hD : va_D A [(k, .inr (11, [.ref k0, .ref k1, .ref k2, .int c3, .ref k4, .ref k5, .ref k6, .ref k7, .ref k8, .int c9, .ref ka, .ref kb, .int cc, .int cd, .int ce, .int cf, .int cg, .int ch, .int ci, .int cj, .int ck, .ref kl, .int cm, .int cn, .ref ko])), (k0, .inl (cI, 1201, .inl c0))] := hD
      rcases w_106 with ⟨hr_105, h_108, h_109⟩ | ⟨hr_105, h_110⟩
      · (try simp only [zl_m1, zl_48, zl_57] at h_108 h_109); exfalso; omega
      · try simp only [zl_m1, zl_48, zl_57] at h_110
        obtain rfl : r_105 = 0 := hr_105.trans (by decide)
        refine b_if_eq hx hb zl_0 (tgt := 79) dX11_one_22 (by decide) (fun c_111 => ?_) (fun c_111 => by exfalso; omega)
        refine lv_aload_n hx hb dX11_one_79 rfl (lv_at hl 1 rfl) ?_
        refine lv_iload_n hx hb dX11_one_80 rfl (lv_at hl 0 rfl) ?_
        refine kJi (wr := [(k0, .inl (cI, 1201, .inl c0))]) (va_runV (As := [.int (-1)]) (rest := []) ⟨hx, hb, hml, hown, hT⟩ (c_X11_nameAtG l D cI aK aV k k0 k1 k2 k4 k5 k6 k7 k8 ka kb kl ko H.size c3 c9 cc cd ce cf cg ch ci cj ck cm cn (-1)) (cwV 1 hT (gV_in mw_1343 mw_1340 mw_1342 mw_p4_10 mw_12) rfl rfl rfl (by decide +kernel) ⟨Nat.le_of_ble_eq_true rfl, Nat.le_of_ble_eq_true rfl⟩) (kRecvX (q0 := 0) (ci := 11) hK hP hD hN hXS hS hA rfl rfl [0] rfl (by decide)) rfl rfl hl.1 rfl (lv_room (Nat.le_of_ble_eq_true rfl)) dX11_one_81 ⟨Nat.le_of_ble_eq_true rfl, Nat.le_of_ble_eq_true rfl⟩) hP hD hS hA [0] [1] rfl rfl (by decide) (by decide) ?_
        clear hP hD hS
        intro r_112 u_114 H locs w_113 hP hD hS
        replace hP : va_P D vwCl [(k0, .inl (cI, 1201, .inl c0)), (k, .inr (11, [.ref k0, .ref k1, .ref k2, .int c3, .ref k4, .ref k5, .ref k6, .ref k7, .ref k8, .int c9, .ref ka, .ref kb, .int cc, .int cd, .int ce, .int cf, .int cg, .int ch, .int ci, .int cj, .int ck, .ref kl, .int cm, .int cn, .ref ko]))] H := hP
        replace hD : va_D A [(k0, .inl (cI, 1201, .inl c0)), (k, .inr (11, [.ref k0, .ref k1, .ref k2, .int c3, .ref k4, .ref k5, .ref k6, .ref k7, .ref k8, .int c9, .ref ka, .ref kb, .int cc, .int cd, .int ce, .int cf, .int cg, .int ch, .int ci, .int cj, .int ck, .ref kl, .int cm, .int cn, .ref ko]))] := hD
        rcases w_113 with h_115 | hr_112
        · (try simp only [zl_m1] at h_115); exfalso; omega
        · obtain rfl : r_112 = (-1) := hr_112.trans (by decide)
          refine lv_istore_n (lv' := [(2, .int (-1)), (1, .int (-1)), (0, .ref k)]) hx hb dX11_one_84 rfl hl (by decide) rfl ?_
          clear hl
          intro ls hl
          refine lv_iload_n hx hb dX11_one_85 rfl (lv_at hl 0 rfl) ?_
          refine b_if_lt hx hb zl_m1 (tgt := 127) dX11_one_86 (by decide) (fun c_116 => ?_) (fun c_116 => by exfalso; omega)
          refine lv_aload_n hx hb dX11_one_127 rfl (lv_at hl 2 rfl) ?_
          refine lv_iload_n hx hb dX11_one_128 rfl (lv_at hl 1 rfl) ?_
          refine lv_bipush (v := 45) hx hb dX11_one_129 (by decide) ?_
          refine b_icmp_eq hx hb zl_m1 zl_45 (tgt := 146) dX11_one_131 (by decide) (fun c_117 => by exfalso; omega) (fun c_117 => ?_)
          refine lv_iload_n hx hb dX11_one_134 rfl (lv_at hl 1 rfl) ?_
          refine lv_bipush (v := 33) hx hb dX11_one_135 (by decide) ?_
          refine b_icmp_eq hx hb zl_m1 zl_33 (tgt := 146) dX11_one_137 (by decide) (fun c_118 => by exfalso; omega) (fun c_118 => ?_)
          refine lv_iload_n hx hb dX11_one_140 rfl (lv_at hl 1 rfl) ?_
          refine lv_bipush (v := 40) hx hb dX11_one_141 (by decide) ?_
          refine b_icmp_ne hx hb zl_m1 zl_40 (tgt := 158) dX11_one_143 (by decide) (fun c_119 => ?_) (fun c_119 => by exfalso; omega)
          refine lv_iconst (v := 0) hx hb dX11_one_158 (by decide) ?_
          refine kJv (wr := [(k0, .inl (cI, 1201, .inl c0))]) (va_runV (As := [.int 0]) (rest := []) ⟨hx, hb, hml, hown, hT⟩ (c_X11_needsG l D cI aK aV k k0 k1 k2 k4 k5 k6 k7 k8 ka kb kl ko H.size c3 c9 cc cd ce cf cg ch ci cj ck cm cn 0) (cwV 1 hT (gV_in mw_1347 mw_1344 mw_1346 mw_p4_11 mw_12) rfl rfl rfl (by decide +kernel) ⟨Nat.le_of_ble_eq_true rfl, Nat.le_of_ble_eq_true rfl⟩) (kRecvX (q0 := 1) (ci := 11) hK hP hD hN hXS hS hA rfl rfl [1] rfl (by decide)) rfl rfl hl.1 rfl (lv_room (Nat.le_of_ble_eq_true rfl)) dX11_one_159 ⟨Nat.le_of_ble_eq_true rfl, Nat.le_of_ble_eq_true rfl⟩) hP hD hS hA [1] [0] rfl rfl (by decide) (by decide) ?_
          clear hP hD hS
          intro scf_122 H locs w_121 hP hD hS
          replace hP : va_P D vwCl [(k0, .inl (cI, 1201, .inl c0)), (k, .inr (11, [.ref k0, .ref k1, .ref k2, .int c3, .ref k4, .ref k5, .ref k6, .ref k7, .ref k8, .int c9, .ref ka, .ref kb, .int cc, .int cd, .int ce, .int scf_122, .int cg, .int ch, .int ci, .int cj, .int ck, .ref kl, .int cm, .int cn, .ref ko]))] H := hP
          replace hD : va_D A [(k0, .inl (cI, 1201, .inl c0)), (k, .inr (11, [.ref k0, .ref k1, .ref k2, .int c3, .ref k4, .ref k5, .ref k6, .ref k7, .ref k8, .int c9, .ref ka, .ref kb, .int cc, .int cd, .int ce, .int scf_122, .int cg, .int ch, .int ci, .int cj, .int ck, .ref kl, .int cm, .int cn, .ref ko]))] := hD
          have lo_scf_122 := k_lo scf_122
          have hi_scf_122 := k_hi scf_122
          rcases w_121 with ⟨h_123, h_124, h_125⟩ | h_126
          · (try simp only [zl_0] at h_123 h_124 h_125); exfalso; omega
          · try simp only [zl_0] at h_126
            have h_126 : scf_122.toInt = 1 := h_126
            refine lv_aload_n hx hb dX11_one_162 rfl (lv_at hl 2 rfl) ?_
            refine va_get (D := D) (ci := 11) (v := .int scf_122) (C := RX11) (T := TX11) (N := 25) hx hb hT giX11 hown hK hP 1 rfl rfl 15 (by decide) (hT (Cond.fieldLink RX11 148 "DesertWireModel" "isWrong" "Z") mw_1171) (fun _ h9 => h9) rfl dX11_one_163 ?_
            refine b_if_eq hx hb rfl (tgt := 171) dX11_one_166 (by decide) (fun c_127 => by exfalso; omega) (fun c_127 => ?_)
            refine lv_iconst (v := 0) hx hb dX11_one_169 (by decide) ?_
            exact hRet (cd, scf_122) [1, 0] ⟨(by first | omega | (simp only [zl_0] <;> omega) | decide | assumption | rfl | (dsimp only; first | omega | (simp only [zl_0] <;> omega))), (by first | omega | (simp only [zl_0] <;> omega) | decide | assumption | rfl | (dsimp only; first | omega | (simp only [zl_0] <;> omega)))⟩ hP hD (by decide) rfl hS rfl dX11_one_170
    · refine lv_iconst (v := 0) hx hb dX11_one_12 (by decide) ?_
      exact hRet (cd, cf) [0, 1] ⟨(by first | omega | (simp only [zl_0] <;> omega) | decide | assumption | rfl | (dsimp only; first | omega | (simp only [zl_0] <;> omega))), (by first | omega | (simp only [zl_0] <;> omega) | decide | assumption | rfl | (dsimp only; first | omega | (simp only [zl_0] <;> omega)))⟩ hP hD (by decide) rfl hS rfl dX11_one_13
theorem dX11_product_0 : decode cX11_product 0 = .ok (.aload_n 0, 1) := by decide +kernel
theorem dX11_product_1 : decode cX11_product 1 = .ok (.invokevirtual 180, 3) := by decide +kernel
theorem dX11_product_4 : decode cX11_product 4 = .ok (.istore_n 1, 1) := by decide +kernel
theorem dX11_product_5 : decode cX11_product 5 = .ok (.aload_n 0, 1) := by decide +kernel
theorem dX11_product_6 : decode cX11_product 6 = .ok (.getfield 148, 3) := by decide +kernel
theorem dX11_product_9 : decode cX11_product 9 = .ok (.ifCond .ne 76, 3) := by decide +kernel
theorem dX11_product_12 : decode cX11_product 12 = .ok (.aload_n 0, 1) := by decide +kernel
theorem dX11_product_13 : decode cX11_product 13 = .ok (.invokevirtual 152, 3) := by decide +kernel
theorem dX11_product_16 : decode cX11_product 16 = .ok (.bipush 42, 2) := by decide +kernel
theorem dX11_product_18 : decode cX11_product 18 = .ok (.if_icmp .eq 12, 3) := by decide +kernel
theorem dX11_product_21 : decode cX11_product 21 = .ok (.aload_n 0, 1) := by decide +kernel
theorem dX11_product_22 : decode cX11_product 22 = .ok (.invokevirtual 152, 3) := by decide +kernel
theorem dX11_product_25 : decode cX11_product 25 = .ok (.bipush 37, 2) := by decide +kernel
theorem dX11_product_27 : decode cX11_product 27 = .ok (.if_icmp .ne 58, 3) := by decide +kernel
theorem dX11_product_30 : decode cX11_product 30 = .ok (.aload_n 0, 1) := by decide +kernel
theorem dX11_product_31 : decode cX11_product 31 = .ok (.invokevirtual 152, 3) := by decide +kernel
theorem dX11_product_34 : decode cX11_product 34 = .ok (.bipush 42, 2) := by decide +kernel
theorem dX11_product_36 : decode cX11_product 36 = .ok (.if_icmp .ne 7, 3) := by decide +kernel
theorem dX11_product_39 : decode cX11_product 39 = .ok (.iconst 1, 1) := by decide +kernel
theorem dX11_product_40 : decode cX11_product 40 = .ok (.goto 4, 3) := by decide +kernel
theorem dX11_product_43 : decode cX11_product 43 = .ok (.iconst 0, 1) := by decide +kernel
theorem dX11_product_44 : decode cX11_product 44 = .ok (.istore_n 2, 1) := by decide +kernel
theorem dX11_product_45 : decode cX11_product 45 = .ok (.aload_n 0, 1) := by decide +kernel
theorem dX11_product_46 : decode cX11_product 46 = .ok (.dup, 1) := by decide +kernel
theorem dX11_product_47 : decode cX11_product 47 = .ok (.getfield 138, 3) := by decide +kernel
theorem dX11_product_50 : decode cX11_product 50 = .ok (.iconst 1, 1) := by decide +kernel
theorem dX11_product_51 : decode cX11_product 51 = .ok (.iadd, 1) := by decide +kernel
theorem dX11_product_52 : decode cX11_product 52 = .ok (.putfield 138, 3) := by decide +kernel
theorem dX11_product_55 : decode cX11_product 55 = .ok (.aload_n 0, 1) := by decide +kernel
theorem dX11_product_56 : decode cX11_product 56 = .ok (.invokevirtual 180, 3) := by decide +kernel
theorem dX11_product_59 : decode cX11_product 59 = .ok (.istore_n 3, 1) := by decide +kernel
theorem dX11_product_60 : decode cX11_product 60 = .ok (.iload_n 2, 1) := by decide +kernel
theorem dX11_product_61 : decode cX11_product 61 = .ok (.ifCond .eq 9, 3) := by decide +kernel
theorem dX11_product_64 : decode cX11_product 64 = .ok (.iload_n 1, 1) := by decide +kernel
theorem dX11_product_65 : decode cX11_product 65 = .ok (.iload_n 3, 1) := by decide +kernel
theorem dX11_product_66 : decode cX11_product 66 = .ok (.imul, 1) := by decide +kernel
theorem dX11_product_67 : decode cX11_product 67 = .ok (.goto 14, 3) := by decide +kernel
theorem dX11_product_70 : decode cX11_product 70 = .ok (.iload_n 3, 1) := by decide +kernel
theorem dX11_product_71 : decode cX11_product 71 = .ok (.ifCond .ne 7, 3) := by decide +kernel
theorem dX11_product_74 : decode cX11_product 74 = .ok (.iconst 0, 1) := by decide +kernel
theorem dX11_product_75 : decode cX11_product 75 = .ok (.goto 6, 3) := by decide +kernel
theorem dX11_product_78 : decode cX11_product 78 = .ok (.iload_n 1, 1) := by decide +kernel
theorem dX11_product_79 : decode cX11_product 79 = .ok (.iload_n 3, 1) := by decide +kernel
theorem dX11_product_80 : decode cX11_product 80 = .ok (.irem, 1) := by decide +kernel
theorem dX11_product_81 : decode cX11_product 81 = .ok (.istore_n 1, 1) := by decide +kernel
theorem dX11_product_82 : decode cX11_product 82 = .ok (.goto (-77), 3) := by decide +kernel
theorem dX11_product_85 : decode cX11_product 85 = .ok (.iload_n 1, 1) := by decide +kernel
theorem dX11_product_86 : decode cX11_product 86 = .ok (.ireturn, 1) := by decide +kernel
set_option maxHeartbeats 4000000 in
set_option maxRecDepth 100000 in
theorem c_X11_productG4 (l : Launch) (D : va_G) (cI : ClassId) (aK aV : Nat → Nat) (k k0 k1 k2 k4 k5 k6 k7 k8 ka kb kl ko : Nat) (sz : Nat) (c3 : Int32) (c9 : Int32) (cc : Int32) (cd : Int32) (ce : Int32) (cf : Int32) (cg : Int32) (ch : Int32) (ci : Int32) (cj : Int32) (ck : Int32) (cm : Int32) (cn : Int32) (c0 : Nat → Int32) (pre0 : 0 ≤ cc.toInt) (pre1 : cc.toInt ≤ 1151) (pre2 : 0 ≤ cd.toInt) (pre3 : cd.toInt ≤ ce.toInt) (pre4 : ce.toInt ≤ 50) (pre5 : cg.toInt = 4) : Met l yX11_product (gW yX11_product cX11_product 4 (some .int)) ({ frames := 2, cells := 0, slots := 0, locals := 45 } : Room) (kPreX D cI aK aV [.ref k] [(k, .inr (11, [.ref k0, .ref k1, .ref k2, .int c3, .ref k4, .ref k5, .ref k6, .ref k7, .ref k8, .int c9, .ref ka, .ref kb, .int cc, .int cd, .int ce, .int cf, .int cg, .int ch, .int ci, .int cj, .int ck, .ref kl, .int cm, .int cn, .ref ko])), (k0, .inl (cI, 1201, .inl c0))] sz) (va_Qi (fun (r : Int32) (u : Int32 × Int32) => cd.toInt ≤ u.1.toInt ∧ u.1.toInt ≤ ce.toInt) (fun u t => kWd D cI (va_A [(k, .inr (11, [.ref k0, .ref k1, .ref k2, .int c3, .ref k4, .ref k5, .ref k6, .ref k7, .ref k8, .int c9, .ref ka, .ref kb, .int cc, .int cd, .int ce, .int cf, .int cg, .int ch, .int ci, .int cj, .int ck, .ref kl, .int cm, .int cn, .ref ko])), (k0, .inl (cI, 1201, .inl c0))] sz) [(k, .inr (11, [.ref k0, .ref k1, .ref k2, .int c3, .ref k4, .ref k5, .ref k6, .ref k7, .ref k8, .int c9, .ref ka, .ref kb, .int cc, .int u.1, .int ce, .int u.2, .int cg, .int ch, .int ci, .int cj, .int ck, .ref kl, .int cm, .int cn, .ref ko])), (k0, .inl (cI, 1201, .inl c0))] t) (va_A [(k, .inr (11, [.ref k0, .ref k1, .ref k2, .int c3, .ref k4, .ref k5, .ref k6, .ref k7, .ref k8, .int c9, .ref ka, .ref kb, .int cc, .int cd, .int ce, .int cf, .int cg, .int ch, .int ci, .int cj, .int ck, .ref kl, .int cm, .int cn, .ref ko])), (k0, .inl (cI, 1201, .inl c0))] sz)) 0 0 (va_A [(k, .inr (11, [.ref k0, .ref k1, .ref k2, .int c3, .ref k4, .ref k5, .ref k6, .ref k7, .ref k8, .int c9, .ref ka, .ref kb, .int cc, .int cd, .int ce, .int cf, .int cg, .int ch, .int ci, .int cj, .int ck, .ref kl, .int cm, .int cn, .ref ko])), (k0, .inl (cI, 1201, .inl c0))] sz) := by
  refine kMetIX (own := RX11) (by decide) rfl (Nat.le_of_ble_eq_true rfl) ?_
  intro p e s m args below meth c hx hb hT hown hname hml A Q hK hP hD hS hA hN hXS hRet ls hl
  have hl : lv_has ls 4 [(0, .ref k)] := hl
  have lo_cd := k_lo cd
  have hi_cd := k_hi cd
  have lo_ce := k_lo ce
  have hi_ce := k_hi ce
  have lo_ci := k_lo ci
  have hi_ci := k_hi ci
  refine lv_aload_n hx hb dX11_product_0 rfl (lv_at hl 0 rfl) ?_
  refine kJi (wr := []) (va_runV (As := []) (rest := []) ⟨hx, hb, hml, hown, hT⟩ (c_X11_oneG4 l D cI aK aV k k0 k1 k2 k4 k5 k6 k7 k8 ka kb kl ko s.heap.size c3 c9 cc cd ce cf cg ch ci cj ck cm cn c0 (by first | omega | decide | assumption | rfl) (by first | omega | decide | assumption | rfl) (by first | omega | decide | assumption | rfl) (by first | omega | decide | assumption | rfl) (by first | omega | decide | assumption | rfl) (by first | omega | decide | assumption | rfl)) (cwV 0 hT (gV_in mw_1335 mw_1332 mw_1334 mw_p4_8 mw_12) rfl rfl rfl (by decide +kernel) ⟨Nat.le_of_ble_eq_true rfl, Nat.le_of_ble_eq_true rfl⟩) (kRecvX (q0 := 0) (ci := 11) hK hP hD hN hXS hS hA rfl rfl [0, 1] rfl (by decide)) rfl rfl hl.1 rfl (lv_room (Nat.le_of_ble_eq_true rfl)) dX11_product_1 ⟨Nat.le_of_ble_eq_true rfl, Nat.le_of_ble_eq_true rfl⟩) hP hD hS hA [0, 1] [] rfl rfl (by decide) (by decide) ?_
  clear hP hD hS
  intro r_1 u_5 H locs w_2 hP hD hS
  obtain ⟨scd_3, scf_4⟩ := u_5
  replace hP : va_P D vwCl [(k, .inr (11, [.ref k0, .ref k1, .ref k2, .int c3, .ref k4, .ref k5, .ref k6, .ref k7, .ref k8, .int c9, .ref ka, .ref kb, .int cc, .int scd_3, .int ce, .int scf_4, .int cg, .int ch, .int ci, .int cj, .int ck, .ref kl, .int cm, .int cn, .ref ko])), (k0, .inl (cI, 1201, .inl c0))] H := hP
  replace hD : va_D A [(k, .inr (11, [.ref k0, .ref k1, .ref k2, .int c3, .ref k4, .ref k5, .ref k6, .ref k7, .ref k8, .int c9, .ref ka, .ref kb, .int cc, .int scd_3, .int ce, .int scf_4, .int cg, .int ch, .int ci, .int cj, .int ck, .ref kl, .int cm, .int cn, .ref ko])), (k0, .inl (cI, 1201, .inl c0))] := hD
  have lo_scd_3 := k_lo scd_3
  have hi_scd_3 := k_hi scd_3
  obtain ⟨h_6, h_7⟩ := w_2
  have h_6 : cd.toInt ≤ scd_3.toInt := h_6
  have h_7 : scd_3.toInt ≤ ce.toInt := h_7
  have lo_r_1 := k_lo r_1
  have hi_r_1 := k_hi r_1
  refine lv_istore_n (lv' := [(1, .int r_1), (0, .ref k)]) hx hb dX11_product_4 rfl hl (by decide) rfl ?_
  clear hl
  intro ls hl
  have hloop_5 : ∀ (fu_ : Nat) (l5_1 : Int32) (f5_kd : Int32) (f5_kf : Int32), scd_3.toInt ≤ f5_kd.toInt → f5_kd.toInt ≤ ce.toInt → (ce.toInt - f5_kd.toInt).toNat < fu_ → ∀ (ls : Array Slot) (H : Heap) (locs : List Loc), lv_has ls 4 [(1, .int l5_1), (0, .ref k)] → va_P D vwCl [(k, .inr (11, [.ref k0, .ref k1, .ref k2, .int c3, .ref k4, .ref k5, .ref k6, .ref k7, .ref k8, .int c9, .ref ka, .ref kb, .int cc, .int f5_kd, .int ce, .int f5_kf, .int cg, .int ch, .int ci, .int cj, .int ck, .ref kl, .int cm, .int cn, .ref ko])), (k0, .inl (cI, 1201, .inl c0))] H → va_D A [(k, .inr (11, [.ref k0, .ref k1, .ref k2, .int c3, .ref k4, .ref k5, .ref k6, .ref k7, .ref k8, .int c9, .ref ka, .ref kb, .int cc, .int f5_kd, .int ce, .int f5_kf, .int cg, .int ch, .int ci, .int cj, .int ck, .ref kl, .int cm, .int cn, .ref ko])), (k0, .inl (cI, 1201, .inl c0))] → va_S A s.heap H locs → W p l e ({ frames := 2, cells := 0, slots := 0, locals := 45 } : Room) s m args below meth c H locs 0 0 Q (F0 m 5 ls []) := by
    intro fu_; induction fu_ with
    | zero => intro l5_1 f5_kd f5_kf i5_0 i5_1 hm; exact absurd hm (by omega)
    | succ fu_ ih5 =>
        intro l5_1 f5_kd f5_kf i5_0 i5_1 hm ls H locs hl hP hD hS
        have lo_l5_1 := k_lo l5_1
        have hi_l5_1 := k_hi l5_1
        have lo_f5_kd := k_lo f5_kd
        have hi_f5_kd := k_hi f5_kd
        have lo_f5_kf := k_lo f5_kf
        have hi_f5_kf := k_hi f5_kf
        refine lv_aload_n hx hb dX11_product_5 rfl (lv_at hl 1 rfl) ?_
        refine va_get (D := D) (ci := 11) (v := .int f5_kf) (C := RX11) (T := TX11) (N := 25) hx hb hT giX11 hown hK hP 0 rfl rfl 15 (by decide) (hT (Cond.fieldLink RX11 148 "DesertWireModel" "isWrong" "Z") mw_1171) (fun _ h9 => h9) rfl dX11_product_6 ?_
        refine b_if_ne hx hb rfl (tgt := 85) dX11_product_9 (by decide) (fun c_8 => ?_) (fun c_8 => ?_)
        · refine lv_iload_n hx hb dX11_product_85 rfl (lv_at hl 0 rfl) ?_
          exact hRet (f5_kd, f5_kf) [0, 1] ⟨(by first | omega | decide | assumption | rfl | (dsimp only; first | omega)), (by first | omega | decide | assumption | rfl | (dsimp only; first | omega))⟩ hP hD (by decide) rfl hS rfl dX11_product_86
        · refine lv_aload_n hx hb dX11_product_12 rfl (lv_at hl 1 rfl) ?_
          refine kJi (wr := []) (va_runV (As := []) (rest := []) ⟨hx, hb, hml, hown, hT⟩ (c_X11_nowG l D cI aK aV k k0 k1 k2 k4 k5 k6 k7 k8 ka kb kl ko H.size c3 c9 cc f5_kd ce f5_kf cg ch ci cj ck cm cn c0 (by first | omega | decide | assumption | rfl) (by first | omega | decide | assumption | rfl) (by first | omega | decide | assumption | rfl) (by first | omega | decide | assumption | rfl) (by first | omega | decide | assumption | rfl)) (cwV 0 hT (gV_in mw_1339 mw_1336 mw_1338 mw_p4_9 mw_12) rfl rfl rfl (by decide +kernel) ⟨Nat.le_of_ble_eq_true rfl, Nat.le_of_ble_eq_true rfl⟩) (kRecvX (q0 := 0) (ci := 11) hK hP hD hN hXS hS hA rfl rfl [0, 1] rfl (by decide)) rfl rfl hl.1 rfl (lv_room (Nat.le_of_ble_eq_true rfl)) dX11_product_13 ⟨Nat.le_of_ble_eq_true rfl, Nat.le_of_ble_eq_true rfl⟩) hP hD hS hA [0, 1] [] rfl rfl (by decide) (by decide) ?_
          clear hP hD hS
          intro r_9 u_11 H locs w_10 hP hD hS
          replace hP : va_P D vwCl [(k, .inr (11, [.ref k0, .ref k1, .ref k2, .int c3, .ref k4, .ref k5, .ref k6, .ref k7, .ref k8, .int c9, .ref ka, .ref kb, .int cc, .int f5_kd, .int ce, .int f5_kf, .int cg, .int ch, .int ci, .int cj, .int ck, .ref kl, .int cm, .int cn, .ref ko])), (k0, .inl (cI, 1201, .inl c0))] H := hP
          replace hD : va_D A [(k, .inr (11, [.ref k0, .ref k1, .ref k2, .int c3, .ref k4, .ref k5, .ref k6, .ref k7, .ref k8, .int c9, .ref ka, .ref kb, .int cc, .int f5_kd, .int ce, .int f5_kf, .int cg, .int ch, .int ci, .int cj, .int ck, .ref kl, .int cm, .int cn, .ref ko])), (k0, .inl (cI, 1201, .inl c0))] := hD
          rcases w_10 with h_12 | ⟨hr_9, h_13⟩
          · have h_12 : f5_kd.toInt < ce.toInt := h_12
            have lo_r_9 := k_lo r_9
            have hi_r_9 := k_hi r_9
            refine lv_bipush (v := 42) hx hb dX11_product_16 (by decide) ?_
            refine b_icmp_eq hx hb rfl zl_42 (tgt := 30) dX11_product_18 (by decide) (fun c_14 => ?_) (fun c_14 => ?_)
            · refine lv_aload_n hx hb dX11_product_30 rfl (lv_at hl 1 rfl) ?_
              refine kJi (wr := []) (va_runV (As := []) (rest := []) ⟨hx, hb, hml, hown, hT⟩ (c_X11_nowG l D cI aK aV k k0 k1 k2 k4 k5 k6 k7 k8 ka kb kl ko H.size c3 c9 cc f5_kd ce f5_kf cg ch ci cj ck cm cn c0 (by first | omega | decide | assumption | rfl) (by first | omega | decide | assumption | rfl) (by first | omega | decide | assumption | rfl) (by first | omega | decide | assumption | rfl) (by first | omega | decide | assumption | rfl)) (cwV 0 hT (gV_in mw_1339 mw_1336 mw_1338 mw_p4_9 mw_12) rfl rfl rfl (by decide +kernel) ⟨Nat.le_of_ble_eq_true rfl, Nat.le_of_ble_eq_true rfl⟩) (kRecvX (q0 := 0) (ci := 11) hK hP hD hN hXS hS hA rfl rfl [0, 1] rfl (by decide)) rfl rfl hl.1 rfl (lv_room (Nat.le_of_ble_eq_true rfl)) dX11_product_31 ⟨Nat.le_of_ble_eq_true rfl, Nat.le_of_ble_eq_true rfl⟩) hP hD hS hA [0, 1] [] rfl rfl (by decide) (by decide) ?_
              clear hP hD hS
              intro r_15 u_17 H locs w_16 hP hD hS
              replace hP : va_P D vwCl [(k, .inr (11, [.ref k0, .ref k1, .ref k2, .int c3, .ref k4, .ref k5, .ref k6, .ref k7, .ref k8, .int c9, .ref ka, .ref kb, .int cc, .int f5_kd, .int ce, .int f5_kf, .int cg, .int ch, .int ci, .int cj, .int ck, .ref kl, .int cm, .int cn, .ref ko])), (k0, .inl (cI, 1201, .inl c0))] H := hP
              replace hD : va_D A [(k, .inr (11, [.ref k0, .ref k1, .ref k2, .int c3, .ref k4, .ref k5, .ref k6, .ref k7, .ref k8, .int c9, .ref ka, .ref kb, .int cc, .int f5_kd, .int ce, .int f5_kf, .int cg, .int ch, .int ci, .int cj, .int ck, .ref kl, .int cm, .int cn, .ref ko])), (k0, .inl (cI, 1201, .inl c0))] := hD
              rcases w_16 with h_18 | ⟨hr_15, h_19⟩
              · have h_18 : f5_kd.toInt < ce.toInt := h_18
                have lo_r_15 := k_lo r_15
                have hi_r_15 := k_hi r_15
                refine lv_bipush (v := 42) hx hb dX11_product_34 (by decide) ?_
                refine b_icmp_ne hx hb rfl zl_42 (tgt := 43) dX11_product_36 (by decide) (fun c_20 => ?_) (fun c_20 => ?_)
                · refine lv_iconst (v := 0) hx hb dX11_product_43 (by decide) ?_
                  refine lv_istore_n (lv' := [(2, .int 0), (1, .int l5_1), (0, .ref k)]) hx hb dX11_product_44 rfl hl (by decide) rfl ?_
                  clear hl
                  intro ls hl
                  refine lv_aload_n hx hb dX11_product_45 rfl (lv_at hl 2 rfl) ?_
                  refine lv_dup hx hb dX11_product_46 rfl ?_
                  refine va_get (D := D) (ci := 11) (v := .int f5_kd) (C := RX11) (T := TX11) (N := 25) hx hb hT giX11 hown hK hP 0 rfl rfl 13 (by decide) (hT (Cond.fieldLink RX11 138 "DesertWireModel" "here" "I") mw_1169) (fun _ h9 => h9) rfl dX11_product_47 ?_
                  refine lv_iconst (v := 1) hx hb dX11_product_50 (by decide) ?_
                  refine lv_iadd hx hb dX11_product_51 ?_
                  refine lv_topi (fun v_21 ev_21 => ?_)
                  have tv_21 : v_21.toInt = f5_kd.toInt + 1 := by rw [ev_21]; exact k_addv rfl zl_1 (by omega) (by omega)
                  refine va_put (D := D) (ci := 11) (v := .int v_21) (ty := .int) (C := RX11) (T := TX11) (N := 25) hx hb hT giX11 tyX11 tyX11_ok nmX11 hown hK hP hD hS 0 rfl rfl 13 (by decide) (hT (Cond.fieldLink RX11 138 "DesertWireModel" "here" "I") mw_1169) (fun _ h9 => h9) rfl (by decide +kernel) rfl rfl (Nat.le_of_ble_eq_true rfl) dX11_product_52 ?_
                  clear hP hD hS
                  intro H locs hP hD hS
                  replace hP : va_P D vwCl [(k, .inr (11, [.ref k0, .ref k1, .ref k2, .int c3, .ref k4, .ref k5, .ref k6, .ref k7, .ref k8, .int c9, .ref ka, .ref kb, .int cc, .int v_21, .int ce, .int f5_kf, .int cg, .int ch, .int ci, .int cj, .int ck, .ref kl, .int cm, .int cn, .ref ko])), (k0, .inl (cI, 1201, .inl c0))] H := hP
                  replace hD : va_D A [(k, .inr (11, [.ref k0, .ref k1, .ref k2, .int c3, .ref k4, .ref k5, .ref k6, .ref k7, .ref k8, .int c9, .ref ka, .ref kb, .int cc, .int v_21, .int ce, .int f5_kf, .int cg, .int ch, .int ci, .int cj, .int ck, .ref kl, .int cm, .int cn, .ref ko])), (k0, .inl (cI, 1201, .inl c0))] := hD
                  refine lv_aload_n hx hb dX11_product_55 rfl (lv_at hl 2 rfl) ?_
                  refine kJi (wr := []) (va_runV (As := []) (rest := []) ⟨hx, hb, hml, hown, hT⟩ (c_X11_oneG4 l D cI aK aV k k0 k1 k2 k4 k5 k6 k7 k8 ka kb kl ko H.size c3 c9 cc v_21 ce f5_kf cg ch ci cj ck cm cn c0 (by first | omega | decide | assumption | rfl) (by first | omega | decide | assumption | rfl) (by first | omega | decide | assumption | rfl) (by first | omega | decide | assumption | rfl) (by first | omega | decide | assumption | rfl) (by first | omega | decide | assumption | rfl)) (cwV 0 hT (gV_in mw_1335 mw_1332 mw_1334 mw_p4_8 mw_12) rfl rfl rfl (by decide +kernel) ⟨Nat.le_of_ble_eq_true rfl, Nat.le_of_ble_eq_true rfl⟩) (kRecvX (q0 := 0) (ci := 11) hK hP hD hN hXS hS hA rfl rfl [0, 1] rfl (by decide)) rfl rfl hl.1 rfl (lv_room (Nat.le_of_ble_eq_true rfl)) dX11_product_56 ⟨Nat.le_of_ble_eq_true rfl, Nat.le_of_ble_eq_true rfl⟩) hP hD hS hA [0, 1] [] rfl rfl (by decide) (by decide) ?_
                  clear hP hD hS
                  intro r_22 u_26 H locs w_23 hP hD hS
                  obtain ⟨scd_24, scf_25⟩ := u_26
                  replace hP : va_P D vwCl [(k, .inr (11, [.ref k0, .ref k1, .ref k2, .int c3, .ref k4, .ref k5, .ref k6, .ref k7, .ref k8, .int c9, .ref ka, .ref kb, .int cc, .int scd_24, .int ce, .int scf_25, .int cg, .int ch, .int ci, .int cj, .int ck, .ref kl, .int cm, .int cn, .ref ko])), (k0, .inl (cI, 1201, .inl c0))] H := hP
                  replace hD : va_D A [(k, .inr (11, [.ref k0, .ref k1, .ref k2, .int c3, .ref k4, .ref k5, .ref k6, .ref k7, .ref k8, .int c9, .ref ka, .ref kb, .int cc, .int scd_24, .int ce, .int scf_25, .int cg, .int ch, .int ci, .int cj, .int ck, .ref kl, .int cm, .int cn, .ref ko])), (k0, .inl (cI, 1201, .inl c0))] := hD
                  have lo_scd_24 := k_lo scd_24
                  have hi_scd_24 := k_hi scd_24
                  obtain ⟨h_27, h_28⟩ := w_23
                  have h_27 : v_21.toInt ≤ scd_24.toInt := h_27
                  have h_28 : scd_24.toInt ≤ ce.toInt := h_28
                  have lo_r_22 := k_lo r_22
                  have hi_r_22 := k_hi r_22
                  refine lv_istore_n (lv' := [(3, .int r_22), (2, .int 0), (1, .int l5_1), (0, .ref k)]) hx hb dX11_product_59 rfl hl (by decide) rfl ?_
                  clear hl
                  intro ls hl
                  refine lv_iload_n hx hb dX11_product_60 rfl (lv_at hl 1 rfl) ?_
                  refine b_if_eq hx hb zl_0 (tgt := 70) dX11_product_61 (by decide) (fun c_29 => ?_) (fun c_29 => by exfalso; omega)
                  refine lv_iload_n hx hb dX11_product_70 rfl (lv_at hl 0 rfl) ?_
                  refine b_if_ne hx hb rfl (tgt := 78) dX11_product_71 (by decide) (fun c_30 => ?_) (fun c_30 => ?_)
                  · refine lv_iload_n hx hb dX11_product_78 rfl (lv_at hl 2 rfl) ?_
                    refine lv_iload_n hx hb dX11_product_79 rfl (lv_at hl 0 rfl) ?_
                    refine lv_irem hx hb dX11_product_80 (k_ne0 (by omega)) ?_
                    refine lv_topi (fun v_31 ev_31 => ?_)
                    have lo_v_31 := k_lo v_31
                    have hi_v_31 := k_hi v_31
                    refine lv_istore_n (lv' := [(1, .int v_31), (3, .int r_22), (2, .int 0), (0, .ref k)]) hx hb dX11_product_81 rfl hl (by decide) rfl ?_
                    clear hl
                    intro ls hl
                    refine lv_goto (tgt := 5) hx hb dX11_product_82 (by decide) ?_
                    exact ih5 v_31 scd_24 scf_25 (by first | omega | decide | assumption | rfl) (by first | omega | decide | assumption | rfl) (by omega) ls _ _ (lv_sub hl [0, 3] rfl) (hP.sub [0, 1] rfl) (hD.sub [0, 1] (by decide) rfl) hS
                  · refine lv_iconst (v := 0) hx hb dX11_product_74 (by decide) ?_
                    refine lv_goto (tgt := 81) hx hb dX11_product_75 (by decide) ?_
                    refine lv_istore_n (lv' := [(1, .int 0), (3, .int r_22), (2, .int 0), (0, .ref k)]) hx hb dX11_product_81 rfl hl (by decide) rfl ?_
                    clear hl
                    intro ls hl
                    refine lv_goto (tgt := 5) hx hb dX11_product_82 (by decide) ?_
                    exact ih5 0 scd_24 scf_25 (by first | omega | (simp only [zl_0] <;> omega) | decide | assumption | rfl) (by first | omega | (simp only [zl_0] <;> omega) | decide | assumption | rfl) (by omega) ls _ _ (lv_sub hl [0, 3] rfl) (hP.sub [0, 1] rfl) (hD.sub [0, 1] (by decide) rfl) hS
                · refine lv_iconst (v := 1) hx hb dX11_product_39 (by decide) ?_
                  refine lv_goto (tgt := 44) hx hb dX11_product_40 (by decide) ?_
                  refine lv_istore_n (lv' := [(2, .int 1), (1, .int l5_1), (0, .ref k)]) hx hb dX11_product_44 rfl hl (by decide) rfl ?_
                  clear hl
                  intro ls hl
                  refine lv_aload_n hx hb dX11_product_45 rfl (lv_at hl 2 rfl) ?_
                  refine lv_dup hx hb dX11_product_46 rfl ?_
                  refine va_get (D := D) (ci := 11) (v := .int f5_kd) (C := RX11) (T := TX11) (N := 25) hx hb hT giX11 hown hK hP 0 rfl rfl 13 (by decide) (hT (Cond.fieldLink RX11 138 "DesertWireModel" "here" "I") mw_1169) (fun _ h9 => h9) rfl dX11_product_47 ?_
                  refine lv_iconst (v := 1) hx hb dX11_product_50 (by decide) ?_
                  refine lv_iadd hx hb dX11_product_51 ?_
                  refine lv_topi (fun v_32 ev_32 => ?_)
                  have tv_32 : v_32.toInt = f5_kd.toInt + 1 := by rw [ev_32]; exact k_addv rfl zl_1 (by omega) (by omega)
                  refine va_put (D := D) (ci := 11) (v := .int v_32) (ty := .int) (C := RX11) (T := TX11) (N := 25) hx hb hT giX11 tyX11 tyX11_ok nmX11 hown hK hP hD hS 0 rfl rfl 13 (by decide) (hT (Cond.fieldLink RX11 138 "DesertWireModel" "here" "I") mw_1169) (fun _ h9 => h9) rfl (by decide +kernel) rfl rfl (Nat.le_of_ble_eq_true rfl) dX11_product_52 ?_
                  clear hP hD hS
                  intro H locs hP hD hS
                  replace hP : va_P D vwCl [(k, .inr (11, [.ref k0, .ref k1, .ref k2, .int c3, .ref k4, .ref k5, .ref k6, .ref k7, .ref k8, .int c9, .ref ka, .ref kb, .int cc, .int v_32, .int ce, .int f5_kf, .int cg, .int ch, .int ci, .int cj, .int ck, .ref kl, .int cm, .int cn, .ref ko])), (k0, .inl (cI, 1201, .inl c0))] H := hP
                  replace hD : va_D A [(k, .inr (11, [.ref k0, .ref k1, .ref k2, .int c3, .ref k4, .ref k5, .ref k6, .ref k7, .ref k8, .int c9, .ref ka, .ref kb, .int cc, .int v_32, .int ce, .int f5_kf, .int cg, .int ch, .int ci, .int cj, .int ck, .ref kl, .int cm, .int cn, .ref ko])), (k0, .inl (cI, 1201, .inl c0))] := hD
                  refine lv_aload_n hx hb dX11_product_55 rfl (lv_at hl 2 rfl) ?_
                  refine kJi (wr := []) (va_runV (As := []) (rest := []) ⟨hx, hb, hml, hown, hT⟩ (c_X11_oneG4 l D cI aK aV k k0 k1 k2 k4 k5 k6 k7 k8 ka kb kl ko H.size c3 c9 cc v_32 ce f5_kf cg ch ci cj ck cm cn c0 (by first | omega | decide | assumption | rfl) (by first | omega | decide | assumption | rfl) (by first | omega | decide | assumption | rfl) (by first | omega | decide | assumption | rfl) (by first | omega | decide | assumption | rfl) (by first | omega | decide | assumption | rfl)) (cwV 0 hT (gV_in mw_1335 mw_1332 mw_1334 mw_p4_8 mw_12) rfl rfl rfl (by decide +kernel) ⟨Nat.le_of_ble_eq_true rfl, Nat.le_of_ble_eq_true rfl⟩) (kRecvX (q0 := 0) (ci := 11) hK hP hD hN hXS hS hA rfl rfl [0, 1] rfl (by decide)) rfl rfl hl.1 rfl (lv_room (Nat.le_of_ble_eq_true rfl)) dX11_product_56 ⟨Nat.le_of_ble_eq_true rfl, Nat.le_of_ble_eq_true rfl⟩) hP hD hS hA [0, 1] [] rfl rfl (by decide) (by decide) ?_
                  clear hP hD hS
                  intro r_33 u_37 H locs w_34 hP hD hS
                  obtain ⟨scd_35, scf_36⟩ := u_37
                  replace hP : va_P D vwCl [(k, .inr (11, [.ref k0, .ref k1, .ref k2, .int c3, .ref k4, .ref k5, .ref k6, .ref k7, .ref k8, .int c9, .ref ka, .ref kb, .int cc, .int scd_35, .int ce, .int scf_36, .int cg, .int ch, .int ci, .int cj, .int ck, .ref kl, .int cm, .int cn, .ref ko])), (k0, .inl (cI, 1201, .inl c0))] H := hP
                  replace hD : va_D A [(k, .inr (11, [.ref k0, .ref k1, .ref k2, .int c3, .ref k4, .ref k5, .ref k6, .ref k7, .ref k8, .int c9, .ref ka, .ref kb, .int cc, .int scd_35, .int ce, .int scf_36, .int cg, .int ch, .int ci, .int cj, .int ck, .ref kl, .int cm, .int cn, .ref ko])), (k0, .inl (cI, 1201, .inl c0))] := hD
                  have lo_scd_35 := k_lo scd_35
                  have hi_scd_35 := k_hi scd_35
                  obtain ⟨h_38, h_39⟩ := w_34
                  have h_38 : v_32.toInt ≤ scd_35.toInt := h_38
                  have h_39 : scd_35.toInt ≤ ce.toInt := h_39
                  have lo_r_33 := k_lo r_33
                  have hi_r_33 := k_hi r_33
                  refine lv_istore_n (lv' := [(3, .int r_33), (2, .int 1), (1, .int l5_1), (0, .ref k)]) hx hb dX11_product_59 rfl hl (by decide) rfl ?_
                  clear hl
                  intro ls hl
                  refine lv_iload_n hx hb dX11_product_60 rfl (lv_at hl 1 rfl) ?_
                  refine b_if_eq hx hb zl_1 (tgt := 70) dX11_product_61 (by decide) (fun c_40 => by exfalso; omega) (fun c_40 => ?_)
                  refine lv_iload_n hx hb dX11_product_64 rfl (lv_at hl 2 rfl) ?_
                  refine lv_iload_n hx hb dX11_product_65 rfl (lv_at hl 0 rfl) ?_
                  refine lv_imul hx hb dX11_product_66 ?_
                  refine lv_topi (fun v_41 ev_41 => ?_)
                  have lo_v_41 := k_lo v_41
                  have hi_v_41 := k_hi v_41
                  refine lv_goto (tgt := 81) hx hb dX11_product_67 (by decide) ?_
                  refine lv_istore_n (lv' := [(1, .int v_41), (3, .int r_33), (2, .int 1), (0, .ref k)]) hx hb dX11_product_81 rfl hl (by decide) rfl ?_
                  clear hl
                  intro ls hl
                  refine lv_goto (tgt := 5) hx hb dX11_product_82 (by decide) ?_
                  exact ih5 v_41 scd_35 scf_36 (by first | omega | decide | assumption | rfl) (by first | omega | decide | assumption | rfl) (by omega) ls _ _ (lv_sub hl [0, 3] rfl) (hP.sub [0, 1] rfl) (hD.sub [0, 1] (by decide) rfl) hS
              · exfalso; omega
            · refine lv_aload_n hx hb dX11_product_21 rfl (lv_at hl 1 rfl) ?_
              refine kJi (wr := []) (va_runV (As := []) (rest := []) ⟨hx, hb, hml, hown, hT⟩ (c_X11_nowG l D cI aK aV k k0 k1 k2 k4 k5 k6 k7 k8 ka kb kl ko H.size c3 c9 cc f5_kd ce f5_kf cg ch ci cj ck cm cn c0 (by first | omega | decide | assumption | rfl) (by first | omega | decide | assumption | rfl) (by first | omega | decide | assumption | rfl) (by first | omega | decide | assumption | rfl) (by first | omega | decide | assumption | rfl)) (cwV 0 hT (gV_in mw_1339 mw_1336 mw_1338 mw_p4_9 mw_12) rfl rfl rfl (by decide +kernel) ⟨Nat.le_of_ble_eq_true rfl, Nat.le_of_ble_eq_true rfl⟩) (kRecvX (q0 := 0) (ci := 11) hK hP hD hN hXS hS hA rfl rfl [0, 1] rfl (by decide)) rfl rfl hl.1 rfl (lv_room (Nat.le_of_ble_eq_true rfl)) dX11_product_22 ⟨Nat.le_of_ble_eq_true rfl, Nat.le_of_ble_eq_true rfl⟩) hP hD hS hA [0, 1] [] rfl rfl (by decide) (by decide) ?_
              clear hP hD hS
              intro r_42 u_44 H locs w_43 hP hD hS
              replace hP : va_P D vwCl [(k, .inr (11, [.ref k0, .ref k1, .ref k2, .int c3, .ref k4, .ref k5, .ref k6, .ref k7, .ref k8, .int c9, .ref ka, .ref kb, .int cc, .int f5_kd, .int ce, .int f5_kf, .int cg, .int ch, .int ci, .int cj, .int ck, .ref kl, .int cm, .int cn, .ref ko])), (k0, .inl (cI, 1201, .inl c0))] H := hP
              replace hD : va_D A [(k, .inr (11, [.ref k0, .ref k1, .ref k2, .int c3, .ref k4, .ref k5, .ref k6, .ref k7, .ref k8, .int c9, .ref ka, .ref kb, .int cc, .int f5_kd, .int ce, .int f5_kf, .int cg, .int ch, .int ci, .int cj, .int ck, .ref kl, .int cm, .int cn, .ref ko])), (k0, .inl (cI, 1201, .inl c0))] := hD
              rcases w_43 with h_45 | ⟨hr_42, h_46⟩
              · have h_45 : f5_kd.toInt < ce.toInt := h_45
                have lo_r_42 := k_lo r_42
                have hi_r_42 := k_hi r_42
                refine lv_bipush (v := 37) hx hb dX11_product_25 (by decide) ?_
                refine b_icmp_ne hx hb rfl zl_37 (tgt := 85) dX11_product_27 (by decide) (fun c_47 => ?_) (fun c_47 => ?_)
                · refine lv_iload_n hx hb dX11_product_85 rfl (lv_at hl 0 rfl) ?_
                  exact hRet (f5_kd, f5_kf) [0, 1] ⟨(by first | omega | decide | assumption | rfl | (dsimp only; first | omega)), (by first | omega | decide | assumption | rfl | (dsimp only; first | omega))⟩ hP hD (by decide) rfl hS rfl dX11_product_86
                · refine lv_aload_n hx hb dX11_product_30 rfl (lv_at hl 1 rfl) ?_
                  refine kJi (wr := []) (va_runV (As := []) (rest := []) ⟨hx, hb, hml, hown, hT⟩ (c_X11_nowG l D cI aK aV k k0 k1 k2 k4 k5 k6 k7 k8 ka kb kl ko H.size c3 c9 cc f5_kd ce f5_kf cg ch ci cj ck cm cn c0 (by first | omega | decide | assumption | rfl) (by first | omega | decide | assumption | rfl) (by first | omega | decide | assumption | rfl) (by first | omega | decide | assumption | rfl) (by first | omega | decide | assumption | rfl)) (cwV 0 hT (gV_in mw_1339 mw_1336 mw_1338 mw_p4_9 mw_12) rfl rfl rfl (by decide +kernel) ⟨Nat.le_of_ble_eq_true rfl, Nat.le_of_ble_eq_true rfl⟩) (kRecvX (q0 := 0) (ci := 11) hK hP hD hN hXS hS hA rfl rfl [0, 1] rfl (by decide)) rfl rfl hl.1 rfl (lv_room (Nat.le_of_ble_eq_true rfl)) dX11_product_31 ⟨Nat.le_of_ble_eq_true rfl, Nat.le_of_ble_eq_true rfl⟩) hP hD hS hA [0, 1] [] rfl rfl (by decide) (by decide) ?_
                  clear hP hD hS
                  intro r_48 u_50 H locs w_49 hP hD hS
                  replace hP : va_P D vwCl [(k, .inr (11, [.ref k0, .ref k1, .ref k2, .int c3, .ref k4, .ref k5, .ref k6, .ref k7, .ref k8, .int c9, .ref ka, .ref kb, .int cc, .int f5_kd, .int ce, .int f5_kf, .int cg, .int ch, .int ci, .int cj, .int ck, .ref kl, .int cm, .int cn, .ref ko])), (k0, .inl (cI, 1201, .inl c0))] H := hP
                  replace hD : va_D A [(k, .inr (11, [.ref k0, .ref k1, .ref k2, .int c3, .ref k4, .ref k5, .ref k6, .ref k7, .ref k8, .int c9, .ref ka, .ref kb, .int cc, .int f5_kd, .int ce, .int f5_kf, .int cg, .int ch, .int ci, .int cj, .int ck, .ref kl, .int cm, .int cn, .ref ko])), (k0, .inl (cI, 1201, .inl c0))] := hD
                  rcases w_49 with h_51 | ⟨hr_48, h_52⟩
                  · have h_51 : f5_kd.toInt < ce.toInt := h_51
                    have lo_r_48 := k_lo r_48
                    have hi_r_48 := k_hi r_48
                    refine lv_bipush (v := 42) hx hb dX11_product_34 (by decide) ?_
                    refine b_icmp_ne hx hb rfl zl_42 (tgt := 43) dX11_product_36 (by decide) (fun c_53 => ?_) (fun c_53 => ?_)
                    · refine lv_iconst (v := 0) hx hb dX11_product_43 (by decide) ?_
                      refine lv_istore_n (lv' := [(2, .int 0), (1, .int l5_1), (0, .ref k)]) hx hb dX11_product_44 rfl hl (by decide) rfl ?_
                      clear hl
                      intro ls hl
                      refine lv_aload_n hx hb dX11_product_45 rfl (lv_at hl 2 rfl) ?_
                      refine lv_dup hx hb dX11_product_46 rfl ?_
                      refine va_get (D := D) (ci := 11) (v := .int f5_kd) (C := RX11) (T := TX11) (N := 25) hx hb hT giX11 hown hK hP 0 rfl rfl 13 (by decide) (hT (Cond.fieldLink RX11 138 "DesertWireModel" "here" "I") mw_1169) (fun _ h9 => h9) rfl dX11_product_47 ?_
                      refine lv_iconst (v := 1) hx hb dX11_product_50 (by decide) ?_
                      refine lv_iadd hx hb dX11_product_51 ?_
                      refine lv_topi (fun v_54 ev_54 => ?_)
                      have tv_54 : v_54.toInt = f5_kd.toInt + 1 := by rw [ev_54]; exact k_addv rfl zl_1 (by omega) (by omega)
                      refine va_put (D := D) (ci := 11) (v := .int v_54) (ty := .int) (C := RX11) (T := TX11) (N := 25) hx hb hT giX11 tyX11 tyX11_ok nmX11 hown hK hP hD hS 0 rfl rfl 13 (by decide) (hT (Cond.fieldLink RX11 138 "DesertWireModel" "here" "I") mw_1169) (fun _ h9 => h9) rfl (by decide +kernel) rfl rfl (Nat.le_of_ble_eq_true rfl) dX11_product_52 ?_
                      clear hP hD hS
                      intro H locs hP hD hS
                      replace hP : va_P D vwCl [(k, .inr (11, [.ref k0, .ref k1, .ref k2, .int c3, .ref k4, .ref k5, .ref k6, .ref k7, .ref k8, .int c9, .ref ka, .ref kb, .int cc, .int v_54, .int ce, .int f5_kf, .int cg, .int ch, .int ci, .int cj, .int ck, .ref kl, .int cm, .int cn, .ref ko])), (k0, .inl (cI, 1201, .inl c0))] H := hP
                      replace hD : va_D A [(k, .inr (11, [.ref k0, .ref k1, .ref k2, .int c3, .ref k4, .ref k5, .ref k6, .ref k7, .ref k8, .int c9, .ref ka, .ref kb, .int cc, .int v_54, .int ce, .int f5_kf, .int cg, .int ch, .int ci, .int cj, .int ck, .ref kl, .int cm, .int cn, .ref ko])), (k0, .inl (cI, 1201, .inl c0))] := hD
                      refine lv_aload_n hx hb dX11_product_55 rfl (lv_at hl 2 rfl) ?_
                      refine kJi (wr := []) (va_runV (As := []) (rest := []) ⟨hx, hb, hml, hown, hT⟩ (c_X11_oneG4 l D cI aK aV k k0 k1 k2 k4 k5 k6 k7 k8 ka kb kl ko H.size c3 c9 cc v_54 ce f5_kf cg ch ci cj ck cm cn c0 (by first | omega | decide | assumption | rfl) (by first | omega | decide | assumption | rfl) (by first | omega | decide | assumption | rfl) (by first | omega | decide | assumption | rfl) (by first | omega | decide | assumption | rfl) (by first | omega | decide | assumption | rfl)) (cwV 0 hT (gV_in mw_1335 mw_1332 mw_1334 mw_p4_8 mw_12) rfl rfl rfl (by decide +kernel) ⟨Nat.le_of_ble_eq_true rfl, Nat.le_of_ble_eq_true rfl⟩) (kRecvX (q0 := 0) (ci := 11) hK hP hD hN hXS hS hA rfl rfl [0, 1] rfl (by decide)) rfl rfl hl.1 rfl (lv_room (Nat.le_of_ble_eq_true rfl)) dX11_product_56 ⟨Nat.le_of_ble_eq_true rfl, Nat.le_of_ble_eq_true rfl⟩) hP hD hS hA [0, 1] [] rfl rfl (by decide) (by decide) ?_
                      clear hP hD hS
                      intro r_55 u_59 H locs w_56 hP hD hS
                      obtain ⟨scd_57, scf_58⟩ := u_59
                      replace hP : va_P D vwCl [(k, .inr (11, [.ref k0, .ref k1, .ref k2, .int c3, .ref k4, .ref k5, .ref k6, .ref k7, .ref k8, .int c9, .ref ka, .ref kb, .int cc, .int scd_57, .int ce, .int scf_58, .int cg, .int ch, .int ci, .int cj, .int ck, .ref kl, .int cm, .int cn, .ref ko])), (k0, .inl (cI, 1201, .inl c0))] H := hP
                      replace hD : va_D A [(k, .inr (11, [.ref k0, .ref k1, .ref k2, .int c3, .ref k4, .ref k5, .ref k6, .ref k7, .ref k8, .int c9, .ref ka, .ref kb, .int cc, .int scd_57, .int ce, .int scf_58, .int cg, .int ch, .int ci, .int cj, .int ck, .ref kl, .int cm, .int cn, .ref ko])), (k0, .inl (cI, 1201, .inl c0))] := hD
                      have lo_scd_57 := k_lo scd_57
                      have hi_scd_57 := k_hi scd_57
                      obtain ⟨h_60, h_61⟩ := w_56
                      have h_60 : v_54.toInt ≤ scd_57.toInt := h_60
                      have h_61 : scd_57.toInt ≤ ce.toInt := h_61
                      have lo_r_55 := k_lo r_55
                      have hi_r_55 := k_hi r_55
                      refine lv_istore_n (lv' := [(3, .int r_55), (2, .int 0), (1, .int l5_1), (0, .ref k)]) hx hb dX11_product_59 rfl hl (by decide) rfl ?_
                      clear hl
                      intro ls hl
                      refine lv_iload_n hx hb dX11_product_60 rfl (lv_at hl 1 rfl) ?_
                      refine b_if_eq hx hb zl_0 (tgt := 70) dX11_product_61 (by decide) (fun c_62 => ?_) (fun c_62 => by exfalso; omega)
                      refine lv_iload_n hx hb dX11_product_70 rfl (lv_at hl 0 rfl) ?_
                      refine b_if_ne hx hb rfl (tgt := 78) dX11_product_71 (by decide) (fun c_63 => ?_) (fun c_63 => ?_)
                      · refine lv_iload_n hx hb dX11_product_78 rfl (lv_at hl 2 rfl) ?_
                        refine lv_iload_n hx hb dX11_product_79 rfl (lv_at hl 0 rfl) ?_
                        refine lv_irem hx hb dX11_product_80 (k_ne0 (by omega)) ?_
                        refine lv_topi (fun v_64 ev_64 => ?_)
                        have lo_v_64 := k_lo v_64
                        have hi_v_64 := k_hi v_64
                        refine lv_istore_n (lv' := [(1, .int v_64), (3, .int r_55), (2, .int 0), (0, .ref k)]) hx hb dX11_product_81 rfl hl (by decide) rfl ?_
                        clear hl
                        intro ls hl
                        refine lv_goto (tgt := 5) hx hb dX11_product_82 (by decide) ?_
                        exact ih5 v_64 scd_57 scf_58 (by first | omega | decide | assumption | rfl) (by first | omega | decide | assumption | rfl) (by omega) ls _ _ (lv_sub hl [0, 3] rfl) (hP.sub [0, 1] rfl) (hD.sub [0, 1] (by decide) rfl) hS
                      · refine lv_iconst (v := 0) hx hb dX11_product_74 (by decide) ?_
                        refine lv_goto (tgt := 81) hx hb dX11_product_75 (by decide) ?_
                        refine lv_istore_n (lv' := [(1, .int 0), (3, .int r_55), (2, .int 0), (0, .ref k)]) hx hb dX11_product_81 rfl hl (by decide) rfl ?_
                        clear hl
                        intro ls hl
                        refine lv_goto (tgt := 5) hx hb dX11_product_82 (by decide) ?_
                        exact ih5 0 scd_57 scf_58 (by first | omega | (simp only [zl_0] <;> omega) | decide | assumption | rfl) (by first | omega | (simp only [zl_0] <;> omega) | decide | assumption | rfl) (by omega) ls _ _ (lv_sub hl [0, 3] rfl) (hP.sub [0, 1] rfl) (hD.sub [0, 1] (by decide) rfl) hS
                    · refine lv_iconst (v := 1) hx hb dX11_product_39 (by decide) ?_
                      refine lv_goto (tgt := 44) hx hb dX11_product_40 (by decide) ?_
                      refine lv_istore_n (lv' := [(2, .int 1), (1, .int l5_1), (0, .ref k)]) hx hb dX11_product_44 rfl hl (by decide) rfl ?_
                      clear hl
                      intro ls hl
                      refine lv_aload_n hx hb dX11_product_45 rfl (lv_at hl 2 rfl) ?_
                      refine lv_dup hx hb dX11_product_46 rfl ?_
                      refine va_get (D := D) (ci := 11) (v := .int f5_kd) (C := RX11) (T := TX11) (N := 25) hx hb hT giX11 hown hK hP 0 rfl rfl 13 (by decide) (hT (Cond.fieldLink RX11 138 "DesertWireModel" "here" "I") mw_1169) (fun _ h9 => h9) rfl dX11_product_47 ?_
                      refine lv_iconst (v := 1) hx hb dX11_product_50 (by decide) ?_
                      refine lv_iadd hx hb dX11_product_51 ?_
                      refine lv_topi (fun v_65 ev_65 => ?_)
                      have tv_65 : v_65.toInt = f5_kd.toInt + 1 := by rw [ev_65]; exact k_addv rfl zl_1 (by omega) (by omega)
                      refine va_put (D := D) (ci := 11) (v := .int v_65) (ty := .int) (C := RX11) (T := TX11) (N := 25) hx hb hT giX11 tyX11 tyX11_ok nmX11 hown hK hP hD hS 0 rfl rfl 13 (by decide) (hT (Cond.fieldLink RX11 138 "DesertWireModel" "here" "I") mw_1169) (fun _ h9 => h9) rfl (by decide +kernel) rfl rfl (Nat.le_of_ble_eq_true rfl) dX11_product_52 ?_
                      clear hP hD hS
                      intro H locs hP hD hS
                      replace hP : va_P D vwCl [(k, .inr (11, [.ref k0, .ref k1, .ref k2, .int c3, .ref k4, .ref k5, .ref k6, .ref k7, .ref k8, .int c9, .ref ka, .ref kb, .int cc, .int v_65, .int ce, .int f5_kf, .int cg, .int ch, .int ci, .int cj, .int ck, .ref kl, .int cm, .int cn, .ref ko])), (k0, .inl (cI, 1201, .inl c0))] H := hP
                      replace hD : va_D A [(k, .inr (11, [.ref k0, .ref k1, .ref k2, .int c3, .ref k4, .ref k5, .ref k6, .ref k7, .ref k8, .int c9, .ref ka, .ref kb, .int cc, .int v_65, .int ce, .int f5_kf, .int cg, .int ch, .int ci, .int cj, .int ck, .ref kl, .int cm, .int cn, .ref ko])), (k0, .inl (cI, 1201, .inl c0))] := hD
                      refine lv_aload_n hx hb dX11_product_55 rfl (lv_at hl 2 rfl) ?_
                      refine kJi (wr := []) (va_runV (As := []) (rest := []) ⟨hx, hb, hml, hown, hT⟩ (c_X11_oneG4 l D cI aK aV k k0 k1 k2 k4 k5 k6 k7 k8 ka kb kl ko H.size c3 c9 cc v_65 ce f5_kf cg ch ci cj ck cm cn c0 (by first | omega | decide | assumption | rfl) (by first | omega | decide | assumption | rfl) (by first | omega | decide | assumption | rfl) (by first | omega | decide | assumption | rfl) (by first | omega | decide | assumption | rfl) (by first | omega | decide | assumption | rfl)) (cwV 0 hT (gV_in mw_1335 mw_1332 mw_1334 mw_p4_8 mw_12) rfl rfl rfl (by decide +kernel) ⟨Nat.le_of_ble_eq_true rfl, Nat.le_of_ble_eq_true rfl⟩) (kRecvX (q0 := 0) (ci := 11) hK hP hD hN hXS hS hA rfl rfl [0, 1] rfl (by decide)) rfl rfl hl.1 rfl (lv_room (Nat.le_of_ble_eq_true rfl)) dX11_product_56 ⟨Nat.le_of_ble_eq_true rfl, Nat.le_of_ble_eq_true rfl⟩) hP hD hS hA [0, 1] [] rfl rfl (by decide) (by decide) ?_
                      clear hP hD hS
                      intro r_66 u_70 H locs w_67 hP hD hS
                      obtain ⟨scd_68, scf_69⟩ := u_70
                      replace hP : va_P D vwCl [(k, .inr (11, [.ref k0, .ref k1, .ref k2, .int c3, .ref k4, .ref k5, .ref k6, .ref k7, .ref k8, .int c9, .ref ka, .ref kb, .int cc, .int scd_68, .int ce, .int scf_69, .int cg, .int ch, .int ci, .int cj, .int ck, .ref kl, .int cm, .int cn, .ref ko])), (k0, .inl (cI, 1201, .inl c0))] H := hP
                      replace hD : va_D A [(k, .inr (11, [.ref k0, .ref k1, .ref k2, .int c3, .ref k4, .ref k5, .ref k6, .ref k7, .ref k8, .int c9, .ref ka, .ref kb, .int cc, .int scd_68, .int ce, .int scf_69, .int cg, .int ch, .int ci, .int cj, .int ck, .ref kl, .int cm, .int cn, .ref ko])), (k0, .inl (cI, 1201, .inl c0))] := hD
                      have lo_scd_68 := k_lo scd_68
                      have hi_scd_68 := k_hi scd_68
                      obtain ⟨h_71, h_72⟩ := w_67
                      have h_71 : v_65.toInt ≤ scd_68.toInt := h_71
                      have h_72 : scd_68.toInt ≤ ce.toInt := h_72
                      have lo_r_66 := k_lo r_66
                      have hi_r_66 := k_hi r_66
                      refine lv_istore_n (lv' := [(3, .int r_66), (2, .int 1), (1, .int l5_1), (0, .ref k)]) hx hb dX11_product_59 rfl hl (by decide) rfl ?_
                      clear hl
                      intro ls hl
                      refine lv_iload_n hx hb dX11_product_60 rfl (lv_at hl 1 rfl) ?_
                      refine b_if_eq hx hb zl_1 (tgt := 70) dX11_product_61 (by decide) (fun c_73 => by exfalso; omega) (fun c_73 => ?_)
                      refine lv_iload_n hx hb dX11_product_64 rfl (lv_at hl 2 rfl) ?_
                      refine lv_iload_n hx hb dX11_product_65 rfl (lv_at hl 0 rfl) ?_
                      refine lv_imul hx hb dX11_product_66 ?_
                      refine lv_topi (fun v_74 ev_74 => ?_)
                      have lo_v_74 := k_lo v_74
                      have hi_v_74 := k_hi v_74
                      refine lv_goto (tgt := 81) hx hb dX11_product_67 (by decide) ?_
                      refine lv_istore_n (lv' := [(1, .int v_74), (3, .int r_66), (2, .int 1), (0, .ref k)]) hx hb dX11_product_81 rfl hl (by decide) rfl ?_
                      clear hl
                      intro ls hl
                      refine lv_goto (tgt := 5) hx hb dX11_product_82 (by decide) ?_
                      exact ih5 v_74 scd_68 scf_69 (by first | omega | decide | assumption | rfl) (by first | omega | decide | assumption | rfl) (by omega) ls _ _ (lv_sub hl [0, 3] rfl) (hP.sub [0, 1] rfl) (hD.sub [0, 1] (by decide) rfl) hS
                  · exfalso; omega
              · exfalso; omega
          · have h_13 : f5_kd.toInt = ce.toInt := h_13
            obtain rfl : r_9 = (-1) := hr_9.trans (by decide)
            refine lv_bipush (v := 42) hx hb dX11_product_16 (by decide) ?_
            refine b_icmp_eq hx hb zl_m1 zl_42 (tgt := 30) dX11_product_18 (by decide) (fun c_75 => by exfalso; omega) (fun c_75 => ?_)
            refine lv_aload_n hx hb dX11_product_21 rfl (lv_at hl 1 rfl) ?_
            refine kJi (wr := []) (va_runV (As := []) (rest := []) ⟨hx, hb, hml, hown, hT⟩ (c_X11_nowG l D cI aK aV k k0 k1 k2 k4 k5 k6 k7 k8 ka kb kl ko H.size c3 c9 cc f5_kd ce f5_kf cg ch ci cj ck cm cn c0 (by first | omega | decide | assumption | rfl) (by first | omega | decide | assumption | rfl) (by first | omega | decide | assumption | rfl) (by first | omega | decide | assumption | rfl) (by first | omega | decide | assumption | rfl)) (cwV 0 hT (gV_in mw_1339 mw_1336 mw_1338 mw_p4_9 mw_12) rfl rfl rfl (by decide +kernel) ⟨Nat.le_of_ble_eq_true rfl, Nat.le_of_ble_eq_true rfl⟩) (kRecvX (q0 := 0) (ci := 11) hK hP hD hN hXS hS hA rfl rfl [0, 1] rfl (by decide)) rfl rfl hl.1 rfl (lv_room (Nat.le_of_ble_eq_true rfl)) dX11_product_22 ⟨Nat.le_of_ble_eq_true rfl, Nat.le_of_ble_eq_true rfl⟩) hP hD hS hA [0, 1] [] rfl rfl (by decide) (by decide) ?_
            clear hP hD hS
            intro r_76 u_78 H locs w_77 hP hD hS
            replace hP : va_P D vwCl [(k, .inr (11, [.ref k0, .ref k1, .ref k2, .int c3, .ref k4, .ref k5, .ref k6, .ref k7, .ref k8, .int c9, .ref ka, .ref kb, .int cc, .int f5_kd, .int ce, .int f5_kf, .int cg, .int ch, .int ci, .int cj, .int ck, .ref kl, .int cm, .int cn, .ref ko])), (k0, .inl (cI, 1201, .inl c0))] H := hP
            replace hD : va_D A [(k, .inr (11, [.ref k0, .ref k1, .ref k2, .int c3, .ref k4, .ref k5, .ref k6, .ref k7, .ref k8, .int c9, .ref ka, .ref kb, .int cc, .int f5_kd, .int ce, .int f5_kf, .int cg, .int ch, .int ci, .int cj, .int ck, .ref kl, .int cm, .int cn, .ref ko])), (k0, .inl (cI, 1201, .inl c0))] := hD
            rcases w_77 with h_79 | ⟨hr_76, h_80⟩
            · exfalso; omega
            · have h_80 : f5_kd.toInt = ce.toInt := h_80
              obtain rfl : r_76 = (-1) := hr_76.trans (by decide)
              refine lv_bipush (v := 37) hx hb dX11_product_25 (by decide) ?_
              refine b_icmp_ne hx hb zl_m1 zl_37 (tgt := 85) dX11_product_27 (by decide) (fun c_81 => ?_) (fun c_81 => by exfalso; omega)
              refine lv_iload_n hx hb dX11_product_85 rfl (lv_at hl 0 rfl) ?_
              exact hRet (f5_kd, f5_kf) [0, 1] ⟨(by first | omega | decide | assumption | rfl | (dsimp only; first | omega)), (by first | omega | decide | assumption | rfl | (dsimp only; first | omega))⟩ hP hD (by decide) rfl hS rfl dX11_product_86
  exact hloop_5 _ r_1 scd_3 scf_4 (by first | omega | decide | assumption | rfl) (by first | omega | decide | assumption | rfl) (Nat.lt_succ_self _) ls _ _ (lv_sub hl [0, 1] rfl) hP hD hS
theorem dX11_sum_0 : decode cX11_sum 0 = .ok (.aload_n 0, 1) := by decide +kernel
theorem dX11_sum_1 : decode cX11_sum 1 = .ok (.invokevirtual 186, 3) := by decide +kernel
theorem dX11_sum_4 : decode cX11_sum 4 = .ok (.istore_n 1, 1) := by decide +kernel
theorem dX11_sum_5 : decode cX11_sum 5 = .ok (.aload_n 0, 1) := by decide +kernel
theorem dX11_sum_6 : decode cX11_sum 6 = .ok (.getfield 148, 3) := by decide +kernel
theorem dX11_sum_9 : decode cX11_sum 9 = .ok (.ifCond .ne 68, 3) := by decide +kernel
theorem dX11_sum_12 : decode cX11_sum 12 = .ok (.aload_n 0, 1) := by decide +kernel
theorem dX11_sum_13 : decode cX11_sum 13 = .ok (.invokevirtual 152, 3) := by decide +kernel
theorem dX11_sum_16 : decode cX11_sum 16 = .ok (.bipush 43, 2) := by decide +kernel
theorem dX11_sum_18 : decode cX11_sum 18 = .ok (.if_icmp .eq 12, 3) := by decide +kernel
theorem dX11_sum_21 : decode cX11_sum 21 = .ok (.aload_n 0, 1) := by decide +kernel
theorem dX11_sum_22 : decode cX11_sum 22 = .ok (.invokevirtual 152, 3) := by decide +kernel
theorem dX11_sum_25 : decode cX11_sum 25 = .ok (.bipush 45, 2) := by decide +kernel
theorem dX11_sum_27 : decode cX11_sum 27 = .ok (.if_icmp .ne 50, 3) := by decide +kernel
theorem dX11_sum_30 : decode cX11_sum 30 = .ok (.aload_n 0, 1) := by decide +kernel
theorem dX11_sum_31 : decode cX11_sum 31 = .ok (.invokevirtual 152, 3) := by decide +kernel
theorem dX11_sum_34 : decode cX11_sum 34 = .ok (.bipush 43, 2) := by decide +kernel
theorem dX11_sum_36 : decode cX11_sum 36 = .ok (.if_icmp .ne 7, 3) := by decide +kernel
theorem dX11_sum_39 : decode cX11_sum 39 = .ok (.iconst 1, 1) := by decide +kernel
theorem dX11_sum_40 : decode cX11_sum 40 = .ok (.goto 4, 3) := by decide +kernel
theorem dX11_sum_43 : decode cX11_sum 43 = .ok (.iconst 0, 1) := by decide +kernel
theorem dX11_sum_44 : decode cX11_sum 44 = .ok (.istore_n 2, 1) := by decide +kernel
theorem dX11_sum_45 : decode cX11_sum 45 = .ok (.aload_n 0, 1) := by decide +kernel
theorem dX11_sum_46 : decode cX11_sum 46 = .ok (.dup, 1) := by decide +kernel
theorem dX11_sum_47 : decode cX11_sum 47 = .ok (.getfield 138, 3) := by decide +kernel
theorem dX11_sum_50 : decode cX11_sum 50 = .ok (.iconst 1, 1) := by decide +kernel
theorem dX11_sum_51 : decode cX11_sum 51 = .ok (.iadd, 1) := by decide +kernel
theorem dX11_sum_52 : decode cX11_sum 52 = .ok (.putfield 138, 3) := by decide +kernel
theorem dX11_sum_55 : decode cX11_sum 55 = .ok (.aload_n 0, 1) := by decide +kernel
theorem dX11_sum_56 : decode cX11_sum 56 = .ok (.invokevirtual 186, 3) := by decide +kernel
theorem dX11_sum_59 : decode cX11_sum 59 = .ok (.istore_n 3, 1) := by decide +kernel
theorem dX11_sum_60 : decode cX11_sum 60 = .ok (.iload_n 2, 1) := by decide +kernel
theorem dX11_sum_61 : decode cX11_sum 61 = .ok (.ifCond .eq 9, 3) := by decide +kernel
theorem dX11_sum_64 : decode cX11_sum 64 = .ok (.iload_n 1, 1) := by decide +kernel
theorem dX11_sum_65 : decode cX11_sum 65 = .ok (.iload_n 3, 1) := by decide +kernel
theorem dX11_sum_66 : decode cX11_sum 66 = .ok (.iadd, 1) := by decide +kernel
theorem dX11_sum_67 : decode cX11_sum 67 = .ok (.goto 6, 3) := by decide +kernel
theorem dX11_sum_70 : decode cX11_sum 70 = .ok (.iload_n 1, 1) := by decide +kernel
theorem dX11_sum_71 : decode cX11_sum 71 = .ok (.iload_n 3, 1) := by decide +kernel
theorem dX11_sum_72 : decode cX11_sum 72 = .ok (.isub, 1) := by decide +kernel
theorem dX11_sum_73 : decode cX11_sum 73 = .ok (.istore_n 1, 1) := by decide +kernel
theorem dX11_sum_74 : decode cX11_sum 74 = .ok (.goto (-69), 3) := by decide +kernel
theorem dX11_sum_77 : decode cX11_sum 77 = .ok (.iload_n 1, 1) := by decide +kernel
theorem dX11_sum_78 : decode cX11_sum 78 = .ok (.ireturn, 1) := by decide +kernel
set_option maxHeartbeats 4000000 in
set_option maxRecDepth 100000 in
theorem c_X11_sumG4 (l : Launch) (D : va_G) (cI : ClassId) (aK aV : Nat → Nat) (k k0 k1 k2 k4 k5 k6 k7 k8 ka kb kl ko : Nat) (sz : Nat) (c3 : Int32) (c9 : Int32) (cc : Int32) (cd : Int32) (ce : Int32) (cf : Int32) (cg : Int32) (ch : Int32) (ci : Int32) (cj : Int32) (ck : Int32) (cm : Int32) (cn : Int32) (c0 : Nat → Int32) (pre0 : 0 ≤ cc.toInt) (pre1 : cc.toInt ≤ 1151) (pre2 : 0 ≤ cd.toInt) (pre3 : cd.toInt ≤ ce.toInt) (pre4 : ce.toInt ≤ 50) (pre5 : cg.toInt = 4) : Met l yX11_sum (gW yX11_sum cX11_sum 4 (some .int)) ({ frames := 3, cells := 0, slots := 0, locals := 68 } : Room) (kPreX D cI aK aV [.ref k] [(k, .inr (11, [.ref k0, .ref k1, .ref k2, .int c3, .ref k4, .ref k5, .ref k6, .ref k7, .ref k8, .int c9, .ref ka, .ref kb, .int cc, .int cd, .int ce, .int cf, .int cg, .int ch, .int ci, .int cj, .int ck, .ref kl, .int cm, .int cn, .ref ko])), (k0, .inl (cI, 1201, .inl c0))] sz) (va_Qi (fun (r : Int32) (u : Int32 × Int32) => cd.toInt ≤ u.1.toInt ∧ u.1.toInt ≤ ce.toInt) (fun u t => kWd D cI (va_A [(k, .inr (11, [.ref k0, .ref k1, .ref k2, .int c3, .ref k4, .ref k5, .ref k6, .ref k7, .ref k8, .int c9, .ref ka, .ref kb, .int cc, .int cd, .int ce, .int cf, .int cg, .int ch, .int ci, .int cj, .int ck, .ref kl, .int cm, .int cn, .ref ko])), (k0, .inl (cI, 1201, .inl c0))] sz) [(k, .inr (11, [.ref k0, .ref k1, .ref k2, .int c3, .ref k4, .ref k5, .ref k6, .ref k7, .ref k8, .int c9, .ref ka, .ref kb, .int cc, .int u.1, .int ce, .int u.2, .int cg, .int ch, .int ci, .int cj, .int ck, .ref kl, .int cm, .int cn, .ref ko])), (k0, .inl (cI, 1201, .inl c0))] t) (va_A [(k, .inr (11, [.ref k0, .ref k1, .ref k2, .int c3, .ref k4, .ref k5, .ref k6, .ref k7, .ref k8, .int c9, .ref ka, .ref kb, .int cc, .int cd, .int ce, .int cf, .int cg, .int ch, .int ci, .int cj, .int ck, .ref kl, .int cm, .int cn, .ref ko])), (k0, .inl (cI, 1201, .inl c0))] sz)) 0 0 (va_A [(k, .inr (11, [.ref k0, .ref k1, .ref k2, .int c3, .ref k4, .ref k5, .ref k6, .ref k7, .ref k8, .int c9, .ref ka, .ref kb, .int cc, .int cd, .int ce, .int cf, .int cg, .int ch, .int ci, .int cj, .int ck, .ref kl, .int cm, .int cn, .ref ko])), (k0, .inl (cI, 1201, .inl c0))] sz) := by
  refine kMetIX (own := RX11) (by decide) rfl (Nat.le_of_ble_eq_true rfl) ?_
  intro p e s m args below meth c hx hb hT hown hname hml A Q hK hP hD hS hA hN hXS hRet ls hl
  have hl : lv_has ls 4 [(0, .ref k)] := hl
  have lo_cd := k_lo cd
  have hi_cd := k_hi cd
  have lo_ce := k_lo ce
  have hi_ce := k_hi ce
  have lo_ci := k_lo ci
  have hi_ci := k_hi ci
  refine lv_aload_n hx hb dX11_sum_0 rfl (lv_at hl 0 rfl) ?_
  refine kJi (wr := []) (va_runV (As := []) (rest := []) ⟨hx, hb, hml, hown, hT⟩ (c_X11_productG4 l D cI aK aV k k0 k1 k2 k4 k5 k6 k7 k8 ka kb kl ko s.heap.size c3 c9 cc cd ce cf cg ch ci cj ck cm cn c0 (by first | omega | decide | assumption | rfl) (by first | omega | decide | assumption | rfl) (by first | omega | decide | assumption | rfl) (by first | omega | decide | assumption | rfl) (by first | omega | decide | assumption | rfl) (by first | omega | decide | assumption | rfl)) (cwV 0 hT (gV_in mw_1331 mw_1328 mw_1330 mw_p4_7 mw_12) rfl rfl rfl (by decide +kernel) ⟨Nat.le_of_ble_eq_true rfl, Nat.le_of_ble_eq_true rfl⟩) (kRecvX (q0 := 0) (ci := 11) hK hP hD hN hXS hS hA rfl rfl [0, 1] rfl (by decide)) rfl rfl hl.1 rfl (lv_room (Nat.le_of_ble_eq_true rfl)) dX11_sum_1 ⟨Nat.le_of_ble_eq_true rfl, Nat.le_of_ble_eq_true rfl⟩) hP hD hS hA [0, 1] [] rfl rfl (by decide) (by decide) ?_
  clear hP hD hS
  intro r_1 u_5 H locs w_2 hP hD hS
  obtain ⟨scd_3, scf_4⟩ := u_5
  replace hP : va_P D vwCl [(k, .inr (11, [.ref k0, .ref k1, .ref k2, .int c3, .ref k4, .ref k5, .ref k6, .ref k7, .ref k8, .int c9, .ref ka, .ref kb, .int cc, .int scd_3, .int ce, .int scf_4, .int cg, .int ch, .int ci, .int cj, .int ck, .ref kl, .int cm, .int cn, .ref ko])), (k0, .inl (cI, 1201, .inl c0))] H := hP
  replace hD : va_D A [(k, .inr (11, [.ref k0, .ref k1, .ref k2, .int c3, .ref k4, .ref k5, .ref k6, .ref k7, .ref k8, .int c9, .ref ka, .ref kb, .int cc, .int scd_3, .int ce, .int scf_4, .int cg, .int ch, .int ci, .int cj, .int ck, .ref kl, .int cm, .int cn, .ref ko])), (k0, .inl (cI, 1201, .inl c0))] := hD
  have lo_scd_3 := k_lo scd_3
  have hi_scd_3 := k_hi scd_3
  obtain ⟨h_6, h_7⟩ := w_2
  have h_6 : cd.toInt ≤ scd_3.toInt := h_6
  have h_7 : scd_3.toInt ≤ ce.toInt := h_7
  have lo_r_1 := k_lo r_1
  have hi_r_1 := k_hi r_1
  refine lv_istore_n (lv' := [(1, .int r_1), (0, .ref k)]) hx hb dX11_sum_4 rfl hl (by decide) rfl ?_
  clear hl
  intro ls hl
  have hloop_5 : ∀ (fu_ : Nat) (l5_1 : Int32) (f5_kd : Int32) (f5_kf : Int32), scd_3.toInt ≤ f5_kd.toInt → f5_kd.toInt ≤ ce.toInt → (ce.toInt - f5_kd.toInt).toNat < fu_ → ∀ (ls : Array Slot) (H : Heap) (locs : List Loc), lv_has ls 4 [(1, .int l5_1), (0, .ref k)] → va_P D vwCl [(k, .inr (11, [.ref k0, .ref k1, .ref k2, .int c3, .ref k4, .ref k5, .ref k6, .ref k7, .ref k8, .int c9, .ref ka, .ref kb, .int cc, .int f5_kd, .int ce, .int f5_kf, .int cg, .int ch, .int ci, .int cj, .int ck, .ref kl, .int cm, .int cn, .ref ko])), (k0, .inl (cI, 1201, .inl c0))] H → va_D A [(k, .inr (11, [.ref k0, .ref k1, .ref k2, .int c3, .ref k4, .ref k5, .ref k6, .ref k7, .ref k8, .int c9, .ref ka, .ref kb, .int cc, .int f5_kd, .int ce, .int f5_kf, .int cg, .int ch, .int ci, .int cj, .int ck, .ref kl, .int cm, .int cn, .ref ko])), (k0, .inl (cI, 1201, .inl c0))] → va_S A s.heap H locs → W p l e ({ frames := 3, cells := 0, slots := 0, locals := 68 } : Room) s m args below meth c H locs 0 0 Q (F0 m 5 ls []) := by
    intro fu_; induction fu_ with
    | zero => intro l5_1 f5_kd f5_kf i5_0 i5_1 hm; exact absurd hm (by omega)
    | succ fu_ ih5 =>
        intro l5_1 f5_kd f5_kf i5_0 i5_1 hm ls H locs hl hP hD hS
        have lo_l5_1 := k_lo l5_1
        have hi_l5_1 := k_hi l5_1
        have lo_f5_kd := k_lo f5_kd
        have hi_f5_kd := k_hi f5_kd
        have lo_f5_kf := k_lo f5_kf
        have hi_f5_kf := k_hi f5_kf
        refine lv_aload_n hx hb dX11_sum_5 rfl (lv_at hl 1 rfl) ?_
        refine va_get (D := D) (ci := 11) (v := .int f5_kf) (C := RX11) (T := TX11) (N := 25) hx hb hT giX11 hown hK hP 0 rfl rfl 15 (by decide) (hT (Cond.fieldLink RX11 148 "DesertWireModel" "isWrong" "Z") mw_1171) (fun _ h9 => h9) rfl dX11_sum_6 ?_
        refine b_if_ne hx hb rfl (tgt := 77) dX11_sum_9 (by decide) (fun c_8 => ?_) (fun c_8 => ?_)
        · refine lv_iload_n hx hb dX11_sum_77 rfl (lv_at hl 0 rfl) ?_
          exact hRet (f5_kd, f5_kf) [0, 1] ⟨(by first | omega | decide | assumption | rfl | (dsimp only; first | omega)), (by first | omega | decide | assumption | rfl | (dsimp only; first | omega))⟩ hP hD (by decide) rfl hS rfl dX11_sum_78
        · refine lv_aload_n hx hb dX11_sum_12 rfl (lv_at hl 1 rfl) ?_
          refine kJi (wr := []) (va_runV (As := []) (rest := []) ⟨hx, hb, hml, hown, hT⟩ (c_X11_nowG l D cI aK aV k k0 k1 k2 k4 k5 k6 k7 k8 ka kb kl ko H.size c3 c9 cc f5_kd ce f5_kf cg ch ci cj ck cm cn c0 (by first | omega | decide | assumption | rfl) (by first | omega | decide | assumption | rfl) (by first | omega | decide | assumption | rfl) (by first | omega | decide | assumption | rfl) (by first | omega | decide | assumption | rfl)) (cwV 0 hT (gV_in mw_1339 mw_1336 mw_1338 mw_p4_9 mw_12) rfl rfl rfl (by decide +kernel) ⟨Nat.le_of_ble_eq_true rfl, Nat.le_of_ble_eq_true rfl⟩) (kRecvX (q0 := 0) (ci := 11) hK hP hD hN hXS hS hA rfl rfl [0, 1] rfl (by decide)) rfl rfl hl.1 rfl (lv_room (Nat.le_of_ble_eq_true rfl)) dX11_sum_13 ⟨Nat.le_of_ble_eq_true rfl, Nat.le_of_ble_eq_true rfl⟩) hP hD hS hA [0, 1] [] rfl rfl (by decide) (by decide) ?_
          clear hP hD hS
          intro r_9 u_11 H locs w_10 hP hD hS
          replace hP : va_P D vwCl [(k, .inr (11, [.ref k0, .ref k1, .ref k2, .int c3, .ref k4, .ref k5, .ref k6, .ref k7, .ref k8, .int c9, .ref ka, .ref kb, .int cc, .int f5_kd, .int ce, .int f5_kf, .int cg, .int ch, .int ci, .int cj, .int ck, .ref kl, .int cm, .int cn, .ref ko])), (k0, .inl (cI, 1201, .inl c0))] H := hP
          replace hD : va_D A [(k, .inr (11, [.ref k0, .ref k1, .ref k2, .int c3, .ref k4, .ref k5, .ref k6, .ref k7, .ref k8, .int c9, .ref ka, .ref kb, .int cc, .int f5_kd, .int ce, .int f5_kf, .int cg, .int ch, .int ci, .int cj, .int ck, .ref kl, .int cm, .int cn, .ref ko])), (k0, .inl (cI, 1201, .inl c0))] := hD
          rcases w_10 with h_12 | ⟨hr_9, h_13⟩
          · have h_12 : f5_kd.toInt < ce.toInt := h_12
            have lo_r_9 := k_lo r_9
            have hi_r_9 := k_hi r_9
            refine lv_bipush (v := 43) hx hb dX11_sum_16 (by decide) ?_
            refine b_icmp_eq hx hb rfl zl_43 (tgt := 30) dX11_sum_18 (by decide) (fun c_14 => ?_) (fun c_14 => ?_)
            · refine lv_aload_n hx hb dX11_sum_30 rfl (lv_at hl 1 rfl) ?_
              refine kJi (wr := []) (va_runV (As := []) (rest := []) ⟨hx, hb, hml, hown, hT⟩ (c_X11_nowG l D cI aK aV k k0 k1 k2 k4 k5 k6 k7 k8 ka kb kl ko H.size c3 c9 cc f5_kd ce f5_kf cg ch ci cj ck cm cn c0 (by first | omega | decide | assumption | rfl) (by first | omega | decide | assumption | rfl) (by first | omega | decide | assumption | rfl) (by first | omega | decide | assumption | rfl) (by first | omega | decide | assumption | rfl)) (cwV 0 hT (gV_in mw_1339 mw_1336 mw_1338 mw_p4_9 mw_12) rfl rfl rfl (by decide +kernel) ⟨Nat.le_of_ble_eq_true rfl, Nat.le_of_ble_eq_true rfl⟩) (kRecvX (q0 := 0) (ci := 11) hK hP hD hN hXS hS hA rfl rfl [0, 1] rfl (by decide)) rfl rfl hl.1 rfl (lv_room (Nat.le_of_ble_eq_true rfl)) dX11_sum_31 ⟨Nat.le_of_ble_eq_true rfl, Nat.le_of_ble_eq_true rfl⟩) hP hD hS hA [0, 1] [] rfl rfl (by decide) (by decide) ?_
              clear hP hD hS
              intro r_15 u_17 H locs w_16 hP hD hS
              replace hP : va_P D vwCl [(k, .inr (11, [.ref k0, .ref k1, .ref k2, .int c3, .ref k4, .ref k5, .ref k6, .ref k7, .ref k8, .int c9, .ref ka, .ref kb, .int cc, .int f5_kd, .int ce, .int f5_kf, .int cg, .int ch, .int ci, .int cj, .int ck, .ref kl, .int cm, .int cn, .ref ko])), (k0, .inl (cI, 1201, .inl c0))] H := hP
              replace hD : va_D A [(k, .inr (11, [.ref k0, .ref k1, .ref k2, .int c3, .ref k4, .ref k5, .ref k6, .ref k7, .ref k8, .int c9, .ref ka, .ref kb, .int cc, .int f5_kd, .int ce, .int f5_kf, .int cg, .int ch, .int ci, .int cj, .int ck, .ref kl, .int cm, .int cn, .ref ko])), (k0, .inl (cI, 1201, .inl c0))] := hD
              rcases w_16 with h_18 | ⟨hr_15, h_19⟩
              · have h_18 : f5_kd.toInt < ce.toInt := h_18
                have lo_r_15 := k_lo r_15
                have hi_r_15 := k_hi r_15
                refine lv_bipush (v := 43) hx hb dX11_sum_34 (by decide) ?_
                refine b_icmp_ne hx hb rfl zl_43 (tgt := 43) dX11_sum_36 (by decide) (fun c_20 => ?_) (fun c_20 => ?_)
                · refine lv_iconst (v := 0) hx hb dX11_sum_43 (by decide) ?_
                  refine lv_istore_n (lv' := [(2, .int 0), (1, .int l5_1), (0, .ref k)]) hx hb dX11_sum_44 rfl hl (by decide) rfl ?_
                  clear hl
                  intro ls hl
                  refine lv_aload_n hx hb dX11_sum_45 rfl (lv_at hl 2 rfl) ?_
                  refine lv_dup hx hb dX11_sum_46 rfl ?_
                  refine va_get (D := D) (ci := 11) (v := .int f5_kd) (C := RX11) (T := TX11) (N := 25) hx hb hT giX11 hown hK hP 0 rfl rfl 13 (by decide) (hT (Cond.fieldLink RX11 138 "DesertWireModel" "here" "I") mw_1169) (fun _ h9 => h9) rfl dX11_sum_47 ?_
                  refine lv_iconst (v := 1) hx hb dX11_sum_50 (by decide) ?_
                  refine lv_iadd hx hb dX11_sum_51 ?_
                  refine lv_topi (fun v_21 ev_21 => ?_)
                  have tv_21 : v_21.toInt = f5_kd.toInt + 1 := by rw [ev_21]; exact k_addv rfl zl_1 (by omega) (by omega)
                  refine va_put (D := D) (ci := 11) (v := .int v_21) (ty := .int) (C := RX11) (T := TX11) (N := 25) hx hb hT giX11 tyX11 tyX11_ok nmX11 hown hK hP hD hS 0 rfl rfl 13 (by decide) (hT (Cond.fieldLink RX11 138 "DesertWireModel" "here" "I") mw_1169) (fun _ h9 => h9) rfl (by decide +kernel) rfl rfl (Nat.le_of_ble_eq_true rfl) dX11_sum_52 ?_
                  clear hP hD hS
                  intro H locs hP hD hS
                  replace hP : va_P D vwCl [(k, .inr (11, [.ref k0, .ref k1, .ref k2, .int c3, .ref k4, .ref k5, .ref k6, .ref k7, .ref k8, .int c9, .ref ka, .ref kb, .int cc, .int v_21, .int ce, .int f5_kf, .int cg, .int ch, .int ci, .int cj, .int ck, .ref kl, .int cm, .int cn, .ref ko])), (k0, .inl (cI, 1201, .inl c0))] H := hP
                  replace hD : va_D A [(k, .inr (11, [.ref k0, .ref k1, .ref k2, .int c3, .ref k4, .ref k5, .ref k6, .ref k7, .ref k8, .int c9, .ref ka, .ref kb, .int cc, .int v_21, .int ce, .int f5_kf, .int cg, .int ch, .int ci, .int cj, .int ck, .ref kl, .int cm, .int cn, .ref ko])), (k0, .inl (cI, 1201, .inl c0))] := hD
                  refine lv_aload_n hx hb dX11_sum_55 rfl (lv_at hl 2 rfl) ?_
                  refine kJi (wr := []) (va_runV (As := []) (rest := []) ⟨hx, hb, hml, hown, hT⟩ (c_X11_productG4 l D cI aK aV k k0 k1 k2 k4 k5 k6 k7 k8 ka kb kl ko H.size c3 c9 cc v_21 ce f5_kf cg ch ci cj ck cm cn c0 (by first | omega | decide | assumption | rfl) (by first | omega | decide | assumption | rfl) (by first | omega | decide | assumption | rfl) (by first | omega | decide | assumption | rfl) (by first | omega | decide | assumption | rfl) (by first | omega | decide | assumption | rfl)) (cwV 0 hT (gV_in mw_1331 mw_1328 mw_1330 mw_p4_7 mw_12) rfl rfl rfl (by decide +kernel) ⟨Nat.le_of_ble_eq_true rfl, Nat.le_of_ble_eq_true rfl⟩) (kRecvX (q0 := 0) (ci := 11) hK hP hD hN hXS hS hA rfl rfl [0, 1] rfl (by decide)) rfl rfl hl.1 rfl (lv_room (Nat.le_of_ble_eq_true rfl)) dX11_sum_56 ⟨Nat.le_of_ble_eq_true rfl, Nat.le_of_ble_eq_true rfl⟩) hP hD hS hA [0, 1] [] rfl rfl (by decide) (by decide) ?_
                  clear hP hD hS
                  intro r_22 u_26 H locs w_23 hP hD hS
                  obtain ⟨scd_24, scf_25⟩ := u_26
                  replace hP : va_P D vwCl [(k, .inr (11, [.ref k0, .ref k1, .ref k2, .int c3, .ref k4, .ref k5, .ref k6, .ref k7, .ref k8, .int c9, .ref ka, .ref kb, .int cc, .int scd_24, .int ce, .int scf_25, .int cg, .int ch, .int ci, .int cj, .int ck, .ref kl, .int cm, .int cn, .ref ko])), (k0, .inl (cI, 1201, .inl c0))] H := hP
                  replace hD : va_D A [(k, .inr (11, [.ref k0, .ref k1, .ref k2, .int c3, .ref k4, .ref k5, .ref k6, .ref k7, .ref k8, .int c9, .ref ka, .ref kb, .int cc, .int scd_24, .int ce, .int scf_25, .int cg, .int ch, .int ci, .int cj, .int ck, .ref kl, .int cm, .int cn, .ref ko])), (k0, .inl (cI, 1201, .inl c0))] := hD
                  have lo_scd_24 := k_lo scd_24
                  have hi_scd_24 := k_hi scd_24
                  obtain ⟨h_27, h_28⟩ := w_23
                  have h_27 : v_21.toInt ≤ scd_24.toInt := h_27
                  have h_28 : scd_24.toInt ≤ ce.toInt := h_28
                  have lo_r_22 := k_lo r_22
                  have hi_r_22 := k_hi r_22
                  refine lv_istore_n (lv' := [(3, .int r_22), (2, .int 0), (1, .int l5_1), (0, .ref k)]) hx hb dX11_sum_59 rfl hl (by decide) rfl ?_
                  clear hl
                  intro ls hl
                  refine lv_iload_n hx hb dX11_sum_60 rfl (lv_at hl 1 rfl) ?_
                  refine b_if_eq hx hb zl_0 (tgt := 70) dX11_sum_61 (by decide) (fun c_29 => ?_) (fun c_29 => by exfalso; omega)
                  refine lv_iload_n hx hb dX11_sum_70 rfl (lv_at hl 2 rfl) ?_
                  refine lv_iload_n hx hb dX11_sum_71 rfl (lv_at hl 0 rfl) ?_
                  refine lv_isub hx hb dX11_sum_72 ?_
                  refine lv_topi (fun v_30 ev_30 => ?_)
                  have lo_v_30 := k_lo v_30
                  have hi_v_30 := k_hi v_30
                  refine lv_istore_n (lv' := [(1, .int v_30), (3, .int r_22), (2, .int 0), (0, .ref k)]) hx hb dX11_sum_73 rfl hl (by decide) rfl ?_
                  clear hl
                  intro ls hl
                  refine lv_goto (tgt := 5) hx hb dX11_sum_74 (by decide) ?_
                  exact ih5 v_30 scd_24 scf_25 (by first | omega | decide | assumption | rfl) (by first | omega | decide | assumption | rfl) (by omega) ls _ _ (lv_sub hl [0, 3] rfl) (hP.sub [0, 1] rfl) (hD.sub [0, 1] (by decide) rfl) hS
                · refine lv_iconst (v := 1) hx hb dX11_sum_39 (by decide) ?_
                  refine lv_goto (tgt := 44) hx hb dX11_sum_40 (by decide) ?_
                  refine lv_istore_n (lv' := [(2, .int 1), (1, .int l5_1), (0, .ref k)]) hx hb dX11_sum_44 rfl hl (by decide) rfl ?_
                  clear hl
                  intro ls hl
                  refine lv_aload_n hx hb dX11_sum_45 rfl (lv_at hl 2 rfl) ?_
                  refine lv_dup hx hb dX11_sum_46 rfl ?_
                  refine va_get (D := D) (ci := 11) (v := .int f5_kd) (C := RX11) (T := TX11) (N := 25) hx hb hT giX11 hown hK hP 0 rfl rfl 13 (by decide) (hT (Cond.fieldLink RX11 138 "DesertWireModel" "here" "I") mw_1169) (fun _ h9 => h9) rfl dX11_sum_47 ?_
                  refine lv_iconst (v := 1) hx hb dX11_sum_50 (by decide) ?_
                  refine lv_iadd hx hb dX11_sum_51 ?_
                  refine lv_topi (fun v_31 ev_31 => ?_)
                  have tv_31 : v_31.toInt = f5_kd.toInt + 1 := by rw [ev_31]; exact k_addv rfl zl_1 (by omega) (by omega)
                  refine va_put (D := D) (ci := 11) (v := .int v_31) (ty := .int) (C := RX11) (T := TX11) (N := 25) hx hb hT giX11 tyX11 tyX11_ok nmX11 hown hK hP hD hS 0 rfl rfl 13 (by decide) (hT (Cond.fieldLink RX11 138 "DesertWireModel" "here" "I") mw_1169) (fun _ h9 => h9) rfl (by decide +kernel) rfl rfl (Nat.le_of_ble_eq_true rfl) dX11_sum_52 ?_
                  clear hP hD hS
                  intro H locs hP hD hS
                  replace hP : va_P D vwCl [(k, .inr (11, [.ref k0, .ref k1, .ref k2, .int c3, .ref k4, .ref k5, .ref k6, .ref k7, .ref k8, .int c9, .ref ka, .ref kb, .int cc, .int v_31, .int ce, .int f5_kf, .int cg, .int ch, .int ci, .int cj, .int ck, .ref kl, .int cm, .int cn, .ref ko])), (k0, .inl (cI, 1201, .inl c0))] H := hP
                  replace hD : va_D A [(k, .inr (11, [.ref k0, .ref k1, .ref k2, .int c3, .ref k4, .ref k5, .ref k6, .ref k7, .ref k8, .int c9, .ref ka, .ref kb, .int cc, .int v_31, .int ce, .int f5_kf, .int cg, .int ch, .int ci, .int cj, .int ck, .ref kl, .int cm, .int cn, .ref ko])), (k0, .inl (cI, 1201, .inl c0))] := hD
                  refine lv_aload_n hx hb dX11_sum_55 rfl (lv_at hl 2 rfl) ?_
                  refine kJi (wr := []) (va_runV (As := []) (rest := []) ⟨hx, hb, hml, hown, hT⟩ (c_X11_productG4 l D cI aK aV k k0 k1 k2 k4 k5 k6 k7 k8 ka kb kl ko H.size c3 c9 cc v_31 ce f5_kf cg ch ci cj ck cm cn c0 (by first | omega | decide | assumption | rfl) (by first | omega | decide | assumption | rfl) (by first | omega | decide | assumption | rfl) (by first | omega | decide | assumption | rfl) (by first | omega | decide | assumption | rfl) (by first | omega | decide | assumption | rfl)) (cwV 0 hT (gV_in mw_1331 mw_1328 mw_1330 mw_p4_7 mw_12) rfl rfl rfl (by decide +kernel) ⟨Nat.le_of_ble_eq_true rfl, Nat.le_of_ble_eq_true rfl⟩) (kRecvX (q0 := 0) (ci := 11) hK hP hD hN hXS hS hA rfl rfl [0, 1] rfl (by decide)) rfl rfl hl.1 rfl (lv_room (Nat.le_of_ble_eq_true rfl)) dX11_sum_56 ⟨Nat.le_of_ble_eq_true rfl, Nat.le_of_ble_eq_true rfl⟩) hP hD hS hA [0, 1] [] rfl rfl (by decide) (by decide) ?_
                  clear hP hD hS
                  intro r_32 u_36 H locs w_33 hP hD hS
                  obtain ⟨scd_34, scf_35⟩ := u_36
                  replace hP : va_P D vwCl [(k, .inr (11, [.ref k0, .ref k1, .ref k2, .int c3, .ref k4, .ref k5, .ref k6, .ref k7, .ref k8, .int c9, .ref ka, .ref kb, .int cc, .int scd_34, .int ce, .int scf_35, .int cg, .int ch, .int ci, .int cj, .int ck, .ref kl, .int cm, .int cn, .ref ko])), (k0, .inl (cI, 1201, .inl c0))] H := hP
                  replace hD : va_D A [(k, .inr (11, [.ref k0, .ref k1, .ref k2, .int c3, .ref k4, .ref k5, .ref k6, .ref k7, .ref k8, .int c9, .ref ka, .ref kb, .int cc, .int scd_34, .int ce, .int scf_35, .int cg, .int ch, .int ci, .int cj, .int ck, .ref kl, .int cm, .int cn, .ref ko])), (k0, .inl (cI, 1201, .inl c0))] := hD
                  have lo_scd_34 := k_lo scd_34
                  have hi_scd_34 := k_hi scd_34
                  obtain ⟨h_37, h_38⟩ := w_33
                  have h_37 : v_31.toInt ≤ scd_34.toInt := h_37
                  have h_38 : scd_34.toInt ≤ ce.toInt := h_38
                  have lo_r_32 := k_lo r_32
                  have hi_r_32 := k_hi r_32
                  refine lv_istore_n (lv' := [(3, .int r_32), (2, .int 1), (1, .int l5_1), (0, .ref k)]) hx hb dX11_sum_59 rfl hl (by decide) rfl ?_
                  clear hl
                  intro ls hl
                  refine lv_iload_n hx hb dX11_sum_60 rfl (lv_at hl 1 rfl) ?_
                  refine b_if_eq hx hb zl_1 (tgt := 70) dX11_sum_61 (by decide) (fun c_39 => by exfalso; omega) (fun c_39 => ?_)
                  refine lv_iload_n hx hb dX11_sum_64 rfl (lv_at hl 2 rfl) ?_
                  refine lv_iload_n hx hb dX11_sum_65 rfl (lv_at hl 0 rfl) ?_
                  refine lv_iadd hx hb dX11_sum_66 ?_
                  refine lv_topi (fun v_40 ev_40 => ?_)
                  have lo_v_40 := k_lo v_40
                  have hi_v_40 := k_hi v_40
                  refine lv_goto (tgt := 73) hx hb dX11_sum_67 (by decide) ?_
                  refine lv_istore_n (lv' := [(1, .int v_40), (3, .int r_32), (2, .int 1), (0, .ref k)]) hx hb dX11_sum_73 rfl hl (by decide) rfl ?_
                  clear hl
                  intro ls hl
                  refine lv_goto (tgt := 5) hx hb dX11_sum_74 (by decide) ?_
                  exact ih5 v_40 scd_34 scf_35 (by first | omega | decide | assumption | rfl) (by first | omega | decide | assumption | rfl) (by omega) ls _ _ (lv_sub hl [0, 3] rfl) (hP.sub [0, 1] rfl) (hD.sub [0, 1] (by decide) rfl) hS
              · exfalso; omega
            · refine lv_aload_n hx hb dX11_sum_21 rfl (lv_at hl 1 rfl) ?_
              refine kJi (wr := []) (va_runV (As := []) (rest := []) ⟨hx, hb, hml, hown, hT⟩ (c_X11_nowG l D cI aK aV k k0 k1 k2 k4 k5 k6 k7 k8 ka kb kl ko H.size c3 c9 cc f5_kd ce f5_kf cg ch ci cj ck cm cn c0 (by first | omega | decide | assumption | rfl) (by first | omega | decide | assumption | rfl) (by first | omega | decide | assumption | rfl) (by first | omega | decide | assumption | rfl) (by first | omega | decide | assumption | rfl)) (cwV 0 hT (gV_in mw_1339 mw_1336 mw_1338 mw_p4_9 mw_12) rfl rfl rfl (by decide +kernel) ⟨Nat.le_of_ble_eq_true rfl, Nat.le_of_ble_eq_true rfl⟩) (kRecvX (q0 := 0) (ci := 11) hK hP hD hN hXS hS hA rfl rfl [0, 1] rfl (by decide)) rfl rfl hl.1 rfl (lv_room (Nat.le_of_ble_eq_true rfl)) dX11_sum_22 ⟨Nat.le_of_ble_eq_true rfl, Nat.le_of_ble_eq_true rfl⟩) hP hD hS hA [0, 1] [] rfl rfl (by decide) (by decide) ?_
              clear hP hD hS
              intro r_41 u_43 H locs w_42 hP hD hS
              replace hP : va_P D vwCl [(k, .inr (11, [.ref k0, .ref k1, .ref k2, .int c3, .ref k4, .ref k5, .ref k6, .ref k7, .ref k8, .int c9, .ref ka, .ref kb, .int cc, .int f5_kd, .int ce, .int f5_kf, .int cg, .int ch, .int ci, .int cj, .int ck, .ref kl, .int cm, .int cn, .ref ko])), (k0, .inl (cI, 1201, .inl c0))] H := hP
              replace hD : va_D A [(k, .inr (11, [.ref k0, .ref k1, .ref k2, .int c3, .ref k4, .ref k5, .ref k6, .ref k7, .ref k8, .int c9, .ref ka, .ref kb, .int cc, .int f5_kd, .int ce, .int f5_kf, .int cg, .int ch, .int ci, .int cj, .int ck, .ref kl, .int cm, .int cn, .ref ko])), (k0, .inl (cI, 1201, .inl c0))] := hD
              rcases w_42 with h_44 | ⟨hr_41, h_45⟩
              · have h_44 : f5_kd.toInt < ce.toInt := h_44
                have lo_r_41 := k_lo r_41
                have hi_r_41 := k_hi r_41
                refine lv_bipush (v := 45) hx hb dX11_sum_25 (by decide) ?_
                refine b_icmp_ne hx hb rfl zl_45 (tgt := 77) dX11_sum_27 (by decide) (fun c_46 => ?_) (fun c_46 => ?_)
                · refine lv_iload_n hx hb dX11_sum_77 rfl (lv_at hl 0 rfl) ?_
                  exact hRet (f5_kd, f5_kf) [0, 1] ⟨(by first | omega | decide | assumption | rfl | (dsimp only; first | omega)), (by first | omega | decide | assumption | rfl | (dsimp only; first | omega))⟩ hP hD (by decide) rfl hS rfl dX11_sum_78
                · refine lv_aload_n hx hb dX11_sum_30 rfl (lv_at hl 1 rfl) ?_
                  refine kJi (wr := []) (va_runV (As := []) (rest := []) ⟨hx, hb, hml, hown, hT⟩ (c_X11_nowG l D cI aK aV k k0 k1 k2 k4 k5 k6 k7 k8 ka kb kl ko H.size c3 c9 cc f5_kd ce f5_kf cg ch ci cj ck cm cn c0 (by first | omega | decide | assumption | rfl) (by first | omega | decide | assumption | rfl) (by first | omega | decide | assumption | rfl) (by first | omega | decide | assumption | rfl) (by first | omega | decide | assumption | rfl)) (cwV 0 hT (gV_in mw_1339 mw_1336 mw_1338 mw_p4_9 mw_12) rfl rfl rfl (by decide +kernel) ⟨Nat.le_of_ble_eq_true rfl, Nat.le_of_ble_eq_true rfl⟩) (kRecvX (q0 := 0) (ci := 11) hK hP hD hN hXS hS hA rfl rfl [0, 1] rfl (by decide)) rfl rfl hl.1 rfl (lv_room (Nat.le_of_ble_eq_true rfl)) dX11_sum_31 ⟨Nat.le_of_ble_eq_true rfl, Nat.le_of_ble_eq_true rfl⟩) hP hD hS hA [0, 1] [] rfl rfl (by decide) (by decide) ?_
                  clear hP hD hS
                  intro r_47 u_49 H locs w_48 hP hD hS
                  replace hP : va_P D vwCl [(k, .inr (11, [.ref k0, .ref k1, .ref k2, .int c3, .ref k4, .ref k5, .ref k6, .ref k7, .ref k8, .int c9, .ref ka, .ref kb, .int cc, .int f5_kd, .int ce, .int f5_kf, .int cg, .int ch, .int ci, .int cj, .int ck, .ref kl, .int cm, .int cn, .ref ko])), (k0, .inl (cI, 1201, .inl c0))] H := hP
                  replace hD : va_D A [(k, .inr (11, [.ref k0, .ref k1, .ref k2, .int c3, .ref k4, .ref k5, .ref k6, .ref k7, .ref k8, .int c9, .ref ka, .ref kb, .int cc, .int f5_kd, .int ce, .int f5_kf, .int cg, .int ch, .int ci, .int cj, .int ck, .ref kl, .int cm, .int cn, .ref ko])), (k0, .inl (cI, 1201, .inl c0))] := hD
                  rcases w_48 with h_50 | ⟨hr_47, h_51⟩
                  · have h_50 : f5_kd.toInt < ce.toInt := h_50
                    have lo_r_47 := k_lo r_47
                    have hi_r_47 := k_hi r_47
                    refine lv_bipush (v := 43) hx hb dX11_sum_34 (by decide) ?_
                    refine b_icmp_ne hx hb rfl zl_43 (tgt := 43) dX11_sum_36 (by decide) (fun c_52 => ?_) (fun c_52 => ?_)
                    · refine lv_iconst (v := 0) hx hb dX11_sum_43 (by decide) ?_
                      refine lv_istore_n (lv' := [(2, .int 0), (1, .int l5_1), (0, .ref k)]) hx hb dX11_sum_44 rfl hl (by decide) rfl ?_
                      clear hl
                      intro ls hl
                      refine lv_aload_n hx hb dX11_sum_45 rfl (lv_at hl 2 rfl) ?_
                      refine lv_dup hx hb dX11_sum_46 rfl ?_
                      refine va_get (D := D) (ci := 11) (v := .int f5_kd) (C := RX11) (T := TX11) (N := 25) hx hb hT giX11 hown hK hP 0 rfl rfl 13 (by decide) (hT (Cond.fieldLink RX11 138 "DesertWireModel" "here" "I") mw_1169) (fun _ h9 => h9) rfl dX11_sum_47 ?_
                      refine lv_iconst (v := 1) hx hb dX11_sum_50 (by decide) ?_
                      refine lv_iadd hx hb dX11_sum_51 ?_
                      refine lv_topi (fun v_53 ev_53 => ?_)
                      have tv_53 : v_53.toInt = f5_kd.toInt + 1 := by rw [ev_53]; exact k_addv rfl zl_1 (by omega) (by omega)
                      refine va_put (D := D) (ci := 11) (v := .int v_53) (ty := .int) (C := RX11) (T := TX11) (N := 25) hx hb hT giX11 tyX11 tyX11_ok nmX11 hown hK hP hD hS 0 rfl rfl 13 (by decide) (hT (Cond.fieldLink RX11 138 "DesertWireModel" "here" "I") mw_1169) (fun _ h9 => h9) rfl (by decide +kernel) rfl rfl (Nat.le_of_ble_eq_true rfl) dX11_sum_52 ?_
                      clear hP hD hS
                      intro H locs hP hD hS
                      replace hP : va_P D vwCl [(k, .inr (11, [.ref k0, .ref k1, .ref k2, .int c3, .ref k4, .ref k5, .ref k6, .ref k7, .ref k8, .int c9, .ref ka, .ref kb, .int cc, .int v_53, .int ce, .int f5_kf, .int cg, .int ch, .int ci, .int cj, .int ck, .ref kl, .int cm, .int cn, .ref ko])), (k0, .inl (cI, 1201, .inl c0))] H := hP
                      replace hD : va_D A [(k, .inr (11, [.ref k0, .ref k1, .ref k2, .int c3, .ref k4, .ref k5, .ref k6, .ref k7, .ref k8, .int c9, .ref ka, .ref kb, .int cc, .int v_53, .int ce, .int f5_kf, .int cg, .int ch, .int ci, .int cj, .int ck, .ref kl, .int cm, .int cn, .ref ko])), (k0, .inl (cI, 1201, .inl c0))] := hD
                      refine lv_aload_n hx hb dX11_sum_55 rfl (lv_at hl 2 rfl) ?_
                      refine kJi (wr := []) (va_runV (As := []) (rest := []) ⟨hx, hb, hml, hown, hT⟩ (c_X11_productG4 l D cI aK aV k k0 k1 k2 k4 k5 k6 k7 k8 ka kb kl ko H.size c3 c9 cc v_53 ce f5_kf cg ch ci cj ck cm cn c0 (by first | omega | decide | assumption | rfl) (by first | omega | decide | assumption | rfl) (by first | omega | decide | assumption | rfl) (by first | omega | decide | assumption | rfl) (by first | omega | decide | assumption | rfl) (by first | omega | decide | assumption | rfl)) (cwV 0 hT (gV_in mw_1331 mw_1328 mw_1330 mw_p4_7 mw_12) rfl rfl rfl (by decide +kernel) ⟨Nat.le_of_ble_eq_true rfl, Nat.le_of_ble_eq_true rfl⟩) (kRecvX (q0 := 0) (ci := 11) hK hP hD hN hXS hS hA rfl rfl [0, 1] rfl (by decide)) rfl rfl hl.1 rfl (lv_room (Nat.le_of_ble_eq_true rfl)) dX11_sum_56 ⟨Nat.le_of_ble_eq_true rfl, Nat.le_of_ble_eq_true rfl⟩) hP hD hS hA [0, 1] [] rfl rfl (by decide) (by decide) ?_
                      clear hP hD hS
                      intro r_54 u_58 H locs w_55 hP hD hS
                      obtain ⟨scd_56, scf_57⟩ := u_58
                      replace hP : va_P D vwCl [(k, .inr (11, [.ref k0, .ref k1, .ref k2, .int c3, .ref k4, .ref k5, .ref k6, .ref k7, .ref k8, .int c9, .ref ka, .ref kb, .int cc, .int scd_56, .int ce, .int scf_57, .int cg, .int ch, .int ci, .int cj, .int ck, .ref kl, .int cm, .int cn, .ref ko])), (k0, .inl (cI, 1201, .inl c0))] H := hP
                      replace hD : va_D A [(k, .inr (11, [.ref k0, .ref k1, .ref k2, .int c3, .ref k4, .ref k5, .ref k6, .ref k7, .ref k8, .int c9, .ref ka, .ref kb, .int cc, .int scd_56, .int ce, .int scf_57, .int cg, .int ch, .int ci, .int cj, .int ck, .ref kl, .int cm, .int cn, .ref ko])), (k0, .inl (cI, 1201, .inl c0))] := hD
                      have lo_scd_56 := k_lo scd_56
                      have hi_scd_56 := k_hi scd_56
                      obtain ⟨h_59, h_60⟩ := w_55
                      have h_59 : v_53.toInt ≤ scd_56.toInt := h_59
                      have h_60 : scd_56.toInt ≤ ce.toInt := h_60
                      have lo_r_54 := k_lo r_54
                      have hi_r_54 := k_hi r_54
                      refine lv_istore_n (lv' := [(3, .int r_54), (2, .int 0), (1, .int l5_1), (0, .ref k)]) hx hb dX11_sum_59 rfl hl (by decide) rfl ?_
                      clear hl
                      intro ls hl
                      refine lv_iload_n hx hb dX11_sum_60 rfl (lv_at hl 1 rfl) ?_
                      refine b_if_eq hx hb zl_0 (tgt := 70) dX11_sum_61 (by decide) (fun c_61 => ?_) (fun c_61 => by exfalso; omega)
                      refine lv_iload_n hx hb dX11_sum_70 rfl (lv_at hl 2 rfl) ?_
                      refine lv_iload_n hx hb dX11_sum_71 rfl (lv_at hl 0 rfl) ?_
                      refine lv_isub hx hb dX11_sum_72 ?_
                      refine lv_topi (fun v_62 ev_62 => ?_)
                      have lo_v_62 := k_lo v_62
                      have hi_v_62 := k_hi v_62
                      refine lv_istore_n (lv' := [(1, .int v_62), (3, .int r_54), (2, .int 0), (0, .ref k)]) hx hb dX11_sum_73 rfl hl (by decide) rfl ?_
                      clear hl
                      intro ls hl
                      refine lv_goto (tgt := 5) hx hb dX11_sum_74 (by decide) ?_
                      exact ih5 v_62 scd_56 scf_57 (by first | omega | decide | assumption | rfl) (by first | omega | decide | assumption | rfl) (by omega) ls _ _ (lv_sub hl [0, 3] rfl) (hP.sub [0, 1] rfl) (hD.sub [0, 1] (by decide) rfl) hS
                    · refine lv_iconst (v := 1) hx hb dX11_sum_39 (by decide) ?_
                      refine lv_goto (tgt := 44) hx hb dX11_sum_40 (by decide) ?_
                      refine lv_istore_n (lv' := [(2, .int 1), (1, .int l5_1), (0, .ref k)]) hx hb dX11_sum_44 rfl hl (by decide) rfl ?_
                      clear hl
                      intro ls hl
                      refine lv_aload_n hx hb dX11_sum_45 rfl (lv_at hl 2 rfl) ?_
                      refine lv_dup hx hb dX11_sum_46 rfl ?_
                      refine va_get (D := D) (ci := 11) (v := .int f5_kd) (C := RX11) (T := TX11) (N := 25) hx hb hT giX11 hown hK hP 0 rfl rfl 13 (by decide) (hT (Cond.fieldLink RX11 138 "DesertWireModel" "here" "I") mw_1169) (fun _ h9 => h9) rfl dX11_sum_47 ?_
                      refine lv_iconst (v := 1) hx hb dX11_sum_50 (by decide) ?_
                      refine lv_iadd hx hb dX11_sum_51 ?_
                      refine lv_topi (fun v_63 ev_63 => ?_)
                      have tv_63 : v_63.toInt = f5_kd.toInt + 1 := by rw [ev_63]; exact k_addv rfl zl_1 (by omega) (by omega)
                      refine va_put (D := D) (ci := 11) (v := .int v_63) (ty := .int) (C := RX11) (T := TX11) (N := 25) hx hb hT giX11 tyX11 tyX11_ok nmX11 hown hK hP hD hS 0 rfl rfl 13 (by decide) (hT (Cond.fieldLink RX11 138 "DesertWireModel" "here" "I") mw_1169) (fun _ h9 => h9) rfl (by decide +kernel) rfl rfl (Nat.le_of_ble_eq_true rfl) dX11_sum_52 ?_
                      clear hP hD hS
                      intro H locs hP hD hS
                      replace hP : va_P D vwCl [(k, .inr (11, [.ref k0, .ref k1, .ref k2, .int c3, .ref k4, .ref k5, .ref k6, .ref k7, .ref k8, .int c9, .ref ka, .ref kb, .int cc, .int v_63, .int ce, .int f5_kf, .int cg, .int ch, .int ci, .int cj, .int ck, .ref kl, .int cm, .int cn, .ref ko])), (k0, .inl (cI, 1201, .inl c0))] H := hP
                      replace hD : va_D A [(k, .inr (11, [.ref k0, .ref k1, .ref k2, .int c3, .ref k4, .ref k5, .ref k6, .ref k7, .ref k8, .int c9, .ref ka, .ref kb, .int cc, .int v_63, .int ce, .int f5_kf, .int cg, .int ch, .int ci, .int cj, .int ck, .ref kl, .int cm, .int cn, .ref ko])), (k0, .inl (cI, 1201, .inl c0))] := hD
                      refine lv_aload_n hx hb dX11_sum_55 rfl (lv_at hl 2 rfl) ?_
                      refine kJi (wr := []) (va_runV (As := []) (rest := []) ⟨hx, hb, hml, hown, hT⟩ (c_X11_productG4 l D cI aK aV k k0 k1 k2 k4 k5 k6 k7 k8 ka kb kl ko H.size c3 c9 cc v_63 ce f5_kf cg ch ci cj ck cm cn c0 (by first | omega | decide | assumption | rfl) (by first | omega | decide | assumption | rfl) (by first | omega | decide | assumption | rfl) (by first | omega | decide | assumption | rfl) (by first | omega | decide | assumption | rfl) (by first | omega | decide | assumption | rfl)) (cwV 0 hT (gV_in mw_1331 mw_1328 mw_1330 mw_p4_7 mw_12) rfl rfl rfl (by decide +kernel) ⟨Nat.le_of_ble_eq_true rfl, Nat.le_of_ble_eq_true rfl⟩) (kRecvX (q0 := 0) (ci := 11) hK hP hD hN hXS hS hA rfl rfl [0, 1] rfl (by decide)) rfl rfl hl.1 rfl (lv_room (Nat.le_of_ble_eq_true rfl)) dX11_sum_56 ⟨Nat.le_of_ble_eq_true rfl, Nat.le_of_ble_eq_true rfl⟩) hP hD hS hA [0, 1] [] rfl rfl (by decide) (by decide) ?_
                      clear hP hD hS
                      intro r_64 u_68 H locs w_65 hP hD hS
                      obtain ⟨scd_66, scf_67⟩ := u_68
                      replace hP : va_P D vwCl [(k, .inr (11, [.ref k0, .ref k1, .ref k2, .int c3, .ref k4, .ref k5, .ref k6, .ref k7, .ref k8, .int c9, .ref ka, .ref kb, .int cc, .int scd_66, .int ce, .int scf_67, .int cg, .int ch, .int ci, .int cj, .int ck, .ref kl, .int cm, .int cn, .ref ko])), (k0, .inl (cI, 1201, .inl c0))] H := hP
                      replace hD : va_D A [(k, .inr (11, [.ref k0, .ref k1, .ref k2, .int c3, .ref k4, .ref k5, .ref k6, .ref k7, .ref k8, .int c9, .ref ka, .ref kb, .int cc, .int scd_66, .int ce, .int scf_67, .int cg, .int ch, .int ci, .int cj, .int ck, .ref kl, .int cm, .int cn, .ref ko])), (k0, .inl (cI, 1201, .inl c0))] := hD
                      have lo_scd_66 := k_lo scd_66
                      have hi_scd_66 := k_hi scd_66
                      obtain ⟨h_69, h_70⟩ := w_65
                      have h_69 : v_63.toInt ≤ scd_66.toInt := h_69
                      have h_70 : scd_66.toInt ≤ ce.toInt := h_70
                      have lo_r_64 := k_lo r_64
                      have hi_r_64 := k_hi r_64
                      refine lv_istore_n (lv' := [(3, .int r_64), (2, .int 1), (1, .int l5_1), (0, .ref k)]) hx hb dX11_sum_59 rfl hl (by decide) rfl ?_
                      clear hl
                      intro ls hl
                      refine lv_iload_n hx hb dX11_sum_60 rfl (lv_at hl 1 rfl) ?_
                      refine b_if_eq hx hb zl_1 (tgt := 70) dX11_sum_61 (by decide) (fun c_71 => by exfalso; omega) (fun c_71 => ?_)
                      refine lv_iload_n hx hb dX11_sum_64 rfl (lv_at hl 2 rfl) ?_
                      refine lv_iload_n hx hb dX11_sum_65 rfl (lv_at hl 0 rfl) ?_
                      refine lv_iadd hx hb dX11_sum_66 ?_
                      refine lv_topi (fun v_72 ev_72 => ?_)
                      have lo_v_72 := k_lo v_72
                      have hi_v_72 := k_hi v_72
                      refine lv_goto (tgt := 73) hx hb dX11_sum_67 (by decide) ?_
                      refine lv_istore_n (lv' := [(1, .int v_72), (3, .int r_64), (2, .int 1), (0, .ref k)]) hx hb dX11_sum_73 rfl hl (by decide) rfl ?_
                      clear hl
                      intro ls hl
                      refine lv_goto (tgt := 5) hx hb dX11_sum_74 (by decide) ?_
                      exact ih5 v_72 scd_66 scf_67 (by first | omega | decide | assumption | rfl) (by first | omega | decide | assumption | rfl) (by omega) ls _ _ (lv_sub hl [0, 3] rfl) (hP.sub [0, 1] rfl) (hD.sub [0, 1] (by decide) rfl) hS
                  · exfalso; omega
              · exfalso; omega
          · have h_13 : f5_kd.toInt = ce.toInt := h_13
            obtain rfl : r_9 = (-1) := hr_9.trans (by decide)
            refine lv_bipush (v := 43) hx hb dX11_sum_16 (by decide) ?_
            refine b_icmp_eq hx hb zl_m1 zl_43 (tgt := 30) dX11_sum_18 (by decide) (fun c_73 => by exfalso; omega) (fun c_73 => ?_)
            refine lv_aload_n hx hb dX11_sum_21 rfl (lv_at hl 1 rfl) ?_
            refine kJi (wr := []) (va_runV (As := []) (rest := []) ⟨hx, hb, hml, hown, hT⟩ (c_X11_nowG l D cI aK aV k k0 k1 k2 k4 k5 k6 k7 k8 ka kb kl ko H.size c3 c9 cc f5_kd ce f5_kf cg ch ci cj ck cm cn c0 (by first | omega | decide | assumption | rfl) (by first | omega | decide | assumption | rfl) (by first | omega | decide | assumption | rfl) (by first | omega | decide | assumption | rfl) (by first | omega | decide | assumption | rfl)) (cwV 0 hT (gV_in mw_1339 mw_1336 mw_1338 mw_p4_9 mw_12) rfl rfl rfl (by decide +kernel) ⟨Nat.le_of_ble_eq_true rfl, Nat.le_of_ble_eq_true rfl⟩) (kRecvX (q0 := 0) (ci := 11) hK hP hD hN hXS hS hA rfl rfl [0, 1] rfl (by decide)) rfl rfl hl.1 rfl (lv_room (Nat.le_of_ble_eq_true rfl)) dX11_sum_22 ⟨Nat.le_of_ble_eq_true rfl, Nat.le_of_ble_eq_true rfl⟩) hP hD hS hA [0, 1] [] rfl rfl (by decide) (by decide) ?_
            clear hP hD hS
            intro r_74 u_76 H locs w_75 hP hD hS
            replace hP : va_P D vwCl [(k, .inr (11, [.ref k0, .ref k1, .ref k2, .int c3, .ref k4, .ref k5, .ref k6, .ref k7, .ref k8, .int c9, .ref ka, .ref kb, .int cc, .int f5_kd, .int ce, .int f5_kf, .int cg, .int ch, .int ci, .int cj, .int ck, .ref kl, .int cm, .int cn, .ref ko])), (k0, .inl (cI, 1201, .inl c0))] H := hP
            replace hD : va_D A [(k, .inr (11, [.ref k0, .ref k1, .ref k2, .int c3, .ref k4, .ref k5, .ref k6, .ref k7, .ref k8, .int c9, .ref ka, .ref kb, .int cc, .int f5_kd, .int ce, .int f5_kf, .int cg, .int ch, .int ci, .int cj, .int ck, .ref kl, .int cm, .int cn, .ref ko])), (k0, .inl (cI, 1201, .inl c0))] := hD
            rcases w_75 with h_77 | ⟨hr_74, h_78⟩
            · exfalso; omega
            · have h_78 : f5_kd.toInt = ce.toInt := h_78
              obtain rfl : r_74 = (-1) := hr_74.trans (by decide)
              refine lv_bipush (v := 45) hx hb dX11_sum_25 (by decide) ?_
              refine b_icmp_ne hx hb zl_m1 zl_45 (tgt := 77) dX11_sum_27 (by decide) (fun c_79 => ?_) (fun c_79 => by exfalso; omega)
              refine lv_iload_n hx hb dX11_sum_77 rfl (lv_at hl 0 rfl) ?_
              exact hRet (f5_kd, f5_kf) [0, 1] ⟨(by first | omega | decide | assumption | rfl | (dsimp only; first | omega)), (by first | omega | decide | assumption | rfl | (dsimp only; first | omega))⟩ hP hD (by decide) rfl hS rfl dX11_sum_78
  exact hloop_5 _ r_1 scd_3 scf_4 (by first | omega | decide | assumption | rfl) (by first | omega | decide | assumption | rfl) (Nat.lt_succ_self _) ls _ _ (lv_sub hl [0, 1] rfl) hP hD hS
theorem dX11_test_0 : decode cX11_test 0 = .ok (.aload_n 0, 1) := by decide +kernel
theorem dX11_test_1 : decode cX11_test 1 = .ok (.invokevirtual 189, 3) := by decide +kernel
theorem dX11_test_4 : decode cX11_test 4 = .ok (.istore_n 1, 1) := by decide +kernel
theorem dX11_test_5 : decode cX11_test 5 = .ok (.aload_n 0, 1) := by decide +kernel
theorem dX11_test_6 : decode cX11_test 6 = .ok (.invokevirtual 152, 3) := by decide +kernel
theorem dX11_test_9 : decode cX11_test 9 = .ok (.istore_n 2, 1) := by decide +kernel
theorem dX11_test_10 : decode cX11_test 10 = .ok (.aload_n 0, 1) := by decide +kernel
theorem dX11_test_11 : decode cX11_test 11 = .ok (.getfield 148, 3) := by decide +kernel
theorem dX11_test_14 : decode cX11_test 14 = .ok (.ifCond .ne 21, 3) := by decide +kernel
theorem dX11_test_17 : decode cX11_test 17 = .ok (.iload_n 2, 1) := by decide +kernel
theorem dX11_test_18 : decode cX11_test 18 = .ok (.bipush 60, 2) := by decide +kernel
theorem dX11_test_20 : decode cX11_test 20 = .ok (.if_icmp .eq 17, 3) := by decide +kernel
theorem dX11_test_23 : decode cX11_test 23 = .ok (.iload_n 2, 1) := by decide +kernel
theorem dX11_test_24 : decode cX11_test 24 = .ok (.bipush 61, 2) := by decide +kernel
theorem dX11_test_26 : decode cX11_test 26 = .ok (.if_icmp .eq 11, 3) := by decide +kernel
theorem dX11_test_29 : decode cX11_test 29 = .ok (.iload_n 2, 1) := by decide +kernel
theorem dX11_test_30 : decode cX11_test 30 = .ok (.bipush 62, 2) := by decide +kernel
theorem dX11_test_32 : decode cX11_test 32 = .ok (.if_icmp .eq 5, 3) := by decide +kernel
theorem dX11_test_35 : decode cX11_test 35 = .ok (.iload_n 1, 1) := by decide +kernel
theorem dX11_test_36 : decode cX11_test 36 = .ok (.ireturn, 1) := by decide +kernel
theorem dX11_test_37 : decode cX11_test 37 = .ok (.aload_n 0, 1) := by decide +kernel
theorem dX11_test_38 : decode cX11_test 38 = .ok (.dup, 1) := by decide +kernel
theorem dX11_test_39 : decode cX11_test 39 = .ok (.getfield 138, 3) := by decide +kernel
theorem dX11_test_42 : decode cX11_test 42 = .ok (.iconst 1, 1) := by decide +kernel
theorem dX11_test_43 : decode cX11_test 43 = .ok (.iadd, 1) := by decide +kernel
theorem dX11_test_44 : decode cX11_test 44 = .ok (.putfield 138, 3) := by decide +kernel
theorem dX11_test_47 : decode cX11_test 47 = .ok (.aload_n 0, 1) := by decide +kernel
theorem dX11_test_48 : decode cX11_test 48 = .ok (.invokevirtual 189, 3) := by decide +kernel
theorem dX11_test_51 : decode cX11_test 51 = .ok (.istore_n 3, 1) := by decide +kernel
theorem dX11_test_52 : decode cX11_test 52 = .ok (.iload_n 2, 1) := by decide +kernel
theorem dX11_test_53 : decode cX11_test 53 = .ok (.bipush 60, 2) := by decide +kernel
theorem dX11_test_55 : decode cX11_test 55 = .ok (.if_icmp .ne 11, 3) := by decide +kernel
theorem dX11_test_58 : decode cX11_test 58 = .ok (.iload_n 1, 1) := by decide +kernel
theorem dX11_test_59 : decode cX11_test 59 = .ok (.iload_n 3, 1) := by decide +kernel
theorem dX11_test_60 : decode cX11_test 60 = .ok (.if_icmp .ge 29, 3) := by decide +kernel
theorem dX11_test_63 : decode cX11_test 63 = .ok (.goto 22, 3) := by decide +kernel
theorem dX11_test_66 : decode cX11_test 66 = .ok (.iload_n 2, 1) := by decide +kernel
theorem dX11_test_67 : decode cX11_test 67 = .ok (.bipush 62, 2) := by decide +kernel
theorem dX11_test_69 : decode cX11_test 69 = .ok (.if_icmp .ne 11, 3) := by decide +kernel
theorem dX11_test_72 : decode cX11_test 72 = .ok (.iload_n 1, 1) := by decide +kernel
theorem dX11_test_73 : decode cX11_test 73 = .ok (.iload_n 3, 1) := by decide +kernel
theorem dX11_test_74 : decode cX11_test 74 = .ok (.if_icmp .le 15, 3) := by decide +kernel
theorem dX11_test_77 : decode cX11_test 77 = .ok (.goto 8, 3) := by decide +kernel
theorem dX11_test_80 : decode cX11_test 80 = .ok (.iload_n 1, 1) := by decide +kernel
theorem dX11_test_81 : decode cX11_test 81 = .ok (.iload_n 3, 1) := by decide +kernel
theorem dX11_test_82 : decode cX11_test 82 = .ok (.if_icmp .ne 7, 3) := by decide +kernel
theorem dX11_test_85 : decode cX11_test 85 = .ok (.iconst 1, 1) := by decide +kernel
theorem dX11_test_86 : decode cX11_test 86 = .ok (.goto 4, 3) := by decide +kernel
theorem dX11_test_89 : decode cX11_test 89 = .ok (.iconst 0, 1) := by decide +kernel
theorem dX11_test_90 : decode cX11_test 90 = .ok (.ireturn, 1) := by decide +kernel
set_option maxHeartbeats 4000000 in
set_option maxRecDepth 100000 in
theorem c_X11_testG4 (l : Launch) (D : va_G) (cI : ClassId) (aK aV : Nat → Nat) (k k0 k1 k2 k4 k5 k6 k7 k8 ka kb kl ko : Nat) (sz : Nat) (c3 : Int32) (c9 : Int32) (cc : Int32) (cd : Int32) (ce : Int32) (cf : Int32) (cg : Int32) (ch : Int32) (ci : Int32) (cj : Int32) (ck : Int32) (cm : Int32) (cn : Int32) (c0 : Nat → Int32) (pre0 : 0 ≤ cc.toInt) (pre1 : cc.toInt ≤ 1151) (pre2 : 0 ≤ cd.toInt) (pre3 : cd.toInt ≤ ce.toInt) (pre4 : ce.toInt ≤ 50) (pre5 : cg.toInt = 4) : Met l yX11_test (gW yX11_test cX11_test 4 (some .int)) ({ frames := 4, cells := 0, slots := 0, locals := 91 } : Room) (kPreX D cI aK aV [.ref k] [(k, .inr (11, [.ref k0, .ref k1, .ref k2, .int c3, .ref k4, .ref k5, .ref k6, .ref k7, .ref k8, .int c9, .ref ka, .ref kb, .int cc, .int cd, .int ce, .int cf, .int cg, .int ch, .int ci, .int cj, .int ck, .ref kl, .int cm, .int cn, .ref ko])), (k0, .inl (cI, 1201, .inl c0))] sz) (va_Qi (fun (r : Int32) (u : Int32 × Int32) => cd.toInt ≤ u.1.toInt ∧ u.1.toInt ≤ ce.toInt) (fun u t => kWd D cI (va_A [(k, .inr (11, [.ref k0, .ref k1, .ref k2, .int c3, .ref k4, .ref k5, .ref k6, .ref k7, .ref k8, .int c9, .ref ka, .ref kb, .int cc, .int cd, .int ce, .int cf, .int cg, .int ch, .int ci, .int cj, .int ck, .ref kl, .int cm, .int cn, .ref ko])), (k0, .inl (cI, 1201, .inl c0))] sz) [(k, .inr (11, [.ref k0, .ref k1, .ref k2, .int c3, .ref k4, .ref k5, .ref k6, .ref k7, .ref k8, .int c9, .ref ka, .ref kb, .int cc, .int u.1, .int ce, .int u.2, .int cg, .int ch, .int ci, .int cj, .int ck, .ref kl, .int cm, .int cn, .ref ko])), (k0, .inl (cI, 1201, .inl c0))] t) (va_A [(k, .inr (11, [.ref k0, .ref k1, .ref k2, .int c3, .ref k4, .ref k5, .ref k6, .ref k7, .ref k8, .int c9, .ref ka, .ref kb, .int cc, .int cd, .int ce, .int cf, .int cg, .int ch, .int ci, .int cj, .int ck, .ref kl, .int cm, .int cn, .ref ko])), (k0, .inl (cI, 1201, .inl c0))] sz)) 0 0 (va_A [(k, .inr (11, [.ref k0, .ref k1, .ref k2, .int c3, .ref k4, .ref k5, .ref k6, .ref k7, .ref k8, .int c9, .ref ka, .ref kb, .int cc, .int cd, .int ce, .int cf, .int cg, .int ch, .int ci, .int cj, .int ck, .ref kl, .int cm, .int cn, .ref ko])), (k0, .inl (cI, 1201, .inl c0))] sz) := by
  refine kMetIX (own := RX11) (by decide) rfl (Nat.le_of_ble_eq_true rfl) ?_
  intro p e s m args below meth c hx hb hT hown hname hml A Q hK hP hD hS hA hN hXS hRet ls hl
  have hl : lv_has ls 4 [(0, .ref k)] := hl
  have lo_cd := k_lo cd
  have hi_cd := k_hi cd
  have lo_ce := k_lo ce
  have hi_ce := k_hi ce
  have lo_ci := k_lo ci
  have hi_ci := k_hi ci
  refine lv_aload_n hx hb dX11_test_0 rfl (lv_at hl 0 rfl) ?_
  refine kJi (wr := []) (va_runV (As := []) (rest := []) ⟨hx, hb, hml, hown, hT⟩ (c_X11_sumG4 l D cI aK aV k k0 k1 k2 k4 k5 k6 k7 k8 ka kb kl ko s.heap.size c3 c9 cc cd ce cf cg ch ci cj ck cm cn c0 (by first | omega | decide | assumption | rfl) (by first | omega | decide | assumption | rfl) (by first | omega | decide | assumption | rfl) (by first | omega | decide | assumption | rfl) (by first | omega | decide | assumption | rfl) (by first | omega | decide | assumption | rfl)) (cwV 0 hT (gV_in mw_1327 mw_1324 mw_1326 mw_p4_6 mw_12) rfl rfl rfl (by decide +kernel) ⟨Nat.le_of_ble_eq_true rfl, Nat.le_of_ble_eq_true rfl⟩) (kRecvX (q0 := 0) (ci := 11) hK hP hD hN hXS hS hA rfl rfl [0, 1] rfl (by decide)) rfl rfl hl.1 rfl (lv_room (Nat.le_of_ble_eq_true rfl)) dX11_test_1 ⟨Nat.le_of_ble_eq_true rfl, Nat.le_of_ble_eq_true rfl⟩) hP hD hS hA [0, 1] [] rfl rfl (by decide) (by decide) ?_
  clear hP hD hS
  intro r_1 u_5 H locs w_2 hP hD hS
  obtain ⟨scd_3, scf_4⟩ := u_5
  replace hP : va_P D vwCl [(k, .inr (11, [.ref k0, .ref k1, .ref k2, .int c3, .ref k4, .ref k5, .ref k6, .ref k7, .ref k8, .int c9, .ref ka, .ref kb, .int cc, .int scd_3, .int ce, .int scf_4, .int cg, .int ch, .int ci, .int cj, .int ck, .ref kl, .int cm, .int cn, .ref ko])), (k0, .inl (cI, 1201, .inl c0))] H := hP
  replace hD : va_D A [(k, .inr (11, [.ref k0, .ref k1, .ref k2, .int c3, .ref k4, .ref k5, .ref k6, .ref k7, .ref k8, .int c9, .ref ka, .ref kb, .int cc, .int scd_3, .int ce, .int scf_4, .int cg, .int ch, .int ci, .int cj, .int ck, .ref kl, .int cm, .int cn, .ref ko])), (k0, .inl (cI, 1201, .inl c0))] := hD
  have lo_scd_3 := k_lo scd_3
  have hi_scd_3 := k_hi scd_3
  have lo_scf_4 := k_lo scf_4
  have hi_scf_4 := k_hi scf_4
  obtain ⟨h_6, h_7⟩ := w_2
  have h_6 : cd.toInt ≤ scd_3.toInt := h_6
  have h_7 : scd_3.toInt ≤ ce.toInt := h_7
  have lo_r_1 := k_lo r_1
  have hi_r_1 := k_hi r_1
  refine lv_istore_n (lv' := [(1, .int r_1), (0, .ref k)]) hx hb dX11_test_4 rfl hl (by decide) rfl ?_
  clear hl
  intro ls hl
  refine lv_aload_n hx hb dX11_test_5 rfl (lv_at hl 1 rfl) ?_
  refine kJi (wr := []) (va_runV (As := []) (rest := []) ⟨hx, hb, hml, hown, hT⟩ (c_X11_nowG l D cI aK aV k k0 k1 k2 k4 k5 k6 k7 k8 ka kb kl ko H.size c3 c9 cc scd_3 ce scf_4 cg ch ci cj ck cm cn c0 (by first | omega | decide | assumption | rfl) (by first | omega | decide | assumption | rfl) (by first | omega | decide | assumption | rfl) (by first | omega | decide | assumption | rfl) (by first | omega | decide | assumption | rfl)) (cwV 0 hT (gV_in mw_1339 mw_1336 mw_1338 mw_p4_9 mw_12) rfl rfl rfl (by decide +kernel) ⟨Nat.le_of_ble_eq_true rfl, Nat.le_of_ble_eq_true rfl⟩) (kRecvX (q0 := 0) (ci := 11) hK hP hD hN hXS hS hA rfl rfl [0, 1] rfl (by decide)) rfl rfl hl.1 rfl (lv_room (Nat.le_of_ble_eq_true rfl)) dX11_test_6 ⟨Nat.le_of_ble_eq_true rfl, Nat.le_of_ble_eq_true rfl⟩) hP hD hS hA [0, 1] [] rfl rfl (by decide) (by decide) ?_
  clear hP hD hS
  intro r_8 u_10 H locs w_9 hP hD hS
  replace hP : va_P D vwCl [(k, .inr (11, [.ref k0, .ref k1, .ref k2, .int c3, .ref k4, .ref k5, .ref k6, .ref k7, .ref k8, .int c9, .ref ka, .ref kb, .int cc, .int scd_3, .int ce, .int scf_4, .int cg, .int ch, .int ci, .int cj, .int ck, .ref kl, .int cm, .int cn, .ref ko])), (k0, .inl (cI, 1201, .inl c0))] H := hP
  replace hD : va_D A [(k, .inr (11, [.ref k0, .ref k1, .ref k2, .int c3, .ref k4, .ref k5, .ref k6, .ref k7, .ref k8, .int c9, .ref ka, .ref kb, .int cc, .int scd_3, .int ce, .int scf_4, .int cg, .int ch, .int ci, .int cj, .int ck, .ref kl, .int cm, .int cn, .ref ko])), (k0, .inl (cI, 1201, .inl c0))] := hD
  rcases w_9 with h_11 | ⟨hr_8, h_12⟩
  · have h_11 : scd_3.toInt < ce.toInt := h_11
    have lo_r_8 := k_lo r_8
    have hi_r_8 := k_hi r_8
    refine lv_istore_n (lv' := [(2, .int r_8), (1, .int r_1), (0, .ref k)]) hx hb dX11_test_9 rfl hl (by decide) rfl ?_
    clear hl
    intro ls hl
    refine lv_aload_n hx hb dX11_test_10 rfl (lv_at hl 2 rfl) ?_
    refine va_get (D := D) (ci := 11) (v := .int scf_4) (C := RX11) (T := TX11) (N := 25) hx hb hT giX11 hown hK hP 0 rfl rfl 15 (by decide) (hT (Cond.fieldLink RX11 148 "DesertWireModel" "isWrong" "Z") mw_1171) (fun _ h9 => h9) rfl dX11_test_11 ?_
    refine b_if_ne hx hb rfl (tgt := 35) dX11_test_14 (by decide) (fun c_13 => ?_) (fun c_13 => ?_)
    · refine lv_iload_n hx hb dX11_test_35 rfl (lv_at hl 1 rfl) ?_
      exact hRet (scd_3, scf_4) [0, 1] ⟨(by first | omega | decide | assumption | rfl | (dsimp only; first | omega)), (by first | omega | decide | assumption | rfl | (dsimp only; first | omega))⟩ hP hD (by decide) rfl hS rfl dX11_test_36
    · refine lv_iload_n hx hb dX11_test_17 rfl (lv_at hl 0 rfl) ?_
      refine lv_bipush (v := 60) hx hb dX11_test_18 (by decide) ?_
      refine b_icmp_eq hx hb rfl zl_60 (tgt := 37) dX11_test_20 (by decide) (fun c_14 => ?_) (fun c_14 => ?_)
      · refine lv_aload_n hx hb dX11_test_37 rfl (lv_at hl 2 rfl) ?_
        refine lv_dup hx hb dX11_test_38 rfl ?_
        refine va_get (D := D) (ci := 11) (v := .int scd_3) (C := RX11) (T := TX11) (N := 25) hx hb hT giX11 hown hK hP 0 rfl rfl 13 (by decide) (hT (Cond.fieldLink RX11 138 "DesertWireModel" "here" "I") mw_1169) (fun _ h9 => h9) rfl dX11_test_39 ?_
        refine lv_iconst (v := 1) hx hb dX11_test_42 (by decide) ?_
        refine lv_iadd hx hb dX11_test_43 ?_
        refine lv_topi (fun v_15 ev_15 => ?_)
        have tv_15 : v_15.toInt = scd_3.toInt + 1 := by rw [ev_15]; exact k_addv rfl zl_1 (by omega) (by omega)
        refine va_put (D := D) (ci := 11) (v := .int v_15) (ty := .int) (C := RX11) (T := TX11) (N := 25) hx hb hT giX11 tyX11 tyX11_ok nmX11 hown hK hP hD hS 0 rfl rfl 13 (by decide) (hT (Cond.fieldLink RX11 138 "DesertWireModel" "here" "I") mw_1169) (fun _ h9 => h9) rfl (by decide +kernel) rfl rfl (Nat.le_of_ble_eq_true rfl) dX11_test_44 ?_
        clear hP hD hS
        intro H locs hP hD hS
        replace hP : va_P D vwCl [(k, .inr (11, [.ref k0, .ref k1, .ref k2, .int c3, .ref k4, .ref k5, .ref k6, .ref k7, .ref k8, .int c9, .ref ka, .ref kb, .int cc, .int v_15, .int ce, .int scf_4, .int cg, .int ch, .int ci, .int cj, .int ck, .ref kl, .int cm, .int cn, .ref ko])), (k0, .inl (cI, 1201, .inl c0))] H := hP
        replace hD : va_D A [(k, .inr (11, [.ref k0, .ref k1, .ref k2, .int c3, .ref k4, .ref k5, .ref k6, .ref k7, .ref k8, .int c9, .ref ka, .ref kb, .int cc, .int v_15, .int ce, .int scf_4, .int cg, .int ch, .int ci, .int cj, .int ck, .ref kl, .int cm, .int cn, .ref ko])), (k0, .inl (cI, 1201, .inl c0))] := hD
        refine lv_aload_n hx hb dX11_test_47 rfl (lv_at hl 2 rfl) ?_
        refine kJi (wr := []) (va_runV (As := []) (rest := []) ⟨hx, hb, hml, hown, hT⟩ (c_X11_sumG4 l D cI aK aV k k0 k1 k2 k4 k5 k6 k7 k8 ka kb kl ko H.size c3 c9 cc v_15 ce scf_4 cg ch ci cj ck cm cn c0 (by first | omega | decide | assumption | rfl) (by first | omega | decide | assumption | rfl) (by first | omega | decide | assumption | rfl) (by first | omega | decide | assumption | rfl) (by first | omega | decide | assumption | rfl) (by first | omega | decide | assumption | rfl)) (cwV 0 hT (gV_in mw_1327 mw_1324 mw_1326 mw_p4_6 mw_12) rfl rfl rfl (by decide +kernel) ⟨Nat.le_of_ble_eq_true rfl, Nat.le_of_ble_eq_true rfl⟩) (kRecvX (q0 := 0) (ci := 11) hK hP hD hN hXS hS hA rfl rfl [0, 1] rfl (by decide)) rfl rfl hl.1 rfl (lv_room (Nat.le_of_ble_eq_true rfl)) dX11_test_48 ⟨Nat.le_of_ble_eq_true rfl, Nat.le_of_ble_eq_true rfl⟩) hP hD hS hA [0, 1] [] rfl rfl (by decide) (by decide) ?_
        clear hP hD hS
        intro r_16 u_20 H locs w_17 hP hD hS
        obtain ⟨scd_18, scf_19⟩ := u_20
        replace hP : va_P D vwCl [(k, .inr (11, [.ref k0, .ref k1, .ref k2, .int c3, .ref k4, .ref k5, .ref k6, .ref k7, .ref k8, .int c9, .ref ka, .ref kb, .int cc, .int scd_18, .int ce, .int scf_19, .int cg, .int ch, .int ci, .int cj, .int ck, .ref kl, .int cm, .int cn, .ref ko])), (k0, .inl (cI, 1201, .inl c0))] H := hP
        replace hD : va_D A [(k, .inr (11, [.ref k0, .ref k1, .ref k2, .int c3, .ref k4, .ref k5, .ref k6, .ref k7, .ref k8, .int c9, .ref ka, .ref kb, .int cc, .int scd_18, .int ce, .int scf_19, .int cg, .int ch, .int ci, .int cj, .int ck, .ref kl, .int cm, .int cn, .ref ko])), (k0, .inl (cI, 1201, .inl c0))] := hD
        have lo_scd_18 := k_lo scd_18
        have hi_scd_18 := k_hi scd_18
        obtain ⟨h_21, h_22⟩ := w_17
        have h_21 : v_15.toInt ≤ scd_18.toInt := h_21
        have h_22 : scd_18.toInt ≤ ce.toInt := h_22
        have lo_r_16 := k_lo r_16
        have hi_r_16 := k_hi r_16
        refine lv_istore_n (lv' := [(3, .int r_16), (2, .int r_8), (1, .int r_1), (0, .ref k)]) hx hb dX11_test_51 rfl hl (by decide) rfl ?_
        clear hl
        intro ls hl
        refine lv_iload_n hx hb dX11_test_52 rfl (lv_at hl 1 rfl) ?_
        refine lv_bipush (v := 60) hx hb dX11_test_53 (by decide) ?_
        refine b_icmp_ne hx hb rfl zl_60 (tgt := 66) dX11_test_55 (by decide) (fun c_23 => by exfalso; omega) (fun c_23 => ?_)
        refine lv_iload_n hx hb dX11_test_58 rfl (lv_at hl 2 rfl) ?_
        refine lv_iload_n hx hb dX11_test_59 rfl (lv_at hl 0 rfl) ?_
        refine b_icmp_ge hx hb rfl rfl (tgt := 89) dX11_test_60 (by decide) (fun c_24 => ?_) (fun c_24 => ?_)
        · refine lv_iconst (v := 0) hx hb dX11_test_89 (by decide) ?_
          exact hRet (scd_18, scf_19) [0, 1] ⟨(by first | omega | (simp only [zl_0] <;> omega) | decide | assumption | rfl | (dsimp only; first | omega | (simp only [zl_0] <;> omega))), (by first | omega | (simp only [zl_0] <;> omega) | decide | assumption | rfl | (dsimp only; first | omega | (simp only [zl_0] <;> omega)))⟩ hP hD (by decide) rfl hS rfl dX11_test_90
        · refine lv_goto (tgt := 85) hx hb dX11_test_63 (by decide) ?_
          refine lv_iconst (v := 1) hx hb dX11_test_85 (by decide) ?_
          refine lv_goto (tgt := 90) hx hb dX11_test_86 (by decide) ?_
          exact hRet (scd_18, scf_19) [0, 1] ⟨(by first | omega | (simp only [zl_1] <;> omega) | decide | assumption | rfl | (dsimp only; first | omega | (simp only [zl_1] <;> omega))), (by first | omega | (simp only [zl_1] <;> omega) | decide | assumption | rfl | (dsimp only; first | omega | (simp only [zl_1] <;> omega)))⟩ hP hD (by decide) rfl hS rfl dX11_test_90
      · refine lv_iload_n hx hb dX11_test_23 rfl (lv_at hl 0 rfl) ?_
        refine lv_bipush (v := 61) hx hb dX11_test_24 (by decide) ?_
        refine b_icmp_eq hx hb rfl zl_61 (tgt := 37) dX11_test_26 (by decide) (fun c_25 => ?_) (fun c_25 => ?_)
        · refine lv_aload_n hx hb dX11_test_37 rfl (lv_at hl 2 rfl) ?_
          refine lv_dup hx hb dX11_test_38 rfl ?_
          refine va_get (D := D) (ci := 11) (v := .int scd_3) (C := RX11) (T := TX11) (N := 25) hx hb hT giX11 hown hK hP 0 rfl rfl 13 (by decide) (hT (Cond.fieldLink RX11 138 "DesertWireModel" "here" "I") mw_1169) (fun _ h9 => h9) rfl dX11_test_39 ?_
          refine lv_iconst (v := 1) hx hb dX11_test_42 (by decide) ?_
          refine lv_iadd hx hb dX11_test_43 ?_
          refine lv_topi (fun v_26 ev_26 => ?_)
          have tv_26 : v_26.toInt = scd_3.toInt + 1 := by rw [ev_26]; exact k_addv rfl zl_1 (by omega) (by omega)
          refine va_put (D := D) (ci := 11) (v := .int v_26) (ty := .int) (C := RX11) (T := TX11) (N := 25) hx hb hT giX11 tyX11 tyX11_ok nmX11 hown hK hP hD hS 0 rfl rfl 13 (by decide) (hT (Cond.fieldLink RX11 138 "DesertWireModel" "here" "I") mw_1169) (fun _ h9 => h9) rfl (by decide +kernel) rfl rfl (Nat.le_of_ble_eq_true rfl) dX11_test_44 ?_
          clear hP hD hS
          intro H locs hP hD hS
          replace hP : va_P D vwCl [(k, .inr (11, [.ref k0, .ref k1, .ref k2, .int c3, .ref k4, .ref k5, .ref k6, .ref k7, .ref k8, .int c9, .ref ka, .ref kb, .int cc, .int v_26, .int ce, .int scf_4, .int cg, .int ch, .int ci, .int cj, .int ck, .ref kl, .int cm, .int cn, .ref ko])), (k0, .inl (cI, 1201, .inl c0))] H := hP
          replace hD : va_D A [(k, .inr (11, [.ref k0, .ref k1, .ref k2, .int c3, .ref k4, .ref k5, .ref k6, .ref k7, .ref k8, .int c9, .ref ka, .ref kb, .int cc, .int v_26, .int ce, .int scf_4, .int cg, .int ch, .int ci, .int cj, .int ck, .ref kl, .int cm, .int cn, .ref ko])), (k0, .inl (cI, 1201, .inl c0))] := hD
          refine lv_aload_n hx hb dX11_test_47 rfl (lv_at hl 2 rfl) ?_
          refine kJi (wr := []) (va_runV (As := []) (rest := []) ⟨hx, hb, hml, hown, hT⟩ (c_X11_sumG4 l D cI aK aV k k0 k1 k2 k4 k5 k6 k7 k8 ka kb kl ko H.size c3 c9 cc v_26 ce scf_4 cg ch ci cj ck cm cn c0 (by first | omega | decide | assumption | rfl) (by first | omega | decide | assumption | rfl) (by first | omega | decide | assumption | rfl) (by first | omega | decide | assumption | rfl) (by first | omega | decide | assumption | rfl) (by first | omega | decide | assumption | rfl)) (cwV 0 hT (gV_in mw_1327 mw_1324 mw_1326 mw_p4_6 mw_12) rfl rfl rfl (by decide +kernel) ⟨Nat.le_of_ble_eq_true rfl, Nat.le_of_ble_eq_true rfl⟩) (kRecvX (q0 := 0) (ci := 11) hK hP hD hN hXS hS hA rfl rfl [0, 1] rfl (by decide)) rfl rfl hl.1 rfl (lv_room (Nat.le_of_ble_eq_true rfl)) dX11_test_48 ⟨Nat.le_of_ble_eq_true rfl, Nat.le_of_ble_eq_true rfl⟩) hP hD hS hA [0, 1] [] rfl rfl (by decide) (by decide) ?_
          clear hP hD hS
          intro r_27 u_31 H locs w_28 hP hD hS
          obtain ⟨scd_29, scf_30⟩ := u_31
          replace hP : va_P D vwCl [(k, .inr (11, [.ref k0, .ref k1, .ref k2, .int c3, .ref k4, .ref k5, .ref k6, .ref k7, .ref k8, .int c9, .ref ka, .ref kb, .int cc, .int scd_29, .int ce, .int scf_30, .int cg, .int ch, .int ci, .int cj, .int ck, .ref kl, .int cm, .int cn, .ref ko])), (k0, .inl (cI, 1201, .inl c0))] H := hP
          replace hD : va_D A [(k, .inr (11, [.ref k0, .ref k1, .ref k2, .int c3, .ref k4, .ref k5, .ref k6, .ref k7, .ref k8, .int c9, .ref ka, .ref kb, .int cc, .int scd_29, .int ce, .int scf_30, .int cg, .int ch, .int ci, .int cj, .int ck, .ref kl, .int cm, .int cn, .ref ko])), (k0, .inl (cI, 1201, .inl c0))] := hD
          have lo_scd_29 := k_lo scd_29
          have hi_scd_29 := k_hi scd_29
          obtain ⟨h_32, h_33⟩ := w_28
          have h_32 : v_26.toInt ≤ scd_29.toInt := h_32
          have h_33 : scd_29.toInt ≤ ce.toInt := h_33
          have lo_r_27 := k_lo r_27
          have hi_r_27 := k_hi r_27
          refine lv_istore_n (lv' := [(3, .int r_27), (2, .int r_8), (1, .int r_1), (0, .ref k)]) hx hb dX11_test_51 rfl hl (by decide) rfl ?_
          clear hl
          intro ls hl
          refine lv_iload_n hx hb dX11_test_52 rfl (lv_at hl 1 rfl) ?_
          refine lv_bipush (v := 60) hx hb dX11_test_53 (by decide) ?_
          refine b_icmp_ne hx hb rfl zl_60 (tgt := 66) dX11_test_55 (by decide) (fun c_34 => ?_) (fun c_34 => by exfalso; omega)
          refine lv_iload_n hx hb dX11_test_66 rfl (lv_at hl 1 rfl) ?_
          refine lv_bipush (v := 62) hx hb dX11_test_67 (by decide) ?_
          refine b_icmp_ne hx hb rfl zl_62 (tgt := 80) dX11_test_69 (by decide) (fun c_35 => ?_) (fun c_35 => by exfalso; omega)
          refine lv_iload_n hx hb dX11_test_80 rfl (lv_at hl 2 rfl) ?_
          refine lv_iload_n hx hb dX11_test_81 rfl (lv_at hl 0 rfl) ?_
          refine b_icmp_ne hx hb rfl rfl (tgt := 89) dX11_test_82 (by decide) (fun c_36 => ?_) (fun c_36 => ?_)
          · refine lv_iconst (v := 0) hx hb dX11_test_89 (by decide) ?_
            exact hRet (scd_29, scf_30) [0, 1] ⟨(by first | omega | (simp only [zl_0] <;> omega) | decide | assumption | rfl | (dsimp only; first | omega | (simp only [zl_0] <;> omega))), (by first | omega | (simp only [zl_0] <;> omega) | decide | assumption | rfl | (dsimp only; first | omega | (simp only [zl_0] <;> omega)))⟩ hP hD (by decide) rfl hS rfl dX11_test_90
          · refine lv_iconst (v := 1) hx hb dX11_test_85 (by decide) ?_
            refine lv_goto (tgt := 90) hx hb dX11_test_86 (by decide) ?_
            exact hRet (scd_29, scf_30) [0, 1] ⟨(by first | omega | (simp only [zl_1] <;> omega) | decide | assumption | rfl | (dsimp only; first | omega | (simp only [zl_1] <;> omega))), (by first | omega | (simp only [zl_1] <;> omega) | decide | assumption | rfl | (dsimp only; first | omega | (simp only [zl_1] <;> omega)))⟩ hP hD (by decide) rfl hS rfl dX11_test_90
        · refine lv_iload_n hx hb dX11_test_29 rfl (lv_at hl 0 rfl) ?_
          refine lv_bipush (v := 62) hx hb dX11_test_30 (by decide) ?_
          refine b_icmp_eq hx hb rfl zl_62 (tgt := 37) dX11_test_32 (by decide) (fun c_37 => ?_) (fun c_37 => ?_)
          · refine lv_aload_n hx hb dX11_test_37 rfl (lv_at hl 2 rfl) ?_
            refine lv_dup hx hb dX11_test_38 rfl ?_
            refine va_get (D := D) (ci := 11) (v := .int scd_3) (C := RX11) (T := TX11) (N := 25) hx hb hT giX11 hown hK hP 0 rfl rfl 13 (by decide) (hT (Cond.fieldLink RX11 138 "DesertWireModel" "here" "I") mw_1169) (fun _ h9 => h9) rfl dX11_test_39 ?_
            refine lv_iconst (v := 1) hx hb dX11_test_42 (by decide) ?_
            refine lv_iadd hx hb dX11_test_43 ?_
            refine lv_topi (fun v_38 ev_38 => ?_)
            have tv_38 : v_38.toInt = scd_3.toInt + 1 := by rw [ev_38]; exact k_addv rfl zl_1 (by omega) (by omega)
            refine va_put (D := D) (ci := 11) (v := .int v_38) (ty := .int) (C := RX11) (T := TX11) (N := 25) hx hb hT giX11 tyX11 tyX11_ok nmX11 hown hK hP hD hS 0 rfl rfl 13 (by decide) (hT (Cond.fieldLink RX11 138 "DesertWireModel" "here" "I") mw_1169) (fun _ h9 => h9) rfl (by decide +kernel) rfl rfl (Nat.le_of_ble_eq_true rfl) dX11_test_44 ?_
            clear hP hD hS
            intro H locs hP hD hS
            replace hP : va_P D vwCl [(k, .inr (11, [.ref k0, .ref k1, .ref k2, .int c3, .ref k4, .ref k5, .ref k6, .ref k7, .ref k8, .int c9, .ref ka, .ref kb, .int cc, .int v_38, .int ce, .int scf_4, .int cg, .int ch, .int ci, .int cj, .int ck, .ref kl, .int cm, .int cn, .ref ko])), (k0, .inl (cI, 1201, .inl c0))] H := hP
            replace hD : va_D A [(k, .inr (11, [.ref k0, .ref k1, .ref k2, .int c3, .ref k4, .ref k5, .ref k6, .ref k7, .ref k8, .int c9, .ref ka, .ref kb, .int cc, .int v_38, .int ce, .int scf_4, .int cg, .int ch, .int ci, .int cj, .int ck, .ref kl, .int cm, .int cn, .ref ko])), (k0, .inl (cI, 1201, .inl c0))] := hD
            refine lv_aload_n hx hb dX11_test_47 rfl (lv_at hl 2 rfl) ?_
            refine kJi (wr := []) (va_runV (As := []) (rest := []) ⟨hx, hb, hml, hown, hT⟩ (c_X11_sumG4 l D cI aK aV k k0 k1 k2 k4 k5 k6 k7 k8 ka kb kl ko H.size c3 c9 cc v_38 ce scf_4 cg ch ci cj ck cm cn c0 (by first | omega | decide | assumption | rfl) (by first | omega | decide | assumption | rfl) (by first | omega | decide | assumption | rfl) (by first | omega | decide | assumption | rfl) (by first | omega | decide | assumption | rfl) (by first | omega | decide | assumption | rfl)) (cwV 0 hT (gV_in mw_1327 mw_1324 mw_1326 mw_p4_6 mw_12) rfl rfl rfl (by decide +kernel) ⟨Nat.le_of_ble_eq_true rfl, Nat.le_of_ble_eq_true rfl⟩) (kRecvX (q0 := 0) (ci := 11) hK hP hD hN hXS hS hA rfl rfl [0, 1] rfl (by decide)) rfl rfl hl.1 rfl (lv_room (Nat.le_of_ble_eq_true rfl)) dX11_test_48 ⟨Nat.le_of_ble_eq_true rfl, Nat.le_of_ble_eq_true rfl⟩) hP hD hS hA [0, 1] [] rfl rfl (by decide) (by decide) ?_
            clear hP hD hS
            intro r_39 u_43 H locs w_40 hP hD hS
            obtain ⟨scd_41, scf_42⟩ := u_43
            replace hP : va_P D vwCl [(k, .inr (11, [.ref k0, .ref k1, .ref k2, .int c3, .ref k4, .ref k5, .ref k6, .ref k7, .ref k8, .int c9, .ref ka, .ref kb, .int cc, .int scd_41, .int ce, .int scf_42, .int cg, .int ch, .int ci, .int cj, .int ck, .ref kl, .int cm, .int cn, .ref ko])), (k0, .inl (cI, 1201, .inl c0))] H := hP
            replace hD : va_D A [(k, .inr (11, [.ref k0, .ref k1, .ref k2, .int c3, .ref k4, .ref k5, .ref k6, .ref k7, .ref k8, .int c9, .ref ka, .ref kb, .int cc, .int scd_41, .int ce, .int scf_42, .int cg, .int ch, .int ci, .int cj, .int ck, .ref kl, .int cm, .int cn, .ref ko])), (k0, .inl (cI, 1201, .inl c0))] := hD
            have lo_scd_41 := k_lo scd_41
            have hi_scd_41 := k_hi scd_41
            obtain ⟨h_44, h_45⟩ := w_40
            have h_44 : v_38.toInt ≤ scd_41.toInt := h_44
            have h_45 : scd_41.toInt ≤ ce.toInt := h_45
            have lo_r_39 := k_lo r_39
            have hi_r_39 := k_hi r_39
            refine lv_istore_n (lv' := [(3, .int r_39), (2, .int r_8), (1, .int r_1), (0, .ref k)]) hx hb dX11_test_51 rfl hl (by decide) rfl ?_
            clear hl
            intro ls hl
            refine lv_iload_n hx hb dX11_test_52 rfl (lv_at hl 1 rfl) ?_
            refine lv_bipush (v := 60) hx hb dX11_test_53 (by decide) ?_
            refine b_icmp_ne hx hb rfl zl_60 (tgt := 66) dX11_test_55 (by decide) (fun c_46 => ?_) (fun c_46 => by exfalso; omega)
            refine lv_iload_n hx hb dX11_test_66 rfl (lv_at hl 1 rfl) ?_
            refine lv_bipush (v := 62) hx hb dX11_test_67 (by decide) ?_
            refine b_icmp_ne hx hb rfl zl_62 (tgt := 80) dX11_test_69 (by decide) (fun c_47 => by exfalso; omega) (fun c_47 => ?_)
            refine lv_iload_n hx hb dX11_test_72 rfl (lv_at hl 2 rfl) ?_
            refine lv_iload_n hx hb dX11_test_73 rfl (lv_at hl 0 rfl) ?_
            refine b_icmp_le hx hb rfl rfl (tgt := 89) dX11_test_74 (by decide) (fun c_48 => ?_) (fun c_48 => ?_)
            · refine lv_iconst (v := 0) hx hb dX11_test_89 (by decide) ?_
              exact hRet (scd_41, scf_42) [0, 1] ⟨(by first | omega | (simp only [zl_0] <;> omega) | decide | assumption | rfl | (dsimp only; first | omega | (simp only [zl_0] <;> omega))), (by first | omega | (simp only [zl_0] <;> omega) | decide | assumption | rfl | (dsimp only; first | omega | (simp only [zl_0] <;> omega)))⟩ hP hD (by decide) rfl hS rfl dX11_test_90
            · refine lv_goto (tgt := 85) hx hb dX11_test_77 (by decide) ?_
              refine lv_iconst (v := 1) hx hb dX11_test_85 (by decide) ?_
              refine lv_goto (tgt := 90) hx hb dX11_test_86 (by decide) ?_
              exact hRet (scd_41, scf_42) [0, 1] ⟨(by first | omega | (simp only [zl_1] <;> omega) | decide | assumption | rfl | (dsimp only; first | omega | (simp only [zl_1] <;> omega))), (by first | omega | (simp only [zl_1] <;> omega) | decide | assumption | rfl | (dsimp only; first | omega | (simp only [zl_1] <;> omega)))⟩ hP hD (by decide) rfl hS rfl dX11_test_90
          · refine lv_iload_n hx hb dX11_test_35 rfl (lv_at hl 1 rfl) ?_
            exact hRet (scd_3, scf_4) [0, 1] ⟨(by first | omega | decide | assumption | rfl | (dsimp only; first | omega)), (by first | omega | decide | assumption | rfl | (dsimp only; first | omega))⟩ hP hD (by decide) rfl hS rfl dX11_test_36
  · have h_12 : scd_3.toInt = ce.toInt := h_12
    obtain rfl : r_8 = (-1) := hr_8.trans (by decide)
    refine lv_istore_n (lv' := [(2, .int (-1)), (1, .int r_1), (0, .ref k)]) hx hb dX11_test_9 rfl hl (by decide) rfl ?_
    clear hl
    intro ls hl
    refine lv_aload_n hx hb dX11_test_10 rfl (lv_at hl 2 rfl) ?_
    refine va_get (D := D) (ci := 11) (v := .int scf_4) (C := RX11) (T := TX11) (N := 25) hx hb hT giX11 hown hK hP 0 rfl rfl 15 (by decide) (hT (Cond.fieldLink RX11 148 "DesertWireModel" "isWrong" "Z") mw_1171) (fun _ h9 => h9) rfl dX11_test_11 ?_
    refine b_if_ne hx hb rfl (tgt := 35) dX11_test_14 (by decide) (fun c_49 => ?_) (fun c_49 => ?_)
    · refine lv_iload_n hx hb dX11_test_35 rfl (lv_at hl 1 rfl) ?_
      exact hRet (scd_3, scf_4) [0, 1] ⟨(by first | omega | decide | assumption | rfl | (dsimp only; first | omega)), (by first | omega | decide | assumption | rfl | (dsimp only; first | omega))⟩ hP hD (by decide) rfl hS rfl dX11_test_36
    · refine lv_iload_n hx hb dX11_test_17 rfl (lv_at hl 0 rfl) ?_
      refine lv_bipush (v := 60) hx hb dX11_test_18 (by decide) ?_
      refine b_icmp_eq hx hb zl_m1 zl_60 (tgt := 37) dX11_test_20 (by decide) (fun c_50 => by exfalso; omega) (fun c_50 => ?_)
      refine lv_iload_n hx hb dX11_test_23 rfl (lv_at hl 0 rfl) ?_
      refine lv_bipush (v := 61) hx hb dX11_test_24 (by decide) ?_
      refine b_icmp_eq hx hb zl_m1 zl_61 (tgt := 37) dX11_test_26 (by decide) (fun c_51 => by exfalso; omega) (fun c_51 => ?_)
      refine lv_iload_n hx hb dX11_test_29 rfl (lv_at hl 0 rfl) ?_
      refine lv_bipush (v := 62) hx hb dX11_test_30 (by decide) ?_
      refine b_icmp_eq hx hb zl_m1 zl_62 (tgt := 37) dX11_test_32 (by decide) (fun c_52 => by exfalso; omega) (fun c_52 => ?_)
      refine lv_iload_n hx hb dX11_test_35 rfl (lv_at hl 1 rfl) ?_
      exact hRet (scd_3, scf_4) [0, 1] ⟨(by first | omega | decide | assumption | rfl | (dsimp only; first | omega)), (by first | omega | decide | assumption | rfl | (dsimp only; first | omega))⟩ hP hD (by decide) rfl hS rfl dX11_test_36
theorem dX11_both_0 : decode cX11_both 0 = .ok (.aload_n 0, 1) := by decide +kernel
theorem dX11_both_1 : decode cX11_both 1 = .ok (.invokevirtual 192, 3) := by decide +kernel
theorem dX11_both_4 : decode cX11_both 4 = .ok (.istore_n 1, 1) := by decide +kernel
theorem dX11_both_5 : decode cX11_both 5 = .ok (.aload_n 0, 1) := by decide +kernel
theorem dX11_both_6 : decode cX11_both 6 = .ok (.bipush 38, 2) := by decide +kernel
theorem dX11_both_8 : decode cX11_both 8 = .ok (.invokevirtual 183, 3) := by decide +kernel
theorem dX11_both_11 : decode cX11_both 11 = .ok (.ifCond .eq 25, 3) := by decide +kernel
theorem dX11_both_14 : decode cX11_both 14 = .ok (.aload_n 0, 1) := by decide +kernel
theorem dX11_both_15 : decode cX11_both 15 = .ok (.invokevirtual 192, 3) := by decide +kernel
theorem dX11_both_18 : decode cX11_both 18 = .ok (.istore_n 2, 1) := by decide +kernel
theorem dX11_both_19 : decode cX11_both 19 = .ok (.iload_n 1, 1) := by decide +kernel
theorem dX11_both_20 : decode cX11_both 20 = .ok (.ifCond .eq 11, 3) := by decide +kernel
theorem dX11_both_23 : decode cX11_both 23 = .ok (.iload_n 2, 1) := by decide +kernel
theorem dX11_both_24 : decode cX11_both 24 = .ok (.ifCond .eq 7, 3) := by decide +kernel
theorem dX11_both_27 : decode cX11_both 27 = .ok (.iconst 1, 1) := by decide +kernel
theorem dX11_both_28 : decode cX11_both 28 = .ok (.goto 4, 3) := by decide +kernel
theorem dX11_both_31 : decode cX11_both 31 = .ok (.iconst 0, 1) := by decide +kernel
theorem dX11_both_32 : decode cX11_both 32 = .ok (.istore_n 1, 1) := by decide +kernel
theorem dX11_both_33 : decode cX11_both 33 = .ok (.goto (-28), 3) := by decide +kernel
theorem dX11_both_36 : decode cX11_both 36 = .ok (.iload_n 1, 1) := by decide +kernel
theorem dX11_both_37 : decode cX11_both 37 = .ok (.ireturn, 1) := by decide +kernel
set_option maxHeartbeats 4000000 in
set_option maxRecDepth 100000 in
theorem c_X11_bothG4 (l : Launch) (D : va_G) (cI : ClassId) (aK aV : Nat → Nat) (k k0 k1 k2 k4 k5 k6 k7 k8 ka kb kl ko : Nat) (sz : Nat) (c3 : Int32) (c9 : Int32) (cc : Int32) (cd : Int32) (ce : Int32) (cf : Int32) (cg : Int32) (ch : Int32) (ci : Int32) (cj : Int32) (ck : Int32) (cm : Int32) (cn : Int32) (c0 : Nat → Int32) (pre0 : 0 ≤ cc.toInt) (pre1 : cc.toInt ≤ 1151) (pre2 : 0 ≤ cd.toInt) (pre3 : cd.toInt ≤ ce.toInt) (pre4 : ce.toInt ≤ 50) (pre5 : cg.toInt = 4) : Met l yX11_both (gW yX11_both cX11_both 3 (some .int)) ({ frames := 5, cells := 0, slots := 0, locals := 114 } : Room) (kPreX D cI aK aV [.ref k] [(k, .inr (11, [.ref k0, .ref k1, .ref k2, .int c3, .ref k4, .ref k5, .ref k6, .ref k7, .ref k8, .int c9, .ref ka, .ref kb, .int cc, .int cd, .int ce, .int cf, .int cg, .int ch, .int ci, .int cj, .int ck, .ref kl, .int cm, .int cn, .ref ko])), (k0, .inl (cI, 1201, .inl c0))] sz) (va_Qi (fun (r : Int32) (u : Int32 × Int32) => cd.toInt ≤ u.1.toInt ∧ u.1.toInt ≤ ce.toInt) (fun u t => kWd D cI (va_A [(k, .inr (11, [.ref k0, .ref k1, .ref k2, .int c3, .ref k4, .ref k5, .ref k6, .ref k7, .ref k8, .int c9, .ref ka, .ref kb, .int cc, .int cd, .int ce, .int cf, .int cg, .int ch, .int ci, .int cj, .int ck, .ref kl, .int cm, .int cn, .ref ko])), (k0, .inl (cI, 1201, .inl c0))] sz) [(k, .inr (11, [.ref k0, .ref k1, .ref k2, .int c3, .ref k4, .ref k5, .ref k6, .ref k7, .ref k8, .int c9, .ref ka, .ref kb, .int cc, .int u.1, .int ce, .int u.2, .int cg, .int ch, .int ci, .int cj, .int ck, .ref kl, .int cm, .int cn, .ref ko])), (k0, .inl (cI, 1201, .inl c0))] t) (va_A [(k, .inr (11, [.ref k0, .ref k1, .ref k2, .int c3, .ref k4, .ref k5, .ref k6, .ref k7, .ref k8, .int c9, .ref ka, .ref kb, .int cc, .int cd, .int ce, .int cf, .int cg, .int ch, .int ci, .int cj, .int ck, .ref kl, .int cm, .int cn, .ref ko])), (k0, .inl (cI, 1201, .inl c0))] sz)) 0 0 (va_A [(k, .inr (11, [.ref k0, .ref k1, .ref k2, .int c3, .ref k4, .ref k5, .ref k6, .ref k7, .ref k8, .int c9, .ref ka, .ref kb, .int cc, .int cd, .int ce, .int cf, .int cg, .int ch, .int ci, .int cj, .int ck, .ref kl, .int cm, .int cn, .ref ko])), (k0, .inl (cI, 1201, .inl c0))] sz) := by
  refine kMetIX (own := RX11) (by decide) rfl (Nat.le_of_ble_eq_true rfl) ?_
  intro p e s m args below meth c hx hb hT hown hname hml A Q hK hP hD hS hA hN hXS hRet ls hl
  have hl : lv_has ls 3 [(0, .ref k)] := hl
  have lo_cd := k_lo cd
  have hi_cd := k_hi cd
  have lo_ce := k_lo ce
  have hi_ce := k_hi ce
  have lo_ci := k_lo ci
  have hi_ci := k_hi ci
  refine lv_aload_n hx hb dX11_both_0 rfl (lv_at hl 0 rfl) ?_
  refine kJi (wr := []) (va_runV (As := []) (rest := []) ⟨hx, hb, hml, hown, hT⟩ (c_X11_testG4 l D cI aK aV k k0 k1 k2 k4 k5 k6 k7 k8 ka kb kl ko s.heap.size c3 c9 cc cd ce cf cg ch ci cj ck cm cn c0 (by first | omega | decide | assumption | rfl) (by first | omega | decide | assumption | rfl) (by first | omega | decide | assumption | rfl) (by first | omega | decide | assumption | rfl) (by first | omega | decide | assumption | rfl) (by first | omega | decide | assumption | rfl)) (cwV 0 hT (gV_in mw_1323 mw_1320 mw_1322 mw_p4_5 mw_12) rfl rfl rfl (by decide +kernel) ⟨Nat.le_of_ble_eq_true rfl, Nat.le_of_ble_eq_true rfl⟩) (kRecvX (q0 := 0) (ci := 11) hK hP hD hN hXS hS hA rfl rfl [0, 1] rfl (by decide)) rfl rfl hl.1 rfl (lv_room (Nat.le_of_ble_eq_true rfl)) dX11_both_1 ⟨Nat.le_of_ble_eq_true rfl, Nat.le_of_ble_eq_true rfl⟩) hP hD hS hA [0, 1] [] rfl rfl (by decide) (by decide) ?_
  clear hP hD hS
  intro r_1 u_5 H locs w_2 hP hD hS
  obtain ⟨scd_3, scf_4⟩ := u_5
  replace hP : va_P D vwCl [(k, .inr (11, [.ref k0, .ref k1, .ref k2, .int c3, .ref k4, .ref k5, .ref k6, .ref k7, .ref k8, .int c9, .ref ka, .ref kb, .int cc, .int scd_3, .int ce, .int scf_4, .int cg, .int ch, .int ci, .int cj, .int ck, .ref kl, .int cm, .int cn, .ref ko])), (k0, .inl (cI, 1201, .inl c0))] H := hP
  replace hD : va_D A [(k, .inr (11, [.ref k0, .ref k1, .ref k2, .int c3, .ref k4, .ref k5, .ref k6, .ref k7, .ref k8, .int c9, .ref ka, .ref kb, .int cc, .int scd_3, .int ce, .int scf_4, .int cg, .int ch, .int ci, .int cj, .int ck, .ref kl, .int cm, .int cn, .ref ko])), (k0, .inl (cI, 1201, .inl c0))] := hD
  have lo_scd_3 := k_lo scd_3
  have hi_scd_3 := k_hi scd_3
  obtain ⟨h_6, h_7⟩ := w_2
  have h_6 : cd.toInt ≤ scd_3.toInt := h_6
  have h_7 : scd_3.toInt ≤ ce.toInt := h_7
  have lo_r_1 := k_lo r_1
  have hi_r_1 := k_hi r_1
  refine lv_istore_n (lv' := [(1, .int r_1), (0, .ref k)]) hx hb dX11_both_4 rfl hl (by decide) rfl ?_
  clear hl
  intro ls hl
  have hloop_5 : ∀ (fu_ : Nat) (l5_1 : Int32) (f5_kd : Int32) (f5_kf : Int32), scd_3.toInt ≤ f5_kd.toInt → f5_kd.toInt ≤ ce.toInt → (ce.toInt - f5_kd.toInt).toNat < fu_ → ∀ (ls : Array Slot) (H : Heap) (locs : List Loc), lv_has ls 3 [(1, .int l5_1), (0, .ref k)] → va_P D vwCl [(k, .inr (11, [.ref k0, .ref k1, .ref k2, .int c3, .ref k4, .ref k5, .ref k6, .ref k7, .ref k8, .int c9, .ref ka, .ref kb, .int cc, .int f5_kd, .int ce, .int f5_kf, .int cg, .int ch, .int ci, .int cj, .int ck, .ref kl, .int cm, .int cn, .ref ko])), (k0, .inl (cI, 1201, .inl c0))] H → va_D A [(k, .inr (11, [.ref k0, .ref k1, .ref k2, .int c3, .ref k4, .ref k5, .ref k6, .ref k7, .ref k8, .int c9, .ref ka, .ref kb, .int cc, .int f5_kd, .int ce, .int f5_kf, .int cg, .int ch, .int ci, .int cj, .int ck, .ref kl, .int cm, .int cn, .ref ko])), (k0, .inl (cI, 1201, .inl c0))] → va_S A s.heap H locs → W p l e ({ frames := 5, cells := 0, slots := 0, locals := 114 } : Room) s m args below meth c H locs 0 0 Q (F0 m 5 ls []) := by
    intro fu_; induction fu_ with
    | zero => intro l5_1 f5_kd f5_kf i5_0 i5_1 hm; exact absurd hm (by omega)
    | succ fu_ ih5 =>
        intro l5_1 f5_kd f5_kf i5_0 i5_1 hm ls H locs hl hP hD hS
        have lo_l5_1 := k_lo l5_1
        have hi_l5_1 := k_hi l5_1
        have lo_f5_kd := k_lo f5_kd
        have hi_f5_kd := k_hi f5_kd
        have lo_f5_kf := k_lo f5_kf
        have hi_f5_kf := k_hi f5_kf
        refine lv_aload_n hx hb dX11_both_5 rfl (lv_at hl 1 rfl) ?_
        refine lv_bipush (v := 38) hx hb dX11_both_6 (by decide) ?_
        refine kJi (wr := []) (va_runV (As := [.int 38]) (rest := []) ⟨hx, hb, hml, hown, hT⟩ (c_X11_takesG l D cI aK aV k k0 k1 k2 k4 k5 k6 k7 k8 ka kb kl ko H.size c3 c9 cc f5_kd ce f5_kf cg ch ci cj ck cm cn c0 38 (by first | omega | (simp only [zl_38] <;> omega) | decide | assumption | rfl) (by first | omega | (simp only [zl_38] <;> omega) | decide | assumption | rfl) (by first | omega | (simp only [zl_38] <;> omega) | decide | assumption | rfl) (by first | omega | (simp only [zl_38] <;> omega) | decide | assumption | rfl) (by first | omega | (simp only [zl_38] <;> omega) | decide | assumption | rfl) (by first | omega | (simp only [zl_38] <;> omega) | decide | assumption | rfl)) (cwV 1 hT (gV_in mw_1351 mw_1348 mw_1350 mw_p4_12 mw_12) rfl rfl rfl (by decide +kernel) ⟨Nat.le_of_ble_eq_true rfl, Nat.le_of_ble_eq_true rfl⟩) (kRecvX (q0 := 0) (ci := 11) hK hP hD hN hXS hS hA rfl rfl [0, 1] rfl (by decide)) rfl rfl hl.1 rfl (lv_room (Nat.le_of_ble_eq_true rfl)) dX11_both_8 ⟨Nat.le_of_ble_eq_true rfl, Nat.le_of_ble_eq_true rfl⟩) hP hD hS hA [0, 1] [] rfl rfl (by decide) (by decide) ?_
        clear hP hD hS
        intro r_8 scd_10 H locs w_9 hP hD hS
        replace hP : va_P D vwCl [(k, .inr (11, [.ref k0, .ref k1, .ref k2, .int c3, .ref k4, .ref k5, .ref k6, .ref k7, .ref k8, .int c9, .ref ka, .ref kb, .int cc, .int scd_10, .int ce, .int f5_kf, .int cg, .int ch, .int ci, .int cj, .int ck, .ref kl, .int cm, .int cn, .ref ko])), (k0, .inl (cI, 1201, .inl c0))] H := hP
        replace hD : va_D A [(k, .inr (11, [.ref k0, .ref k1, .ref k2, .int c3, .ref k4, .ref k5, .ref k6, .ref k7, .ref k8, .int c9, .ref ka, .ref kb, .int cc, .int scd_10, .int ce, .int f5_kf, .int cg, .int ch, .int ci, .int cj, .int ck, .ref kl, .int cm, .int cn, .ref ko])), (k0, .inl (cI, 1201, .inl c0))] := hD
        have lo_scd_10 := k_lo scd_10
        have hi_scd_10 := k_hi scd_10
        rcases w_9 with ⟨hr_8, h_11, h_12⟩ | ⟨hr_8, h_13⟩
        · try simp only [zl_38] at h_11
          have h_11 : scd_10.toInt = f5_kd.toInt + 1 := h_11
          try simp only [zl_38] at h_12
          have h_12 : scd_10.toInt ≤ ce.toInt := h_12
          obtain rfl : r_8 = 1 := hr_8.trans (by decide)
          refine b_if_eq hx hb zl_1 (tgt := 36) dX11_both_11 (by decide) (fun c_14 => by exfalso; omega) (fun c_14 => ?_)
          refine lv_aload_n hx hb dX11_both_14 rfl (lv_at hl 1 rfl) ?_
          refine kJi (wr := []) (va_runV (As := []) (rest := []) ⟨hx, hb, hml, hown, hT⟩ (c_X11_testG4 l D cI aK aV k k0 k1 k2 k4 k5 k6 k7 k8 ka kb kl ko H.size c3 c9 cc scd_10 ce f5_kf cg ch ci cj ck cm cn c0 (by first | omega | decide | assumption | rfl) (by first | omega | decide | assumption | rfl) (by first | omega | decide | assumption | rfl) (by first | omega | decide | assumption | rfl) (by first | omega | decide | assumption | rfl) (by first | omega | decide | assumption | rfl)) (cwV 0 hT (gV_in mw_1323 mw_1320 mw_1322 mw_p4_5 mw_12) rfl rfl rfl (by decide +kernel) ⟨Nat.le_of_ble_eq_true rfl, Nat.le_of_ble_eq_true rfl⟩) (kRecvX (q0 := 0) (ci := 11) hK hP hD hN hXS hS hA rfl rfl [0, 1] rfl (by decide)) rfl rfl hl.1 rfl (lv_room (Nat.le_of_ble_eq_true rfl)) dX11_both_15 ⟨Nat.le_of_ble_eq_true rfl, Nat.le_of_ble_eq_true rfl⟩) hP hD hS hA [0, 1] [] rfl rfl (by decide) (by decide) ?_
          clear hP hD hS
          intro r_15 u_19 H locs w_16 hP hD hS
          obtain ⟨scd_17, scf_18⟩ := u_19
          replace hP : va_P D vwCl [(k, .inr (11, [.ref k0, .ref k1, .ref k2, .int c3, .ref k4, .ref k5, .ref k6, .ref k7, .ref k8, .int c9, .ref ka, .ref kb, .int cc, .int scd_17, .int ce, .int scf_18, .int cg, .int ch, .int ci, .int cj, .int ck, .ref kl, .int cm, .int cn, .ref ko])), (k0, .inl (cI, 1201, .inl c0))] H := hP
          replace hD : va_D A [(k, .inr (11, [.ref k0, .ref k1, .ref k2, .int c3, .ref k4, .ref k5, .ref k6, .ref k7, .ref k8, .int c9, .ref ka, .ref kb, .int cc, .int scd_17, .int ce, .int scf_18, .int cg, .int ch, .int ci, .int cj, .int ck, .ref kl, .int cm, .int cn, .ref ko])), (k0, .inl (cI, 1201, .inl c0))] := hD
          have lo_scd_17 := k_lo scd_17
          have hi_scd_17 := k_hi scd_17
          obtain ⟨h_20, h_21⟩ := w_16
          have h_20 : scd_10.toInt ≤ scd_17.toInt := h_20
          have h_21 : scd_17.toInt ≤ ce.toInt := h_21
          have lo_r_15 := k_lo r_15
          have hi_r_15 := k_hi r_15
          refine lv_istore_n (lv' := [(2, .int r_15), (1, .int l5_1), (0, .ref k)]) hx hb dX11_both_18 rfl hl (by decide) rfl ?_
          clear hl
          intro ls hl
          refine lv_iload_n hx hb dX11_both_19 rfl (lv_at hl 1 rfl) ?_
          refine b_if_eq hx hb rfl (tgt := 31) dX11_both_20 (by decide) (fun c_22 => ?_) (fun c_22 => ?_)
          · refine lv_iconst (v := 0) hx hb dX11_both_31 (by decide) ?_
            refine lv_istore_n (lv' := [(1, .int 0), (2, .int r_15), (0, .ref k)]) hx hb dX11_both_32 rfl hl (by decide) rfl ?_
            clear hl
            intro ls hl
            refine lv_goto (tgt := 5) hx hb dX11_both_33 (by decide) ?_
            exact ih5 0 scd_17 scf_18 (by first | omega | (simp only [zl_0] <;> omega) | decide | assumption | rfl) (by first | omega | (simp only [zl_0] <;> omega) | decide | assumption | rfl) (by omega) ls _ _ (lv_sub hl [0, 2] rfl) (hP.sub [0, 1] rfl) (hD.sub [0, 1] (by decide) rfl) hS
          · refine lv_iload_n hx hb dX11_both_23 rfl (lv_at hl 0 rfl) ?_
            refine b_if_eq hx hb rfl (tgt := 31) dX11_both_24 (by decide) (fun c_23 => ?_) (fun c_23 => ?_)
            · refine lv_iconst (v := 0) hx hb dX11_both_31 (by decide) ?_
              refine lv_istore_n (lv' := [(1, .int 0), (2, .int r_15), (0, .ref k)]) hx hb dX11_both_32 rfl hl (by decide) rfl ?_
              clear hl
              intro ls hl
              refine lv_goto (tgt := 5) hx hb dX11_both_33 (by decide) ?_
              exact ih5 0 scd_17 scf_18 (by first | omega | (simp only [zl_0] <;> omega) | decide | assumption | rfl) (by first | omega | (simp only [zl_0] <;> omega) | decide | assumption | rfl) (by omega) ls _ _ (lv_sub hl [0, 2] rfl) (hP.sub [0, 1] rfl) (hD.sub [0, 1] (by decide) rfl) hS
            · refine lv_iconst (v := 1) hx hb dX11_both_27 (by decide) ?_
              refine lv_goto (tgt := 32) hx hb dX11_both_28 (by decide) ?_
              refine lv_istore_n (lv' := [(1, .int 1), (2, .int r_15), (0, .ref k)]) hx hb dX11_both_32 rfl hl (by decide) rfl ?_
              clear hl
              intro ls hl
              refine lv_goto (tgt := 5) hx hb dX11_both_33 (by decide) ?_
              exact ih5 1 scd_17 scf_18 (by first | omega | (simp only [zl_1] <;> omega) | decide | assumption | rfl) (by first | omega | (simp only [zl_1] <;> omega) | decide | assumption | rfl) (by omega) ls _ _ (lv_sub hl [0, 2] rfl) (hP.sub [0, 1] rfl) (hD.sub [0, 1] (by decide) rfl) hS
        · try simp only [zl_38] at h_13
          have h_13 : scd_10.toInt = f5_kd.toInt := h_13
          obtain rfl : r_8 = 0 := hr_8.trans (by decide)
          refine b_if_eq hx hb zl_0 (tgt := 36) dX11_both_11 (by decide) (fun c_24 => ?_) (fun c_24 => by exfalso; omega)
          refine lv_iload_n hx hb dX11_both_36 rfl (lv_at hl 0 rfl) ?_
          exact hRet (scd_10, f5_kf) [0, 1] ⟨(by first | omega | decide | assumption | rfl | (dsimp only; first | omega)), (by first | omega | decide | assumption | rfl | (dsimp only; first | omega))⟩ hP hD (by decide) rfl hS rfl dX11_both_37
  exact hloop_5 _ r_1 scd_3 scf_4 (by first | omega | decide | assumption | rfl) (by first | omega | decide | assumption | rfl) (Nat.lt_succ_self _) ls _ _ (lv_sub hl [0, 1] rfl) hP hD hS
theorem dX11_whole_0 : decode cX11_whole 0 = .ok (.aload_n 0, 1) := by decide +kernel
theorem dX11_whole_1 : decode cX11_whole 1 = .ok (.invokevirtual 195, 3) := by decide +kernel
theorem dX11_whole_4 : decode cX11_whole 4 = .ok (.istore_n 1, 1) := by decide +kernel
theorem dX11_whole_5 : decode cX11_whole 5 = .ok (.aload_n 0, 1) := by decide +kernel
theorem dX11_whole_6 : decode cX11_whole 6 = .ok (.bipush 124, 2) := by decide +kernel
theorem dX11_whole_8 : decode cX11_whole 8 = .ok (.invokevirtual 183, 3) := by decide +kernel
theorem dX11_whole_11 : decode cX11_whole 11 = .ok (.ifCond .eq 25, 3) := by decide +kernel
theorem dX11_whole_14 : decode cX11_whole 14 = .ok (.aload_n 0, 1) := by decide +kernel
theorem dX11_whole_15 : decode cX11_whole 15 = .ok (.invokevirtual 195, 3) := by decide +kernel
theorem dX11_whole_18 : decode cX11_whole 18 = .ok (.istore_n 2, 1) := by decide +kernel
theorem dX11_whole_19 : decode cX11_whole 19 = .ok (.iload_n 1, 1) := by decide +kernel
theorem dX11_whole_20 : decode cX11_whole 20 = .ok (.ifCond .ne 7, 3) := by decide +kernel
theorem dX11_whole_23 : decode cX11_whole 23 = .ok (.iload_n 2, 1) := by decide +kernel
theorem dX11_whole_24 : decode cX11_whole 24 = .ok (.ifCond .eq 7, 3) := by decide +kernel
theorem dX11_whole_27 : decode cX11_whole 27 = .ok (.iconst 1, 1) := by decide +kernel
theorem dX11_whole_28 : decode cX11_whole 28 = .ok (.goto 4, 3) := by decide +kernel
theorem dX11_whole_31 : decode cX11_whole 31 = .ok (.iconst 0, 1) := by decide +kernel
theorem dX11_whole_32 : decode cX11_whole 32 = .ok (.istore_n 1, 1) := by decide +kernel
theorem dX11_whole_33 : decode cX11_whole 33 = .ok (.goto (-28), 3) := by decide +kernel
theorem dX11_whole_36 : decode cX11_whole 36 = .ok (.iload_n 1, 1) := by decide +kernel
theorem dX11_whole_37 : decode cX11_whole 37 = .ok (.ireturn, 1) := by decide +kernel
set_option maxHeartbeats 4000000 in
set_option maxRecDepth 100000 in
theorem c_X11_wholeG4 (l : Launch) (D : va_G) (cI : ClassId) (aK aV : Nat → Nat) (k k0 k1 k2 k4 k5 k6 k7 k8 ka kb kl ko : Nat) (sz : Nat) (c3 : Int32) (c9 : Int32) (cc : Int32) (cd : Int32) (ce : Int32) (cf : Int32) (cg : Int32) (ch : Int32) (ci : Int32) (cj : Int32) (ck : Int32) (cm : Int32) (cn : Int32) (c0 : Nat → Int32) (pre0 : 0 ≤ cc.toInt) (pre1 : cc.toInt ≤ 1151) (pre2 : 0 ≤ cd.toInt) (pre3 : cd.toInt ≤ ce.toInt) (pre4 : ce.toInt ≤ 50) (pre5 : cg.toInt = 4) : Met l yX11_whole (gW yX11_whole cX11_whole 3 (some .int)) ({ frames := 6, cells := 0, slots := 0, locals := 136 } : Room) (kPreX D cI aK aV [.ref k] [(k, .inr (11, [.ref k0, .ref k1, .ref k2, .int c3, .ref k4, .ref k5, .ref k6, .ref k7, .ref k8, .int c9, .ref ka, .ref kb, .int cc, .int cd, .int ce, .int cf, .int cg, .int ch, .int ci, .int cj, .int ck, .ref kl, .int cm, .int cn, .ref ko])), (k0, .inl (cI, 1201, .inl c0))] sz) (va_Qi (fun (r : Int32) (u : Int32 × Int32) => cd.toInt ≤ u.1.toInt ∧ u.1.toInt ≤ ce.toInt) (fun u t => kWd D cI (va_A [(k, .inr (11, [.ref k0, .ref k1, .ref k2, .int c3, .ref k4, .ref k5, .ref k6, .ref k7, .ref k8, .int c9, .ref ka, .ref kb, .int cc, .int cd, .int ce, .int cf, .int cg, .int ch, .int ci, .int cj, .int ck, .ref kl, .int cm, .int cn, .ref ko])), (k0, .inl (cI, 1201, .inl c0))] sz) [(k, .inr (11, [.ref k0, .ref k1, .ref k2, .int c3, .ref k4, .ref k5, .ref k6, .ref k7, .ref k8, .int c9, .ref ka, .ref kb, .int cc, .int u.1, .int ce, .int u.2, .int cg, .int ch, .int ci, .int cj, .int ck, .ref kl, .int cm, .int cn, .ref ko])), (k0, .inl (cI, 1201, .inl c0))] t) (va_A [(k, .inr (11, [.ref k0, .ref k1, .ref k2, .int c3, .ref k4, .ref k5, .ref k6, .ref k7, .ref k8, .int c9, .ref ka, .ref kb, .int cc, .int cd, .int ce, .int cf, .int cg, .int ch, .int ci, .int cj, .int ck, .ref kl, .int cm, .int cn, .ref ko])), (k0, .inl (cI, 1201, .inl c0))] sz)) 0 0 (va_A [(k, .inr (11, [.ref k0, .ref k1, .ref k2, .int c3, .ref k4, .ref k5, .ref k6, .ref k7, .ref k8, .int c9, .ref ka, .ref kb, .int cc, .int cd, .int ce, .int cf, .int cg, .int ch, .int ci, .int cj, .int ck, .ref kl, .int cm, .int cn, .ref ko])), (k0, .inl (cI, 1201, .inl c0))] sz) := by
  refine kMetIX (own := RX11) (by decide) rfl (Nat.le_of_ble_eq_true rfl) ?_
  intro p e s m args below meth c hx hb hT hown hname hml A Q hK hP hD hS hA hN hXS hRet ls hl
  have hl : lv_has ls 3 [(0, .ref k)] := hl
  have lo_cd := k_lo cd
  have hi_cd := k_hi cd
  have lo_ce := k_lo ce
  have hi_ce := k_hi ce
  have lo_ci := k_lo ci
  have hi_ci := k_hi ci
  refine lv_aload_n hx hb dX11_whole_0 rfl (lv_at hl 0 rfl) ?_
  refine kJi (wr := []) (va_runV (As := []) (rest := []) ⟨hx, hb, hml, hown, hT⟩ (c_X11_bothG4 l D cI aK aV k k0 k1 k2 k4 k5 k6 k7 k8 ka kb kl ko s.heap.size c3 c9 cc cd ce cf cg ch ci cj ck cm cn c0 (by first | omega | decide | assumption | rfl) (by first | omega | decide | assumption | rfl) (by first | omega | decide | assumption | rfl) (by first | omega | decide | assumption | rfl) (by first | omega | decide | assumption | rfl) (by first | omega | decide | assumption | rfl)) (cwV 0 hT (gV_in mw_1319 mw_1316 mw_1318 mw_p4_4 mw_12) rfl rfl rfl (by decide +kernel) ⟨Nat.le_of_ble_eq_true rfl, Nat.le_of_ble_eq_true rfl⟩) (kRecvX (q0 := 0) (ci := 11) hK hP hD hN hXS hS hA rfl rfl [0, 1] rfl (by decide)) rfl rfl hl.1 rfl (lv_room (Nat.le_of_ble_eq_true rfl)) dX11_whole_1 ⟨Nat.le_of_ble_eq_true rfl, Nat.le_of_ble_eq_true rfl⟩) hP hD hS hA [0, 1] [] rfl rfl (by decide) (by decide) ?_
  clear hP hD hS
  intro r_1 u_5 H locs w_2 hP hD hS
  obtain ⟨scd_3, scf_4⟩ := u_5
  replace hP : va_P D vwCl [(k, .inr (11, [.ref k0, .ref k1, .ref k2, .int c3, .ref k4, .ref k5, .ref k6, .ref k7, .ref k8, .int c9, .ref ka, .ref kb, .int cc, .int scd_3, .int ce, .int scf_4, .int cg, .int ch, .int ci, .int cj, .int ck, .ref kl, .int cm, .int cn, .ref ko])), (k0, .inl (cI, 1201, .inl c0))] H := hP
  replace hD : va_D A [(k, .inr (11, [.ref k0, .ref k1, .ref k2, .int c3, .ref k4, .ref k5, .ref k6, .ref k7, .ref k8, .int c9, .ref ka, .ref kb, .int cc, .int scd_3, .int ce, .int scf_4, .int cg, .int ch, .int ci, .int cj, .int ck, .ref kl, .int cm, .int cn, .ref ko])), (k0, .inl (cI, 1201, .inl c0))] := hD
  have lo_scd_3 := k_lo scd_3
  have hi_scd_3 := k_hi scd_3
  obtain ⟨h_6, h_7⟩ := w_2
  have h_6 : cd.toInt ≤ scd_3.toInt := h_6
  have h_7 : scd_3.toInt ≤ ce.toInt := h_7
  have lo_r_1 := k_lo r_1
  have hi_r_1 := k_hi r_1
  refine lv_istore_n (lv' := [(1, .int r_1), (0, .ref k)]) hx hb dX11_whole_4 rfl hl (by decide) rfl ?_
  clear hl
  intro ls hl
  have hloop_5 : ∀ (fu_ : Nat) (l5_1 : Int32) (f5_kd : Int32) (f5_kf : Int32), scd_3.toInt ≤ f5_kd.toInt → f5_kd.toInt ≤ ce.toInt → (ce.toInt - f5_kd.toInt).toNat < fu_ → ∀ (ls : Array Slot) (H : Heap) (locs : List Loc), lv_has ls 3 [(1, .int l5_1), (0, .ref k)] → va_P D vwCl [(k, .inr (11, [.ref k0, .ref k1, .ref k2, .int c3, .ref k4, .ref k5, .ref k6, .ref k7, .ref k8, .int c9, .ref ka, .ref kb, .int cc, .int f5_kd, .int ce, .int f5_kf, .int cg, .int ch, .int ci, .int cj, .int ck, .ref kl, .int cm, .int cn, .ref ko])), (k0, .inl (cI, 1201, .inl c0))] H → va_D A [(k, .inr (11, [.ref k0, .ref k1, .ref k2, .int c3, .ref k4, .ref k5, .ref k6, .ref k7, .ref k8, .int c9, .ref ka, .ref kb, .int cc, .int f5_kd, .int ce, .int f5_kf, .int cg, .int ch, .int ci, .int cj, .int ck, .ref kl, .int cm, .int cn, .ref ko])), (k0, .inl (cI, 1201, .inl c0))] → va_S A s.heap H locs → W p l e ({ frames := 6, cells := 0, slots := 0, locals := 136 } : Room) s m args below meth c H locs 0 0 Q (F0 m 5 ls []) := by
    intro fu_; induction fu_ with
    | zero => intro l5_1 f5_kd f5_kf i5_0 i5_1 hm; exact absurd hm (by omega)
    | succ fu_ ih5 =>
        intro l5_1 f5_kd f5_kf i5_0 i5_1 hm ls H locs hl hP hD hS
        have lo_l5_1 := k_lo l5_1
        have hi_l5_1 := k_hi l5_1
        have lo_f5_kd := k_lo f5_kd
        have hi_f5_kd := k_hi f5_kd
        have lo_f5_kf := k_lo f5_kf
        have hi_f5_kf := k_hi f5_kf
        refine lv_aload_n hx hb dX11_whole_5 rfl (lv_at hl 1 rfl) ?_
        refine lv_bipush (v := 124) hx hb dX11_whole_6 (by decide) ?_
        refine kJi (wr := []) (va_runV (As := [.int 124]) (rest := []) ⟨hx, hb, hml, hown, hT⟩ (c_X11_takesG l D cI aK aV k k0 k1 k2 k4 k5 k6 k7 k8 ka kb kl ko H.size c3 c9 cc f5_kd ce f5_kf cg ch ci cj ck cm cn c0 124 (by first | omega | (simp only [zl_124] <;> omega) | decide | assumption | rfl) (by first | omega | (simp only [zl_124] <;> omega) | decide | assumption | rfl) (by first | omega | (simp only [zl_124] <;> omega) | decide | assumption | rfl) (by first | omega | (simp only [zl_124] <;> omega) | decide | assumption | rfl) (by first | omega | (simp only [zl_124] <;> omega) | decide | assumption | rfl) (by first | omega | (simp only [zl_124] <;> omega) | decide | assumption | rfl)) (cwV 1 hT (gV_in mw_1351 mw_1348 mw_1350 mw_p4_12 mw_12) rfl rfl rfl (by decide +kernel) ⟨Nat.le_of_ble_eq_true rfl, Nat.le_of_ble_eq_true rfl⟩) (kRecvX (q0 := 0) (ci := 11) hK hP hD hN hXS hS hA rfl rfl [0, 1] rfl (by decide)) rfl rfl hl.1 rfl (lv_room (Nat.le_of_ble_eq_true rfl)) dX11_whole_8 ⟨Nat.le_of_ble_eq_true rfl, Nat.le_of_ble_eq_true rfl⟩) hP hD hS hA [0, 1] [] rfl rfl (by decide) (by decide) ?_
        clear hP hD hS
        intro r_8 scd_10 H locs w_9 hP hD hS
        replace hP : va_P D vwCl [(k, .inr (11, [.ref k0, .ref k1, .ref k2, .int c3, .ref k4, .ref k5, .ref k6, .ref k7, .ref k8, .int c9, .ref ka, .ref kb, .int cc, .int scd_10, .int ce, .int f5_kf, .int cg, .int ch, .int ci, .int cj, .int ck, .ref kl, .int cm, .int cn, .ref ko])), (k0, .inl (cI, 1201, .inl c0))] H := hP
        replace hD : va_D A [(k, .inr (11, [.ref k0, .ref k1, .ref k2, .int c3, .ref k4, .ref k5, .ref k6, .ref k7, .ref k8, .int c9, .ref ka, .ref kb, .int cc, .int scd_10, .int ce, .int f5_kf, .int cg, .int ch, .int ci, .int cj, .int ck, .ref kl, .int cm, .int cn, .ref ko])), (k0, .inl (cI, 1201, .inl c0))] := hD
        have lo_scd_10 := k_lo scd_10
        have hi_scd_10 := k_hi scd_10
        rcases w_9 with ⟨hr_8, h_11, h_12⟩ | ⟨hr_8, h_13⟩
        · try simp only [zl_124] at h_11
          have h_11 : scd_10.toInt = f5_kd.toInt + 1 := h_11
          try simp only [zl_124] at h_12
          have h_12 : scd_10.toInt ≤ ce.toInt := h_12
          obtain rfl : r_8 = 1 := hr_8.trans (by decide)
          refine b_if_eq hx hb zl_1 (tgt := 36) dX11_whole_11 (by decide) (fun c_14 => by exfalso; omega) (fun c_14 => ?_)
          refine lv_aload_n hx hb dX11_whole_14 rfl (lv_at hl 1 rfl) ?_
          refine kJi (wr := []) (va_runV (As := []) (rest := []) ⟨hx, hb, hml, hown, hT⟩ (c_X11_bothG4 l D cI aK aV k k0 k1 k2 k4 k5 k6 k7 k8 ka kb kl ko H.size c3 c9 cc scd_10 ce f5_kf cg ch ci cj ck cm cn c0 (by first | omega | decide | assumption | rfl) (by first | omega | decide | assumption | rfl) (by first | omega | decide | assumption | rfl) (by first | omega | decide | assumption | rfl) (by first | omega | decide | assumption | rfl) (by first | omega | decide | assumption | rfl)) (cwV 0 hT (gV_in mw_1319 mw_1316 mw_1318 mw_p4_4 mw_12) rfl rfl rfl (by decide +kernel) ⟨Nat.le_of_ble_eq_true rfl, Nat.le_of_ble_eq_true rfl⟩) (kRecvX (q0 := 0) (ci := 11) hK hP hD hN hXS hS hA rfl rfl [0, 1] rfl (by decide)) rfl rfl hl.1 rfl (lv_room (Nat.le_of_ble_eq_true rfl)) dX11_whole_15 ⟨Nat.le_of_ble_eq_true rfl, Nat.le_of_ble_eq_true rfl⟩) hP hD hS hA [0, 1] [] rfl rfl (by decide) (by decide) ?_
          clear hP hD hS
          intro r_15 u_19 H locs w_16 hP hD hS
          obtain ⟨scd_17, scf_18⟩ := u_19
          replace hP : va_P D vwCl [(k, .inr (11, [.ref k0, .ref k1, .ref k2, .int c3, .ref k4, .ref k5, .ref k6, .ref k7, .ref k8, .int c9, .ref ka, .ref kb, .int cc, .int scd_17, .int ce, .int scf_18, .int cg, .int ch, .int ci, .int cj, .int ck, .ref kl, .int cm, .int cn, .ref ko])), (k0, .inl (cI, 1201, .inl c0))] H := hP
          replace hD : va_D A [(k, .inr (11, [.ref k0, .ref k1, .ref k2, .int c3, .ref k4, .ref k5, .ref k6, .ref k7, .ref k8, .int c9, .ref ka, .ref kb, .int cc, .int scd_17, .int ce, .int scf_18, .int cg, .int ch, .int ci, .int cj, .int ck, .ref kl, .int cm, .int cn, .ref ko])), (k0, .inl (cI, 1201, .inl c0))] := hD
          have lo_scd_17 := k_lo scd_17
          have hi_scd_17 := k_hi scd_17
          obtain ⟨h_20, h_21⟩ := w_16
          have h_20 : scd_10.toInt ≤ scd_17.toInt := h_20
          have h_21 : scd_17.toInt ≤ ce.toInt := h_21
          have lo_r_15 := k_lo r_15
          have hi_r_15 := k_hi r_15
          refine lv_istore_n (lv' := [(2, .int r_15), (1, .int l5_1), (0, .ref k)]) hx hb dX11_whole_18 rfl hl (by decide) rfl ?_
          clear hl
          intro ls hl
          refine lv_iload_n hx hb dX11_whole_19 rfl (lv_at hl 1 rfl) ?_
          refine b_if_ne hx hb rfl (tgt := 27) dX11_whole_20 (by decide) (fun c_22 => ?_) (fun c_22 => ?_)
          · refine lv_iconst (v := 1) hx hb dX11_whole_27 (by decide) ?_
            refine lv_goto (tgt := 32) hx hb dX11_whole_28 (by decide) ?_
            refine lv_istore_n (lv' := [(1, .int 1), (2, .int r_15), (0, .ref k)]) hx hb dX11_whole_32 rfl hl (by decide) rfl ?_
            clear hl
            intro ls hl
            refine lv_goto (tgt := 5) hx hb dX11_whole_33 (by decide) ?_
            exact ih5 1 scd_17 scf_18 (by first | omega | (simp only [zl_1] <;> omega) | decide | assumption | rfl) (by first | omega | (simp only [zl_1] <;> omega) | decide | assumption | rfl) (by omega) ls _ _ (lv_sub hl [0, 2] rfl) (hP.sub [0, 1] rfl) (hD.sub [0, 1] (by decide) rfl) hS
          · refine lv_iload_n hx hb dX11_whole_23 rfl (lv_at hl 0 rfl) ?_
            refine b_if_eq hx hb rfl (tgt := 31) dX11_whole_24 (by decide) (fun c_23 => ?_) (fun c_23 => ?_)
            · refine lv_iconst (v := 0) hx hb dX11_whole_31 (by decide) ?_
              refine lv_istore_n (lv' := [(1, .int 0), (2, .int r_15), (0, .ref k)]) hx hb dX11_whole_32 rfl hl (by decide) rfl ?_
              clear hl
              intro ls hl
              refine lv_goto (tgt := 5) hx hb dX11_whole_33 (by decide) ?_
              exact ih5 0 scd_17 scf_18 (by first | omega | (simp only [zl_0] <;> omega) | decide | assumption | rfl) (by first | omega | (simp only [zl_0] <;> omega) | decide | assumption | rfl) (by omega) ls _ _ (lv_sub hl [0, 2] rfl) (hP.sub [0, 1] rfl) (hD.sub [0, 1] (by decide) rfl) hS
            · refine lv_iconst (v := 1) hx hb dX11_whole_27 (by decide) ?_
              refine lv_goto (tgt := 32) hx hb dX11_whole_28 (by decide) ?_
              refine lv_istore_n (lv' := [(1, .int 1), (2, .int r_15), (0, .ref k)]) hx hb dX11_whole_32 rfl hl (by decide) rfl ?_
              clear hl
              intro ls hl
              refine lv_goto (tgt := 5) hx hb dX11_whole_33 (by decide) ?_
              exact ih5 1 scd_17 scf_18 (by first | omega | (simp only [zl_1] <;> omega) | decide | assumption | rfl) (by first | omega | (simp only [zl_1] <;> omega) | decide | assumption | rfl) (by omega) ls _ _ (lv_sub hl [0, 2] rfl) (hP.sub [0, 1] rfl) (hD.sub [0, 1] (by decide) rfl) hS
        · try simp only [zl_124] at h_13
          have h_13 : scd_10.toInt = f5_kd.toInt := h_13
          obtain rfl : r_8 = 0 := hr_8.trans (by decide)
          refine b_if_eq hx hb zl_0 (tgt := 36) dX11_whole_11 (by decide) (fun c_24 => ?_) (fun c_24 => by exfalso; omega)
          refine lv_iload_n hx hb dX11_whole_36 rfl (lv_at hl 0 rfl) ?_
          exact hRet (scd_10, f5_kf) [0, 1] ⟨(by first | omega | decide | assumption | rfl | (dsimp only; first | omega)), (by first | omega | decide | assumption | rfl | (dsimp only; first | omega))⟩ hP hD (by decide) rfl hS rfl dX11_whole_37
  exact hloop_5 _ r_1 scd_3 scf_4 (by first | omega | decide | assumption | rfl) (by first | omega | decide | assumption | rfl) (Nat.lt_succ_self _) ls _ _ (lv_sub hl [0, 1] rfl) hP hD hS
theorem dX11_one_154 : decode cX11_one 154 = .ok (.iconst 1, 1) := by decide +kernel
theorem dX11_one_155 : decode cX11_one 155 = .ok (.goto 4, 3) := by decide +kernel
theorem dX11_one_171 : decode cX11_one 171 = .ok (.aload_n 0, 1) := by decide +kernel
theorem dX11_one_172 : decode cX11_one 172 = .ok (.dup, 1) := by decide +kernel
theorem dX11_one_173 : decode cX11_one 173 = .ok (.getfield 138, 3) := by decide +kernel
theorem dX11_one_176 : decode cX11_one 176 = .ok (.iconst 1, 1) := by decide +kernel
theorem dX11_one_177 : decode cX11_one 177 = .ok (.iadd, 1) := by decide +kernel
theorem dX11_one_178 : decode cX11_one 178 = .ok (.putfield 138, 3) := by decide +kernel
theorem dX11_one_181 : decode cX11_one 181 = .ok (.aload_n 0, 1) := by decide +kernel
theorem dX11_one_182 : decode cX11_one 182 = .ok (.dup, 1) := by decide +kernel
theorem dX11_one_183 : decode cX11_one 183 = .ok (.getfield 170, 3) := by decide +kernel
theorem dX11_one_186 : decode cX11_one 186 = .ok (.iconst 1, 1) := by decide +kernel
theorem dX11_one_187 : decode cX11_one 187 = .ok (.iadd, 1) := by decide +kernel
theorem dX11_one_188 : decode cX11_one 188 = .ok (.putfield 170, 3) := by decide +kernel
theorem dX11_one_191 : decode cX11_one 191 = .ok (.iload_n 1, 1) := by decide +kernel
theorem dX11_one_192 : decode cX11_one 192 = .ok (.bipush 40, 2) := by decide +kernel
theorem dX11_one_194 : decode cX11_one 194 = .ok (.if_icmp .ne 10, 3) := by decide +kernel
theorem dX11_one_197 : decode cX11_one 197 = .ok (.aload_n 0, 1) := by decide +kernel
theorem dX11_one_198 : decode cX11_one 198 = .ok (.invokevirtual 177, 3) := by decide +kernel
theorem dX11_one_201 : decode cX11_one 201 = .ok (.goto 7, 3) := by decide +kernel
theorem dX11_one_204 : decode cX11_one 204 = .ok (.aload_n 0, 1) := by decide +kernel
theorem dX11_one_205 : decode cX11_one 205 = .ok (.invokevirtual 180, 3) := by decide +kernel
theorem dX11_one_208 : decode cX11_one 208 = .ok (.istore_n 3, 1) := by decide +kernel
theorem dX11_one_209 : decode cX11_one 209 = .ok (.aload_n 0, 1) := by decide +kernel
theorem dX11_one_210 : decode cX11_one 210 = .ok (.iload_n 1, 1) := by decide +kernel
theorem dX11_one_211 : decode cX11_one 211 = .ok (.bipush 40, 2) := by decide +kernel
theorem dX11_one_213 : decode cX11_one 213 = .ok (.if_icmp .ne 12, 3) := by decide +kernel
theorem dX11_one_216 : decode cX11_one 216 = .ok (.aload_n 0, 1) := by decide +kernel
theorem dX11_one_217 : decode cX11_one 217 = .ok (.bipush 41, 2) := by decide +kernel
theorem dX11_one_219 : decode cX11_one 219 = .ok (.invokevirtual 183, 3) := by decide +kernel
theorem dX11_one_222 : decode cX11_one 222 = .ok (.ifCond .eq 7, 3) := by decide +kernel
theorem dX11_one_225 : decode cX11_one 225 = .ok (.iconst 1, 1) := by decide +kernel
theorem dX11_one_226 : decode cX11_one 226 = .ok (.goto 4, 3) := by decide +kernel
theorem dX11_one_229 : decode cX11_one 229 = .ok (.iconst 0, 1) := by decide +kernel
theorem dX11_one_230 : decode cX11_one 230 = .ok (.invokevirtual 173, 3) := by decide +kernel
theorem dX11_one_233 : decode cX11_one 233 = .ok (.aload_n 0, 1) := by decide +kernel
theorem dX11_one_234 : decode cX11_one 234 = .ok (.dup, 1) := by decide +kernel
theorem dX11_one_235 : decode cX11_one 235 = .ok (.getfield 170, 3) := by decide +kernel
theorem dX11_one_238 : decode cX11_one 238 = .ok (.iconst 1, 1) := by decide +kernel
theorem dX11_one_239 : decode cX11_one 239 = .ok (.isub, 1) := by decide +kernel
theorem dX11_one_240 : decode cX11_one 240 = .ok (.putfield 170, 3) := by decide +kernel
theorem dX11_one_243 : decode cX11_one 243 = .ok (.iload_n 1, 1) := by decide +kernel
theorem dX11_one_244 : decode cX11_one 244 = .ok (.bipush 45, 2) := by decide +kernel
theorem dX11_one_246 : decode cX11_one 246 = .ok (.if_icmp .ne 8, 3) := by decide +kernel
theorem dX11_one_249 : decode cX11_one 249 = .ok (.iload_n 3, 1) := by decide +kernel
theorem dX11_one_250 : decode cX11_one 250 = .ok (.ineg, 1) := by decide +kernel
theorem dX11_one_251 : decode cX11_one 251 = .ok (.goto 22, 3) := by decide +kernel
theorem dX11_one_254 : decode cX11_one 254 = .ok (.iload_n 1, 1) := by decide +kernel
theorem dX11_one_255 : decode cX11_one 255 = .ok (.bipush 33, 2) := by decide +kernel
theorem dX11_one_257 : decode cX11_one 257 = .ok (.if_icmp .ne 15, 3) := by decide +kernel
theorem dX11_one_260 : decode cX11_one 260 = .ok (.iload_n 3, 1) := by decide +kernel
theorem dX11_one_261 : decode cX11_one 261 = .ok (.ifCond .ne 7, 3) := by decide +kernel
theorem dX11_one_264 : decode cX11_one 264 = .ok (.iconst 1, 1) := by decide +kernel
theorem dX11_one_265 : decode cX11_one 265 = .ok (.goto 8, 3) := by decide +kernel
theorem dX11_one_268 : decode cX11_one 268 = .ok (.iconst 0, 1) := by decide +kernel
theorem dX11_one_269 : decode cX11_one 269 = .ok (.goto 4, 3) := by decide +kernel
theorem dX11_one_272 : decode cX11_one 272 = .ok (.iload_n 3, 1) := by decide +kernel
theorem dX11_one_273 : decode cX11_one 273 = .ok (.ireturn, 1) := by decide +kernel
set_option maxHeartbeats 4000000 in
set_option maxRecDepth 100000 in
theorem c_X11_oneG3 (l : Launch) (D : va_G) (cI : ClassId) (aK aV : Nat → Nat) (k k0 k1 k2 k4 k5 k6 k7 k8 ka kb kl ko : Nat) (sz : Nat) (c3 : Int32) (c9 : Int32) (cc : Int32) (cd : Int32) (ce : Int32) (cf : Int32) (cg : Int32) (ch : Int32) (ci : Int32) (cj : Int32) (ck : Int32) (cm : Int32) (cn : Int32) (c0 : Nat → Int32) (pre0 : 0 ≤ cc.toInt) (pre1 : cc.toInt ≤ 1151) (pre2 : 0 ≤ cd.toInt) (pre3 : cd.toInt ≤ ce.toInt) (pre4 : ce.toInt ≤ 50) (pre5 : cg.toInt = 3) : Met l yX11_one (gW yX11_one cX11_one 4 (some .int)) ({ frames := 7, cells := 0, slots := 0, locals := 158 } : Room) (kPreX D cI aK aV [.ref k] [(k, .inr (11, [.ref k0, .ref k1, .ref k2, .int c3, .ref k4, .ref k5, .ref k6, .ref k7, .ref k8, .int c9, .ref ka, .ref kb, .int cc, .int cd, .int ce, .int cf, .int cg, .int ch, .int ci, .int cj, .int ck, .ref kl, .int cm, .int cn, .ref ko])), (k0, .inl (cI, 1201, .inl c0))] sz) (va_Qi (fun (r : Int32) (u : Int32 × Int32 × Int32) => cd.toInt ≤ u.1.toInt ∧ u.1.toInt ≤ ce.toInt ∧ u.2.2.toInt = 3) (fun u t => kWd D cI (va_A [(k, .inr (11, [.ref k0, .ref k1, .ref k2, .int c3, .ref k4, .ref k5, .ref k6, .ref k7, .ref k8, .int c9, .ref ka, .ref kb, .int cc, .int cd, .int ce, .int cf, .int cg, .int ch, .int ci, .int cj, .int ck, .ref kl, .int cm, .int cn, .ref ko])), (k0, .inl (cI, 1201, .inl c0))] sz) [(k, .inr (11, [.ref k0, .ref k1, .ref k2, .int c3, .ref k4, .ref k5, .ref k6, .ref k7, .ref k8, .int c9, .ref ka, .ref kb, .int cc, .int u.1, .int ce, .int u.2.1, .int u.2.2, .int ch, .int ci, .int cj, .int ck, .ref kl, .int cm, .int cn, .ref ko])), (k0, .inl (cI, 1201, .inl c0))] t) (va_A [(k, .inr (11, [.ref k0, .ref k1, .ref k2, .int c3, .ref k4, .ref k5, .ref k6, .ref k7, .ref k8, .int c9, .ref ka, .ref kb, .int cc, .int cd, .int ce, .int cf, .int cg, .int ch, .int ci, .int cj, .int ck, .ref kl, .int cm, .int cn, .ref ko])), (k0, .inl (cI, 1201, .inl c0))] sz)) 0 0 (va_A [(k, .inr (11, [.ref k0, .ref k1, .ref k2, .int c3, .ref k4, .ref k5, .ref k6, .ref k7, .ref k8, .int c9, .ref ka, .ref kb, .int cc, .int cd, .int ce, .int cf, .int cg, .int ch, .int ci, .int cj, .int ck, .ref kl, .int cm, .int cn, .ref ko])), (k0, .inl (cI, 1201, .inl c0))] sz) := by
  refine kMetIX (own := RX11) (by decide) rfl (Nat.le_of_ble_eq_true rfl) ?_
  intro p e s m args below meth c hx hb hT hown hname hml A Q hK hP hD hS hA hN hXS hRet ls hl
  have hl : lv_has ls 4 [(0, .ref k)] := hl
  have lo_cd := k_lo cd
  have hi_cd := k_hi cd
  have lo_ce := k_lo ce
  have hi_ce := k_hi ce
  have lo_cf := k_lo cf
  have hi_cf := k_hi cf
  have lo_cg := k_lo cg
  have hi_cg := k_hi cg
  have lo_ci := k_lo ci
  have hi_ci := k_hi ci
  have lo_cj := k_lo cj
  have hi_cj := k_hi cj
  have lo_ck := k_lo ck
  have hi_ck := k_hi ck
  refine lv_aload_n hx hb dX11_one_0 rfl (lv_at hl 0 rfl) ?_
  refine kJi (wr := []) (va_runV (As := []) (rest := []) ⟨hx, hb, hml, hown, hT⟩ (c_X11_nowG l D cI aK aV k k0 k1 k2 k4 k5 k6 k7 k8 ka kb kl ko s.heap.size c3 c9 cc cd ce cf cg ch ci cj ck cm cn c0 (by first | omega | decide | assumption | rfl) (by first | omega | decide | assumption | rfl) (by first | omega | decide | assumption | rfl) (by first | omega | decide | assumption | rfl) (by first | omega | decide | assumption | rfl)) (cwV 0 hT (gV_in mw_1339 mw_1336 mw_1338 mw_p4_9 mw_12) rfl rfl rfl (by decide +kernel) ⟨Nat.le_of_ble_eq_true rfl, Nat.le_of_ble_eq_true rfl⟩) (kRecvX (q0 := 0) (ci := 11) hK hP hD hN hXS hS hA rfl rfl [0, 1] rfl (by decide)) rfl rfl hl.1 rfl (lv_room (Nat.le_of_ble_eq_true rfl)) dX11_one_1 ⟨Nat.le_of_ble_eq_true rfl, Nat.le_of_ble_eq_true rfl⟩) hP hD hS hA [0, 1] [] rfl rfl (by decide) (by decide) ?_
  clear hP hD hS
  intro r_1 u_3 H locs w_2 hP hD hS
  replace hP : va_P D vwCl [(k, .inr (11, [.ref k0, .ref k1, .ref k2, .int c3, .ref k4, .ref k5, .ref k6, .ref k7, .ref k8, .int c9, .ref ka, .ref kb, .int cc, .int cd, .int ce, .int cf, .int cg, .int ch, .int ci, .int cj, .int ck, .ref kl, .int cm, .int cn, .ref ko])), (k0, .inl (cI, 1201, .inl c0))] H := hP
  replace hD : va_D A [(k, .inr (11, [.ref k0, .ref k1, .ref k2, .int c3, .ref k4, .ref k5, .ref k6, .ref k7, .ref k8, .int c9, .ref ka, .ref kb, .int cc, .int cd, .int ce, .int cf, .int cg, .int ch, .int ci, .int cj, .int ck, .ref kl, .int cm, .int cn, .ref ko])), (k0, .inl (cI, 1201, .inl c0))] := hD
  rcases w_2 with h_4 | ⟨hr_1, h_5⟩
  · have h_4 : cd.toInt < ce.toInt := h_4
    have lo_r_1 := k_lo r_1
    have hi_r_1 := k_hi r_1
    refine lv_istore_n (lv' := [(1, .int r_1), (0, .ref k)]) hx hb dX11_one_4 rfl hl (by decide) rfl ?_
    clear hl
    intro ls hl
    refine lv_aload_n hx hb dX11_one_5 rfl (lv_at hl 1 rfl) ?_
    refine va_get (D := D) (ci := 11) (v := .int cf) (C := RX11) (T := TX11) (N := 25) hx hb hT giX11 hown hK hP 0 rfl rfl 15 (by decide) (hT (Cond.fieldLink RX11 148 "DesertWireModel" "isWrong" "Z") mw_1171) (fun _ h9 => h9) rfl dX11_one_6 ?_
    refine b_if_eq hx hb rfl (tgt := 14) dX11_one_9 (by decide) (fun c_6 => ?_) (fun c_6 => ?_)
    · refine lv_iload_n hx hb dX11_one_14 rfl (lv_at hl 0 rfl) ?_
      refine lv_bipush (v := 48) hx hb dX11_one_15 (by decide) ?_
      refine lv_bipush (v := 57) hx hb dX11_one_17 (by decide) ?_
      refine kJi (wr := [(k, .inr (11, [.ref k0, .ref k1, .ref k2, .int c3, .ref k4, .ref k5, .ref k6, .ref k7, .ref k8, .int c9, .ref ka, .ref kb, .int cc, .int cd, .int ce, .int cf, .int cg, .int ch, .int ci, .int cj, .int ck, .ref kl, .int cm, .int cn, .ref ko])), (k0, .inl (cI, 1201, .inl c0))]) (va_runS (As := [.int r_1, .int 48, .int 57]) (rest := []) ⟨hx, hb, hml, hown, hT⟩ (c_X11_inG l D cI aK aV H.size r_1 48 57) (cwS 3 hT (gS_in mw_1238 mw_1236 mw_1237 mw_12) rfl rfl rfl (by decide +kernel) ⟨Nat.le_of_ble_eq_true rfl, Nat.le_of_ble_eq_true rfl⟩) (kStatX hK hP hD hN hXS hS hA [] rfl (by decide)) rfl rfl hl.1 rfl (lv_room (Nat.le_of_ble_eq_true rfl)) dX11_one_19 ⟨Nat.le_of_ble_eq_true rfl, Nat.le_of_ble_eq_true rfl⟩) hP hD hS hA [] [0, 1] rfl rfl (by decide) (by decide) ?_
      clear hP hD hS
      intro r_7 u_9 H locs w_8 hP hD hS
      replace hP : va_P D vwCl [(k, .inr (11, [.ref k0, .ref k1, .ref k2, .int c3, .ref k4, .ref k5, .ref k6, .ref k7, .ref k8, .int c9, .ref ka, .ref kb, .int cc, .int cd, .int ce, .int cf, .int cg, .int ch, .int ci, .int cj, .int ck, .ref kl, .int cm, .int cn, .ref ko])), (k0, .inl (cI, 1201, .inl c0))] H := hP
      replace hD : va_D A [(k, .inr (11, [.ref k0, .ref k1, .ref k2, .int c3, .ref k4, .ref k5, .ref k6, .ref k7, .ref k8, .int c9, .ref ka, .ref kb, .int cc, .int cd, .int ce, .int cf, .int cg, .int ch, .int ci, .int cj, .int ck, .ref kl, .int cm, .int cn, .ref ko])), (k0, .inl (cI, 1201, .inl c0))] := hD
      rcases w_8 with ⟨hr_7, h_10, h_11⟩ | ⟨hr_7, h_12⟩
      · try simp only [zl_48, zl_57] at h_10
        have h_10 : 48 ≤ r_1.toInt := h_10
        try simp only [zl_48, zl_57] at h_11
        have h_11 : r_1.toInt ≤ 57 := h_11
        obtain rfl : r_7 = 1 := hr_7.trans (by decide)
        refine b_if_eq hx hb zl_1 (tgt := 79) dX11_one_22 (by decide) (fun c_13 => by exfalso; omega) (fun c_13 => ?_)
        refine lv_iconst (v := 0) hx hb dX11_one_25 (by decide) ?_
        refine lv_istore_n (lv' := [(2, .int 0), (1, .int r_1), (0, .ref k)]) hx hb dX11_one_26 rfl hl (by decide) rfl ?_
        clear hl
        intro ls hl
        refine lv_iconst (v := 0) hx hb dX11_one_27 (by decide) ?_
        refine lv_istore_n (lv' := [(3, .int 0), (2, .int 0), (1, .int r_1), (0, .ref k)]) hx hb dX11_one_28 rfl hl (by decide) rfl ?_
        clear hl
        intro ls hl
        have hloop_29 : ∀ (fu_ : Nat) (l29_2 : Int32) (l29_3 : Int32) (f29_kd : Int32), 0 ≤ l29_3.toInt → cd.toInt ≤ f29_kd.toInt → f29_kd.toInt ≤ ce.toInt → (4 - l29_3.toInt).toNat < fu_ → ∀ (ls : Array Slot) (H : Heap) (locs : List Loc), lv_has ls 4 [(3, .int l29_3), (2, .int l29_2), (1, .int r_1), (0, .ref k)] → va_P D vwCl [(k, .inr (11, [.ref k0, .ref k1, .ref k2, .int c3, .ref k4, .ref k5, .ref k6, .ref k7, .ref k8, .int c9, .ref ka, .ref kb, .int cc, .int f29_kd, .int ce, .int cf, .int cg, .int ch, .int ci, .int cj, .int ck, .ref kl, .int cm, .int cn, .ref ko])), (k0, .inl (cI, 1201, .inl c0))] H → va_D A [(k, .inr (11, [.ref k0, .ref k1, .ref k2, .int c3, .ref k4, .ref k5, .ref k6, .ref k7, .ref k8, .int c9, .ref ka, .ref kb, .int cc, .int f29_kd, .int ce, .int cf, .int cg, .int ch, .int ci, .int cj, .int ck, .ref kl, .int cm, .int cn, .ref ko])), (k0, .inl (cI, 1201, .inl c0))] → va_S A s.heap H locs → W p l e ({ frames := 7, cells := 0, slots := 0, locals := 158 } : Room) s m args below meth c H locs 0 0 Q (F0 m 29 ls []) := by
          intro fu_; induction fu_ with
          | zero => intro l29_2 l29_3 f29_kd i29_0 i29_1 i29_2 hm; exact absurd hm (by omega)
          | succ fu_ ih29 =>
              intro l29_2 l29_3 f29_kd i29_0 i29_1 i29_2 hm ls H locs hl hP hD hS
              have lo_l29_2 := k_lo l29_2
              have hi_l29_2 := k_hi l29_2
              have lo_l29_3 := k_lo l29_3
              have hi_l29_3 := k_hi l29_3
              have lo_f29_kd := k_lo f29_kd
              have hi_f29_kd := k_hi f29_kd
              refine lv_iload_n hx hb dX11_one_29 rfl (lv_at hl 0 rfl) ?_
              refine lv_iconst (v := 4) hx hb dX11_one_30 (by decide) ?_
              refine b_icmp_ge hx hb rfl zl_4 (tgt := 77) dX11_one_31 (by decide) (fun c_14 => ?_) (fun c_14 => ?_)
              · refine lv_iload_n hx hb dX11_one_77 rfl (lv_at hl 1 rfl) ?_
                exact hRet (f29_kd, cf, cg) [0, 1] ⟨(by first | omega | decide | assumption | rfl | (dsimp only; first | omega)), (by first | omega | decide | assumption | rfl | (dsimp only; first | omega)), (by first | omega | decide | assumption | rfl | (dsimp only; first | omega))⟩ hP hD (by decide) rfl hS rfl dX11_one_78
              · refine lv_aload_n hx hb dX11_one_34 rfl (lv_at hl 3 rfl) ?_
                refine kJi (wr := []) (va_runV (As := []) (rest := []) ⟨hx, hb, hml, hown, hT⟩ (c_X11_nowG l D cI aK aV k k0 k1 k2 k4 k5 k6 k7 k8 ka kb kl ko H.size c3 c9 cc f29_kd ce cf cg ch ci cj ck cm cn c0 (by first | omega | decide | assumption | rfl) (by first | omega | decide | assumption | rfl) (by first | omega | decide | assumption | rfl) (by first | omega | decide | assumption | rfl) (by first | omega | decide | assumption | rfl)) (cwV 0 hT (gV_in mw_1339 mw_1336 mw_1338 mw_p4_9 mw_12) rfl rfl rfl (by decide +kernel) ⟨Nat.le_of_ble_eq_true rfl, Nat.le_of_ble_eq_true rfl⟩) (kRecvX (q0 := 0) (ci := 11) hK hP hD hN hXS hS hA rfl rfl [0, 1] rfl (by decide)) rfl rfl hl.1 rfl (lv_room (Nat.le_of_ble_eq_true rfl)) dX11_one_35 ⟨Nat.le_of_ble_eq_true rfl, Nat.le_of_ble_eq_true rfl⟩) hP hD hS hA [0, 1] [] rfl rfl (by decide) (by decide) ?_
                clear hP hD hS
                intro r_15 u_17 H locs w_16 hP hD hS
                replace hP : va_P D vwCl [(k, .inr (11, [.ref k0, .ref k1, .ref k2, .int c3, .ref k4, .ref k5, .ref k6, .ref k7, .ref k8, .int c9, .ref ka, .ref kb, .int cc, .int f29_kd, .int ce, .int cf, .int cg, .int ch, .int ci, .int cj, .int ck, .ref kl, .int cm, .int cn, .ref ko])), (k0, .inl (cI, 1201, .inl c0))] H := hP
                replace hD : va_D A [(k, .inr (11, [.ref k0, .ref k1, .ref k2, .int c3, .ref k4, .ref k5, .ref k6, .ref k7, .ref k8, .int c9, .ref ka, .ref kb, .int cc, .int f29_kd, .int ce, .int cf, .int cg, .int ch, .int ci, .int cj, .int ck, .ref kl, .int cm, .int cn, .ref ko])), (k0, .inl (cI, 1201, .inl c0))] := hD
                rcases w_16 with h_18 | ⟨hr_15, h_19⟩
                · have h_18 : f29_kd.toInt < ce.toInt := h_18
                  have lo_r_15 := k_lo r_15
                  have hi_r_15 := k_hi r_15
                  refine lv_bipush (v := 48) hx hb dX11_one_38 (by decide) ?_
                  refine lv_bipush (v := 57) hx hb dX11_one_40 (by decide) ?_
                  refine kJi (wr := [(k, .inr (11, [.ref k0, .ref k1, .ref k2, .int c3, .ref k4, .ref k5, .ref k6, .ref k7, .ref k8, .int c9, .ref ka, .ref kb, .int cc, .int f29_kd, .int ce, .int cf, .int cg, .int ch, .int ci, .int cj, .int ck, .ref kl, .int cm, .int cn, .ref ko])), (k0, .inl (cI, 1201, .inl c0))]) (va_runS (As := [.int r_15, .int 48, .int 57]) (rest := []) ⟨hx, hb, hml, hown, hT⟩ (c_X11_inG l D cI aK aV H.size r_15 48 57) (cwS 3 hT (gS_in mw_1238 mw_1236 mw_1237 mw_12) rfl rfl rfl (by decide +kernel) ⟨Nat.le_of_ble_eq_true rfl, Nat.le_of_ble_eq_true rfl⟩) (kStatX hK hP hD hN hXS hS hA [] rfl (by decide)) rfl rfl hl.1 rfl (lv_room (Nat.le_of_ble_eq_true rfl)) dX11_one_42 ⟨Nat.le_of_ble_eq_true rfl, Nat.le_of_ble_eq_true rfl⟩) hP hD hS hA [] [0, 1] rfl rfl (by decide) (by decide) ?_
                  clear hP hD hS
                  intro r_20 u_22 H locs w_21 hP hD hS
                  replace hP : va_P D vwCl [(k, .inr (11, [.ref k0, .ref k1, .ref k2, .int c3, .ref k4, .ref k5, .ref k6, .ref k7, .ref k8, .int c9, .ref ka, .ref kb, .int cc, .int f29_kd, .int ce, .int cf, .int cg, .int ch, .int ci, .int cj, .int ck, .ref kl, .int cm, .int cn, .ref ko])), (k0, .inl (cI, 1201, .inl c0))] H := hP
                  replace hD : va_D A [(k, .inr (11, [.ref k0, .ref k1, .ref k2, .int c3, .ref k4, .ref k5, .ref k6, .ref k7, .ref k8, .int c9, .ref ka, .ref kb, .int cc, .int f29_kd, .int ce, .int cf, .int cg, .int ch, .int ci, .int cj, .int ck, .ref kl, .int cm, .int cn, .ref ko])), (k0, .inl (cI, 1201, .inl c0))] := hD
                  rcases w_21 with ⟨hr_20, h_23, h_24⟩ | ⟨hr_20, h_25⟩
                  · try simp only [zl_48, zl_57] at h_23
                    have h_23 : 48 ≤ r_15.toInt := h_23
                    try simp only [zl_48, zl_57] at h_24
                    have h_24 : r_15.toInt ≤ 57 := h_24
                    obtain rfl : r_20 = 1 := hr_20.trans (by decide)
                    refine b_if_eq hx hb zl_1 (tgt := 77) dX11_one_45 (by decide) (fun c_26 => by exfalso; omega) (fun c_26 => ?_)
                    refine lv_bipush (v := 10) hx hb dX11_one_48 (by decide) ?_
                    refine lv_iload_n hx hb dX11_one_50 rfl (lv_at hl 1 rfl) ?_
                    refine lv_imul hx hb dX11_one_51 ?_
                    refine lv_topi (fun v_27 ev_27 => ?_)
                    have lo_v_27 := k_lo v_27
                    have hi_v_27 := k_hi v_27
                    refine lv_aload_n hx hb dX11_one_52 rfl (lv_at hl 3 rfl) ?_
                    refine kJi (wr := []) (va_runV (As := []) (rest := [.int v_27]) ⟨hx, hb, hml, hown, hT⟩ (c_X11_nowG l D cI aK aV k k0 k1 k2 k4 k5 k6 k7 k8 ka kb kl ko H.size c3 c9 cc f29_kd ce cf cg ch ci cj ck cm cn c0 (by first | omega | decide | assumption | rfl) (by first | omega | decide | assumption | rfl) (by first | omega | decide | assumption | rfl) (by first | omega | decide | assumption | rfl) (by first | omega | decide | assumption | rfl)) (cwV 0 hT (gV_in mw_1339 mw_1336 mw_1338 mw_p4_9 mw_12) rfl rfl rfl (by decide +kernel) ⟨Nat.le_of_ble_eq_true rfl, Nat.le_of_ble_eq_true rfl⟩) (kRecvX (q0 := 0) (ci := 11) hK hP hD hN hXS hS hA rfl rfl [0, 1] rfl (by decide)) rfl rfl hl.1 rfl (lv_room (Nat.le_of_ble_eq_true rfl)) dX11_one_53 ⟨Nat.le_of_ble_eq_true rfl, Nat.le_of_ble_eq_true rfl⟩) hP hD hS hA [0, 1] [] rfl rfl (by decide) (by decide) ?_
                    clear hP hD hS
                    intro r_28 u_30 H locs w_29 hP hD hS
                    replace hP : va_P D vwCl [(k, .inr (11, [.ref k0, .ref k1, .ref k2, .int c3, .ref k4, .ref k5, .ref k6, .ref k7, .ref k8, .int c9, .ref ka, .ref kb, .int cc, .int f29_kd, .int ce, .int cf, .int cg, .int ch, .int ci, .int cj, .int ck, .ref kl, .int cm, .int cn, .ref ko])), (k0, .inl (cI, 1201, .inl c0))] H := hP
                    replace hD : va_D A [(k, .inr (11, [.ref k0, .ref k1, .ref k2, .int c3, .ref k4, .ref k5, .ref k6, .ref k7, .ref k8, .int c9, .ref ka, .ref kb, .int cc, .int f29_kd, .int ce, .int cf, .int cg, .int ch, .int ci, .int cj, .int ck, .ref kl, .int cm, .int cn, .ref ko])), (k0, .inl (cI, 1201, .inl c0))] := hD
                    rcases w_29 with h_31 | ⟨hr_28, h_32⟩
                    · have h_31 : f29_kd.toInt < ce.toInt := h_31
                      have lo_r_28 := k_lo r_28
                      have hi_r_28 := k_hi r_28
                      refine lv_iadd hx hb dX11_one_56 ?_
                      refine lv_topi (fun v_33 ev_33 => ?_)
                      have lo_v_33 := k_lo v_33
                      have hi_v_33 := k_hi v_33
                      refine lv_bipush (v := 48) hx hb dX11_one_57 (by decide) ?_
                      refine lv_isub hx hb dX11_one_59 ?_
                      refine lv_topi (fun v_34 ev_34 => ?_)
                      have lo_v_34 := k_lo v_34
                      have hi_v_34 := k_hi v_34
                      refine lv_istore_n (lv' := [(2, .int v_34), (3, .int l29_3), (1, .int r_1), (0, .ref k)]) hx hb dX11_one_60 rfl hl (by decide) rfl ?_
                      clear hl
                      intro ls hl
                      refine lv_aload_n hx hb dX11_one_61 rfl (lv_at hl 3 rfl) ?_
                      refine lv_dup hx hb dX11_one_62 rfl ?_
                      refine va_get (D := D) (ci := 11) (v := .int f29_kd) (C := RX11) (T := TX11) (N := 25) hx hb hT giX11 hown hK hP 0 rfl rfl 13 (by decide) (hT (Cond.fieldLink RX11 138 "DesertWireModel" "here" "I") mw_1169) (fun _ h9 => h9) rfl dX11_one_63 ?_
                      refine lv_iconst (v := 1) hx hb dX11_one_66 (by decide) ?_
                      refine lv_iadd hx hb dX11_one_67 ?_
                      refine lv_topi (fun v_35 ev_35 => ?_)
                      have tv_35 : v_35.toInt = f29_kd.toInt + 1 := by rw [ev_35]; exact k_addv rfl zl_1 (by omega) (by omega)
                      refine va_put (D := D) (ci := 11) (v := .int v_35) (ty := .int) (C := RX11) (T := TX11) (N := 25) hx hb hT giX11 tyX11 tyX11_ok nmX11 hown hK hP hD hS 0 rfl rfl 13 (by decide) (hT (Cond.fieldLink RX11 138 "DesertWireModel" "here" "I") mw_1169) (fun _ h9 => h9) rfl (by decide +kernel) rfl rfl (Nat.le_of_ble_eq_true rfl) dX11_one_68 ?_
                      clear hP hD hS
                      intro H locs hP hD hS
                      replace hP : va_P D vwCl [(k, .inr (11, [.ref k0, .ref k1, .ref k2, .int c3, .ref k4, .ref k5, .ref k6, .ref k7, .ref k8, .int c9, .ref ka, .ref kb, .int cc, .int v_35, .int ce, .int cf, .int cg, .int ch, .int ci, .int cj, .int ck, .ref kl, .int cm, .int cn, .ref ko])), (k0, .inl (cI, 1201, .inl c0))] H := hP
                      replace hD : va_D A [(k, .inr (11, [.ref k0, .ref k1, .ref k2, .int c3, .ref k4, .ref k5, .ref k6, .ref k7, .ref k8, .int c9, .ref ka, .ref kb, .int cc, .int v_35, .int ce, .int cf, .int cg, .int ch, .int ci, .int cj, .int ck, .ref kl, .int cm, .int cn, .ref ko])), (k0, .inl (cI, 1201, .inl c0))] := hD
                      obtain ⟨v_36, ev_36⟩ : ∃ y : Int32, y = l29_3 + 1 := ⟨_, rfl⟩
                      have tv_36 : v_36.toInt = l29_3.toInt + 1 := by rw [ev_36]; exact k_addv rfl zl_1 (by omega) (by omega)
                      refine lv_iinc (v := v_36) (lv' := [(3, .int v_36), (2, .int v_34), (1, .int r_1), (0, .ref k)]) hx hb dX11_one_71 hl (k := 1) rfl (by rw [ev_36]; rfl) (by decide) rfl ?_
                      clear hl
                      intro ls hl
                      refine lv_goto (tgt := 29) hx hb dX11_one_74 (by decide) ?_
                      exact ih29 v_34 v_36 v_35 (by first | omega | decide | assumption | rfl) (by first | omega | decide | assumption | rfl) (by first | omega | decide | assumption | rfl) (by omega) ls _ _ (lv_sub hl [0, 1, 2, 3] rfl) (hP.sub [0, 1] rfl) (hD.sub [0, 1] (by decide) rfl) hS
                    · exfalso; omega
                  · try simp only [zl_48, zl_57] at h_25
                    have h_25 : r_15.toInt < 48 ∨ 57 < r_15.toInt := h_25
                    obtain rfl : r_20 = 0 := hr_20.trans (by decide)
                    refine b_if_eq hx hb zl_0 (tgt := 77) dX11_one_45 (by decide) (fun c_37 => ?_) (fun c_37 => by exfalso; omega)
                    refine lv_iload_n hx hb dX11_one_77 rfl (lv_at hl 1 rfl) ?_
                    exact hRet (f29_kd, cf, cg) [0, 1] ⟨(by first | omega | decide | assumption | rfl | (dsimp only; first | omega)), (by first | omega | decide | assumption | rfl | (dsimp only; first | omega)), (by first | omega | decide | assumption | rfl | (dsimp only; first | omega))⟩ hP hD (by decide) rfl hS rfl dX11_one_78
                · have h_19 : f29_kd.toInt = ce.toInt := h_19
                  obtain rfl : r_15 = (-1) := hr_15.trans (by decide)
                  refine lv_bipush (v := 48) hx hb dX11_one_38 (by decide) ?_
                  refine lv_bipush (v := 57) hx hb dX11_one_40 (by decide) ?_
                  refine kJi (wr := [(k, .inr (11, [.ref k0, .ref k1, .ref k2, .int c3, .ref k4, .ref k5, .ref k6, .ref k7, .ref k8, .int c9, .ref ka, .ref kb, .int cc, .int f29_kd, .int ce, .int cf, .int cg, .int ch, .int ci, .int cj, .int ck, .ref kl, .int cm, .int cn, .ref ko])), (k0, .inl (cI, 1201, .inl c0))]) (va_runS (As := [.int (-1), .int 48, .int 57]) (rest := []) ⟨hx, hb, hml, hown, hT⟩ (c_X11_inG l D cI aK aV H.size (-1) 48 57) (cwS 3 hT (gS_in mw_1238 mw_1236 mw_1237 mw_12) rfl rfl rfl (by decide +kernel) ⟨Nat.le_of_ble_eq_true rfl, Nat.le_of_ble_eq_true rfl⟩) (kStatX hK hP hD hN hXS hS hA [] rfl (by decide)) rfl rfl hl.1 rfl (lv_room (Nat.le_of_ble_eq_true rfl)) dX11_one_42 ⟨Nat.le_of_ble_eq_true rfl, Nat.le_of_ble_eq_true rfl⟩) hP hD hS hA [] [0, 1] rfl rfl (by decide) (by decide) ?_
                  clear hP hD hS
                  intro r_38 u_40 H locs w_39 hP hD hS
                  replace hP : va_P D vwCl [(k, .inr (11, [.ref k0, .ref k1, .ref k2, .int c3, .ref k4, .ref k5, .ref k6, .ref k7, .ref k8, .int c9, .ref ka, .ref kb, .int cc, .int f29_kd, .int ce, .int cf, .int cg, .int ch, .int ci, .int cj, .int ck, .ref kl, .int cm, .int cn, .ref ko])), (k0, .inl (cI, 1201, .inl c0))] H := hP
                  replace hD : va_D A [(k, .inr (11, [.ref k0, .ref k1, .ref k2, .int c3, .ref k4, .ref k5, .ref k6, .ref k7, .ref k8, .int c9, .ref ka, .ref kb, .int cc, .int f29_kd, .int ce, .int cf, .int cg, .int ch, .int ci, .int cj, .int ck, .ref kl, .int cm, .int cn, .ref ko])), (k0, .inl (cI, 1201, .inl c0))] := hD
                  rcases w_39 with ⟨hr_38, h_41, h_42⟩ | ⟨hr_38, h_43⟩
                  · (try simp only [zl_m1, zl_48, zl_57] at h_41 h_42); exfalso; omega
                  · try simp only [zl_m1, zl_48, zl_57] at h_43
                    obtain rfl : r_38 = 0 := hr_38.trans (by decide)
                    refine b_if_eq hx hb zl_0 (tgt := 77) dX11_one_45 (by decide) (fun c_44 => ?_) (fun c_44 => by exfalso; omega)
                    refine lv_iload_n hx hb dX11_one_77 rfl (lv_at hl 1 rfl) ?_
                    exact hRet (f29_kd, cf, cg) [0, 1] ⟨(by first | omega | decide | assumption | rfl | (dsimp only; first | omega)), (by first | omega | decide | assumption | rfl | (dsimp only; first | omega)), (by first | omega | decide | assumption | rfl | (dsimp only; first | omega))⟩ hP hD (by decide) rfl hS rfl dX11_one_78
        exact hloop_29 _ 0 0 cd (by first | omega | (simp only [zl_0] <;> omega) | decide | assumption | rfl) (by first | omega | (simp only [zl_0] <;> omega) | decide | assumption | rfl) (by first | omega | (simp only [zl_0] <;> omega) | decide | assumption | rfl) (Nat.lt_succ_self _) ls _ _ (lv_sub hl [0, 1, 2, 3] rfl) hP hD hS
      · try simp only [zl_48, zl_57] at h_12
        have h_12 : r_1.toInt < 48 ∨ 57 < r_1.toInt := h_12
        obtain rfl : r_7 = 0 := hr_7.trans (by decide)
        refine b_if_eq hx hb zl_0 (tgt := 79) dX11_one_22 (by decide) (fun c_45 => ?_) (fun c_45 => by exfalso; omega)
        refine lv_aload_n hx hb dX11_one_79 rfl (lv_at hl 1 rfl) ?_
        refine lv_iload_n hx hb dX11_one_80 rfl (lv_at hl 0 rfl) ?_
        refine kJi (wr := [(k0, .inl (cI, 1201, .inl c0))]) (va_runV (As := [.int r_1]) (rest := []) ⟨hx, hb, hml, hown, hT⟩ (c_X11_nameAtG l D cI aK aV k k0 k1 k2 k4 k5 k6 k7 k8 ka kb kl ko H.size c3 c9 cc cd ce cf cg ch ci cj ck cm cn r_1) (cwV 1 hT (gV_in mw_1343 mw_1340 mw_1342 mw_p4_10 mw_12) rfl rfl rfl (by decide +kernel) ⟨Nat.le_of_ble_eq_true rfl, Nat.le_of_ble_eq_true rfl⟩) (kRecvX (q0 := 0) (ci := 11) hK hP hD hN hXS hS hA rfl rfl [0] rfl (by decide)) rfl rfl hl.1 rfl (lv_room (Nat.le_of_ble_eq_true rfl)) dX11_one_81 ⟨Nat.le_of_ble_eq_true rfl, Nat.le_of_ble_eq_true rfl⟩) hP hD hS hA [0] [1] rfl rfl (by decide) (by decide) ?_
        clear hP hD hS
        intro r_46 u_48 H locs w_47 hP hD hS
        replace hP : va_P D vwCl [(k0, .inl (cI, 1201, .inl c0)), (k, .inr (11, [.ref k0, .ref k1, .ref k2, .int c3, .ref k4, .ref k5, .ref k6, .ref k7, .ref k8, .int c9, .ref ka, .ref kb, .int cc, .int cd, .int ce, .int cf, .int cg, .int ch, .int ci, .int cj, .int ck, .ref kl, .int cm, .int cn, .ref ko]))] H := hP
        replace hD : va_D A [(k0, .inl (cI, 1201, .inl c0)), (k, .inr (11, [.ref k0, .ref k1, .ref k2, .int c3, .ref k4, .ref k5, .ref k6, .ref k7, .ref k8, .int c9, .ref ka, .ref kb, .int cc, .int cd, .int ce, .int cf, .int cg, .int ch, .int ci, .int cj, .int ck, .ref kl, .int cm, .int cn, .ref ko]))] := hD
        rcases w_47 with h_49 | hr_46
        · have h_49 : 97 ≤ r_1.toInt := h_49
          have lo_r_46 := k_lo r_46
          have hi_r_46 := k_hi r_46
          refine lv_istore_n (lv' := [(2, .int r_46), (1, .int r_1), (0, .ref k)]) hx hb dX11_one_84 rfl hl (by decide) rfl ?_
          clear hl
          intro ls hl
          refine lv_iload_n hx hb dX11_one_85 rfl (lv_at hl 0 rfl) ?_
          refine b_if_lt hx hb rfl (tgt := 127) dX11_one_86 (by decide) (fun c_50 => ?_) (fun c_50 => ?_)
          · refine lv_aload_n hx hb dX11_one_127 rfl (lv_at hl 2 rfl) ?_
            refine lv_iload_n hx hb dX11_one_128 rfl (lv_at hl 1 rfl) ?_
            refine lv_bipush (v := 45) hx hb dX11_one_129 (by decide) ?_
            refine b_icmp_eq hx hb rfl zl_45 (tgt := 146) dX11_one_131 (by decide) (fun c_51 => by exfalso; omega) (fun c_51 => ?_)
            refine lv_iload_n hx hb dX11_one_134 rfl (lv_at hl 1 rfl) ?_
            refine lv_bipush (v := 33) hx hb dX11_one_135 (by decide) ?_
            refine b_icmp_eq hx hb rfl zl_33 (tgt := 146) dX11_one_137 (by decide) (fun c_52 => by exfalso; omega) (fun c_52 => ?_)
            refine lv_iload_n hx hb dX11_one_140 rfl (lv_at hl 1 rfl) ?_
            refine lv_bipush (v := 40) hx hb dX11_one_141 (by decide) ?_
            refine b_icmp_ne hx hb rfl zl_40 (tgt := 158) dX11_one_143 (by decide) (fun c_53 => ?_) (fun c_53 => by exfalso; omega)
            refine lv_iconst (v := 0) hx hb dX11_one_158 (by decide) ?_
            refine kJv (wr := [(k0, .inl (cI, 1201, .inl c0))]) (va_runV (As := [.int 0]) (rest := []) ⟨hx, hb, hml, hown, hT⟩ (c_X11_needsG l D cI aK aV k k0 k1 k2 k4 k5 k6 k7 k8 ka kb kl ko H.size c3 c9 cc cd ce cf cg ch ci cj ck cm cn 0) (cwV 1 hT (gV_in mw_1347 mw_1344 mw_1346 mw_p4_11 mw_12) rfl rfl rfl (by decide +kernel) ⟨Nat.le_of_ble_eq_true rfl, Nat.le_of_ble_eq_true rfl⟩) (kRecvX (q0 := 1) (ci := 11) hK hP hD hN hXS hS hA rfl rfl [1] rfl (by decide)) rfl rfl hl.1 rfl (lv_room (Nat.le_of_ble_eq_true rfl)) dX11_one_159 ⟨Nat.le_of_ble_eq_true rfl, Nat.le_of_ble_eq_true rfl⟩) hP hD hS hA [1] [0] rfl rfl (by decide) (by decide) ?_
            clear hP hD hS
            intro scf_56 H locs w_55 hP hD hS
            replace hP : va_P D vwCl [(k0, .inl (cI, 1201, .inl c0)), (k, .inr (11, [.ref k0, .ref k1, .ref k2, .int c3, .ref k4, .ref k5, .ref k6, .ref k7, .ref k8, .int c9, .ref ka, .ref kb, .int cc, .int cd, .int ce, .int scf_56, .int cg, .int ch, .int ci, .int cj, .int ck, .ref kl, .int cm, .int cn, .ref ko]))] H := hP
            replace hD : va_D A [(k0, .inl (cI, 1201, .inl c0)), (k, .inr (11, [.ref k0, .ref k1, .ref k2, .int c3, .ref k4, .ref k5, .ref k6, .ref k7, .ref k8, .int c9, .ref ka, .ref kb, .int cc, .int cd, .int ce, .int scf_56, .int cg, .int ch, .int ci, .int cj, .int ck, .ref kl, .int cm, .int cn, .ref ko]))] := hD
            have lo_scf_56 := k_lo scf_56
            have hi_scf_56 := k_hi scf_56
            rcases w_55 with ⟨h_57, h_58, h_59⟩ | h_60
            · (try simp only [zl_0] at h_57 h_58 h_59); exfalso; omega
            · try simp only [zl_0] at h_60
              have h_60 : scf_56.toInt = 1 := h_60
              refine lv_aload_n hx hb dX11_one_162 rfl (lv_at hl 2 rfl) ?_
              refine va_get (D := D) (ci := 11) (v := .int scf_56) (C := RX11) (T := TX11) (N := 25) hx hb hT giX11 hown hK hP 1 rfl rfl 15 (by decide) (hT (Cond.fieldLink RX11 148 "DesertWireModel" "isWrong" "Z") mw_1171) (fun _ h9 => h9) rfl dX11_one_163 ?_
              refine b_if_eq hx hb rfl (tgt := 171) dX11_one_166 (by decide) (fun c_61 => by exfalso; omega) (fun c_61 => ?_)
              refine lv_iconst (v := 0) hx hb dX11_one_169 (by decide) ?_
              exact hRet (cd, scf_56, cg) [1, 0] ⟨(by first | omega | (simp only [zl_0] <;> omega) | decide | assumption | rfl | (dsimp only; first | omega | (simp only [zl_0] <;> omega))), (by first | omega | (simp only [zl_0] <;> omega) | decide | assumption | rfl | (dsimp only; first | omega | (simp only [zl_0] <;> omega))), (by first | omega | (simp only [zl_0] <;> omega) | decide | assumption | rfl | (dsimp only; first | omega | (simp only [zl_0] <;> omega)))⟩ hP hD (by decide) rfl hS rfl dX11_one_170
          · refine lv_aload_n hx hb dX11_one_89 rfl (lv_at hl 2 rfl) ?_
            refine lv_dup hx hb dX11_one_90 rfl ?_
            refine va_get (D := D) (ci := 11) (v := .int cd) (C := RX11) (T := TX11) (N := 25) hx hb hT giX11 hown hK hP 1 rfl rfl 13 (by decide) (hT (Cond.fieldLink RX11 138 "DesertWireModel" "here" "I") mw_1169) (fun _ h9 => h9) rfl dX11_one_91 ?_
            refine lv_iconst (v := 1) hx hb dX11_one_94 (by decide) ?_
            refine lv_iadd hx hb dX11_one_95 ?_
            refine lv_topi (fun v_62 ev_62 => ?_)
            have tv_62 : v_62.toInt = cd.toInt + 1 := by rw [ev_62]; exact k_addv rfl zl_1 (by omega) (by omega)
            refine va_put (D := D) (ci := 11) (v := .int v_62) (ty := .int) (C := RX11) (T := TX11) (N := 25) hx hb hT giX11 tyX11 tyX11_ok nmX11 hown hK hP hD hS 1 rfl rfl 13 (by decide) (hT (Cond.fieldLink RX11 138 "DesertWireModel" "here" "I") mw_1169) (fun _ h9 => h9) rfl (by decide +kernel) rfl rfl (Nat.le_of_ble_eq_true rfl) dX11_one_96 ?_
            clear hP hD hS
            intro H locs hP hD hS
            replace hP : va_P D vwCl [(k0, .inl (cI, 1201, .inl c0)), (k, .inr (11, [.ref k0, .ref k1, .ref k2, .int c3, .ref k4, .ref k5, .ref k6, .ref k7, .ref k8, .int c9, .ref ka, .ref kb, .int cc, .int v_62, .int ce, .int cf, .int cg, .int ch, .int ci, .int cj, .int ck, .ref kl, .int cm, .int cn, .ref ko]))] H := hP
            replace hD : va_D A [(k0, .inl (cI, 1201, .inl c0)), (k, .inr (11, [.ref k0, .ref k1, .ref k2, .int c3, .ref k4, .ref k5, .ref k6, .ref k7, .ref k8, .int c9, .ref ka, .ref kb, .int cc, .int v_62, .int ce, .int cf, .int cg, .int ch, .int ci, .int cj, .int ck, .ref kl, .int cm, .int cn, .ref ko]))] := hD
            refine lv_iload_n hx hb dX11_one_99 rfl (lv_at hl 0 rfl) ?_
            refine b_if_ne hx hb rfl (tgt := 110) dX11_one_100 (by decide) (fun c_63 => ?_) (fun c_63 => ?_)
            · refine lv_iload_n hx hb dX11_one_110 rfl (lv_at hl 0 rfl) ?_
              refine lv_iconst (v := 1) hx hb dX11_one_111 (by decide) ?_
              refine b_icmp_ne hx hb rfl zl_1 (tgt := 122) dX11_one_112 (by decide) (fun c_64 => ?_) (fun c_64 => ?_)
              · refine lv_aload_n hx hb dX11_one_122 rfl (lv_at hl 2 rfl) ?_
                refine va_get (D := D) (ci := 11) (v := .int ck) (C := RX11) (T := TX11) (N := 25) hx hb hT giX11 hown hK hP 1 rfl rfl 20 (by decide) (hT (Cond.fieldLink RX11 167 "DesertWireModel" "nameC" "I") mw_1176) (fun _ h9 => h9) rfl dX11_one_123 ?_
                exact hRet (v_62, cf, cg) [1, 0] ⟨(by first | omega | decide | assumption | rfl | (dsimp only; first | omega)), (by first | omega | decide | assumption | rfl | (dsimp only; first | omega)), (by first | omega | decide | assumption | rfl | (dsimp only; first | omega))⟩ hP hD (by decide) rfl hS rfl dX11_one_126
              · refine lv_aload_n hx hb dX11_one_115 rfl (lv_at hl 2 rfl) ?_
                refine va_get (D := D) (ci := 11) (v := .int cj) (C := RX11) (T := TX11) (N := 25) hx hb hT giX11 hown hK hP 1 rfl rfl 19 (by decide) (hT (Cond.fieldLink RX11 164 "DesertWireModel" "nameB" "I") mw_1175) (fun _ h9 => h9) rfl dX11_one_116 ?_
                refine lv_goto (tgt := 126) hx hb dX11_one_119 (by decide) ?_
                exact hRet (v_62, cf, cg) [1, 0] ⟨(by first | omega | decide | assumption | rfl | (dsimp only; first | omega)), (by first | omega | decide | assumption | rfl | (dsimp only; first | omega)), (by first | omega | decide | assumption | rfl | (dsimp only; first | omega))⟩ hP hD (by decide) rfl hS rfl dX11_one_126
            · refine lv_aload_n hx hb dX11_one_103 rfl (lv_at hl 2 rfl) ?_
              refine va_get (D := D) (ci := 11) (v := .int ci) (C := RX11) (T := TX11) (N := 25) hx hb hT giX11 hown hK hP 1 rfl rfl 18 (by decide) (hT (Cond.fieldLink RX11 161 "DesertWireModel" "nameA" "I") mw_1174) (fun _ h9 => h9) rfl dX11_one_104 ?_
              refine lv_goto (tgt := 126) hx hb dX11_one_107 (by decide) ?_
              exact hRet (v_62, cf, cg) [1, 0] ⟨(by first | omega | decide | assumption | rfl | (dsimp only; first | omega)), (by first | omega | decide | assumption | rfl | (dsimp only; first | omega)), (by first | omega | decide | assumption | rfl | (dsimp only; first | omega))⟩ hP hD (by decide) rfl hS rfl dX11_one_126
        · obtain rfl : r_46 = (-1) := hr_46.trans (by decide)
          refine lv_istore_n (lv' := [(2, .int (-1)), (1, .int r_1), (0, .ref k)]) hx hb dX11_one_84 rfl hl (by decide) rfl ?_
          clear hl
          intro ls hl
          refine lv_iload_n hx hb dX11_one_85 rfl (lv_at hl 0 rfl) ?_
          refine b_if_lt hx hb zl_m1 (tgt := 127) dX11_one_86 (by decide) (fun c_65 => ?_) (fun c_65 => by exfalso; omega)
          refine lv_aload_n hx hb dX11_one_127 rfl (lv_at hl 2 rfl) ?_
          refine lv_iload_n hx hb dX11_one_128 rfl (lv_at hl 1 rfl) ?_
          refine lv_bipush (v := 45) hx hb dX11_one_129 (by decide) ?_
          refine b_icmp_eq hx hb rfl zl_45 (tgt := 146) dX11_one_131 (by decide) (fun c_66 => ?_) (fun c_66 => ?_)
          · refine lv_aload_n hx hb dX11_one_146 rfl (lv_at hl 2 rfl) ?_
            refine va_get (D := D) (ci := 11) (v := .int cg) (C := RX11) (T := TX11) (N := 25) hx hb hT giX11 hown hK hP 1 rfl rfl 16 (by decide) (hT (Cond.fieldLink RX11 170 "DesertWireModel" "open" "I") mw_1172) (fun _ h9 => h9) rfl dX11_one_147 ?_
            refine lv_iconst (v := 4) hx hb dX11_one_150 (by decide) ?_
            refine b_icmp_ge hx hb rfl zl_4 (tgt := 158) dX11_one_151 (by decide) (fun c_67 => by exfalso; omega) (fun c_67 => ?_)
            refine lv_iconst (v := 1) hx hb dX11_one_154 (by decide) ?_
            refine lv_goto (tgt := 159) hx hb dX11_one_155 (by decide) ?_
            refine kJv (wr := [(k0, .inl (cI, 1201, .inl c0))]) (va_runV (As := [.int 1]) (rest := []) ⟨hx, hb, hml, hown, hT⟩ (c_X11_needsG l D cI aK aV k k0 k1 k2 k4 k5 k6 k7 k8 ka kb kl ko H.size c3 c9 cc cd ce cf cg ch ci cj ck cm cn 1) (cwV 1 hT (gV_in mw_1347 mw_1344 mw_1346 mw_p4_11 mw_12) rfl rfl rfl (by decide +kernel) ⟨Nat.le_of_ble_eq_true rfl, Nat.le_of_ble_eq_true rfl⟩) (kRecvX (q0 := 1) (ci := 11) hK hP hD hN hXS hS hA rfl rfl [1] rfl (by decide)) rfl rfl hl.1 rfl (lv_room (Nat.le_of_ble_eq_true rfl)) dX11_one_159 ⟨Nat.le_of_ble_eq_true rfl, Nat.le_of_ble_eq_true rfl⟩) hP hD hS hA [1] [0] rfl rfl (by decide) (by decide) ?_
            clear hP hD hS
            intro scf_70 H locs w_69 hP hD hS
            replace hP : va_P D vwCl [(k0, .inl (cI, 1201, .inl c0)), (k, .inr (11, [.ref k0, .ref k1, .ref k2, .int c3, .ref k4, .ref k5, .ref k6, .ref k7, .ref k8, .int c9, .ref ka, .ref kb, .int cc, .int cd, .int ce, .int scf_70, .int cg, .int ch, .int ci, .int cj, .int ck, .ref kl, .int cm, .int cn, .ref ko]))] H := hP
            replace hD : va_D A [(k0, .inl (cI, 1201, .inl c0)), (k, .inr (11, [.ref k0, .ref k1, .ref k2, .int c3, .ref k4, .ref k5, .ref k6, .ref k7, .ref k8, .int c9, .ref ka, .ref kb, .int cc, .int cd, .int ce, .int scf_70, .int cg, .int ch, .int ci, .int cj, .int ck, .ref kl, .int cm, .int cn, .ref ko]))] := hD
            have lo_scf_70 := k_lo scf_70
            have hi_scf_70 := k_hi scf_70
            rcases w_69 with ⟨h_71, h_72, h_73⟩ | h_74
            · try simp only [zl_1] at h_71
              try simp only [zl_1] at h_72
              have h_72 : cf.toInt = 0 := h_72
              try simp only [zl_1] at h_73
              have h_73 : scf_70.toInt = 0 := h_73
              refine lv_aload_n hx hb dX11_one_162 rfl (lv_at hl 2 rfl) ?_
              refine va_get (D := D) (ci := 11) (v := .int scf_70) (C := RX11) (T := TX11) (N := 25) hx hb hT giX11 hown hK hP 1 rfl rfl 15 (by decide) (hT (Cond.fieldLink RX11 148 "DesertWireModel" "isWrong" "Z") mw_1171) (fun _ h9 => h9) rfl dX11_one_163 ?_
              refine b_if_eq hx hb rfl (tgt := 171) dX11_one_166 (by decide) (fun c_75 => ?_) (fun c_75 => by exfalso; omega)
              refine lv_aload_n hx hb dX11_one_171 rfl (lv_at hl 2 rfl) ?_
              refine lv_dup hx hb dX11_one_172 rfl ?_
              refine va_get (D := D) (ci := 11) (v := .int cd) (C := RX11) (T := TX11) (N := 25) hx hb hT giX11 hown hK hP 1 rfl rfl 13 (by decide) (hT (Cond.fieldLink RX11 138 "DesertWireModel" "here" "I") mw_1169) (fun _ h9 => h9) rfl dX11_one_173 ?_
              refine lv_iconst (v := 1) hx hb dX11_one_176 (by decide) ?_
              refine lv_iadd hx hb dX11_one_177 ?_
              refine lv_topi (fun v_76 ev_76 => ?_)
              have tv_76 : v_76.toInt = cd.toInt + 1 := by rw [ev_76]; exact k_addv rfl zl_1 (by omega) (by omega)
              refine va_put (D := D) (ci := 11) (v := .int v_76) (ty := .int) (C := RX11) (T := TX11) (N := 25) hx hb hT giX11 tyX11 tyX11_ok nmX11 hown hK hP hD hS 1 rfl rfl 13 (by decide) (hT (Cond.fieldLink RX11 138 "DesertWireModel" "here" "I") mw_1169) (fun _ h9 => h9) rfl (by decide +kernel) rfl rfl (Nat.le_of_ble_eq_true rfl) dX11_one_178 ?_
              clear hP hD hS
              intro H locs hP hD hS
              replace hP : va_P D vwCl [(k0, .inl (cI, 1201, .inl c0)), (k, .inr (11, [.ref k0, .ref k1, .ref k2, .int c3, .ref k4, .ref k5, .ref k6, .ref k7, .ref k8, .int c9, .ref ka, .ref kb, .int cc, .int v_76, .int ce, .int scf_70, .int cg, .int ch, .int ci, .int cj, .int ck, .ref kl, .int cm, .int cn, .ref ko]))] H := hP
              replace hD : va_D A [(k0, .inl (cI, 1201, .inl c0)), (k, .inr (11, [.ref k0, .ref k1, .ref k2, .int c3, .ref k4, .ref k5, .ref k6, .ref k7, .ref k8, .int c9, .ref ka, .ref kb, .int cc, .int v_76, .int ce, .int scf_70, .int cg, .int ch, .int ci, .int cj, .int ck, .ref kl, .int cm, .int cn, .ref ko]))] := hD
              refine lv_aload_n hx hb dX11_one_181 rfl (lv_at hl 2 rfl) ?_
              refine lv_dup hx hb dX11_one_182 rfl ?_
              refine va_get (D := D) (ci := 11) (v := .int cg) (C := RX11) (T := TX11) (N := 25) hx hb hT giX11 hown hK hP 1 rfl rfl 16 (by decide) (hT (Cond.fieldLink RX11 170 "DesertWireModel" "open" "I") mw_1172) (fun _ h9 => h9) rfl dX11_one_183 ?_
              refine lv_iconst (v := 1) hx hb dX11_one_186 (by decide) ?_
              refine lv_iadd hx hb dX11_one_187 ?_
              refine lv_topi (fun v_77 ev_77 => ?_)
              have tv_77 : v_77.toInt = cg.toInt + 1 := by rw [ev_77]; exact k_addv rfl zl_1 (by omega) (by omega)
              refine va_put (D := D) (ci := 11) (v := .int v_77) (ty := .int) (C := RX11) (T := TX11) (N := 25) hx hb hT giX11 tyX11 tyX11_ok nmX11 hown hK hP hD hS 1 rfl rfl 16 (by decide) (hT (Cond.fieldLink RX11 170 "DesertWireModel" "open" "I") mw_1172) (fun _ h9 => h9) rfl (by decide +kernel) rfl rfl (Nat.le_of_ble_eq_true rfl) dX11_one_188 ?_
              clear hP hD hS
              intro H locs hP hD hS
              replace hP : va_P D vwCl [(k0, .inl (cI, 1201, .inl c0)), (k, .inr (11, [.ref k0, .ref k1, .ref k2, .int c3, .ref k4, .ref k5, .ref k6, .ref k7, .ref k8, .int c9, .ref ka, .ref kb, .int cc, .int v_76, .int ce, .int scf_70, .int v_77, .int ch, .int ci, .int cj, .int ck, .ref kl, .int cm, .int cn, .ref ko]))] H := hP
              replace hD : va_D A [(k0, .inl (cI, 1201, .inl c0)), (k, .inr (11, [.ref k0, .ref k1, .ref k2, .int c3, .ref k4, .ref k5, .ref k6, .ref k7, .ref k8, .int c9, .ref ka, .ref kb, .int cc, .int v_76, .int ce, .int scf_70, .int v_77, .int ch, .int ci, .int cj, .int ck, .ref kl, .int cm, .int cn, .ref ko]))] := hD
              refine lv_iload_n hx hb dX11_one_191 rfl (lv_at hl 1 rfl) ?_
              refine lv_bipush (v := 40) hx hb dX11_one_192 (by decide) ?_
              refine b_icmp_ne hx hb rfl zl_40 (tgt := 204) dX11_one_194 (by decide) (fun c_78 => ?_) (fun c_78 => by exfalso; omega)
              refine lv_aload_n hx hb dX11_one_204 rfl (lv_at hl 2 rfl) ?_
              refine kJi (wr := []) (va_runV (As := []) (rest := []) ⟨hx, hb, hml, hown, hT⟩ (c_X11_oneG4 l D cI aK aV k k0 k1 k2 k4 k5 k6 k7 k8 ka kb kl ko H.size c3 c9 cc v_76 ce scf_70 v_77 ch ci cj ck cm cn c0 (by first | omega | decide | assumption | rfl) (by first | omega | decide | assumption | rfl) (by first | omega | decide | assumption | rfl) (by first | omega | decide | assumption | rfl) (by first | omega | decide | assumption | rfl) (by first | omega | decide | assumption | rfl)) (cwV 0 hT (gV_in mw_1335 mw_1332 mw_1334 mw_p4_8 mw_12) rfl rfl rfl (by decide +kernel) ⟨Nat.le_of_ble_eq_true rfl, Nat.le_of_ble_eq_true rfl⟩) (kRecvX (q0 := 1) (ci := 11) hK hP hD hN hXS hS hA rfl rfl [1, 0] rfl (by decide)) rfl rfl hl.1 rfl (lv_room (Nat.le_of_ble_eq_true rfl)) dX11_one_205 ⟨Nat.le_of_ble_eq_true rfl, Nat.le_of_ble_eq_true rfl⟩) hP hD hS hA [1, 0] [] rfl rfl (by decide) (by decide) ?_
              clear hP hD hS
              intro r_79 u_83 H locs w_80 hP hD hS
              obtain ⟨scd_81, scf_82⟩ := u_83
              replace hP : va_P D vwCl [(k, .inr (11, [.ref k0, .ref k1, .ref k2, .int c3, .ref k4, .ref k5, .ref k6, .ref k7, .ref k8, .int c9, .ref ka, .ref kb, .int cc, .int scd_81, .int ce, .int scf_82, .int v_77, .int ch, .int ci, .int cj, .int ck, .ref kl, .int cm, .int cn, .ref ko])), (k0, .inl (cI, 1201, .inl c0))] H := hP
              replace hD : va_D A [(k, .inr (11, [.ref k0, .ref k1, .ref k2, .int c3, .ref k4, .ref k5, .ref k6, .ref k7, .ref k8, .int c9, .ref ka, .ref kb, .int cc, .int scd_81, .int ce, .int scf_82, .int v_77, .int ch, .int ci, .int cj, .int ck, .ref kl, .int cm, .int cn, .ref ko])), (k0, .inl (cI, 1201, .inl c0))] := hD
              have lo_scd_81 := k_lo scd_81
              have hi_scd_81 := k_hi scd_81
              have lo_scf_82 := k_lo scf_82
              have hi_scf_82 := k_hi scf_82
              obtain ⟨h_84, h_85⟩ := w_80
              have h_84 : v_76.toInt ≤ scd_81.toInt := h_84
              have h_85 : scd_81.toInt ≤ ce.toInt := h_85
              have lo_r_79 := k_lo r_79
              have hi_r_79 := k_hi r_79
              refine lv_istore_n (lv' := [(3, .int r_79), (2, .int (-1)), (1, .int r_1), (0, .ref k)]) hx hb dX11_one_208 rfl hl (by decide) rfl ?_
              clear hl
              intro ls hl
              refine lv_aload_n hx hb dX11_one_209 rfl (lv_at hl 3 rfl) ?_
              refine lv_iload_n hx hb dX11_one_210 rfl (lv_at hl 2 rfl) ?_
              refine lv_bipush (v := 40) hx hb dX11_one_211 (by decide) ?_
              refine b_icmp_ne hx hb rfl zl_40 (tgt := 225) dX11_one_213 (by decide) (fun c_86 => ?_) (fun c_86 => by exfalso; omega)
              refine lv_iconst (v := 1) hx hb dX11_one_225 (by decide) ?_
              refine lv_goto (tgt := 230) hx hb dX11_one_226 (by decide) ?_
              refine kJv (wr := [(k0, .inl (cI, 1201, .inl c0))]) (va_runV (As := [.int 1]) (rest := []) ⟨hx, hb, hml, hown, hT⟩ (c_X11_needsG l D cI aK aV k k0 k1 k2 k4 k5 k6 k7 k8 ka kb kl ko H.size c3 c9 cc scd_81 ce scf_82 v_77 ch ci cj ck cm cn 1) (cwV 1 hT (gV_in mw_1347 mw_1344 mw_1346 mw_p4_11 mw_12) rfl rfl rfl (by decide +kernel) ⟨Nat.le_of_ble_eq_true rfl, Nat.le_of_ble_eq_true rfl⟩) (kRecvX (q0 := 0) (ci := 11) hK hP hD hN hXS hS hA rfl rfl [0] rfl (by decide)) rfl rfl hl.1 rfl (lv_room (Nat.le_of_ble_eq_true rfl)) dX11_one_230 ⟨Nat.le_of_ble_eq_true rfl, Nat.le_of_ble_eq_true rfl⟩) hP hD hS hA [0] [1] rfl rfl (by decide) (by decide) ?_
              clear hP hD hS
              intro scf_89 H locs w_88 hP hD hS
              replace hP : va_P D vwCl [(k0, .inl (cI, 1201, .inl c0)), (k, .inr (11, [.ref k0, .ref k1, .ref k2, .int c3, .ref k4, .ref k5, .ref k6, .ref k7, .ref k8, .int c9, .ref ka, .ref kb, .int cc, .int scd_81, .int ce, .int scf_89, .int v_77, .int ch, .int ci, .int cj, .int ck, .ref kl, .int cm, .int cn, .ref ko]))] H := hP
              replace hD : va_D A [(k0, .inl (cI, 1201, .inl c0)), (k, .inr (11, [.ref k0, .ref k1, .ref k2, .int c3, .ref k4, .ref k5, .ref k6, .ref k7, .ref k8, .int c9, .ref ka, .ref kb, .int cc, .int scd_81, .int ce, .int scf_89, .int v_77, .int ch, .int ci, .int cj, .int ck, .ref kl, .int cm, .int cn, .ref ko]))] := hD
              have lo_scf_89 := k_lo scf_89
              have hi_scf_89 := k_hi scf_89
              rcases w_88 with ⟨h_90, h_91, h_92⟩ | h_93
              · try simp only [zl_1] at h_90
                try simp only [zl_1] at h_91
                have h_91 : scf_82.toInt = 0 := h_91
                try simp only [zl_1] at h_92
                have h_92 : scf_89.toInt = 0 := h_92
                refine lv_aload_n hx hb dX11_one_233 rfl (lv_at hl 3 rfl) ?_
                refine lv_dup hx hb dX11_one_234 rfl ?_
                refine va_get (D := D) (ci := 11) (v := .int v_77) (C := RX11) (T := TX11) (N := 25) hx hb hT giX11 hown hK hP 1 rfl rfl 16 (by decide) (hT (Cond.fieldLink RX11 170 "DesertWireModel" "open" "I") mw_1172) (fun _ h9 => h9) rfl dX11_one_235 ?_
                refine lv_iconst (v := 1) hx hb dX11_one_238 (by decide) ?_
                refine lv_isub hx hb dX11_one_239 ?_
                refine lv_topi (fun v_94 ev_94 => ?_)
                have tv_94 : v_94.toInt = v_77.toInt - 1 := by rw [ev_94]; exact k_subv rfl zl_1 (by omega) (by omega)
                refine va_put (D := D) (ci := 11) (v := .int v_94) (ty := .int) (C := RX11) (T := TX11) (N := 25) hx hb hT giX11 tyX11 tyX11_ok nmX11 hown hK hP hD hS 1 rfl rfl 16 (by decide) (hT (Cond.fieldLink RX11 170 "DesertWireModel" "open" "I") mw_1172) (fun _ h9 => h9) rfl (by decide +kernel) rfl rfl (Nat.le_of_ble_eq_true rfl) dX11_one_240 ?_
                clear hP hD hS
                intro H locs hP hD hS
                replace hP : va_P D vwCl [(k0, .inl (cI, 1201, .inl c0)), (k, .inr (11, [.ref k0, .ref k1, .ref k2, .int c3, .ref k4, .ref k5, .ref k6, .ref k7, .ref k8, .int c9, .ref ka, .ref kb, .int cc, .int scd_81, .int ce, .int scf_89, .int v_94, .int ch, .int ci, .int cj, .int ck, .ref kl, .int cm, .int cn, .ref ko]))] H := hP
                replace hD : va_D A [(k0, .inl (cI, 1201, .inl c0)), (k, .inr (11, [.ref k0, .ref k1, .ref k2, .int c3, .ref k4, .ref k5, .ref k6, .ref k7, .ref k8, .int c9, .ref ka, .ref kb, .int cc, .int scd_81, .int ce, .int scf_89, .int v_94, .int ch, .int ci, .int cj, .int ck, .ref kl, .int cm, .int cn, .ref ko]))] := hD
                refine lv_iload_n hx hb dX11_one_243 rfl (lv_at hl 2 rfl) ?_
                refine lv_bipush (v := 45) hx hb dX11_one_244 (by decide) ?_
                refine b_icmp_ne hx hb rfl zl_45 (tgt := 254) dX11_one_246 (by decide) (fun c_95 => by exfalso; omega) (fun c_95 => ?_)
                refine lv_iload_n hx hb dX11_one_249 rfl (lv_at hl 0 rfl) ?_
                refine lv_ineg hx hb dX11_one_250 ?_
                refine lv_topi (fun v_96 ev_96 => ?_)
                have lo_v_96 := k_lo v_96
                have hi_v_96 := k_hi v_96
                refine lv_goto (tgt := 273) hx hb dX11_one_251 (by decide) ?_
                exact hRet (scd_81, scf_89, v_94) [1, 0] ⟨(by first | omega | decide | assumption | rfl | (dsimp only; first | omega)), (by first | omega | decide | assumption | rfl | (dsimp only; first | omega)), (by first | omega | decide | assumption | rfl | (dsimp only; first | omega))⟩ hP hD (by decide) rfl hS rfl dX11_one_273
              · try simp only [zl_1] at h_93
                have h_93 : scf_89.toInt = 1 := h_93
                refine lv_aload_n hx hb dX11_one_233 rfl (lv_at hl 3 rfl) ?_
                refine lv_dup hx hb dX11_one_234 rfl ?_
                refine va_get (D := D) (ci := 11) (v := .int v_77) (C := RX11) (T := TX11) (N := 25) hx hb hT giX11 hown hK hP 1 rfl rfl 16 (by decide) (hT (Cond.fieldLink RX11 170 "DesertWireModel" "open" "I") mw_1172) (fun _ h9 => h9) rfl dX11_one_235 ?_
                refine lv_iconst (v := 1) hx hb dX11_one_238 (by decide) ?_
                refine lv_isub hx hb dX11_one_239 ?_
                refine lv_topi (fun v_97 ev_97 => ?_)
                have tv_97 : v_97.toInt = v_77.toInt - 1 := by rw [ev_97]; exact k_subv rfl zl_1 (by omega) (by omega)
                refine va_put (D := D) (ci := 11) (v := .int v_97) (ty := .int) (C := RX11) (T := TX11) (N := 25) hx hb hT giX11 tyX11 tyX11_ok nmX11 hown hK hP hD hS 1 rfl rfl 16 (by decide) (hT (Cond.fieldLink RX11 170 "DesertWireModel" "open" "I") mw_1172) (fun _ h9 => h9) rfl (by decide +kernel) rfl rfl (Nat.le_of_ble_eq_true rfl) dX11_one_240 ?_
                clear hP hD hS
                intro H locs hP hD hS
                replace hP : va_P D vwCl [(k0, .inl (cI, 1201, .inl c0)), (k, .inr (11, [.ref k0, .ref k1, .ref k2, .int c3, .ref k4, .ref k5, .ref k6, .ref k7, .ref k8, .int c9, .ref ka, .ref kb, .int cc, .int scd_81, .int ce, .int scf_89, .int v_97, .int ch, .int ci, .int cj, .int ck, .ref kl, .int cm, .int cn, .ref ko]))] H := hP
                replace hD : va_D A [(k0, .inl (cI, 1201, .inl c0)), (k, .inr (11, [.ref k0, .ref k1, .ref k2, .int c3, .ref k4, .ref k5, .ref k6, .ref k7, .ref k8, .int c9, .ref ka, .ref kb, .int cc, .int scd_81, .int ce, .int scf_89, .int v_97, .int ch, .int ci, .int cj, .int ck, .ref kl, .int cm, .int cn, .ref ko]))] := hD
                refine lv_iload_n hx hb dX11_one_243 rfl (lv_at hl 2 rfl) ?_
                refine lv_bipush (v := 45) hx hb dX11_one_244 (by decide) ?_
                refine b_icmp_ne hx hb rfl zl_45 (tgt := 254) dX11_one_246 (by decide) (fun c_98 => by exfalso; omega) (fun c_98 => ?_)
                refine lv_iload_n hx hb dX11_one_249 rfl (lv_at hl 0 rfl) ?_
                refine lv_ineg hx hb dX11_one_250 ?_
                refine lv_topi (fun v_99 ev_99 => ?_)
                have lo_v_99 := k_lo v_99
                have hi_v_99 := k_hi v_99
                refine lv_goto (tgt := 273) hx hb dX11_one_251 (by decide) ?_
                exact hRet (scd_81, scf_89, v_97) [1, 0] ⟨(by first | omega | decide | assumption | rfl | (dsimp only; first | omega)), (by first | omega | decide | assumption | rfl | (dsimp only; first | omega)), (by first | omega | decide | assumption | rfl | (dsimp only; first | omega))⟩ hP hD (by decide) rfl hS rfl dX11_one_273
            · try simp only [zl_1] at h_74
              have h_74 : scf_70.toInt = 1 := h_74
              refine lv_aload_n hx hb dX11_one_162 rfl (lv_at hl 2 rfl) ?_
              refine va_get (D := D) (ci := 11) (v := .int scf_70) (C := RX11) (T := TX11) (N := 25) hx hb hT giX11 hown hK hP 1 rfl rfl 15 (by decide) (hT (Cond.fieldLink RX11 148 "DesertWireModel" "isWrong" "Z") mw_1171) (fun _ h9 => h9) rfl dX11_one_163 ?_
              refine b_if_eq hx hb rfl (tgt := 171) dX11_one_166 (by decide) (fun c_100 => by exfalso; omega) (fun c_100 => ?_)
              refine lv_iconst (v := 0) hx hb dX11_one_169 (by decide) ?_
              exact hRet (cd, scf_70, cg) [1, 0] ⟨(by first | omega | (simp only [zl_0] <;> omega) | decide | assumption | rfl | (dsimp only; first | omega | (simp only [zl_0] <;> omega))), (by first | omega | (simp only [zl_0] <;> omega) | decide | assumption | rfl | (dsimp only; first | omega | (simp only [zl_0] <;> omega))), (by first | omega | (simp only [zl_0] <;> omega) | decide | assumption | rfl | (dsimp only; first | omega | (simp only [zl_0] <;> omega)))⟩ hP hD (by decide) rfl hS rfl dX11_one_170
          · refine lv_iload_n hx hb dX11_one_134 rfl (lv_at hl 1 rfl) ?_
            refine lv_bipush (v := 33) hx hb dX11_one_135 (by decide) ?_
            refine b_icmp_eq hx hb rfl zl_33 (tgt := 146) dX11_one_137 (by decide) (fun c_101 => ?_) (fun c_101 => ?_)
            · refine lv_aload_n hx hb dX11_one_146 rfl (lv_at hl 2 rfl) ?_
              refine va_get (D := D) (ci := 11) (v := .int cg) (C := RX11) (T := TX11) (N := 25) hx hb hT giX11 hown hK hP 1 rfl rfl 16 (by decide) (hT (Cond.fieldLink RX11 170 "DesertWireModel" "open" "I") mw_1172) (fun _ h9 => h9) rfl dX11_one_147 ?_
              refine lv_iconst (v := 4) hx hb dX11_one_150 (by decide) ?_
              refine b_icmp_ge hx hb rfl zl_4 (tgt := 158) dX11_one_151 (by decide) (fun c_102 => by exfalso; omega) (fun c_102 => ?_)
              refine lv_iconst (v := 1) hx hb dX11_one_154 (by decide) ?_
              refine lv_goto (tgt := 159) hx hb dX11_one_155 (by decide) ?_
              refine kJv (wr := [(k0, .inl (cI, 1201, .inl c0))]) (va_runV (As := [.int 1]) (rest := []) ⟨hx, hb, hml, hown, hT⟩ (c_X11_needsG l D cI aK aV k k0 k1 k2 k4 k5 k6 k7 k8 ka kb kl ko H.size c3 c9 cc cd ce cf cg ch ci cj ck cm cn 1) (cwV 1 hT (gV_in mw_1347 mw_1344 mw_1346 mw_p4_11 mw_12) rfl rfl rfl (by decide +kernel) ⟨Nat.le_of_ble_eq_true rfl, Nat.le_of_ble_eq_true rfl⟩) (kRecvX (q0 := 1) (ci := 11) hK hP hD hN hXS hS hA rfl rfl [1] rfl (by decide)) rfl rfl hl.1 rfl (lv_room (Nat.le_of_ble_eq_true rfl)) dX11_one_159 ⟨Nat.le_of_ble_eq_true rfl, Nat.le_of_ble_eq_true rfl⟩) hP hD hS hA [1] [0] rfl rfl (by decide) (by decide) ?_
              clear hP hD hS
              intro scf_105 H locs w_104 hP hD hS
              replace hP : va_P D vwCl [(k0, .inl (cI, 1201, .inl c0)), (k, .inr (11, [.ref k0, .ref k1, .ref k2, .int c3, .ref k4, .ref k5, .ref k6, .ref k7, .ref k8, .int c9, .ref ka, .ref kb, .int cc, .int cd, .int ce, .int scf_105, .int cg, .int ch, .int ci, .int cj, .int ck, .ref kl, .int cm, .int cn, .ref ko]))] H := hP
              replace hD : va_D A [(k0, .inl (cI, 1201, .inl c0)), (k, .inr (11, [.ref k0, .ref k1, .ref k2, .int c3, .ref k4, .ref k5, .ref k6, .ref k7, .ref k8, .int c9, .ref ka, .ref kb, .int cc, .int cd, .int ce, .int scf_105, .int cg, .int ch, .int ci, .int cj, .int ck, .ref kl, .int cm, .int cn, .ref ko]))] := hD
              have lo_scf_105 := k_lo scf_105
              have hi_scf_105 := k_hi scf_105
              rcases w_104 with ⟨h_106, h_107, h_108⟩ | h_109
              · try simp only [zl_1] at h_106
                try simp only [zl_1] at h_107
                have h_107 : cf.toInt = 0 := h_107
                try simp only [zl_1] at h_108
                have h_108 : scf_105.toInt = 0 := h_108
                refine lv_aload_n hx hb dX11_one_162 rfl (lv_at hl 2 rfl) ?_
                refine va_get (D := D) (ci := 11) (v := .int scf_105) (C := RX11) (T := TX11) (N := 25) hx hb hT giX11 hown hK hP 1 rfl rfl 15 (by decide) (hT (Cond.fieldLink RX11 148 "DesertWireModel" "isWrong" "Z") mw_1171) (fun _ h9 => h9) rfl dX11_one_163 ?_
                refine b_if_eq hx hb rfl (tgt := 171) dX11_one_166 (by decide) (fun c_110 => ?_) (fun c_110 => by exfalso; omega)
                refine lv_aload_n hx hb dX11_one_171 rfl (lv_at hl 2 rfl) ?_
                refine lv_dup hx hb dX11_one_172 rfl ?_
                refine va_get (D := D) (ci := 11) (v := .int cd) (C := RX11) (T := TX11) (N := 25) hx hb hT giX11 hown hK hP 1 rfl rfl 13 (by decide) (hT (Cond.fieldLink RX11 138 "DesertWireModel" "here" "I") mw_1169) (fun _ h9 => h9) rfl dX11_one_173 ?_
                refine lv_iconst (v := 1) hx hb dX11_one_176 (by decide) ?_
                refine lv_iadd hx hb dX11_one_177 ?_
                refine lv_topi (fun v_111 ev_111 => ?_)
                have tv_111 : v_111.toInt = cd.toInt + 1 := by rw [ev_111]; exact k_addv rfl zl_1 (by omega) (by omega)
                refine va_put (D := D) (ci := 11) (v := .int v_111) (ty := .int) (C := RX11) (T := TX11) (N := 25) hx hb hT giX11 tyX11 tyX11_ok nmX11 hown hK hP hD hS 1 rfl rfl 13 (by decide) (hT (Cond.fieldLink RX11 138 "DesertWireModel" "here" "I") mw_1169) (fun _ h9 => h9) rfl (by decide +kernel) rfl rfl (Nat.le_of_ble_eq_true rfl) dX11_one_178 ?_
                clear hP hD hS
                intro H locs hP hD hS
                replace hP : va_P D vwCl [(k0, .inl (cI, 1201, .inl c0)), (k, .inr (11, [.ref k0, .ref k1, .ref k2, .int c3, .ref k4, .ref k5, .ref k6, .ref k7, .ref k8, .int c9, .ref ka, .ref kb, .int cc, .int v_111, .int ce, .int scf_105, .int cg, .int ch, .int ci, .int cj, .int ck, .ref kl, .int cm, .int cn, .ref ko]))] H := hP
                replace hD : va_D A [(k0, .inl (cI, 1201, .inl c0)), (k, .inr (11, [.ref k0, .ref k1, .ref k2, .int c3, .ref k4, .ref k5, .ref k6, .ref k7, .ref k8, .int c9, .ref ka, .ref kb, .int cc, .int v_111, .int ce, .int scf_105, .int cg, .int ch, .int ci, .int cj, .int ck, .ref kl, .int cm, .int cn, .ref ko]))] := hD
                refine lv_aload_n hx hb dX11_one_181 rfl (lv_at hl 2 rfl) ?_
                refine lv_dup hx hb dX11_one_182 rfl ?_
                refine va_get (D := D) (ci := 11) (v := .int cg) (C := RX11) (T := TX11) (N := 25) hx hb hT giX11 hown hK hP 1 rfl rfl 16 (by decide) (hT (Cond.fieldLink RX11 170 "DesertWireModel" "open" "I") mw_1172) (fun _ h9 => h9) rfl dX11_one_183 ?_
                refine lv_iconst (v := 1) hx hb dX11_one_186 (by decide) ?_
                refine lv_iadd hx hb dX11_one_187 ?_
                refine lv_topi (fun v_112 ev_112 => ?_)
                have tv_112 : v_112.toInt = cg.toInt + 1 := by rw [ev_112]; exact k_addv rfl zl_1 (by omega) (by omega)
                refine va_put (D := D) (ci := 11) (v := .int v_112) (ty := .int) (C := RX11) (T := TX11) (N := 25) hx hb hT giX11 tyX11 tyX11_ok nmX11 hown hK hP hD hS 1 rfl rfl 16 (by decide) (hT (Cond.fieldLink RX11 170 "DesertWireModel" "open" "I") mw_1172) (fun _ h9 => h9) rfl (by decide +kernel) rfl rfl (Nat.le_of_ble_eq_true rfl) dX11_one_188 ?_
                clear hP hD hS
                intro H locs hP hD hS
                replace hP : va_P D vwCl [(k0, .inl (cI, 1201, .inl c0)), (k, .inr (11, [.ref k0, .ref k1, .ref k2, .int c3, .ref k4, .ref k5, .ref k6, .ref k7, .ref k8, .int c9, .ref ka, .ref kb, .int cc, .int v_111, .int ce, .int scf_105, .int v_112, .int ch, .int ci, .int cj, .int ck, .ref kl, .int cm, .int cn, .ref ko]))] H := hP
                replace hD : va_D A [(k0, .inl (cI, 1201, .inl c0)), (k, .inr (11, [.ref k0, .ref k1, .ref k2, .int c3, .ref k4, .ref k5, .ref k6, .ref k7, .ref k8, .int c9, .ref ka, .ref kb, .int cc, .int v_111, .int ce, .int scf_105, .int v_112, .int ch, .int ci, .int cj, .int ck, .ref kl, .int cm, .int cn, .ref ko]))] := hD
                refine lv_iload_n hx hb dX11_one_191 rfl (lv_at hl 1 rfl) ?_
                refine lv_bipush (v := 40) hx hb dX11_one_192 (by decide) ?_
                refine b_icmp_ne hx hb rfl zl_40 (tgt := 204) dX11_one_194 (by decide) (fun c_113 => ?_) (fun c_113 => by exfalso; omega)
                refine lv_aload_n hx hb dX11_one_204 rfl (lv_at hl 2 rfl) ?_
                refine kJi (wr := []) (va_runV (As := []) (rest := []) ⟨hx, hb, hml, hown, hT⟩ (c_X11_oneG4 l D cI aK aV k k0 k1 k2 k4 k5 k6 k7 k8 ka kb kl ko H.size c3 c9 cc v_111 ce scf_105 v_112 ch ci cj ck cm cn c0 (by first | omega | decide | assumption | rfl) (by first | omega | decide | assumption | rfl) (by first | omega | decide | assumption | rfl) (by first | omega | decide | assumption | rfl) (by first | omega | decide | assumption | rfl) (by first | omega | decide | assumption | rfl)) (cwV 0 hT (gV_in mw_1335 mw_1332 mw_1334 mw_p4_8 mw_12) rfl rfl rfl (by decide +kernel) ⟨Nat.le_of_ble_eq_true rfl, Nat.le_of_ble_eq_true rfl⟩) (kRecvX (q0 := 1) (ci := 11) hK hP hD hN hXS hS hA rfl rfl [1, 0] rfl (by decide)) rfl rfl hl.1 rfl (lv_room (Nat.le_of_ble_eq_true rfl)) dX11_one_205 ⟨Nat.le_of_ble_eq_true rfl, Nat.le_of_ble_eq_true rfl⟩) hP hD hS hA [1, 0] [] rfl rfl (by decide) (by decide) ?_
                clear hP hD hS
                intro r_114 u_118 H locs w_115 hP hD hS
                obtain ⟨scd_116, scf_117⟩ := u_118
                replace hP : va_P D vwCl [(k, .inr (11, [.ref k0, .ref k1, .ref k2, .int c3, .ref k4, .ref k5, .ref k6, .ref k7, .ref k8, .int c9, .ref ka, .ref kb, .int cc, .int scd_116, .int ce, .int scf_117, .int v_112, .int ch, .int ci, .int cj, .int ck, .ref kl, .int cm, .int cn, .ref ko])), (k0, .inl (cI, 1201, .inl c0))] H := hP
                replace hD : va_D A [(k, .inr (11, [.ref k0, .ref k1, .ref k2, .int c3, .ref k4, .ref k5, .ref k6, .ref k7, .ref k8, .int c9, .ref ka, .ref kb, .int cc, .int scd_116, .int ce, .int scf_117, .int v_112, .int ch, .int ci, .int cj, .int ck, .ref kl, .int cm, .int cn, .ref ko])), (k0, .inl (cI, 1201, .inl c0))] := hD
                have lo_scd_116 := k_lo scd_116
                have hi_scd_116 := k_hi scd_116
                have lo_scf_117 := k_lo scf_117
                have hi_scf_117 := k_hi scf_117
                obtain ⟨h_119, h_120⟩ := w_115
                have h_119 : v_111.toInt ≤ scd_116.toInt := h_119
                have h_120 : scd_116.toInt ≤ ce.toInt := h_120
                have lo_r_114 := k_lo r_114
                have hi_r_114 := k_hi r_114
                refine lv_istore_n (lv' := [(3, .int r_114), (2, .int (-1)), (1, .int r_1), (0, .ref k)]) hx hb dX11_one_208 rfl hl (by decide) rfl ?_
                clear hl
                intro ls hl
                refine lv_aload_n hx hb dX11_one_209 rfl (lv_at hl 3 rfl) ?_
                refine lv_iload_n hx hb dX11_one_210 rfl (lv_at hl 2 rfl) ?_
                refine lv_bipush (v := 40) hx hb dX11_one_211 (by decide) ?_
                refine b_icmp_ne hx hb rfl zl_40 (tgt := 225) dX11_one_213 (by decide) (fun c_121 => ?_) (fun c_121 => by exfalso; omega)
                refine lv_iconst (v := 1) hx hb dX11_one_225 (by decide) ?_
                refine lv_goto (tgt := 230) hx hb dX11_one_226 (by decide) ?_
                refine kJv (wr := [(k0, .inl (cI, 1201, .inl c0))]) (va_runV (As := [.int 1]) (rest := []) ⟨hx, hb, hml, hown, hT⟩ (c_X11_needsG l D cI aK aV k k0 k1 k2 k4 k5 k6 k7 k8 ka kb kl ko H.size c3 c9 cc scd_116 ce scf_117 v_112 ch ci cj ck cm cn 1) (cwV 1 hT (gV_in mw_1347 mw_1344 mw_1346 mw_p4_11 mw_12) rfl rfl rfl (by decide +kernel) ⟨Nat.le_of_ble_eq_true rfl, Nat.le_of_ble_eq_true rfl⟩) (kRecvX (q0 := 0) (ci := 11) hK hP hD hN hXS hS hA rfl rfl [0] rfl (by decide)) rfl rfl hl.1 rfl (lv_room (Nat.le_of_ble_eq_true rfl)) dX11_one_230 ⟨Nat.le_of_ble_eq_true rfl, Nat.le_of_ble_eq_true rfl⟩) hP hD hS hA [0] [1] rfl rfl (by decide) (by decide) ?_
                clear hP hD hS
                intro scf_124 H locs w_123 hP hD hS
                replace hP : va_P D vwCl [(k0, .inl (cI, 1201, .inl c0)), (k, .inr (11, [.ref k0, .ref k1, .ref k2, .int c3, .ref k4, .ref k5, .ref k6, .ref k7, .ref k8, .int c9, .ref ka, .ref kb, .int cc, .int scd_116, .int ce, .int scf_124, .int v_112, .int ch, .int ci, .int cj, .int ck, .ref kl, .int cm, .int cn, .ref ko]))] H := hP
                replace hD : va_D A [(k0, .inl (cI, 1201, .inl c0)), (k, .inr (11, [.ref k0, .ref k1, .ref k2, .int c3, .ref k4, .ref k5, .ref k6, .ref k7, .ref k8, .int c9, .ref ka, .ref kb, .int cc, .int scd_116, .int ce, .int scf_124, .int v_112, .int ch, .int ci, .int cj, .int ck, .ref kl, .int cm, .int cn, .ref ko]))] := hD
                have lo_scf_124 := k_lo scf_124
                have hi_scf_124 := k_hi scf_124
                rcases w_123 with ⟨h_125, h_126, h_127⟩ | h_128
                · try simp only [zl_1] at h_125
                  try simp only [zl_1] at h_126
                  have h_126 : scf_117.toInt = 0 := h_126
                  try simp only [zl_1] at h_127
                  have h_127 : scf_124.toInt = 0 := h_127
                  refine lv_aload_n hx hb dX11_one_233 rfl (lv_at hl 3 rfl) ?_
                  refine lv_dup hx hb dX11_one_234 rfl ?_
                  refine va_get (D := D) (ci := 11) (v := .int v_112) (C := RX11) (T := TX11) (N := 25) hx hb hT giX11 hown hK hP 1 rfl rfl 16 (by decide) (hT (Cond.fieldLink RX11 170 "DesertWireModel" "open" "I") mw_1172) (fun _ h9 => h9) rfl dX11_one_235 ?_
                  refine lv_iconst (v := 1) hx hb dX11_one_238 (by decide) ?_
                  refine lv_isub hx hb dX11_one_239 ?_
                  refine lv_topi (fun v_129 ev_129 => ?_)
                  have tv_129 : v_129.toInt = v_112.toInt - 1 := by rw [ev_129]; exact k_subv rfl zl_1 (by omega) (by omega)
                  refine va_put (D := D) (ci := 11) (v := .int v_129) (ty := .int) (C := RX11) (T := TX11) (N := 25) hx hb hT giX11 tyX11 tyX11_ok nmX11 hown hK hP hD hS 1 rfl rfl 16 (by decide) (hT (Cond.fieldLink RX11 170 "DesertWireModel" "open" "I") mw_1172) (fun _ h9 => h9) rfl (by decide +kernel) rfl rfl (Nat.le_of_ble_eq_true rfl) dX11_one_240 ?_
                  clear hP hD hS
                  intro H locs hP hD hS
                  replace hP : va_P D vwCl [(k0, .inl (cI, 1201, .inl c0)), (k, .inr (11, [.ref k0, .ref k1, .ref k2, .int c3, .ref k4, .ref k5, .ref k6, .ref k7, .ref k8, .int c9, .ref ka, .ref kb, .int cc, .int scd_116, .int ce, .int scf_124, .int v_129, .int ch, .int ci, .int cj, .int ck, .ref kl, .int cm, .int cn, .ref ko]))] H := hP
                  replace hD : va_D A [(k0, .inl (cI, 1201, .inl c0)), (k, .inr (11, [.ref k0, .ref k1, .ref k2, .int c3, .ref k4, .ref k5, .ref k6, .ref k7, .ref k8, .int c9, .ref ka, .ref kb, .int cc, .int scd_116, .int ce, .int scf_124, .int v_129, .int ch, .int ci, .int cj, .int ck, .ref kl, .int cm, .int cn, .ref ko]))] := hD
                  refine lv_iload_n hx hb dX11_one_243 rfl (lv_at hl 2 rfl) ?_
                  refine lv_bipush (v := 45) hx hb dX11_one_244 (by decide) ?_
                  refine b_icmp_ne hx hb rfl zl_45 (tgt := 254) dX11_one_246 (by decide) (fun c_130 => ?_) (fun c_130 => by exfalso; omega)
                  refine lv_iload_n hx hb dX11_one_254 rfl (lv_at hl 2 rfl) ?_
                  refine lv_bipush (v := 33) hx hb dX11_one_255 (by decide) ?_
                  refine b_icmp_ne hx hb rfl zl_33 (tgt := 272) dX11_one_257 (by decide) (fun c_131 => by exfalso; omega) (fun c_131 => ?_)
                  refine lv_iload_n hx hb dX11_one_260 rfl (lv_at hl 0 rfl) ?_
                  refine b_if_ne hx hb rfl (tgt := 268) dX11_one_261 (by decide) (fun c_132 => ?_) (fun c_132 => ?_)
                  · refine lv_iconst (v := 0) hx hb dX11_one_268 (by decide) ?_
                    refine lv_goto (tgt := 273) hx hb dX11_one_269 (by decide) ?_
                    exact hRet (scd_116, scf_124, v_129) [1, 0] ⟨(by first | omega | (simp only [zl_0] <;> omega) | decide | assumption | rfl | (dsimp only; first | omega | (simp only [zl_0] <;> omega))), (by first | omega | (simp only [zl_0] <;> omega) | decide | assumption | rfl | (dsimp only; first | omega | (simp only [zl_0] <;> omega))), (by first | omega | (simp only [zl_0] <;> omega) | decide | assumption | rfl | (dsimp only; first | omega | (simp only [zl_0] <;> omega)))⟩ hP hD (by decide) rfl hS rfl dX11_one_273
                  · refine lv_iconst (v := 1) hx hb dX11_one_264 (by decide) ?_
                    refine lv_goto (tgt := 273) hx hb dX11_one_265 (by decide) ?_
                    exact hRet (scd_116, scf_124, v_129) [1, 0] ⟨(by first | omega | (simp only [zl_1] <;> omega) | decide | assumption | rfl | (dsimp only; first | omega | (simp only [zl_1] <;> omega))), (by first | omega | (simp only [zl_1] <;> omega) | decide | assumption | rfl | (dsimp only; first | omega | (simp only [zl_1] <;> omega))), (by first | omega | (simp only [zl_1] <;> omega) | decide | assumption | rfl | (dsimp only; first | omega | (simp only [zl_1] <;> omega)))⟩ hP hD (by decide) rfl hS rfl dX11_one_273
                · try simp only [zl_1] at h_128
                  have h_128 : scf_124.toInt = 1 := h_128
                  refine lv_aload_n hx hb dX11_one_233 rfl (lv_at hl 3 rfl) ?_
                  refine lv_dup hx hb dX11_one_234 rfl ?_
                  refine va_get (D := D) (ci := 11) (v := .int v_112) (C := RX11) (T := TX11) (N := 25) hx hb hT giX11 hown hK hP 1 rfl rfl 16 (by decide) (hT (Cond.fieldLink RX11 170 "DesertWireModel" "open" "I") mw_1172) (fun _ h9 => h9) rfl dX11_one_235 ?_
                  refine lv_iconst (v := 1) hx hb dX11_one_238 (by decide) ?_
                  refine lv_isub hx hb dX11_one_239 ?_
                  refine lv_topi (fun v_133 ev_133 => ?_)
                  have tv_133 : v_133.toInt = v_112.toInt - 1 := by rw [ev_133]; exact k_subv rfl zl_1 (by omega) (by omega)
                  refine va_put (D := D) (ci := 11) (v := .int v_133) (ty := .int) (C := RX11) (T := TX11) (N := 25) hx hb hT giX11 tyX11 tyX11_ok nmX11 hown hK hP hD hS 1 rfl rfl 16 (by decide) (hT (Cond.fieldLink RX11 170 "DesertWireModel" "open" "I") mw_1172) (fun _ h9 => h9) rfl (by decide +kernel) rfl rfl (Nat.le_of_ble_eq_true rfl) dX11_one_240 ?_
                  clear hP hD hS
                  intro H locs hP hD hS
                  replace hP : va_P D vwCl [(k0, .inl (cI, 1201, .inl c0)), (k, .inr (11, [.ref k0, .ref k1, .ref k2, .int c3, .ref k4, .ref k5, .ref k6, .ref k7, .ref k8, .int c9, .ref ka, .ref kb, .int cc, .int scd_116, .int ce, .int scf_124, .int v_133, .int ch, .int ci, .int cj, .int ck, .ref kl, .int cm, .int cn, .ref ko]))] H := hP
                  replace hD : va_D A [(k0, .inl (cI, 1201, .inl c0)), (k, .inr (11, [.ref k0, .ref k1, .ref k2, .int c3, .ref k4, .ref k5, .ref k6, .ref k7, .ref k8, .int c9, .ref ka, .ref kb, .int cc, .int scd_116, .int ce, .int scf_124, .int v_133, .int ch, .int ci, .int cj, .int ck, .ref kl, .int cm, .int cn, .ref ko]))] := hD
                  refine lv_iload_n hx hb dX11_one_243 rfl (lv_at hl 2 rfl) ?_
                  refine lv_bipush (v := 45) hx hb dX11_one_244 (by decide) ?_
                  refine b_icmp_ne hx hb rfl zl_45 (tgt := 254) dX11_one_246 (by decide) (fun c_134 => ?_) (fun c_134 => by exfalso; omega)
                  refine lv_iload_n hx hb dX11_one_254 rfl (lv_at hl 2 rfl) ?_
                  refine lv_bipush (v := 33) hx hb dX11_one_255 (by decide) ?_
                  refine b_icmp_ne hx hb rfl zl_33 (tgt := 272) dX11_one_257 (by decide) (fun c_135 => by exfalso; omega) (fun c_135 => ?_)
                  refine lv_iload_n hx hb dX11_one_260 rfl (lv_at hl 0 rfl) ?_
                  refine b_if_ne hx hb rfl (tgt := 268) dX11_one_261 (by decide) (fun c_136 => ?_) (fun c_136 => ?_)
                  · refine lv_iconst (v := 0) hx hb dX11_one_268 (by decide) ?_
                    refine lv_goto (tgt := 273) hx hb dX11_one_269 (by decide) ?_
                    exact hRet (scd_116, scf_124, v_133) [1, 0] ⟨(by first | omega | (simp only [zl_0] <;> omega) | decide | assumption | rfl | (dsimp only; first | omega | (simp only [zl_0] <;> omega))), (by first | omega | (simp only [zl_0] <;> omega) | decide | assumption | rfl | (dsimp only; first | omega | (simp only [zl_0] <;> omega))), (by first | omega | (simp only [zl_0] <;> omega) | decide | assumption | rfl | (dsimp only; first | omega | (simp only [zl_0] <;> omega)))⟩ hP hD (by decide) rfl hS rfl dX11_one_273
                  · refine lv_iconst (v := 1) hx hb dX11_one_264 (by decide) ?_
                    refine lv_goto (tgt := 273) hx hb dX11_one_265 (by decide) ?_
                    exact hRet (scd_116, scf_124, v_133) [1, 0] ⟨(by first | omega | (simp only [zl_1] <;> omega) | decide | assumption | rfl | (dsimp only; first | omega | (simp only [zl_1] <;> omega))), (by first | omega | (simp only [zl_1] <;> omega) | decide | assumption | rfl | (dsimp only; first | omega | (simp only [zl_1] <;> omega))), (by first | omega | (simp only [zl_1] <;> omega) | decide | assumption | rfl | (dsimp only; first | omega | (simp only [zl_1] <;> omega)))⟩ hP hD (by decide) rfl hS rfl dX11_one_273
              · try simp only [zl_1] at h_109
                have h_109 : scf_105.toInt = 1 := h_109
                refine lv_aload_n hx hb dX11_one_162 rfl (lv_at hl 2 rfl) ?_
                refine va_get (D := D) (ci := 11) (v := .int scf_105) (C := RX11) (T := TX11) (N := 25) hx hb hT giX11 hown hK hP 1 rfl rfl 15 (by decide) (hT (Cond.fieldLink RX11 148 "DesertWireModel" "isWrong" "Z") mw_1171) (fun _ h9 => h9) rfl dX11_one_163 ?_
                refine b_if_eq hx hb rfl (tgt := 171) dX11_one_166 (by decide) (fun c_137 => by exfalso; omega) (fun c_137 => ?_)
                refine lv_iconst (v := 0) hx hb dX11_one_169 (by decide) ?_
                exact hRet (cd, scf_105, cg) [1, 0] ⟨(by first | omega | (simp only [zl_0] <;> omega) | decide | assumption | rfl | (dsimp only; first | omega | (simp only [zl_0] <;> omega))), (by first | omega | (simp only [zl_0] <;> omega) | decide | assumption | rfl | (dsimp only; first | omega | (simp only [zl_0] <;> omega))), (by first | omega | (simp only [zl_0] <;> omega) | decide | assumption | rfl | (dsimp only; first | omega | (simp only [zl_0] <;> omega)))⟩ hP hD (by decide) rfl hS rfl dX11_one_170
            · refine lv_iload_n hx hb dX11_one_140 rfl (lv_at hl 1 rfl) ?_
              refine lv_bipush (v := 40) hx hb dX11_one_141 (by decide) ?_
              refine b_icmp_ne hx hb rfl zl_40 (tgt := 158) dX11_one_143 (by decide) (fun c_138 => ?_) (fun c_138 => ?_)
              · refine lv_iconst (v := 0) hx hb dX11_one_158 (by decide) ?_
                refine kJv (wr := [(k0, .inl (cI, 1201, .inl c0))]) (va_runV (As := [.int 0]) (rest := []) ⟨hx, hb, hml, hown, hT⟩ (c_X11_needsG l D cI aK aV k k0 k1 k2 k4 k5 k6 k7 k8 ka kb kl ko H.size c3 c9 cc cd ce cf cg ch ci cj ck cm cn 0) (cwV 1 hT (gV_in mw_1347 mw_1344 mw_1346 mw_p4_11 mw_12) rfl rfl rfl (by decide +kernel) ⟨Nat.le_of_ble_eq_true rfl, Nat.le_of_ble_eq_true rfl⟩) (kRecvX (q0 := 1) (ci := 11) hK hP hD hN hXS hS hA rfl rfl [1] rfl (by decide)) rfl rfl hl.1 rfl (lv_room (Nat.le_of_ble_eq_true rfl)) dX11_one_159 ⟨Nat.le_of_ble_eq_true rfl, Nat.le_of_ble_eq_true rfl⟩) hP hD hS hA [1] [0] rfl rfl (by decide) (by decide) ?_
                clear hP hD hS
                intro scf_141 H locs w_140 hP hD hS
                replace hP : va_P D vwCl [(k0, .inl (cI, 1201, .inl c0)), (k, .inr (11, [.ref k0, .ref k1, .ref k2, .int c3, .ref k4, .ref k5, .ref k6, .ref k7, .ref k8, .int c9, .ref ka, .ref kb, .int cc, .int cd, .int ce, .int scf_141, .int cg, .int ch, .int ci, .int cj, .int ck, .ref kl, .int cm, .int cn, .ref ko]))] H := hP
                replace hD : va_D A [(k0, .inl (cI, 1201, .inl c0)), (k, .inr (11, [.ref k0, .ref k1, .ref k2, .int c3, .ref k4, .ref k5, .ref k6, .ref k7, .ref k8, .int c9, .ref ka, .ref kb, .int cc, .int cd, .int ce, .int scf_141, .int cg, .int ch, .int ci, .int cj, .int ck, .ref kl, .int cm, .int cn, .ref ko]))] := hD
                have lo_scf_141 := k_lo scf_141
                have hi_scf_141 := k_hi scf_141
                rcases w_140 with ⟨h_142, h_143, h_144⟩ | h_145
                · (try simp only [zl_0] at h_142 h_143 h_144); exfalso; omega
                · try simp only [zl_0] at h_145
                  have h_145 : scf_141.toInt = 1 := h_145
                  refine lv_aload_n hx hb dX11_one_162 rfl (lv_at hl 2 rfl) ?_
                  refine va_get (D := D) (ci := 11) (v := .int scf_141) (C := RX11) (T := TX11) (N := 25) hx hb hT giX11 hown hK hP 1 rfl rfl 15 (by decide) (hT (Cond.fieldLink RX11 148 "DesertWireModel" "isWrong" "Z") mw_1171) (fun _ h9 => h9) rfl dX11_one_163 ?_
                  refine b_if_eq hx hb rfl (tgt := 171) dX11_one_166 (by decide) (fun c_146 => by exfalso; omega) (fun c_146 => ?_)
                  refine lv_iconst (v := 0) hx hb dX11_one_169 (by decide) ?_
                  exact hRet (cd, scf_141, cg) [1, 0] ⟨(by first | omega | (simp only [zl_0] <;> omega) | decide | assumption | rfl | (dsimp only; first | omega | (simp only [zl_0] <;> omega))), (by first | omega | (simp only [zl_0] <;> omega) | decide | assumption | rfl | (dsimp only; first | omega | (simp only [zl_0] <;> omega))), (by first | omega | (simp only [zl_0] <;> omega) | decide | assumption | rfl | (dsimp only; first | omega | (simp only [zl_0] <;> omega)))⟩ hP hD (by decide) rfl hS rfl dX11_one_170
              · refine lv_aload_n hx hb dX11_one_146 rfl (lv_at hl 2 rfl) ?_
                refine va_get (D := D) (ci := 11) (v := .int cg) (C := RX11) (T := TX11) (N := 25) hx hb hT giX11 hown hK hP 1 rfl rfl 16 (by decide) (hT (Cond.fieldLink RX11 170 "DesertWireModel" "open" "I") mw_1172) (fun _ h9 => h9) rfl dX11_one_147 ?_
                refine lv_iconst (v := 4) hx hb dX11_one_150 (by decide) ?_
                refine b_icmp_ge hx hb rfl zl_4 (tgt := 158) dX11_one_151 (by decide) (fun c_147 => by exfalso; omega) (fun c_147 => ?_)
                refine lv_iconst (v := 1) hx hb dX11_one_154 (by decide) ?_
                refine lv_goto (tgt := 159) hx hb dX11_one_155 (by decide) ?_
                refine kJv (wr := [(k0, .inl (cI, 1201, .inl c0))]) (va_runV (As := [.int 1]) (rest := []) ⟨hx, hb, hml, hown, hT⟩ (c_X11_needsG l D cI aK aV k k0 k1 k2 k4 k5 k6 k7 k8 ka kb kl ko H.size c3 c9 cc cd ce cf cg ch ci cj ck cm cn 1) (cwV 1 hT (gV_in mw_1347 mw_1344 mw_1346 mw_p4_11 mw_12) rfl rfl rfl (by decide +kernel) ⟨Nat.le_of_ble_eq_true rfl, Nat.le_of_ble_eq_true rfl⟩) (kRecvX (q0 := 1) (ci := 11) hK hP hD hN hXS hS hA rfl rfl [1] rfl (by decide)) rfl rfl hl.1 rfl (lv_room (Nat.le_of_ble_eq_true rfl)) dX11_one_159 ⟨Nat.le_of_ble_eq_true rfl, Nat.le_of_ble_eq_true rfl⟩) hP hD hS hA [1] [0] rfl rfl (by decide) (by decide) ?_
                clear hP hD hS
                intro scf_150 H locs w_149 hP hD hS
                replace hP : va_P D vwCl [(k0, .inl (cI, 1201, .inl c0)), (k, .inr (11, [.ref k0, .ref k1, .ref k2, .int c3, .ref k4, .ref k5, .ref k6, .ref k7, .ref k8, .int c9, .ref ka, .ref kb, .int cc, .int cd, .int ce, .int scf_150, .int cg, .int ch, .int ci, .int cj, .int ck, .ref kl, .int cm, .int cn, .ref ko]))] H := hP
                replace hD : va_D A [(k0, .inl (cI, 1201, .inl c0)), (k, .inr (11, [.ref k0, .ref k1, .ref k2, .int c3, .ref k4, .ref k5, .ref k6, .ref k7, .ref k8, .int c9, .ref ka, .ref kb, .int cc, .int cd, .int ce, .int scf_150, .int cg, .int ch, .int ci, .int cj, .int ck, .ref kl, .int cm, .int cn, .ref ko]))] := hD
                have lo_scf_150 := k_lo scf_150
                have hi_scf_150 := k_hi scf_150
                rcases w_149 with ⟨h_151, h_152, h_153⟩ | h_154
                · try simp only [zl_1] at h_151
                  try simp only [zl_1] at h_152
                  have h_152 : cf.toInt = 0 := h_152
                  try simp only [zl_1] at h_153
                  have h_153 : scf_150.toInt = 0 := h_153
                  refine lv_aload_n hx hb dX11_one_162 rfl (lv_at hl 2 rfl) ?_
                  refine va_get (D := D) (ci := 11) (v := .int scf_150) (C := RX11) (T := TX11) (N := 25) hx hb hT giX11 hown hK hP 1 rfl rfl 15 (by decide) (hT (Cond.fieldLink RX11 148 "DesertWireModel" "isWrong" "Z") mw_1171) (fun _ h9 => h9) rfl dX11_one_163 ?_
                  refine b_if_eq hx hb rfl (tgt := 171) dX11_one_166 (by decide) (fun c_155 => ?_) (fun c_155 => by exfalso; omega)
                  refine lv_aload_n hx hb dX11_one_171 rfl (lv_at hl 2 rfl) ?_
                  refine lv_dup hx hb dX11_one_172 rfl ?_
                  refine va_get (D := D) (ci := 11) (v := .int cd) (C := RX11) (T := TX11) (N := 25) hx hb hT giX11 hown hK hP 1 rfl rfl 13 (by decide) (hT (Cond.fieldLink RX11 138 "DesertWireModel" "here" "I") mw_1169) (fun _ h9 => h9) rfl dX11_one_173 ?_
                  refine lv_iconst (v := 1) hx hb dX11_one_176 (by decide) ?_
                  refine lv_iadd hx hb dX11_one_177 ?_
                  refine lv_topi (fun v_156 ev_156 => ?_)
                  have tv_156 : v_156.toInt = cd.toInt + 1 := by rw [ev_156]; exact k_addv rfl zl_1 (by omega) (by omega)
                  refine va_put (D := D) (ci := 11) (v := .int v_156) (ty := .int) (C := RX11) (T := TX11) (N := 25) hx hb hT giX11 tyX11 tyX11_ok nmX11 hown hK hP hD hS 1 rfl rfl 13 (by decide) (hT (Cond.fieldLink RX11 138 "DesertWireModel" "here" "I") mw_1169) (fun _ h9 => h9) rfl (by decide +kernel) rfl rfl (Nat.le_of_ble_eq_true rfl) dX11_one_178 ?_
                  clear hP hD hS
                  intro H locs hP hD hS
                  replace hP : va_P D vwCl [(k0, .inl (cI, 1201, .inl c0)), (k, .inr (11, [.ref k0, .ref k1, .ref k2, .int c3, .ref k4, .ref k5, .ref k6, .ref k7, .ref k8, .int c9, .ref ka, .ref kb, .int cc, .int v_156, .int ce, .int scf_150, .int cg, .int ch, .int ci, .int cj, .int ck, .ref kl, .int cm, .int cn, .ref ko]))] H := hP
                  replace hD : va_D A [(k0, .inl (cI, 1201, .inl c0)), (k, .inr (11, [.ref k0, .ref k1, .ref k2, .int c3, .ref k4, .ref k5, .ref k6, .ref k7, .ref k8, .int c9, .ref ka, .ref kb, .int cc, .int v_156, .int ce, .int scf_150, .int cg, .int ch, .int ci, .int cj, .int ck, .ref kl, .int cm, .int cn, .ref ko]))] := hD
                  refine lv_aload_n hx hb dX11_one_181 rfl (lv_at hl 2 rfl) ?_
                  refine lv_dup hx hb dX11_one_182 rfl ?_
                  refine va_get (D := D) (ci := 11) (v := .int cg) (C := RX11) (T := TX11) (N := 25) hx hb hT giX11 hown hK hP 1 rfl rfl 16 (by decide) (hT (Cond.fieldLink RX11 170 "DesertWireModel" "open" "I") mw_1172) (fun _ h9 => h9) rfl dX11_one_183 ?_
                  refine lv_iconst (v := 1) hx hb dX11_one_186 (by decide) ?_
                  refine lv_iadd hx hb dX11_one_187 ?_
                  refine lv_topi (fun v_157 ev_157 => ?_)
                  have tv_157 : v_157.toInt = cg.toInt + 1 := by rw [ev_157]; exact k_addv rfl zl_1 (by omega) (by omega)
                  refine va_put (D := D) (ci := 11) (v := .int v_157) (ty := .int) (C := RX11) (T := TX11) (N := 25) hx hb hT giX11 tyX11 tyX11_ok nmX11 hown hK hP hD hS 1 rfl rfl 16 (by decide) (hT (Cond.fieldLink RX11 170 "DesertWireModel" "open" "I") mw_1172) (fun _ h9 => h9) rfl (by decide +kernel) rfl rfl (Nat.le_of_ble_eq_true rfl) dX11_one_188 ?_
                  clear hP hD hS
                  intro H locs hP hD hS
                  replace hP : va_P D vwCl [(k0, .inl (cI, 1201, .inl c0)), (k, .inr (11, [.ref k0, .ref k1, .ref k2, .int c3, .ref k4, .ref k5, .ref k6, .ref k7, .ref k8, .int c9, .ref ka, .ref kb, .int cc, .int v_156, .int ce, .int scf_150, .int v_157, .int ch, .int ci, .int cj, .int ck, .ref kl, .int cm, .int cn, .ref ko]))] H := hP
                  replace hD : va_D A [(k0, .inl (cI, 1201, .inl c0)), (k, .inr (11, [.ref k0, .ref k1, .ref k2, .int c3, .ref k4, .ref k5, .ref k6, .ref k7, .ref k8, .int c9, .ref ka, .ref kb, .int cc, .int v_156, .int ce, .int scf_150, .int v_157, .int ch, .int ci, .int cj, .int ck, .ref kl, .int cm, .int cn, .ref ko]))] := hD
                  refine lv_iload_n hx hb dX11_one_191 rfl (lv_at hl 1 rfl) ?_
                  refine lv_bipush (v := 40) hx hb dX11_one_192 (by decide) ?_
                  refine b_icmp_ne hx hb rfl zl_40 (tgt := 204) dX11_one_194 (by decide) (fun c_158 => by exfalso; omega) (fun c_158 => ?_)
                  refine lv_aload_n hx hb dX11_one_197 rfl (lv_at hl 2 rfl) ?_
                  refine kJi (wr := []) (va_runV (As := []) (rest := []) ⟨hx, hb, hml, hown, hT⟩ (c_X11_wholeG4 l D cI aK aV k k0 k1 k2 k4 k5 k6 k7 k8 ka kb kl ko H.size c3 c9 cc v_156 ce scf_150 v_157 ch ci cj ck cm cn c0 (by first | omega | decide | assumption | rfl) (by first | omega | decide | assumption | rfl) (by first | omega | decide | assumption | rfl) (by first | omega | decide | assumption | rfl) (by first | omega | decide | assumption | rfl) (by first | omega | decide | assumption | rfl)) (cwV 0 hT (gV_in mw_1315 mw_1312 mw_1314 mw_p4_3 mw_12) rfl rfl rfl (by decide +kernel) ⟨Nat.le_of_ble_eq_true rfl, Nat.le_of_ble_eq_true rfl⟩) (kRecvX (q0 := 1) (ci := 11) hK hP hD hN hXS hS hA rfl rfl [1, 0] rfl (by decide)) rfl rfl hl.1 rfl (lv_room (Nat.le_of_ble_eq_true rfl)) dX11_one_198 ⟨Nat.le_of_ble_eq_true rfl, Nat.le_of_ble_eq_true rfl⟩) hP hD hS hA [1, 0] [] rfl rfl (by decide) (by decide) ?_
                  clear hP hD hS
                  intro r_159 u_163 H locs w_160 hP hD hS
                  obtain ⟨scd_161, scf_162⟩ := u_163
                  replace hP : va_P D vwCl [(k, .inr (11, [.ref k0, .ref k1, .ref k2, .int c3, .ref k4, .ref k5, .ref k6, .ref k7, .ref k8, .int c9, .ref ka, .ref kb, .int cc, .int scd_161, .int ce, .int scf_162, .int v_157, .int ch, .int ci, .int cj, .int ck, .ref kl, .int cm, .int cn, .ref ko])), (k0, .inl (cI, 1201, .inl c0))] H := hP
                  replace hD : va_D A [(k, .inr (11, [.ref k0, .ref k1, .ref k2, .int c3, .ref k4, .ref k5, .ref k6, .ref k7, .ref k8, .int c9, .ref ka, .ref kb, .int cc, .int scd_161, .int ce, .int scf_162, .int v_157, .int ch, .int ci, .int cj, .int ck, .ref kl, .int cm, .int cn, .ref ko])), (k0, .inl (cI, 1201, .inl c0))] := hD
                  have lo_scd_161 := k_lo scd_161
                  have hi_scd_161 := k_hi scd_161
                  have lo_scf_162 := k_lo scf_162
                  have hi_scf_162 := k_hi scf_162
                  obtain ⟨h_164, h_165⟩ := w_160
                  have h_164 : v_156.toInt ≤ scd_161.toInt := h_164
                  have h_165 : scd_161.toInt ≤ ce.toInt := h_165
                  have lo_r_159 := k_lo r_159
                  have hi_r_159 := k_hi r_159
                  refine lv_goto (tgt := 208) hx hb dX11_one_201 (by decide) ?_
                  refine lv_istore_n (lv' := [(3, .int r_159), (2, .int (-1)), (1, .int r_1), (0, .ref k)]) hx hb dX11_one_208 rfl hl (by decide) rfl ?_
                  clear hl
                  intro ls hl
                  refine lv_aload_n hx hb dX11_one_209 rfl (lv_at hl 3 rfl) ?_
                  refine lv_iload_n hx hb dX11_one_210 rfl (lv_at hl 2 rfl) ?_
                  refine lv_bipush (v := 40) hx hb dX11_one_211 (by decide) ?_
                  refine b_icmp_ne hx hb rfl zl_40 (tgt := 225) dX11_one_213 (by decide) (fun c_166 => by exfalso; omega) (fun c_166 => ?_)
                  refine lv_aload_n hx hb dX11_one_216 rfl (lv_at hl 3 rfl) ?_
                  refine lv_bipush (v := 41) hx hb dX11_one_217 (by decide) ?_
                  refine kJi (wr := []) (va_runV (As := [.int 41]) (rest := [.ref k]) ⟨hx, hb, hml, hown, hT⟩ (c_X11_takesG l D cI aK aV k k0 k1 k2 k4 k5 k6 k7 k8 ka kb kl ko H.size c3 c9 cc scd_161 ce scf_162 v_157 ch ci cj ck cm cn c0 41 (by first | omega | (simp only [zl_41] <;> omega) | decide | assumption | rfl) (by first | omega | (simp only [zl_41] <;> omega) | decide | assumption | rfl) (by first | omega | (simp only [zl_41] <;> omega) | decide | assumption | rfl) (by first | omega | (simp only [zl_41] <;> omega) | decide | assumption | rfl) (by first | omega | (simp only [zl_41] <;> omega) | decide | assumption | rfl) (by first | omega | (simp only [zl_41] <;> omega) | decide | assumption | rfl)) (cwV 1 hT (gV_in mw_1351 mw_1348 mw_1350 mw_p4_12 mw_12) rfl rfl rfl (by decide +kernel) ⟨Nat.le_of_ble_eq_true rfl, Nat.le_of_ble_eq_true rfl⟩) (kRecvX (q0 := 0) (ci := 11) hK hP hD hN hXS hS hA rfl rfl [0, 1] rfl (by decide)) rfl rfl hl.1 rfl (lv_room (Nat.le_of_ble_eq_true rfl)) dX11_one_219 ⟨Nat.le_of_ble_eq_true rfl, Nat.le_of_ble_eq_true rfl⟩) hP hD hS hA [0, 1] [] rfl rfl (by decide) (by decide) ?_
                  clear hP hD hS
                  intro r_167 scd_169 H locs w_168 hP hD hS
                  replace hP : va_P D vwCl [(k, .inr (11, [.ref k0, .ref k1, .ref k2, .int c3, .ref k4, .ref k5, .ref k6, .ref k7, .ref k8, .int c9, .ref ka, .ref kb, .int cc, .int scd_169, .int ce, .int scf_162, .int v_157, .int ch, .int ci, .int cj, .int ck, .ref kl, .int cm, .int cn, .ref ko])), (k0, .inl (cI, 1201, .inl c0))] H := hP
                  replace hD : va_D A [(k, .inr (11, [.ref k0, .ref k1, .ref k2, .int c3, .ref k4, .ref k5, .ref k6, .ref k7, .ref k8, .int c9, .ref ka, .ref kb, .int cc, .int scd_169, .int ce, .int scf_162, .int v_157, .int ch, .int ci, .int cj, .int ck, .ref kl, .int cm, .int cn, .ref ko])), (k0, .inl (cI, 1201, .inl c0))] := hD
                  have lo_scd_169 := k_lo scd_169
                  have hi_scd_169 := k_hi scd_169
                  rcases w_168 with ⟨hr_167, h_170, h_171⟩ | ⟨hr_167, h_172⟩
                  · try simp only [zl_41] at h_170
                    have h_170 : scd_169.toInt = scd_161.toInt + 1 := h_170
                    try simp only [zl_41] at h_171
                    have h_171 : scd_169.toInt ≤ ce.toInt := h_171
                    obtain rfl : r_167 = 1 := hr_167.trans (by decide)
                    refine b_if_eq hx hb zl_1 (tgt := 229) dX11_one_222 (by decide) (fun c_173 => by exfalso; omega) (fun c_173 => ?_)
                    refine lv_iconst (v := 1) hx hb dX11_one_225 (by decide) ?_
                    refine lv_goto (tgt := 230) hx hb dX11_one_226 (by decide) ?_
                    refine kJv (wr := [(k0, .inl (cI, 1201, .inl c0))]) (va_runV (As := [.int 1]) (rest := []) ⟨hx, hb, hml, hown, hT⟩ (c_X11_needsG l D cI aK aV k k0 k1 k2 k4 k5 k6 k7 k8 ka kb kl ko H.size c3 c9 cc scd_169 ce scf_162 v_157 ch ci cj ck cm cn 1) (cwV 1 hT (gV_in mw_1347 mw_1344 mw_1346 mw_p4_11 mw_12) rfl rfl rfl (by decide +kernel) ⟨Nat.le_of_ble_eq_true rfl, Nat.le_of_ble_eq_true rfl⟩) (kRecvX (q0 := 0) (ci := 11) hK hP hD hN hXS hS hA rfl rfl [0] rfl (by decide)) rfl rfl hl.1 rfl (lv_room (Nat.le_of_ble_eq_true rfl)) dX11_one_230 ⟨Nat.le_of_ble_eq_true rfl, Nat.le_of_ble_eq_true rfl⟩) hP hD hS hA [0] [1] rfl rfl (by decide) (by decide) ?_
                    clear hP hD hS
                    intro scf_176 H locs w_175 hP hD hS
                    replace hP : va_P D vwCl [(k0, .inl (cI, 1201, .inl c0)), (k, .inr (11, [.ref k0, .ref k1, .ref k2, .int c3, .ref k4, .ref k5, .ref k6, .ref k7, .ref k8, .int c9, .ref ka, .ref kb, .int cc, .int scd_169, .int ce, .int scf_176, .int v_157, .int ch, .int ci, .int cj, .int ck, .ref kl, .int cm, .int cn, .ref ko]))] H := hP
                    replace hD : va_D A [(k0, .inl (cI, 1201, .inl c0)), (k, .inr (11, [.ref k0, .ref k1, .ref k2, .int c3, .ref k4, .ref k5, .ref k6, .ref k7, .ref k8, .int c9, .ref ka, .ref kb, .int cc, .int scd_169, .int ce, .int scf_176, .int v_157, .int ch, .int ci, .int cj, .int ck, .ref kl, .int cm, .int cn, .ref ko]))] := hD
                    have lo_scf_176 := k_lo scf_176
                    have hi_scf_176 := k_hi scf_176
                    rcases w_175 with ⟨h_177, h_178, h_179⟩ | h_180
                    · try simp only [zl_1] at h_177
                      try simp only [zl_1] at h_178
                      have h_178 : scf_162.toInt = 0 := h_178
                      try simp only [zl_1] at h_179
                      have h_179 : scf_176.toInt = 0 := h_179
                      refine lv_aload_n hx hb dX11_one_233 rfl (lv_at hl 3 rfl) ?_
                      refine lv_dup hx hb dX11_one_234 rfl ?_
                      refine va_get (D := D) (ci := 11) (v := .int v_157) (C := RX11) (T := TX11) (N := 25) hx hb hT giX11 hown hK hP 1 rfl rfl 16 (by decide) (hT (Cond.fieldLink RX11 170 "DesertWireModel" "open" "I") mw_1172) (fun _ h9 => h9) rfl dX11_one_235 ?_
                      refine lv_iconst (v := 1) hx hb dX11_one_238 (by decide) ?_
                      refine lv_isub hx hb dX11_one_239 ?_
                      refine lv_topi (fun v_181 ev_181 => ?_)
                      have tv_181 : v_181.toInt = v_157.toInt - 1 := by rw [ev_181]; exact k_subv rfl zl_1 (by omega) (by omega)
                      refine va_put (D := D) (ci := 11) (v := .int v_181) (ty := .int) (C := RX11) (T := TX11) (N := 25) hx hb hT giX11 tyX11 tyX11_ok nmX11 hown hK hP hD hS 1 rfl rfl 16 (by decide) (hT (Cond.fieldLink RX11 170 "DesertWireModel" "open" "I") mw_1172) (fun _ h9 => h9) rfl (by decide +kernel) rfl rfl (Nat.le_of_ble_eq_true rfl) dX11_one_240 ?_
                      clear hP hD hS
                      intro H locs hP hD hS
                      replace hP : va_P D vwCl [(k0, .inl (cI, 1201, .inl c0)), (k, .inr (11, [.ref k0, .ref k1, .ref k2, .int c3, .ref k4, .ref k5, .ref k6, .ref k7, .ref k8, .int c9, .ref ka, .ref kb, .int cc, .int scd_169, .int ce, .int scf_176, .int v_181, .int ch, .int ci, .int cj, .int ck, .ref kl, .int cm, .int cn, .ref ko]))] H := hP
                      replace hD : va_D A [(k0, .inl (cI, 1201, .inl c0)), (k, .inr (11, [.ref k0, .ref k1, .ref k2, .int c3, .ref k4, .ref k5, .ref k6, .ref k7, .ref k8, .int c9, .ref ka, .ref kb, .int cc, .int scd_169, .int ce, .int scf_176, .int v_181, .int ch, .int ci, .int cj, .int ck, .ref kl, .int cm, .int cn, .ref ko]))] := hD
                      refine lv_iload_n hx hb dX11_one_243 rfl (lv_at hl 2 rfl) ?_
                      refine lv_bipush (v := 45) hx hb dX11_one_244 (by decide) ?_
                      refine b_icmp_ne hx hb rfl zl_45 (tgt := 254) dX11_one_246 (by decide) (fun c_182 => ?_) (fun c_182 => by exfalso; omega)
                      refine lv_iload_n hx hb dX11_one_254 rfl (lv_at hl 2 rfl) ?_
                      refine lv_bipush (v := 33) hx hb dX11_one_255 (by decide) ?_
                      refine b_icmp_ne hx hb rfl zl_33 (tgt := 272) dX11_one_257 (by decide) (fun c_183 => ?_) (fun c_183 => by exfalso; omega)
                      refine lv_iload_n hx hb dX11_one_272 rfl (lv_at hl 0 rfl) ?_
                      exact hRet (scd_169, scf_176, v_181) [1, 0] ⟨(by first | omega | decide | assumption | rfl | (dsimp only; first | omega)), (by first | omega | decide | assumption | rfl | (dsimp only; first | omega)), (by first | omega | decide | assumption | rfl | (dsimp only; first | omega))⟩ hP hD (by decide) rfl hS rfl dX11_one_273
                    · try simp only [zl_1] at h_180
                      have h_180 : scf_176.toInt = 1 := h_180
                      refine lv_aload_n hx hb dX11_one_233 rfl (lv_at hl 3 rfl) ?_
                      refine lv_dup hx hb dX11_one_234 rfl ?_
                      refine va_get (D := D) (ci := 11) (v := .int v_157) (C := RX11) (T := TX11) (N := 25) hx hb hT giX11 hown hK hP 1 rfl rfl 16 (by decide) (hT (Cond.fieldLink RX11 170 "DesertWireModel" "open" "I") mw_1172) (fun _ h9 => h9) rfl dX11_one_235 ?_
                      refine lv_iconst (v := 1) hx hb dX11_one_238 (by decide) ?_
                      refine lv_isub hx hb dX11_one_239 ?_
                      refine lv_topi (fun v_184 ev_184 => ?_)
                      have tv_184 : v_184.toInt = v_157.toInt - 1 := by rw [ev_184]; exact k_subv rfl zl_1 (by omega) (by omega)
                      refine va_put (D := D) (ci := 11) (v := .int v_184) (ty := .int) (C := RX11) (T := TX11) (N := 25) hx hb hT giX11 tyX11 tyX11_ok nmX11 hown hK hP hD hS 1 rfl rfl 16 (by decide) (hT (Cond.fieldLink RX11 170 "DesertWireModel" "open" "I") mw_1172) (fun _ h9 => h9) rfl (by decide +kernel) rfl rfl (Nat.le_of_ble_eq_true rfl) dX11_one_240 ?_
                      clear hP hD hS
                      intro H locs hP hD hS
                      replace hP : va_P D vwCl [(k0, .inl (cI, 1201, .inl c0)), (k, .inr (11, [.ref k0, .ref k1, .ref k2, .int c3, .ref k4, .ref k5, .ref k6, .ref k7, .ref k8, .int c9, .ref ka, .ref kb, .int cc, .int scd_169, .int ce, .int scf_176, .int v_184, .int ch, .int ci, .int cj, .int ck, .ref kl, .int cm, .int cn, .ref ko]))] H := hP
                      replace hD : va_D A [(k0, .inl (cI, 1201, .inl c0)), (k, .inr (11, [.ref k0, .ref k1, .ref k2, .int c3, .ref k4, .ref k5, .ref k6, .ref k7, .ref k8, .int c9, .ref ka, .ref kb, .int cc, .int scd_169, .int ce, .int scf_176, .int v_184, .int ch, .int ci, .int cj, .int ck, .ref kl, .int cm, .int cn, .ref ko]))] := hD
                      refine lv_iload_n hx hb dX11_one_243 rfl (lv_at hl 2 rfl) ?_
                      refine lv_bipush (v := 45) hx hb dX11_one_244 (by decide) ?_
                      refine b_icmp_ne hx hb rfl zl_45 (tgt := 254) dX11_one_246 (by decide) (fun c_185 => ?_) (fun c_185 => by exfalso; omega)
                      refine lv_iload_n hx hb dX11_one_254 rfl (lv_at hl 2 rfl) ?_
                      refine lv_bipush (v := 33) hx hb dX11_one_255 (by decide) ?_
                      refine b_icmp_ne hx hb rfl zl_33 (tgt := 272) dX11_one_257 (by decide) (fun c_186 => ?_) (fun c_186 => by exfalso; omega)
                      refine lv_iload_n hx hb dX11_one_272 rfl (lv_at hl 0 rfl) ?_
                      exact hRet (scd_169, scf_176, v_184) [1, 0] ⟨(by first | omega | decide | assumption | rfl | (dsimp only; first | omega)), (by first | omega | decide | assumption | rfl | (dsimp only; first | omega)), (by first | omega | decide | assumption | rfl | (dsimp only; first | omega))⟩ hP hD (by decide) rfl hS rfl dX11_one_273
                  · try simp only [zl_41] at h_172
                    have h_172 : scd_169.toInt = scd_161.toInt := h_172
                    obtain rfl : r_167 = 0 := hr_167.trans (by decide)
                    refine b_if_eq hx hb zl_0 (tgt := 229) dX11_one_222 (by decide) (fun c_187 => ?_) (fun c_187 => by exfalso; omega)
                    refine lv_iconst (v := 0) hx hb dX11_one_229 (by decide) ?_
                    refine kJv (wr := [(k0, .inl (cI, 1201, .inl c0))]) (va_runV (As := [.int 0]) (rest := []) ⟨hx, hb, hml, hown, hT⟩ (c_X11_needsG l D cI aK aV k k0 k1 k2 k4 k5 k6 k7 k8 ka kb kl ko H.size c3 c9 cc scd_169 ce scf_162 v_157 ch ci cj ck cm cn 0) (cwV 1 hT (gV_in mw_1347 mw_1344 mw_1346 mw_p4_11 mw_12) rfl rfl rfl (by decide +kernel) ⟨Nat.le_of_ble_eq_true rfl, Nat.le_of_ble_eq_true rfl⟩) (kRecvX (q0 := 0) (ci := 11) hK hP hD hN hXS hS hA rfl rfl [0] rfl (by decide)) rfl rfl hl.1 rfl (lv_room (Nat.le_of_ble_eq_true rfl)) dX11_one_230 ⟨Nat.le_of_ble_eq_true rfl, Nat.le_of_ble_eq_true rfl⟩) hP hD hS hA [0] [1] rfl rfl (by decide) (by decide) ?_
                    clear hP hD hS
                    intro scf_190 H locs w_189 hP hD hS
                    replace hP : va_P D vwCl [(k0, .inl (cI, 1201, .inl c0)), (k, .inr (11, [.ref k0, .ref k1, .ref k2, .int c3, .ref k4, .ref k5, .ref k6, .ref k7, .ref k8, .int c9, .ref ka, .ref kb, .int cc, .int scd_169, .int ce, .int scf_190, .int v_157, .int ch, .int ci, .int cj, .int ck, .ref kl, .int cm, .int cn, .ref ko]))] H := hP
                    replace hD : va_D A [(k0, .inl (cI, 1201, .inl c0)), (k, .inr (11, [.ref k0, .ref k1, .ref k2, .int c3, .ref k4, .ref k5, .ref k6, .ref k7, .ref k8, .int c9, .ref ka, .ref kb, .int cc, .int scd_169, .int ce, .int scf_190, .int v_157, .int ch, .int ci, .int cj, .int ck, .ref kl, .int cm, .int cn, .ref ko]))] := hD
                    have lo_scf_190 := k_lo scf_190
                    have hi_scf_190 := k_hi scf_190
                    rcases w_189 with ⟨h_191, h_192, h_193⟩ | h_194
                    · (try simp only [zl_0] at h_191 h_192 h_193); exfalso; omega
                    · try simp only [zl_0] at h_194
                      have h_194 : scf_190.toInt = 1 := h_194
                      refine lv_aload_n hx hb dX11_one_233 rfl (lv_at hl 3 rfl) ?_
                      refine lv_dup hx hb dX11_one_234 rfl ?_
                      refine va_get (D := D) (ci := 11) (v := .int v_157) (C := RX11) (T := TX11) (N := 25) hx hb hT giX11 hown hK hP 1 rfl rfl 16 (by decide) (hT (Cond.fieldLink RX11 170 "DesertWireModel" "open" "I") mw_1172) (fun _ h9 => h9) rfl dX11_one_235 ?_
                      refine lv_iconst (v := 1) hx hb dX11_one_238 (by decide) ?_
                      refine lv_isub hx hb dX11_one_239 ?_
                      refine lv_topi (fun v_195 ev_195 => ?_)
                      have tv_195 : v_195.toInt = v_157.toInt - 1 := by rw [ev_195]; exact k_subv rfl zl_1 (by omega) (by omega)
                      refine va_put (D := D) (ci := 11) (v := .int v_195) (ty := .int) (C := RX11) (T := TX11) (N := 25) hx hb hT giX11 tyX11 tyX11_ok nmX11 hown hK hP hD hS 1 rfl rfl 16 (by decide) (hT (Cond.fieldLink RX11 170 "DesertWireModel" "open" "I") mw_1172) (fun _ h9 => h9) rfl (by decide +kernel) rfl rfl (Nat.le_of_ble_eq_true rfl) dX11_one_240 ?_
                      clear hP hD hS
                      intro H locs hP hD hS
                      replace hP : va_P D vwCl [(k0, .inl (cI, 1201, .inl c0)), (k, .inr (11, [.ref k0, .ref k1, .ref k2, .int c3, .ref k4, .ref k5, .ref k6, .ref k7, .ref k8, .int c9, .ref ka, .ref kb, .int cc, .int scd_169, .int ce, .int scf_190, .int v_195, .int ch, .int ci, .int cj, .int ck, .ref kl, .int cm, .int cn, .ref ko]))] H := hP
                      replace hD : va_D A [(k0, .inl (cI, 1201, .inl c0)), (k, .inr (11, [.ref k0, .ref k1, .ref k2, .int c3, .ref k4, .ref k5, .ref k6, .ref k7, .ref k8, .int c9, .ref ka, .ref kb, .int cc, .int scd_169, .int ce, .int scf_190, .int v_195, .int ch, .int ci, .int cj, .int ck, .ref kl, .int cm, .int cn, .ref ko]))] := hD
                      refine lv_iload_n hx hb dX11_one_243 rfl (lv_at hl 2 rfl) ?_
                      refine lv_bipush (v := 45) hx hb dX11_one_244 (by decide) ?_
                      refine b_icmp_ne hx hb rfl zl_45 (tgt := 254) dX11_one_246 (by decide) (fun c_196 => ?_) (fun c_196 => by exfalso; omega)
                      refine lv_iload_n hx hb dX11_one_254 rfl (lv_at hl 2 rfl) ?_
                      refine lv_bipush (v := 33) hx hb dX11_one_255 (by decide) ?_
                      refine b_icmp_ne hx hb rfl zl_33 (tgt := 272) dX11_one_257 (by decide) (fun c_197 => ?_) (fun c_197 => by exfalso; omega)
                      refine lv_iload_n hx hb dX11_one_272 rfl (lv_at hl 0 rfl) ?_
                      exact hRet (scd_169, scf_190, v_195) [1, 0] ⟨(by first | omega | decide | assumption | rfl | (dsimp only; first | omega)), (by first | omega | decide | assumption | rfl | (dsimp only; first | omega)), (by first | omega | decide | assumption | rfl | (dsimp only; first | omega))⟩ hP hD (by decide) rfl hS rfl dX11_one_273
                · try simp only [zl_1] at h_154
                  have h_154 : scf_150.toInt = 1 := h_154
                  refine lv_aload_n hx hb dX11_one_162 rfl (lv_at hl 2 rfl) ?_
                  refine va_get (D := D) (ci := 11) (v := .int scf_150) (C := RX11) (T := TX11) (N := 25) hx hb hT giX11 hown hK hP 1 rfl rfl 15 (by decide) (hT (Cond.fieldLink RX11 148 "DesertWireModel" "isWrong" "Z") mw_1171) (fun _ h9 => h9) rfl dX11_one_163 ?_
                  refine b_if_eq hx hb rfl (tgt := 171) dX11_one_166 (by decide) (fun c_198 => by exfalso; omega) (fun c_198 => ?_)
                  refine lv_iconst (v := 0) hx hb dX11_one_169 (by decide) ?_
                  exact hRet (cd, scf_150, cg) [1, 0] ⟨(by first | omega | (simp only [zl_0] <;> omega) | decide | assumption | rfl | (dsimp only; first | omega | (simp only [zl_0] <;> omega))), (by first | omega | (simp only [zl_0] <;> omega) | decide | assumption | rfl | (dsimp only; first | omega | (simp only [zl_0] <;> omega))), (by first | omega | (simp only [zl_0] <;> omega) | decide | assumption | rfl | (dsimp only; first | omega | (simp only [zl_0] <;> omega)))⟩ hP hD (by decide) rfl hS rfl dX11_one_170
    · refine lv_iconst (v := 0) hx hb dX11_one_12 (by decide) ?_
      exact hRet (cd, cf, cg) [0, 1] ⟨(by first | omega | (simp only [zl_0] <;> omega) | decide | assumption | rfl | (dsimp only; first | omega | (simp only [zl_0] <;> omega))), (by first | omega | (simp only [zl_0] <;> omega) | decide | assumption | rfl | (dsimp only; first | omega | (simp only [zl_0] <;> omega))), (by first | omega | (simp only [zl_0] <;> omega) | decide | assumption | rfl | (dsimp only; first | omega | (simp only [zl_0] <;> omega)))⟩ hP hD (by decide) rfl hS rfl dX11_one_13
  · have h_5 : cd.toInt = ce.toInt := h_5
    obtain rfl : r_1 = (-1) := hr_1.trans (by decide)
    refine lv_istore_n (lv' := [(1, .int (-1)), (0, .ref k)]) hx hb dX11_one_4 rfl hl (by decide) rfl ?_
    clear hl
    intro ls hl
    refine lv_aload_n hx hb dX11_one_5 rfl (lv_at hl 1 rfl) ?_
    refine va_get (D := D) (ci := 11) (v := .int cf) (C := RX11) (T := TX11) (N := 25) hx hb hT giX11 hown hK hP 0 rfl rfl 15 (by decide) (hT (Cond.fieldLink RX11 148 "DesertWireModel" "isWrong" "Z") mw_1171) (fun _ h9 => h9) rfl dX11_one_6 ?_
    refine b_if_eq hx hb rfl (tgt := 14) dX11_one_9 (by decide) (fun c_199 => ?_) (fun c_199 => ?_)
    · refine lv_iload_n hx hb dX11_one_14 rfl (lv_at hl 0 rfl) ?_
      refine lv_bipush (v := 48) hx hb dX11_one_15 (by decide) ?_
      refine lv_bipush (v := 57) hx hb dX11_one_17 (by decide) ?_
      refine kJi (wr := [(k, .inr (11, [.ref k0, .ref k1, .ref k2, .int c3, .ref k4, .ref k5, .ref k6, .ref k7, .ref k8, .int c9, .ref ka, .ref kb, .int cc, .int cd, .int ce, .int cf, .int cg, .int ch, .int ci, .int cj, .int ck, .ref kl, .int cm, .int cn, .ref ko])), (k0, .inl (cI, 1201, .inl c0))]) (va_runS (As := [.int (-1), .int 48, .int 57]) (rest := []) ⟨hx, hb, hml, hown, hT⟩ (c_X11_inG l D cI aK aV H.size (-1) 48 57) (cwS 3 hT (gS_in mw_1238 mw_1236 mw_1237 mw_12) rfl rfl rfl (by decide +kernel) ⟨Nat.le_of_ble_eq_true rfl, Nat.le_of_ble_eq_true rfl⟩) (kStatX hK hP hD hN hXS hS hA [] rfl (by decide)) rfl rfl hl.1 rfl (lv_room (Nat.le_of_ble_eq_true rfl)) dX11_one_19 ⟨Nat.le_of_ble_eq_true rfl, Nat.le_of_ble_eq_true rfl⟩) hP hD hS hA [] [0, 1] rfl rfl (by decide) (by decide) ?_
      clear hP hD hS
      intro r_200 u_202 H locs w_201 hP hD hS
      replace hP : va_P D vwCl [(k, .inr (11, [.ref k0, .ref k1, .ref k2, .int c3, .ref k4, .ref k5, .ref k6, .ref k7, .ref k8, .int c9, .ref ka, .ref kb, .int cc, .int cd, .int ce, .int cf, .int cg, .int ch, .int ci, .int cj, .int ck, .ref kl, .int cm, .int cn, .ref ko])), (k0, .inl (cI, 1201, .inl c0))] H := hP
      replace hD : va_D A [(k, .inr (11, [.ref k0, .ref k1, .ref k2, .int c3, .ref k4, .ref k5, .ref k6, .ref k7, .ref k8, .int c9, .ref ka, .ref kb, .int cc, .int cd, .int ce, .int cf, .int cg, .int ch, .int ci, .int cj, .int ck, .ref kl, .int cm, .int cn, .ref ko])), (k0, .inl (cI, 1201, .inl c0))] := hD
      rcases w_201 with ⟨hr_200, h_203, h_204⟩ | ⟨hr_200, h_205⟩
      · (try simp only [zl_m1, zl_48, zl_57] at h_203 h_204); exfalso; omega
      · try simp only [zl_m1, zl_48, zl_57] at h_205
        obtain rfl : r_200 = 0 := hr_200.trans (by decide)
        refine b_if_eq hx hb zl_0 (tgt := 79) dX11_one_22 (by decide) (fun c_206 => ?_) (fun c_206 => by exfalso; omega)
        refine lv_aload_n hx hb dX11_one_79 rfl (lv_at hl 1 rfl) ?_
        refine lv_iload_n hx hb dX11_one_80 rfl (lv_at hl 0 rfl) ?_
        refine kJi (wr := [(k0, .inl (cI, 1201, .inl c0))]) (va_runV (As := [.int (-1)]) (rest := []) ⟨hx, hb, hml, hown, hT⟩ (c_X11_nameAtG l D cI aK aV k k0 k1 k2 k4 k5 k6 k7 k8 ka kb kl ko H.size c3 c9 cc cd ce cf cg ch ci cj ck cm cn (-1)) (cwV 1 hT (gV_in mw_1343 mw_1340 mw_1342 mw_p4_10 mw_12) rfl rfl rfl (by decide +kernel) ⟨Nat.le_of_ble_eq_true rfl, Nat.le_of_ble_eq_true rfl⟩) (kRecvX (q0 := 0) (ci := 11) hK hP hD hN hXS hS hA rfl rfl [0] rfl (by decide)) rfl rfl hl.1 rfl (lv_room (Nat.le_of_ble_eq_true rfl)) dX11_one_81 ⟨Nat.le_of_ble_eq_true rfl, Nat.le_of_ble_eq_true rfl⟩) hP hD hS hA [0] [1] rfl rfl (by decide) (by decide) ?_
        clear hP hD hS
        intro r_207 u_209 H locs w_208 hP hD hS
        replace hP : va_P D vwCl [(k0, .inl (cI, 1201, .inl c0)), (k, .inr (11, [.ref k0, .ref k1, .ref k2, .int c3, .ref k4, .ref k5, .ref k6, .ref k7, .ref k8, .int c9, .ref ka, .ref kb, .int cc, .int cd, .int ce, .int cf, .int cg, .int ch, .int ci, .int cj, .int ck, .ref kl, .int cm, .int cn, .ref ko]))] H := hP
        replace hD : va_D A [(k0, .inl (cI, 1201, .inl c0)), (k, .inr (11, [.ref k0, .ref k1, .ref k2, .int c3, .ref k4, .ref k5, .ref k6, .ref k7, .ref k8, .int c9, .ref ka, .ref kb, .int cc, .int cd, .int ce, .int cf, .int cg, .int ch, .int ci, .int cj, .int ck, .ref kl, .int cm, .int cn, .ref ko]))] := hD
        rcases w_208 with h_210 | hr_207
        · (try simp only [zl_m1] at h_210); exfalso; omega
        · obtain rfl : r_207 = (-1) := hr_207.trans (by decide)
          refine lv_istore_n (lv' := [(2, .int (-1)), (1, .int (-1)), (0, .ref k)]) hx hb dX11_one_84 rfl hl (by decide) rfl ?_
          clear hl
          intro ls hl
          refine lv_iload_n hx hb dX11_one_85 rfl (lv_at hl 0 rfl) ?_
          refine b_if_lt hx hb zl_m1 (tgt := 127) dX11_one_86 (by decide) (fun c_211 => ?_) (fun c_211 => by exfalso; omega)
          refine lv_aload_n hx hb dX11_one_127 rfl (lv_at hl 2 rfl) ?_
          refine lv_iload_n hx hb dX11_one_128 rfl (lv_at hl 1 rfl) ?_
          refine lv_bipush (v := 45) hx hb dX11_one_129 (by decide) ?_
          refine b_icmp_eq hx hb zl_m1 zl_45 (tgt := 146) dX11_one_131 (by decide) (fun c_212 => by exfalso; omega) (fun c_212 => ?_)
          refine lv_iload_n hx hb dX11_one_134 rfl (lv_at hl 1 rfl) ?_
          refine lv_bipush (v := 33) hx hb dX11_one_135 (by decide) ?_
          refine b_icmp_eq hx hb zl_m1 zl_33 (tgt := 146) dX11_one_137 (by decide) (fun c_213 => by exfalso; omega) (fun c_213 => ?_)
          refine lv_iload_n hx hb dX11_one_140 rfl (lv_at hl 1 rfl) ?_
          refine lv_bipush (v := 40) hx hb dX11_one_141 (by decide) ?_
          refine b_icmp_ne hx hb zl_m1 zl_40 (tgt := 158) dX11_one_143 (by decide) (fun c_214 => ?_) (fun c_214 => by exfalso; omega)
          refine lv_iconst (v := 0) hx hb dX11_one_158 (by decide) ?_
          refine kJv (wr := [(k0, .inl (cI, 1201, .inl c0))]) (va_runV (As := [.int 0]) (rest := []) ⟨hx, hb, hml, hown, hT⟩ (c_X11_needsG l D cI aK aV k k0 k1 k2 k4 k5 k6 k7 k8 ka kb kl ko H.size c3 c9 cc cd ce cf cg ch ci cj ck cm cn 0) (cwV 1 hT (gV_in mw_1347 mw_1344 mw_1346 mw_p4_11 mw_12) rfl rfl rfl (by decide +kernel) ⟨Nat.le_of_ble_eq_true rfl, Nat.le_of_ble_eq_true rfl⟩) (kRecvX (q0 := 1) (ci := 11) hK hP hD hN hXS hS hA rfl rfl [1] rfl (by decide)) rfl rfl hl.1 rfl (lv_room (Nat.le_of_ble_eq_true rfl)) dX11_one_159 ⟨Nat.le_of_ble_eq_true rfl, Nat.le_of_ble_eq_true rfl⟩) hP hD hS hA [1] [0] rfl rfl (by decide) (by decide) ?_
          clear hP hD hS
          intro scf_217 H locs w_216 hP hD hS
          replace hP : va_P D vwCl [(k0, .inl (cI, 1201, .inl c0)), (k, .inr (11, [.ref k0, .ref k1, .ref k2, .int c3, .ref k4, .ref k5, .ref k6, .ref k7, .ref k8, .int c9, .ref ka, .ref kb, .int cc, .int cd, .int ce, .int scf_217, .int cg, .int ch, .int ci, .int cj, .int ck, .ref kl, .int cm, .int cn, .ref ko]))] H := hP
          replace hD : va_D A [(k0, .inl (cI, 1201, .inl c0)), (k, .inr (11, [.ref k0, .ref k1, .ref k2, .int c3, .ref k4, .ref k5, .ref k6, .ref k7, .ref k8, .int c9, .ref ka, .ref kb, .int cc, .int cd, .int ce, .int scf_217, .int cg, .int ch, .int ci, .int cj, .int ck, .ref kl, .int cm, .int cn, .ref ko]))] := hD
          have lo_scf_217 := k_lo scf_217
          have hi_scf_217 := k_hi scf_217
          rcases w_216 with ⟨h_218, h_219, h_220⟩ | h_221
          · (try simp only [zl_0] at h_218 h_219 h_220); exfalso; omega
          · try simp only [zl_0] at h_221
            have h_221 : scf_217.toInt = 1 := h_221
            refine lv_aload_n hx hb dX11_one_162 rfl (lv_at hl 2 rfl) ?_
            refine va_get (D := D) (ci := 11) (v := .int scf_217) (C := RX11) (T := TX11) (N := 25) hx hb hT giX11 hown hK hP 1 rfl rfl 15 (by decide) (hT (Cond.fieldLink RX11 148 "DesertWireModel" "isWrong" "Z") mw_1171) (fun _ h9 => h9) rfl dX11_one_163 ?_
            refine b_if_eq hx hb rfl (tgt := 171) dX11_one_166 (by decide) (fun c_222 => by exfalso; omega) (fun c_222 => ?_)
            refine lv_iconst (v := 0) hx hb dX11_one_169 (by decide) ?_
            exact hRet (cd, scf_217, cg) [1, 0] ⟨(by first | omega | (simp only [zl_0] <;> omega) | decide | assumption | rfl | (dsimp only; first | omega | (simp only [zl_0] <;> omega))), (by first | omega | (simp only [zl_0] <;> omega) | decide | assumption | rfl | (dsimp only; first | omega | (simp only [zl_0] <;> omega))), (by first | omega | (simp only [zl_0] <;> omega) | decide | assumption | rfl | (dsimp only; first | omega | (simp only [zl_0] <;> omega)))⟩ hP hD (by decide) rfl hS rfl dX11_one_170
    · refine lv_iconst (v := 0) hx hb dX11_one_12 (by decide) ?_
      exact hRet (cd, cf, cg) [0, 1] ⟨(by first | omega | (simp only [zl_0] <;> omega) | decide | assumption | rfl | (dsimp only; first | omega | (simp only [zl_0] <;> omega))), (by first | omega | (simp only [zl_0] <;> omega) | decide | assumption | rfl | (dsimp only; first | omega | (simp only [zl_0] <;> omega))), (by first | omega | (simp only [zl_0] <;> omega) | decide | assumption | rfl | (dsimp only; first | omega | (simp only [zl_0] <;> omega)))⟩ hP hD (by decide) rfl hS rfl dX11_one_13

set_option maxHeartbeats 4000000 in
set_option maxRecDepth 100000 in
theorem c_X11_productG3 (l : Launch) (D : va_G) (cI : ClassId) (aK aV : Nat → Nat) (k k0 k1 k2 k4 k5 k6 k7 k8 ka kb kl ko : Nat) (sz : Nat) (c3 : Int32) (c9 : Int32) (cc : Int32) (cd : Int32) (ce : Int32) (cf : Int32) (cg : Int32) (ch : Int32) (ci : Int32) (cj : Int32) (ck : Int32) (cm : Int32) (cn : Int32) (c0 : Nat → Int32) (pre0 : 0 ≤ cc.toInt) (pre1 : cc.toInt ≤ 1151) (pre2 : 0 ≤ cd.toInt) (pre3 : cd.toInt ≤ ce.toInt) (pre4 : ce.toInt ≤ 50) (pre5 : cg.toInt = 3) : Met l yX11_product (gW yX11_product cX11_product 4 (some .int)) ({ frames := 8, cells := 0, slots := 0, locals := 181 } : Room) (kPreX D cI aK aV [.ref k] [(k, .inr (11, [.ref k0, .ref k1, .ref k2, .int c3, .ref k4, .ref k5, .ref k6, .ref k7, .ref k8, .int c9, .ref ka, .ref kb, .int cc, .int cd, .int ce, .int cf, .int cg, .int ch, .int ci, .int cj, .int ck, .ref kl, .int cm, .int cn, .ref ko])), (k0, .inl (cI, 1201, .inl c0))] sz) (va_Qi (fun (r : Int32) (u : Int32 × Int32 × Int32) => cd.toInt ≤ u.1.toInt ∧ u.1.toInt ≤ ce.toInt ∧ u.2.2.toInt = 3) (fun u t => kWd D cI (va_A [(k, .inr (11, [.ref k0, .ref k1, .ref k2, .int c3, .ref k4, .ref k5, .ref k6, .ref k7, .ref k8, .int c9, .ref ka, .ref kb, .int cc, .int cd, .int ce, .int cf, .int cg, .int ch, .int ci, .int cj, .int ck, .ref kl, .int cm, .int cn, .ref ko])), (k0, .inl (cI, 1201, .inl c0))] sz) [(k, .inr (11, [.ref k0, .ref k1, .ref k2, .int c3, .ref k4, .ref k5, .ref k6, .ref k7, .ref k8, .int c9, .ref ka, .ref kb, .int cc, .int u.1, .int ce, .int u.2.1, .int u.2.2, .int ch, .int ci, .int cj, .int ck, .ref kl, .int cm, .int cn, .ref ko])), (k0, .inl (cI, 1201, .inl c0))] t) (va_A [(k, .inr (11, [.ref k0, .ref k1, .ref k2, .int c3, .ref k4, .ref k5, .ref k6, .ref k7, .ref k8, .int c9, .ref ka, .ref kb, .int cc, .int cd, .int ce, .int cf, .int cg, .int ch, .int ci, .int cj, .int ck, .ref kl, .int cm, .int cn, .ref ko])), (k0, .inl (cI, 1201, .inl c0))] sz)) 0 0 (va_A [(k, .inr (11, [.ref k0, .ref k1, .ref k2, .int c3, .ref k4, .ref k5, .ref k6, .ref k7, .ref k8, .int c9, .ref ka, .ref kb, .int cc, .int cd, .int ce, .int cf, .int cg, .int ch, .int ci, .int cj, .int ck, .ref kl, .int cm, .int cn, .ref ko])), (k0, .inl (cI, 1201, .inl c0))] sz) := by
  refine kMetIX (own := RX11) (by decide) rfl (Nat.le_of_ble_eq_true rfl) ?_
  intro p e s m args below meth c hx hb hT hown hname hml A Q hK hP hD hS hA hN hXS hRet ls hl
  have hl : lv_has ls 4 [(0, .ref k)] := hl
  have lo_cd := k_lo cd
  have hi_cd := k_hi cd
  have lo_ce := k_lo ce
  have hi_ce := k_hi ce
  have lo_ci := k_lo ci
  have hi_ci := k_hi ci
  refine lv_aload_n hx hb dX11_product_0 rfl (lv_at hl 0 rfl) ?_
  refine kJi (wr := []) (va_runV (As := []) (rest := []) ⟨hx, hb, hml, hown, hT⟩ (c_X11_oneG3 l D cI aK aV k k0 k1 k2 k4 k5 k6 k7 k8 ka kb kl ko s.heap.size c3 c9 cc cd ce cf cg ch ci cj ck cm cn c0 (by first | omega | decide | assumption | rfl) (by first | omega | decide | assumption | rfl) (by first | omega | decide | assumption | rfl) (by first | omega | decide | assumption | rfl) (by first | omega | decide | assumption | rfl) (by first | omega | decide | assumption | rfl)) (cwV 0 hT (gV_in mw_1335 mw_1332 mw_1334 mw_p4_8 mw_12) rfl rfl rfl (by decide +kernel) ⟨Nat.le_of_ble_eq_true rfl, Nat.le_of_ble_eq_true rfl⟩) (kRecvX (q0 := 0) (ci := 11) hK hP hD hN hXS hS hA rfl rfl [0, 1] rfl (by decide)) rfl rfl hl.1 rfl (lv_room (Nat.le_of_ble_eq_true rfl)) dX11_product_1 ⟨Nat.le_of_ble_eq_true rfl, Nat.le_of_ble_eq_true rfl⟩) hP hD hS hA [0, 1] [] rfl rfl (by decide) (by decide) ?_
  clear hP hD hS
  intro r_1 u_6 H locs w_2 hP hD hS
  obtain ⟨scd_3, scf_4, scg_5⟩ := u_6
  replace hP : va_P D vwCl [(k, .inr (11, [.ref k0, .ref k1, .ref k2, .int c3, .ref k4, .ref k5, .ref k6, .ref k7, .ref k8, .int c9, .ref ka, .ref kb, .int cc, .int scd_3, .int ce, .int scf_4, .int scg_5, .int ch, .int ci, .int cj, .int ck, .ref kl, .int cm, .int cn, .ref ko])), (k0, .inl (cI, 1201, .inl c0))] H := hP
  replace hD : va_D A [(k, .inr (11, [.ref k0, .ref k1, .ref k2, .int c3, .ref k4, .ref k5, .ref k6, .ref k7, .ref k8, .int c9, .ref ka, .ref kb, .int cc, .int scd_3, .int ce, .int scf_4, .int scg_5, .int ch, .int ci, .int cj, .int ck, .ref kl, .int cm, .int cn, .ref ko])), (k0, .inl (cI, 1201, .inl c0))] := hD
  have lo_scd_3 := k_lo scd_3
  have hi_scd_3 := k_hi scd_3
  have lo_scg_5 := k_lo scg_5
  have hi_scg_5 := k_hi scg_5
  obtain ⟨h_7, h_8, h_9⟩ := w_2
  have h_7 : cd.toInt ≤ scd_3.toInt := h_7
  have h_8 : scd_3.toInt ≤ ce.toInt := h_8
  have h_9 : scg_5.toInt = 3 := h_9
  have lo_r_1 := k_lo r_1
  have hi_r_1 := k_hi r_1
  refine lv_istore_n (lv' := [(1, .int r_1), (0, .ref k)]) hx hb dX11_product_4 rfl hl (by decide) rfl ?_
  clear hl
  intro ls hl
  have hloop_5 : ∀ (fu_ : Nat) (l5_1 : Int32) (f5_kd : Int32) (f5_kf : Int32) (f5_kg : Int32), scd_3.toInt ≤ f5_kd.toInt → scg_5.toInt ≤ f5_kg.toInt → f5_kg.toInt ≤ scg_5.toInt → f5_kd.toInt ≤ ce.toInt → (ce.toInt - f5_kd.toInt).toNat < fu_ → ∀ (ls : Array Slot) (H : Heap) (locs : List Loc), lv_has ls 4 [(1, .int l5_1), (0, .ref k)] → va_P D vwCl [(k, .inr (11, [.ref k0, .ref k1, .ref k2, .int c3, .ref k4, .ref k5, .ref k6, .ref k7, .ref k8, .int c9, .ref ka, .ref kb, .int cc, .int f5_kd, .int ce, .int f5_kf, .int f5_kg, .int ch, .int ci, .int cj, .int ck, .ref kl, .int cm, .int cn, .ref ko])), (k0, .inl (cI, 1201, .inl c0))] H → va_D A [(k, .inr (11, [.ref k0, .ref k1, .ref k2, .int c3, .ref k4, .ref k5, .ref k6, .ref k7, .ref k8, .int c9, .ref ka, .ref kb, .int cc, .int f5_kd, .int ce, .int f5_kf, .int f5_kg, .int ch, .int ci, .int cj, .int ck, .ref kl, .int cm, .int cn, .ref ko])), (k0, .inl (cI, 1201, .inl c0))] → va_S A s.heap H locs → W p l e ({ frames := 8, cells := 0, slots := 0, locals := 181 } : Room) s m args below meth c H locs 0 0 Q (F0 m 5 ls []) := by
    intro fu_; induction fu_ with
    | zero => intro l5_1 f5_kd f5_kf f5_kg i5_0 i5_1 i5_2 i5_3 hm; exact absurd hm (by omega)
    | succ fu_ ih5 =>
        intro l5_1 f5_kd f5_kf f5_kg i5_0 i5_1 i5_2 i5_3 hm ls H locs hl hP hD hS
        have lo_l5_1 := k_lo l5_1
        have hi_l5_1 := k_hi l5_1
        have lo_f5_kd := k_lo f5_kd
        have hi_f5_kd := k_hi f5_kd
        have lo_f5_kf := k_lo f5_kf
        have hi_f5_kf := k_hi f5_kf
        have lo_f5_kg := k_lo f5_kg
        have hi_f5_kg := k_hi f5_kg
        refine lv_aload_n hx hb dX11_product_5 rfl (lv_at hl 1 rfl) ?_
        refine va_get (D := D) (ci := 11) (v := .int f5_kf) (C := RX11) (T := TX11) (N := 25) hx hb hT giX11 hown hK hP 0 rfl rfl 15 (by decide) (hT (Cond.fieldLink RX11 148 "DesertWireModel" "isWrong" "Z") mw_1171) (fun _ h9 => h9) rfl dX11_product_6 ?_
        refine b_if_ne hx hb rfl (tgt := 85) dX11_product_9 (by decide) (fun c_10 => ?_) (fun c_10 => ?_)
        · refine lv_iload_n hx hb dX11_product_85 rfl (lv_at hl 0 rfl) ?_
          exact hRet (f5_kd, f5_kf, f5_kg) [0, 1] ⟨(by first | omega | decide | assumption | rfl | (dsimp only; first | omega)), (by first | omega | decide | assumption | rfl | (dsimp only; first | omega)), (by first | omega | decide | assumption | rfl | (dsimp only; first | omega))⟩ hP hD (by decide) rfl hS rfl dX11_product_86
        · refine lv_aload_n hx hb dX11_product_12 rfl (lv_at hl 1 rfl) ?_
          refine kJi (wr := []) (va_runV (As := []) (rest := []) ⟨hx, hb, hml, hown, hT⟩ (c_X11_nowG l D cI aK aV k k0 k1 k2 k4 k5 k6 k7 k8 ka kb kl ko H.size c3 c9 cc f5_kd ce f5_kf f5_kg ch ci cj ck cm cn c0 (by first | omega | decide | assumption | rfl) (by first | omega | decide | assumption | rfl) (by first | omega | decide | assumption | rfl) (by first | omega | decide | assumption | rfl) (by first | omega | decide | assumption | rfl)) (cwV 0 hT (gV_in mw_1339 mw_1336 mw_1338 mw_p4_9 mw_12) rfl rfl rfl (by decide +kernel) ⟨Nat.le_of_ble_eq_true rfl, Nat.le_of_ble_eq_true rfl⟩) (kRecvX (q0 := 0) (ci := 11) hK hP hD hN hXS hS hA rfl rfl [0, 1] rfl (by decide)) rfl rfl hl.1 rfl (lv_room (Nat.le_of_ble_eq_true rfl)) dX11_product_13 ⟨Nat.le_of_ble_eq_true rfl, Nat.le_of_ble_eq_true rfl⟩) hP hD hS hA [0, 1] [] rfl rfl (by decide) (by decide) ?_
          clear hP hD hS
          intro r_11 u_13 H locs w_12 hP hD hS
          replace hP : va_P D vwCl [(k, .inr (11, [.ref k0, .ref k1, .ref k2, .int c3, .ref k4, .ref k5, .ref k6, .ref k7, .ref k8, .int c9, .ref ka, .ref kb, .int cc, .int f5_kd, .int ce, .int f5_kf, .int f5_kg, .int ch, .int ci, .int cj, .int ck, .ref kl, .int cm, .int cn, .ref ko])), (k0, .inl (cI, 1201, .inl c0))] H := hP
          replace hD : va_D A [(k, .inr (11, [.ref k0, .ref k1, .ref k2, .int c3, .ref k4, .ref k5, .ref k6, .ref k7, .ref k8, .int c9, .ref ka, .ref kb, .int cc, .int f5_kd, .int ce, .int f5_kf, .int f5_kg, .int ch, .int ci, .int cj, .int ck, .ref kl, .int cm, .int cn, .ref ko])), (k0, .inl (cI, 1201, .inl c0))] := hD
          rcases w_12 with h_14 | ⟨hr_11, h_15⟩
          · have h_14 : f5_kd.toInt < ce.toInt := h_14
            have lo_r_11 := k_lo r_11
            have hi_r_11 := k_hi r_11
            refine lv_bipush (v := 42) hx hb dX11_product_16 (by decide) ?_
            refine b_icmp_eq hx hb rfl zl_42 (tgt := 30) dX11_product_18 (by decide) (fun c_16 => ?_) (fun c_16 => ?_)
            · refine lv_aload_n hx hb dX11_product_30 rfl (lv_at hl 1 rfl) ?_
              refine kJi (wr := []) (va_runV (As := []) (rest := []) ⟨hx, hb, hml, hown, hT⟩ (c_X11_nowG l D cI aK aV k k0 k1 k2 k4 k5 k6 k7 k8 ka kb kl ko H.size c3 c9 cc f5_kd ce f5_kf f5_kg ch ci cj ck cm cn c0 (by first | omega | decide | assumption | rfl) (by first | omega | decide | assumption | rfl) (by first | omega | decide | assumption | rfl) (by first | omega | decide | assumption | rfl) (by first | omega | decide | assumption | rfl)) (cwV 0 hT (gV_in mw_1339 mw_1336 mw_1338 mw_p4_9 mw_12) rfl rfl rfl (by decide +kernel) ⟨Nat.le_of_ble_eq_true rfl, Nat.le_of_ble_eq_true rfl⟩) (kRecvX (q0 := 0) (ci := 11) hK hP hD hN hXS hS hA rfl rfl [0, 1] rfl (by decide)) rfl rfl hl.1 rfl (lv_room (Nat.le_of_ble_eq_true rfl)) dX11_product_31 ⟨Nat.le_of_ble_eq_true rfl, Nat.le_of_ble_eq_true rfl⟩) hP hD hS hA [0, 1] [] rfl rfl (by decide) (by decide) ?_
              clear hP hD hS
              intro r_17 u_19 H locs w_18 hP hD hS
              replace hP : va_P D vwCl [(k, .inr (11, [.ref k0, .ref k1, .ref k2, .int c3, .ref k4, .ref k5, .ref k6, .ref k7, .ref k8, .int c9, .ref ka, .ref kb, .int cc, .int f5_kd, .int ce, .int f5_kf, .int f5_kg, .int ch, .int ci, .int cj, .int ck, .ref kl, .int cm, .int cn, .ref ko])), (k0, .inl (cI, 1201, .inl c0))] H := hP
              replace hD : va_D A [(k, .inr (11, [.ref k0, .ref k1, .ref k2, .int c3, .ref k4, .ref k5, .ref k6, .ref k7, .ref k8, .int c9, .ref ka, .ref kb, .int cc, .int f5_kd, .int ce, .int f5_kf, .int f5_kg, .int ch, .int ci, .int cj, .int ck, .ref kl, .int cm, .int cn, .ref ko])), (k0, .inl (cI, 1201, .inl c0))] := hD
              rcases w_18 with h_20 | ⟨hr_17, h_21⟩
              · have h_20 : f5_kd.toInt < ce.toInt := h_20
                have lo_r_17 := k_lo r_17
                have hi_r_17 := k_hi r_17
                refine lv_bipush (v := 42) hx hb dX11_product_34 (by decide) ?_
                refine b_icmp_ne hx hb rfl zl_42 (tgt := 43) dX11_product_36 (by decide) (fun c_22 => ?_) (fun c_22 => ?_)
                · refine lv_iconst (v := 0) hx hb dX11_product_43 (by decide) ?_
                  refine lv_istore_n (lv' := [(2, .int 0), (1, .int l5_1), (0, .ref k)]) hx hb dX11_product_44 rfl hl (by decide) rfl ?_
                  clear hl
                  intro ls hl
                  refine lv_aload_n hx hb dX11_product_45 rfl (lv_at hl 2 rfl) ?_
                  refine lv_dup hx hb dX11_product_46 rfl ?_
                  refine va_get (D := D) (ci := 11) (v := .int f5_kd) (C := RX11) (T := TX11) (N := 25) hx hb hT giX11 hown hK hP 0 rfl rfl 13 (by decide) (hT (Cond.fieldLink RX11 138 "DesertWireModel" "here" "I") mw_1169) (fun _ h9 => h9) rfl dX11_product_47 ?_
                  refine lv_iconst (v := 1) hx hb dX11_product_50 (by decide) ?_
                  refine lv_iadd hx hb dX11_product_51 ?_
                  refine lv_topi (fun v_23 ev_23 => ?_)
                  have tv_23 : v_23.toInt = f5_kd.toInt + 1 := by rw [ev_23]; exact k_addv rfl zl_1 (by omega) (by omega)
                  refine va_put (D := D) (ci := 11) (v := .int v_23) (ty := .int) (C := RX11) (T := TX11) (N := 25) hx hb hT giX11 tyX11 tyX11_ok nmX11 hown hK hP hD hS 0 rfl rfl 13 (by decide) (hT (Cond.fieldLink RX11 138 "DesertWireModel" "here" "I") mw_1169) (fun _ h9 => h9) rfl (by decide +kernel) rfl rfl (Nat.le_of_ble_eq_true rfl) dX11_product_52 ?_
                  clear hP hD hS
                  intro H locs hP hD hS
                  replace hP : va_P D vwCl [(k, .inr (11, [.ref k0, .ref k1, .ref k2, .int c3, .ref k4, .ref k5, .ref k6, .ref k7, .ref k8, .int c9, .ref ka, .ref kb, .int cc, .int v_23, .int ce, .int f5_kf, .int f5_kg, .int ch, .int ci, .int cj, .int ck, .ref kl, .int cm, .int cn, .ref ko])), (k0, .inl (cI, 1201, .inl c0))] H := hP
                  replace hD : va_D A [(k, .inr (11, [.ref k0, .ref k1, .ref k2, .int c3, .ref k4, .ref k5, .ref k6, .ref k7, .ref k8, .int c9, .ref ka, .ref kb, .int cc, .int v_23, .int ce, .int f5_kf, .int f5_kg, .int ch, .int ci, .int cj, .int ck, .ref kl, .int cm, .int cn, .ref ko])), (k0, .inl (cI, 1201, .inl c0))] := hD
                  refine lv_aload_n hx hb dX11_product_55 rfl (lv_at hl 2 rfl) ?_
                  refine kJi (wr := []) (va_runV (As := []) (rest := []) ⟨hx, hb, hml, hown, hT⟩ (c_X11_oneG3 l D cI aK aV k k0 k1 k2 k4 k5 k6 k7 k8 ka kb kl ko H.size c3 c9 cc v_23 ce f5_kf f5_kg ch ci cj ck cm cn c0 (by first | omega | decide | assumption | rfl) (by first | omega | decide | assumption | rfl) (by first | omega | decide | assumption | rfl) (by first | omega | decide | assumption | rfl) (by first | omega | decide | assumption | rfl) (by first | omega | decide | assumption | rfl)) (cwV 0 hT (gV_in mw_1335 mw_1332 mw_1334 mw_p4_8 mw_12) rfl rfl rfl (by decide +kernel) ⟨Nat.le_of_ble_eq_true rfl, Nat.le_of_ble_eq_true rfl⟩) (kRecvX (q0 := 0) (ci := 11) hK hP hD hN hXS hS hA rfl rfl [0, 1] rfl (by decide)) rfl rfl hl.1 rfl (lv_room (Nat.le_of_ble_eq_true rfl)) dX11_product_56 ⟨Nat.le_of_ble_eq_true rfl, Nat.le_of_ble_eq_true rfl⟩) hP hD hS hA [0, 1] [] rfl rfl (by decide) (by decide) ?_
                  clear hP hD hS
                  intro r_24 u_29 H locs w_25 hP hD hS
                  obtain ⟨scd_26, scf_27, scg_28⟩ := u_29
                  replace hP : va_P D vwCl [(k, .inr (11, [.ref k0, .ref k1, .ref k2, .int c3, .ref k4, .ref k5, .ref k6, .ref k7, .ref k8, .int c9, .ref ka, .ref kb, .int cc, .int scd_26, .int ce, .int scf_27, .int scg_28, .int ch, .int ci, .int cj, .int ck, .ref kl, .int cm, .int cn, .ref ko])), (k0, .inl (cI, 1201, .inl c0))] H := hP
                  replace hD : va_D A [(k, .inr (11, [.ref k0, .ref k1, .ref k2, .int c3, .ref k4, .ref k5, .ref k6, .ref k7, .ref k8, .int c9, .ref ka, .ref kb, .int cc, .int scd_26, .int ce, .int scf_27, .int scg_28, .int ch, .int ci, .int cj, .int ck, .ref kl, .int cm, .int cn, .ref ko])), (k0, .inl (cI, 1201, .inl c0))] := hD
                  have lo_scd_26 := k_lo scd_26
                  have hi_scd_26 := k_hi scd_26
                  have lo_scg_28 := k_lo scg_28
                  have hi_scg_28 := k_hi scg_28
                  obtain ⟨h_30, h_31, h_32⟩ := w_25
                  have h_30 : v_23.toInt ≤ scd_26.toInt := h_30
                  have h_31 : scd_26.toInt ≤ ce.toInt := h_31
                  have h_32 : scg_28.toInt = 3 := h_32
                  have lo_r_24 := k_lo r_24
                  have hi_r_24 := k_hi r_24
                  refine lv_istore_n (lv' := [(3, .int r_24), (2, .int 0), (1, .int l5_1), (0, .ref k)]) hx hb dX11_product_59 rfl hl (by decide) rfl ?_
                  clear hl
                  intro ls hl
                  refine lv_iload_n hx hb dX11_product_60 rfl (lv_at hl 1 rfl) ?_
                  refine b_if_eq hx hb zl_0 (tgt := 70) dX11_product_61 (by decide) (fun c_33 => ?_) (fun c_33 => by exfalso; omega)
                  refine lv_iload_n hx hb dX11_product_70 rfl (lv_at hl 0 rfl) ?_
                  refine b_if_ne hx hb rfl (tgt := 78) dX11_product_71 (by decide) (fun c_34 => ?_) (fun c_34 => ?_)
                  · refine lv_iload_n hx hb dX11_product_78 rfl (lv_at hl 2 rfl) ?_
                    refine lv_iload_n hx hb dX11_product_79 rfl (lv_at hl 0 rfl) ?_
                    refine lv_irem hx hb dX11_product_80 (k_ne0 (by omega)) ?_
                    refine lv_topi (fun v_35 ev_35 => ?_)
                    have lo_v_35 := k_lo v_35
                    have hi_v_35 := k_hi v_35
                    refine lv_istore_n (lv' := [(1, .int v_35), (3, .int r_24), (2, .int 0), (0, .ref k)]) hx hb dX11_product_81 rfl hl (by decide) rfl ?_
                    clear hl
                    intro ls hl
                    refine lv_goto (tgt := 5) hx hb dX11_product_82 (by decide) ?_
                    exact ih5 v_35 scd_26 scf_27 scg_28 (by first | omega | decide | assumption | rfl) (by first | omega | decide | assumption | rfl) (by first | omega | decide | assumption | rfl) (by first | omega | decide | assumption | rfl) (by omega) ls _ _ (lv_sub hl [0, 3] rfl) (hP.sub [0, 1] rfl) (hD.sub [0, 1] (by decide) rfl) hS
                  · refine lv_iconst (v := 0) hx hb dX11_product_74 (by decide) ?_
                    refine lv_goto (tgt := 81) hx hb dX11_product_75 (by decide) ?_
                    refine lv_istore_n (lv' := [(1, .int 0), (3, .int r_24), (2, .int 0), (0, .ref k)]) hx hb dX11_product_81 rfl hl (by decide) rfl ?_
                    clear hl
                    intro ls hl
                    refine lv_goto (tgt := 5) hx hb dX11_product_82 (by decide) ?_
                    exact ih5 0 scd_26 scf_27 scg_28 (by first | omega | (simp only [zl_0] <;> omega) | decide | assumption | rfl) (by first | omega | (simp only [zl_0] <;> omega) | decide | assumption | rfl) (by first | omega | (simp only [zl_0] <;> omega) | decide | assumption | rfl) (by first | omega | (simp only [zl_0] <;> omega) | decide | assumption | rfl) (by omega) ls _ _ (lv_sub hl [0, 3] rfl) (hP.sub [0, 1] rfl) (hD.sub [0, 1] (by decide) rfl) hS
                · refine lv_iconst (v := 1) hx hb dX11_product_39 (by decide) ?_
                  refine lv_goto (tgt := 44) hx hb dX11_product_40 (by decide) ?_
                  refine lv_istore_n (lv' := [(2, .int 1), (1, .int l5_1), (0, .ref k)]) hx hb dX11_product_44 rfl hl (by decide) rfl ?_
                  clear hl
                  intro ls hl
                  refine lv_aload_n hx hb dX11_product_45 rfl (lv_at hl 2 rfl) ?_
                  refine lv_dup hx hb dX11_product_46 rfl ?_
                  refine va_get (D := D) (ci := 11) (v := .int f5_kd) (C := RX11) (T := TX11) (N := 25) hx hb hT giX11 hown hK hP 0 rfl rfl 13 (by decide) (hT (Cond.fieldLink RX11 138 "DesertWireModel" "here" "I") mw_1169) (fun _ h9 => h9) rfl dX11_product_47 ?_
                  refine lv_iconst (v := 1) hx hb dX11_product_50 (by decide) ?_
                  refine lv_iadd hx hb dX11_product_51 ?_
                  refine lv_topi (fun v_36 ev_36 => ?_)
                  have tv_36 : v_36.toInt = f5_kd.toInt + 1 := by rw [ev_36]; exact k_addv rfl zl_1 (by omega) (by omega)
                  refine va_put (D := D) (ci := 11) (v := .int v_36) (ty := .int) (C := RX11) (T := TX11) (N := 25) hx hb hT giX11 tyX11 tyX11_ok nmX11 hown hK hP hD hS 0 rfl rfl 13 (by decide) (hT (Cond.fieldLink RX11 138 "DesertWireModel" "here" "I") mw_1169) (fun _ h9 => h9) rfl (by decide +kernel) rfl rfl (Nat.le_of_ble_eq_true rfl) dX11_product_52 ?_
                  clear hP hD hS
                  intro H locs hP hD hS
                  replace hP : va_P D vwCl [(k, .inr (11, [.ref k0, .ref k1, .ref k2, .int c3, .ref k4, .ref k5, .ref k6, .ref k7, .ref k8, .int c9, .ref ka, .ref kb, .int cc, .int v_36, .int ce, .int f5_kf, .int f5_kg, .int ch, .int ci, .int cj, .int ck, .ref kl, .int cm, .int cn, .ref ko])), (k0, .inl (cI, 1201, .inl c0))] H := hP
                  replace hD : va_D A [(k, .inr (11, [.ref k0, .ref k1, .ref k2, .int c3, .ref k4, .ref k5, .ref k6, .ref k7, .ref k8, .int c9, .ref ka, .ref kb, .int cc, .int v_36, .int ce, .int f5_kf, .int f5_kg, .int ch, .int ci, .int cj, .int ck, .ref kl, .int cm, .int cn, .ref ko])), (k0, .inl (cI, 1201, .inl c0))] := hD
                  refine lv_aload_n hx hb dX11_product_55 rfl (lv_at hl 2 rfl) ?_
                  refine kJi (wr := []) (va_runV (As := []) (rest := []) ⟨hx, hb, hml, hown, hT⟩ (c_X11_oneG3 l D cI aK aV k k0 k1 k2 k4 k5 k6 k7 k8 ka kb kl ko H.size c3 c9 cc v_36 ce f5_kf f5_kg ch ci cj ck cm cn c0 (by first | omega | decide | assumption | rfl) (by first | omega | decide | assumption | rfl) (by first | omega | decide | assumption | rfl) (by first | omega | decide | assumption | rfl) (by first | omega | decide | assumption | rfl) (by first | omega | decide | assumption | rfl)) (cwV 0 hT (gV_in mw_1335 mw_1332 mw_1334 mw_p4_8 mw_12) rfl rfl rfl (by decide +kernel) ⟨Nat.le_of_ble_eq_true rfl, Nat.le_of_ble_eq_true rfl⟩) (kRecvX (q0 := 0) (ci := 11) hK hP hD hN hXS hS hA rfl rfl [0, 1] rfl (by decide)) rfl rfl hl.1 rfl (lv_room (Nat.le_of_ble_eq_true rfl)) dX11_product_56 ⟨Nat.le_of_ble_eq_true rfl, Nat.le_of_ble_eq_true rfl⟩) hP hD hS hA [0, 1] [] rfl rfl (by decide) (by decide) ?_
                  clear hP hD hS
                  intro r_37 u_42 H locs w_38 hP hD hS
                  obtain ⟨scd_39, scf_40, scg_41⟩ := u_42
                  replace hP : va_P D vwCl [(k, .inr (11, [.ref k0, .ref k1, .ref k2, .int c3, .ref k4, .ref k5, .ref k6, .ref k7, .ref k8, .int c9, .ref ka, .ref kb, .int cc, .int scd_39, .int ce, .int scf_40, .int scg_41, .int ch, .int ci, .int cj, .int ck, .ref kl, .int cm, .int cn, .ref ko])), (k0, .inl (cI, 1201, .inl c0))] H := hP
                  replace hD : va_D A [(k, .inr (11, [.ref k0, .ref k1, .ref k2, .int c3, .ref k4, .ref k5, .ref k6, .ref k7, .ref k8, .int c9, .ref ka, .ref kb, .int cc, .int scd_39, .int ce, .int scf_40, .int scg_41, .int ch, .int ci, .int cj, .int ck, .ref kl, .int cm, .int cn, .ref ko])), (k0, .inl (cI, 1201, .inl c0))] := hD
                  have lo_scd_39 := k_lo scd_39
                  have hi_scd_39 := k_hi scd_39
                  have lo_scg_41 := k_lo scg_41
                  have hi_scg_41 := k_hi scg_41
                  obtain ⟨h_43, h_44, h_45⟩ := w_38
                  have h_43 : v_36.toInt ≤ scd_39.toInt := h_43
                  have h_44 : scd_39.toInt ≤ ce.toInt := h_44
                  have h_45 : scg_41.toInt = 3 := h_45
                  have lo_r_37 := k_lo r_37
                  have hi_r_37 := k_hi r_37
                  refine lv_istore_n (lv' := [(3, .int r_37), (2, .int 1), (1, .int l5_1), (0, .ref k)]) hx hb dX11_product_59 rfl hl (by decide) rfl ?_
                  clear hl
                  intro ls hl
                  refine lv_iload_n hx hb dX11_product_60 rfl (lv_at hl 1 rfl) ?_
                  refine b_if_eq hx hb zl_1 (tgt := 70) dX11_product_61 (by decide) (fun c_46 => by exfalso; omega) (fun c_46 => ?_)
                  refine lv_iload_n hx hb dX11_product_64 rfl (lv_at hl 2 rfl) ?_
                  refine lv_iload_n hx hb dX11_product_65 rfl (lv_at hl 0 rfl) ?_
                  refine lv_imul hx hb dX11_product_66 ?_
                  refine lv_topi (fun v_47 ev_47 => ?_)
                  have lo_v_47 := k_lo v_47
                  have hi_v_47 := k_hi v_47
                  refine lv_goto (tgt := 81) hx hb dX11_product_67 (by decide) ?_
                  refine lv_istore_n (lv' := [(1, .int v_47), (3, .int r_37), (2, .int 1), (0, .ref k)]) hx hb dX11_product_81 rfl hl (by decide) rfl ?_
                  clear hl
                  intro ls hl
                  refine lv_goto (tgt := 5) hx hb dX11_product_82 (by decide) ?_
                  exact ih5 v_47 scd_39 scf_40 scg_41 (by first | omega | decide | assumption | rfl) (by first | omega | decide | assumption | rfl) (by first | omega | decide | assumption | rfl) (by first | omega | decide | assumption | rfl) (by omega) ls _ _ (lv_sub hl [0, 3] rfl) (hP.sub [0, 1] rfl) (hD.sub [0, 1] (by decide) rfl) hS
              · exfalso; omega
            · refine lv_aload_n hx hb dX11_product_21 rfl (lv_at hl 1 rfl) ?_
              refine kJi (wr := []) (va_runV (As := []) (rest := []) ⟨hx, hb, hml, hown, hT⟩ (c_X11_nowG l D cI aK aV k k0 k1 k2 k4 k5 k6 k7 k8 ka kb kl ko H.size c3 c9 cc f5_kd ce f5_kf f5_kg ch ci cj ck cm cn c0 (by first | omega | decide | assumption | rfl) (by first | omega | decide | assumption | rfl) (by first | omega | decide | assumption | rfl) (by first | omega | decide | assumption | rfl) (by first | omega | decide | assumption | rfl)) (cwV 0 hT (gV_in mw_1339 mw_1336 mw_1338 mw_p4_9 mw_12) rfl rfl rfl (by decide +kernel) ⟨Nat.le_of_ble_eq_true rfl, Nat.le_of_ble_eq_true rfl⟩) (kRecvX (q0 := 0) (ci := 11) hK hP hD hN hXS hS hA rfl rfl [0, 1] rfl (by decide)) rfl rfl hl.1 rfl (lv_room (Nat.le_of_ble_eq_true rfl)) dX11_product_22 ⟨Nat.le_of_ble_eq_true rfl, Nat.le_of_ble_eq_true rfl⟩) hP hD hS hA [0, 1] [] rfl rfl (by decide) (by decide) ?_
              clear hP hD hS
              intro r_48 u_50 H locs w_49 hP hD hS
              replace hP : va_P D vwCl [(k, .inr (11, [.ref k0, .ref k1, .ref k2, .int c3, .ref k4, .ref k5, .ref k6, .ref k7, .ref k8, .int c9, .ref ka, .ref kb, .int cc, .int f5_kd, .int ce, .int f5_kf, .int f5_kg, .int ch, .int ci, .int cj, .int ck, .ref kl, .int cm, .int cn, .ref ko])), (k0, .inl (cI, 1201, .inl c0))] H := hP
              replace hD : va_D A [(k, .inr (11, [.ref k0, .ref k1, .ref k2, .int c3, .ref k4, .ref k5, .ref k6, .ref k7, .ref k8, .int c9, .ref ka, .ref kb, .int cc, .int f5_kd, .int ce, .int f5_kf, .int f5_kg, .int ch, .int ci, .int cj, .int ck, .ref kl, .int cm, .int cn, .ref ko])), (k0, .inl (cI, 1201, .inl c0))] := hD
              rcases w_49 with h_51 | ⟨hr_48, h_52⟩
              · have h_51 : f5_kd.toInt < ce.toInt := h_51
                have lo_r_48 := k_lo r_48
                have hi_r_48 := k_hi r_48
                refine lv_bipush (v := 37) hx hb dX11_product_25 (by decide) ?_
                refine b_icmp_ne hx hb rfl zl_37 (tgt := 85) dX11_product_27 (by decide) (fun c_53 => ?_) (fun c_53 => ?_)
                · refine lv_iload_n hx hb dX11_product_85 rfl (lv_at hl 0 rfl) ?_
                  exact hRet (f5_kd, f5_kf, f5_kg) [0, 1] ⟨(by first | omega | decide | assumption | rfl | (dsimp only; first | omega)), (by first | omega | decide | assumption | rfl | (dsimp only; first | omega)), (by first | omega | decide | assumption | rfl | (dsimp only; first | omega))⟩ hP hD (by decide) rfl hS rfl dX11_product_86
                · refine lv_aload_n hx hb dX11_product_30 rfl (lv_at hl 1 rfl) ?_
                  refine kJi (wr := []) (va_runV (As := []) (rest := []) ⟨hx, hb, hml, hown, hT⟩ (c_X11_nowG l D cI aK aV k k0 k1 k2 k4 k5 k6 k7 k8 ka kb kl ko H.size c3 c9 cc f5_kd ce f5_kf f5_kg ch ci cj ck cm cn c0 (by first | omega | decide | assumption | rfl) (by first | omega | decide | assumption | rfl) (by first | omega | decide | assumption | rfl) (by first | omega | decide | assumption | rfl) (by first | omega | decide | assumption | rfl)) (cwV 0 hT (gV_in mw_1339 mw_1336 mw_1338 mw_p4_9 mw_12) rfl rfl rfl (by decide +kernel) ⟨Nat.le_of_ble_eq_true rfl, Nat.le_of_ble_eq_true rfl⟩) (kRecvX (q0 := 0) (ci := 11) hK hP hD hN hXS hS hA rfl rfl [0, 1] rfl (by decide)) rfl rfl hl.1 rfl (lv_room (Nat.le_of_ble_eq_true rfl)) dX11_product_31 ⟨Nat.le_of_ble_eq_true rfl, Nat.le_of_ble_eq_true rfl⟩) hP hD hS hA [0, 1] [] rfl rfl (by decide) (by decide) ?_
                  clear hP hD hS
                  intro r_54 u_56 H locs w_55 hP hD hS
                  replace hP : va_P D vwCl [(k, .inr (11, [.ref k0, .ref k1, .ref k2, .int c3, .ref k4, .ref k5, .ref k6, .ref k7, .ref k8, .int c9, .ref ka, .ref kb, .int cc, .int f5_kd, .int ce, .int f5_kf, .int f5_kg, .int ch, .int ci, .int cj, .int ck, .ref kl, .int cm, .int cn, .ref ko])), (k0, .inl (cI, 1201, .inl c0))] H := hP
                  replace hD : va_D A [(k, .inr (11, [.ref k0, .ref k1, .ref k2, .int c3, .ref k4, .ref k5, .ref k6, .ref k7, .ref k8, .int c9, .ref ka, .ref kb, .int cc, .int f5_kd, .int ce, .int f5_kf, .int f5_kg, .int ch, .int ci, .int cj, .int ck, .ref kl, .int cm, .int cn, .ref ko])), (k0, .inl (cI, 1201, .inl c0))] := hD
                  rcases w_55 with h_57 | ⟨hr_54, h_58⟩
                  · have h_57 : f5_kd.toInt < ce.toInt := h_57
                    have lo_r_54 := k_lo r_54
                    have hi_r_54 := k_hi r_54
                    refine lv_bipush (v := 42) hx hb dX11_product_34 (by decide) ?_
                    refine b_icmp_ne hx hb rfl zl_42 (tgt := 43) dX11_product_36 (by decide) (fun c_59 => ?_) (fun c_59 => ?_)
                    · refine lv_iconst (v := 0) hx hb dX11_product_43 (by decide) ?_
                      refine lv_istore_n (lv' := [(2, .int 0), (1, .int l5_1), (0, .ref k)]) hx hb dX11_product_44 rfl hl (by decide) rfl ?_
                      clear hl
                      intro ls hl
                      refine lv_aload_n hx hb dX11_product_45 rfl (lv_at hl 2 rfl) ?_
                      refine lv_dup hx hb dX11_product_46 rfl ?_
                      refine va_get (D := D) (ci := 11) (v := .int f5_kd) (C := RX11) (T := TX11) (N := 25) hx hb hT giX11 hown hK hP 0 rfl rfl 13 (by decide) (hT (Cond.fieldLink RX11 138 "DesertWireModel" "here" "I") mw_1169) (fun _ h9 => h9) rfl dX11_product_47 ?_
                      refine lv_iconst (v := 1) hx hb dX11_product_50 (by decide) ?_
                      refine lv_iadd hx hb dX11_product_51 ?_
                      refine lv_topi (fun v_60 ev_60 => ?_)
                      have tv_60 : v_60.toInt = f5_kd.toInt + 1 := by rw [ev_60]; exact k_addv rfl zl_1 (by omega) (by omega)
                      refine va_put (D := D) (ci := 11) (v := .int v_60) (ty := .int) (C := RX11) (T := TX11) (N := 25) hx hb hT giX11 tyX11 tyX11_ok nmX11 hown hK hP hD hS 0 rfl rfl 13 (by decide) (hT (Cond.fieldLink RX11 138 "DesertWireModel" "here" "I") mw_1169) (fun _ h9 => h9) rfl (by decide +kernel) rfl rfl (Nat.le_of_ble_eq_true rfl) dX11_product_52 ?_
                      clear hP hD hS
                      intro H locs hP hD hS
                      replace hP : va_P D vwCl [(k, .inr (11, [.ref k0, .ref k1, .ref k2, .int c3, .ref k4, .ref k5, .ref k6, .ref k7, .ref k8, .int c9, .ref ka, .ref kb, .int cc, .int v_60, .int ce, .int f5_kf, .int f5_kg, .int ch, .int ci, .int cj, .int ck, .ref kl, .int cm, .int cn, .ref ko])), (k0, .inl (cI, 1201, .inl c0))] H := hP
                      replace hD : va_D A [(k, .inr (11, [.ref k0, .ref k1, .ref k2, .int c3, .ref k4, .ref k5, .ref k6, .ref k7, .ref k8, .int c9, .ref ka, .ref kb, .int cc, .int v_60, .int ce, .int f5_kf, .int f5_kg, .int ch, .int ci, .int cj, .int ck, .ref kl, .int cm, .int cn, .ref ko])), (k0, .inl (cI, 1201, .inl c0))] := hD
                      refine lv_aload_n hx hb dX11_product_55 rfl (lv_at hl 2 rfl) ?_
                      refine kJi (wr := []) (va_runV (As := []) (rest := []) ⟨hx, hb, hml, hown, hT⟩ (c_X11_oneG3 l D cI aK aV k k0 k1 k2 k4 k5 k6 k7 k8 ka kb kl ko H.size c3 c9 cc v_60 ce f5_kf f5_kg ch ci cj ck cm cn c0 (by first | omega | decide | assumption | rfl) (by first | omega | decide | assumption | rfl) (by first | omega | decide | assumption | rfl) (by first | omega | decide | assumption | rfl) (by first | omega | decide | assumption | rfl) (by first | omega | decide | assumption | rfl)) (cwV 0 hT (gV_in mw_1335 mw_1332 mw_1334 mw_p4_8 mw_12) rfl rfl rfl (by decide +kernel) ⟨Nat.le_of_ble_eq_true rfl, Nat.le_of_ble_eq_true rfl⟩) (kRecvX (q0 := 0) (ci := 11) hK hP hD hN hXS hS hA rfl rfl [0, 1] rfl (by decide)) rfl rfl hl.1 rfl (lv_room (Nat.le_of_ble_eq_true rfl)) dX11_product_56 ⟨Nat.le_of_ble_eq_true rfl, Nat.le_of_ble_eq_true rfl⟩) hP hD hS hA [0, 1] [] rfl rfl (by decide) (by decide) ?_
                      clear hP hD hS
                      intro r_61 u_66 H locs w_62 hP hD hS
                      obtain ⟨scd_63, scf_64, scg_65⟩ := u_66
                      replace hP : va_P D vwCl [(k, .inr (11, [.ref k0, .ref k1, .ref k2, .int c3, .ref k4, .ref k5, .ref k6, .ref k7, .ref k8, .int c9, .ref ka, .ref kb, .int cc, .int scd_63, .int ce, .int scf_64, .int scg_65, .int ch, .int ci, .int cj, .int ck, .ref kl, .int cm, .int cn, .ref ko])), (k0, .inl (cI, 1201, .inl c0))] H := hP
                      replace hD : va_D A [(k, .inr (11, [.ref k0, .ref k1, .ref k2, .int c3, .ref k4, .ref k5, .ref k6, .ref k7, .ref k8, .int c9, .ref ka, .ref kb, .int cc, .int scd_63, .int ce, .int scf_64, .int scg_65, .int ch, .int ci, .int cj, .int ck, .ref kl, .int cm, .int cn, .ref ko])), (k0, .inl (cI, 1201, .inl c0))] := hD
                      have lo_scd_63 := k_lo scd_63
                      have hi_scd_63 := k_hi scd_63
                      have lo_scg_65 := k_lo scg_65
                      have hi_scg_65 := k_hi scg_65
                      obtain ⟨h_67, h_68, h_69⟩ := w_62
                      have h_67 : v_60.toInt ≤ scd_63.toInt := h_67
                      have h_68 : scd_63.toInt ≤ ce.toInt := h_68
                      have h_69 : scg_65.toInt = 3 := h_69
                      have lo_r_61 := k_lo r_61
                      have hi_r_61 := k_hi r_61
                      refine lv_istore_n (lv' := [(3, .int r_61), (2, .int 0), (1, .int l5_1), (0, .ref k)]) hx hb dX11_product_59 rfl hl (by decide) rfl ?_
                      clear hl
                      intro ls hl
                      refine lv_iload_n hx hb dX11_product_60 rfl (lv_at hl 1 rfl) ?_
                      refine b_if_eq hx hb zl_0 (tgt := 70) dX11_product_61 (by decide) (fun c_70 => ?_) (fun c_70 => by exfalso; omega)
                      refine lv_iload_n hx hb dX11_product_70 rfl (lv_at hl 0 rfl) ?_
                      refine b_if_ne hx hb rfl (tgt := 78) dX11_product_71 (by decide) (fun c_71 => ?_) (fun c_71 => ?_)
                      · refine lv_iload_n hx hb dX11_product_78 rfl (lv_at hl 2 rfl) ?_
                        refine lv_iload_n hx hb dX11_product_79 rfl (lv_at hl 0 rfl) ?_
                        refine lv_irem hx hb dX11_product_80 (k_ne0 (by omega)) ?_
                        refine lv_topi (fun v_72 ev_72 => ?_)
                        have lo_v_72 := k_lo v_72
                        have hi_v_72 := k_hi v_72
                        refine lv_istore_n (lv' := [(1, .int v_72), (3, .int r_61), (2, .int 0), (0, .ref k)]) hx hb dX11_product_81 rfl hl (by decide) rfl ?_
                        clear hl
                        intro ls hl
                        refine lv_goto (tgt := 5) hx hb dX11_product_82 (by decide) ?_
                        exact ih5 v_72 scd_63 scf_64 scg_65 (by first | omega | decide | assumption | rfl) (by first | omega | decide | assumption | rfl) (by first | omega | decide | assumption | rfl) (by first | omega | decide | assumption | rfl) (by omega) ls _ _ (lv_sub hl [0, 3] rfl) (hP.sub [0, 1] rfl) (hD.sub [0, 1] (by decide) rfl) hS
                      · refine lv_iconst (v := 0) hx hb dX11_product_74 (by decide) ?_
                        refine lv_goto (tgt := 81) hx hb dX11_product_75 (by decide) ?_
                        refine lv_istore_n (lv' := [(1, .int 0), (3, .int r_61), (2, .int 0), (0, .ref k)]) hx hb dX11_product_81 rfl hl (by decide) rfl ?_
                        clear hl
                        intro ls hl
                        refine lv_goto (tgt := 5) hx hb dX11_product_82 (by decide) ?_
                        exact ih5 0 scd_63 scf_64 scg_65 (by first | omega | (simp only [zl_0] <;> omega) | decide | assumption | rfl) (by first | omega | (simp only [zl_0] <;> omega) | decide | assumption | rfl) (by first | omega | (simp only [zl_0] <;> omega) | decide | assumption | rfl) (by first | omega | (simp only [zl_0] <;> omega) | decide | assumption | rfl) (by omega) ls _ _ (lv_sub hl [0, 3] rfl) (hP.sub [0, 1] rfl) (hD.sub [0, 1] (by decide) rfl) hS
                    · refine lv_iconst (v := 1) hx hb dX11_product_39 (by decide) ?_
                      refine lv_goto (tgt := 44) hx hb dX11_product_40 (by decide) ?_
                      refine lv_istore_n (lv' := [(2, .int 1), (1, .int l5_1), (0, .ref k)]) hx hb dX11_product_44 rfl hl (by decide) rfl ?_
                      clear hl
                      intro ls hl
                      refine lv_aload_n hx hb dX11_product_45 rfl (lv_at hl 2 rfl) ?_
                      refine lv_dup hx hb dX11_product_46 rfl ?_
                      refine va_get (D := D) (ci := 11) (v := .int f5_kd) (C := RX11) (T := TX11) (N := 25) hx hb hT giX11 hown hK hP 0 rfl rfl 13 (by decide) (hT (Cond.fieldLink RX11 138 "DesertWireModel" "here" "I") mw_1169) (fun _ h9 => h9) rfl dX11_product_47 ?_
                      refine lv_iconst (v := 1) hx hb dX11_product_50 (by decide) ?_
                      refine lv_iadd hx hb dX11_product_51 ?_
                      refine lv_topi (fun v_73 ev_73 => ?_)
                      have tv_73 : v_73.toInt = f5_kd.toInt + 1 := by rw [ev_73]; exact k_addv rfl zl_1 (by omega) (by omega)
                      refine va_put (D := D) (ci := 11) (v := .int v_73) (ty := .int) (C := RX11) (T := TX11) (N := 25) hx hb hT giX11 tyX11 tyX11_ok nmX11 hown hK hP hD hS 0 rfl rfl 13 (by decide) (hT (Cond.fieldLink RX11 138 "DesertWireModel" "here" "I") mw_1169) (fun _ h9 => h9) rfl (by decide +kernel) rfl rfl (Nat.le_of_ble_eq_true rfl) dX11_product_52 ?_
                      clear hP hD hS
                      intro H locs hP hD hS
                      replace hP : va_P D vwCl [(k, .inr (11, [.ref k0, .ref k1, .ref k2, .int c3, .ref k4, .ref k5, .ref k6, .ref k7, .ref k8, .int c9, .ref ka, .ref kb, .int cc, .int v_73, .int ce, .int f5_kf, .int f5_kg, .int ch, .int ci, .int cj, .int ck, .ref kl, .int cm, .int cn, .ref ko])), (k0, .inl (cI, 1201, .inl c0))] H := hP
                      replace hD : va_D A [(k, .inr (11, [.ref k0, .ref k1, .ref k2, .int c3, .ref k4, .ref k5, .ref k6, .ref k7, .ref k8, .int c9, .ref ka, .ref kb, .int cc, .int v_73, .int ce, .int f5_kf, .int f5_kg, .int ch, .int ci, .int cj, .int ck, .ref kl, .int cm, .int cn, .ref ko])), (k0, .inl (cI, 1201, .inl c0))] := hD
                      refine lv_aload_n hx hb dX11_product_55 rfl (lv_at hl 2 rfl) ?_
                      refine kJi (wr := []) (va_runV (As := []) (rest := []) ⟨hx, hb, hml, hown, hT⟩ (c_X11_oneG3 l D cI aK aV k k0 k1 k2 k4 k5 k6 k7 k8 ka kb kl ko H.size c3 c9 cc v_73 ce f5_kf f5_kg ch ci cj ck cm cn c0 (by first | omega | decide | assumption | rfl) (by first | omega | decide | assumption | rfl) (by first | omega | decide | assumption | rfl) (by first | omega | decide | assumption | rfl) (by first | omega | decide | assumption | rfl) (by first | omega | decide | assumption | rfl)) (cwV 0 hT (gV_in mw_1335 mw_1332 mw_1334 mw_p4_8 mw_12) rfl rfl rfl (by decide +kernel) ⟨Nat.le_of_ble_eq_true rfl, Nat.le_of_ble_eq_true rfl⟩) (kRecvX (q0 := 0) (ci := 11) hK hP hD hN hXS hS hA rfl rfl [0, 1] rfl (by decide)) rfl rfl hl.1 rfl (lv_room (Nat.le_of_ble_eq_true rfl)) dX11_product_56 ⟨Nat.le_of_ble_eq_true rfl, Nat.le_of_ble_eq_true rfl⟩) hP hD hS hA [0, 1] [] rfl rfl (by decide) (by decide) ?_
                      clear hP hD hS
                      intro r_74 u_79 H locs w_75 hP hD hS
                      obtain ⟨scd_76, scf_77, scg_78⟩ := u_79
                      replace hP : va_P D vwCl [(k, .inr (11, [.ref k0, .ref k1, .ref k2, .int c3, .ref k4, .ref k5, .ref k6, .ref k7, .ref k8, .int c9, .ref ka, .ref kb, .int cc, .int scd_76, .int ce, .int scf_77, .int scg_78, .int ch, .int ci, .int cj, .int ck, .ref kl, .int cm, .int cn, .ref ko])), (k0, .inl (cI, 1201, .inl c0))] H := hP
                      replace hD : va_D A [(k, .inr (11, [.ref k0, .ref k1, .ref k2, .int c3, .ref k4, .ref k5, .ref k6, .ref k7, .ref k8, .int c9, .ref ka, .ref kb, .int cc, .int scd_76, .int ce, .int scf_77, .int scg_78, .int ch, .int ci, .int cj, .int ck, .ref kl, .int cm, .int cn, .ref ko])), (k0, .inl (cI, 1201, .inl c0))] := hD
                      have lo_scd_76 := k_lo scd_76
                      have hi_scd_76 := k_hi scd_76
                      have lo_scg_78 := k_lo scg_78
                      have hi_scg_78 := k_hi scg_78
                      obtain ⟨h_80, h_81, h_82⟩ := w_75
                      have h_80 : v_73.toInt ≤ scd_76.toInt := h_80
                      have h_81 : scd_76.toInt ≤ ce.toInt := h_81
                      have h_82 : scg_78.toInt = 3 := h_82
                      have lo_r_74 := k_lo r_74
                      have hi_r_74 := k_hi r_74
                      refine lv_istore_n (lv' := [(3, .int r_74), (2, .int 1), (1, .int l5_1), (0, .ref k)]) hx hb dX11_product_59 rfl hl (by decide) rfl ?_
                      clear hl
                      intro ls hl
                      refine lv_iload_n hx hb dX11_product_60 rfl (lv_at hl 1 rfl) ?_
                      refine b_if_eq hx hb zl_1 (tgt := 70) dX11_product_61 (by decide) (fun c_83 => by exfalso; omega) (fun c_83 => ?_)
                      refine lv_iload_n hx hb dX11_product_64 rfl (lv_at hl 2 rfl) ?_
                      refine lv_iload_n hx hb dX11_product_65 rfl (lv_at hl 0 rfl) ?_
                      refine lv_imul hx hb dX11_product_66 ?_
                      refine lv_topi (fun v_84 ev_84 => ?_)
                      have lo_v_84 := k_lo v_84
                      have hi_v_84 := k_hi v_84
                      refine lv_goto (tgt := 81) hx hb dX11_product_67 (by decide) ?_
                      refine lv_istore_n (lv' := [(1, .int v_84), (3, .int r_74), (2, .int 1), (0, .ref k)]) hx hb dX11_product_81 rfl hl (by decide) rfl ?_
                      clear hl
                      intro ls hl
                      refine lv_goto (tgt := 5) hx hb dX11_product_82 (by decide) ?_
                      exact ih5 v_84 scd_76 scf_77 scg_78 (by first | omega | decide | assumption | rfl) (by first | omega | decide | assumption | rfl) (by first | omega | decide | assumption | rfl) (by first | omega | decide | assumption | rfl) (by omega) ls _ _ (lv_sub hl [0, 3] rfl) (hP.sub [0, 1] rfl) (hD.sub [0, 1] (by decide) rfl) hS
                  · exfalso; omega
              · exfalso; omega
          · have h_15 : f5_kd.toInt = ce.toInt := h_15
            obtain rfl : r_11 = (-1) := hr_11.trans (by decide)
            refine lv_bipush (v := 42) hx hb dX11_product_16 (by decide) ?_
            refine b_icmp_eq hx hb zl_m1 zl_42 (tgt := 30) dX11_product_18 (by decide) (fun c_85 => by exfalso; omega) (fun c_85 => ?_)
            refine lv_aload_n hx hb dX11_product_21 rfl (lv_at hl 1 rfl) ?_
            refine kJi (wr := []) (va_runV (As := []) (rest := []) ⟨hx, hb, hml, hown, hT⟩ (c_X11_nowG l D cI aK aV k k0 k1 k2 k4 k5 k6 k7 k8 ka kb kl ko H.size c3 c9 cc f5_kd ce f5_kf f5_kg ch ci cj ck cm cn c0 (by first | omega | decide | assumption | rfl) (by first | omega | decide | assumption | rfl) (by first | omega | decide | assumption | rfl) (by first | omega | decide | assumption | rfl) (by first | omega | decide | assumption | rfl)) (cwV 0 hT (gV_in mw_1339 mw_1336 mw_1338 mw_p4_9 mw_12) rfl rfl rfl (by decide +kernel) ⟨Nat.le_of_ble_eq_true rfl, Nat.le_of_ble_eq_true rfl⟩) (kRecvX (q0 := 0) (ci := 11) hK hP hD hN hXS hS hA rfl rfl [0, 1] rfl (by decide)) rfl rfl hl.1 rfl (lv_room (Nat.le_of_ble_eq_true rfl)) dX11_product_22 ⟨Nat.le_of_ble_eq_true rfl, Nat.le_of_ble_eq_true rfl⟩) hP hD hS hA [0, 1] [] rfl rfl (by decide) (by decide) ?_
            clear hP hD hS
            intro r_86 u_88 H locs w_87 hP hD hS
            replace hP : va_P D vwCl [(k, .inr (11, [.ref k0, .ref k1, .ref k2, .int c3, .ref k4, .ref k5, .ref k6, .ref k7, .ref k8, .int c9, .ref ka, .ref kb, .int cc, .int f5_kd, .int ce, .int f5_kf, .int f5_kg, .int ch, .int ci, .int cj, .int ck, .ref kl, .int cm, .int cn, .ref ko])), (k0, .inl (cI, 1201, .inl c0))] H := hP
            replace hD : va_D A [(k, .inr (11, [.ref k0, .ref k1, .ref k2, .int c3, .ref k4, .ref k5, .ref k6, .ref k7, .ref k8, .int c9, .ref ka, .ref kb, .int cc, .int f5_kd, .int ce, .int f5_kf, .int f5_kg, .int ch, .int ci, .int cj, .int ck, .ref kl, .int cm, .int cn, .ref ko])), (k0, .inl (cI, 1201, .inl c0))] := hD
            rcases w_87 with h_89 | ⟨hr_86, h_90⟩
            · exfalso; omega
            · have h_90 : f5_kd.toInt = ce.toInt := h_90
              obtain rfl : r_86 = (-1) := hr_86.trans (by decide)
              refine lv_bipush (v := 37) hx hb dX11_product_25 (by decide) ?_
              refine b_icmp_ne hx hb zl_m1 zl_37 (tgt := 85) dX11_product_27 (by decide) (fun c_91 => ?_) (fun c_91 => by exfalso; omega)
              refine lv_iload_n hx hb dX11_product_85 rfl (lv_at hl 0 rfl) ?_
              exact hRet (f5_kd, f5_kf, f5_kg) [0, 1] ⟨(by first | omega | decide | assumption | rfl | (dsimp only; first | omega)), (by first | omega | decide | assumption | rfl | (dsimp only; first | omega)), (by first | omega | decide | assumption | rfl | (dsimp only; first | omega))⟩ hP hD (by decide) rfl hS rfl dX11_product_86
  exact hloop_5 _ r_1 scd_3 scf_4 scg_5 (by first | omega | decide | assumption | rfl) (by first | omega | decide | assumption | rfl) (by first | omega | decide | assumption | rfl) (by first | omega | decide | assumption | rfl) (Nat.lt_succ_self _) ls _ _ (lv_sub hl [0, 1] rfl) hP hD hS

set_option maxHeartbeats 4000000 in
set_option maxRecDepth 100000 in
theorem c_X11_sumG3 (l : Launch) (D : va_G) (cI : ClassId) (aK aV : Nat → Nat) (k k0 k1 k2 k4 k5 k6 k7 k8 ka kb kl ko : Nat) (sz : Nat) (c3 : Int32) (c9 : Int32) (cc : Int32) (cd : Int32) (ce : Int32) (cf : Int32) (cg : Int32) (ch : Int32) (ci : Int32) (cj : Int32) (ck : Int32) (cm : Int32) (cn : Int32) (c0 : Nat → Int32) (pre0 : 0 ≤ cc.toInt) (pre1 : cc.toInt ≤ 1151) (pre2 : 0 ≤ cd.toInt) (pre3 : cd.toInt ≤ ce.toInt) (pre4 : ce.toInt ≤ 50) (pre5 : cg.toInt = 3) : Met l yX11_sum (gW yX11_sum cX11_sum 4 (some .int)) ({ frames := 9, cells := 0, slots := 0, locals := 204 } : Room) (kPreX D cI aK aV [.ref k] [(k, .inr (11, [.ref k0, .ref k1, .ref k2, .int c3, .ref k4, .ref k5, .ref k6, .ref k7, .ref k8, .int c9, .ref ka, .ref kb, .int cc, .int cd, .int ce, .int cf, .int cg, .int ch, .int ci, .int cj, .int ck, .ref kl, .int cm, .int cn, .ref ko])), (k0, .inl (cI, 1201, .inl c0))] sz) (va_Qi (fun (r : Int32) (u : Int32 × Int32 × Int32) => cd.toInt ≤ u.1.toInt ∧ u.1.toInt ≤ ce.toInt ∧ u.2.2.toInt = 3) (fun u t => kWd D cI (va_A [(k, .inr (11, [.ref k0, .ref k1, .ref k2, .int c3, .ref k4, .ref k5, .ref k6, .ref k7, .ref k8, .int c9, .ref ka, .ref kb, .int cc, .int cd, .int ce, .int cf, .int cg, .int ch, .int ci, .int cj, .int ck, .ref kl, .int cm, .int cn, .ref ko])), (k0, .inl (cI, 1201, .inl c0))] sz) [(k, .inr (11, [.ref k0, .ref k1, .ref k2, .int c3, .ref k4, .ref k5, .ref k6, .ref k7, .ref k8, .int c9, .ref ka, .ref kb, .int cc, .int u.1, .int ce, .int u.2.1, .int u.2.2, .int ch, .int ci, .int cj, .int ck, .ref kl, .int cm, .int cn, .ref ko])), (k0, .inl (cI, 1201, .inl c0))] t) (va_A [(k, .inr (11, [.ref k0, .ref k1, .ref k2, .int c3, .ref k4, .ref k5, .ref k6, .ref k7, .ref k8, .int c9, .ref ka, .ref kb, .int cc, .int cd, .int ce, .int cf, .int cg, .int ch, .int ci, .int cj, .int ck, .ref kl, .int cm, .int cn, .ref ko])), (k0, .inl (cI, 1201, .inl c0))] sz)) 0 0 (va_A [(k, .inr (11, [.ref k0, .ref k1, .ref k2, .int c3, .ref k4, .ref k5, .ref k6, .ref k7, .ref k8, .int c9, .ref ka, .ref kb, .int cc, .int cd, .int ce, .int cf, .int cg, .int ch, .int ci, .int cj, .int ck, .ref kl, .int cm, .int cn, .ref ko])), (k0, .inl (cI, 1201, .inl c0))] sz) := by
  refine kMetIX (own := RX11) (by decide) rfl (Nat.le_of_ble_eq_true rfl) ?_
  intro p e s m args below meth c hx hb hT hown hname hml A Q hK hP hD hS hA hN hXS hRet ls hl
  have hl : lv_has ls 4 [(0, .ref k)] := hl
  have lo_cd := k_lo cd
  have hi_cd := k_hi cd
  have lo_ce := k_lo ce
  have hi_ce := k_hi ce
  have lo_ci := k_lo ci
  have hi_ci := k_hi ci
  refine lv_aload_n hx hb dX11_sum_0 rfl (lv_at hl 0 rfl) ?_
  refine kJi (wr := []) (va_runV (As := []) (rest := []) ⟨hx, hb, hml, hown, hT⟩ (c_X11_productG3 l D cI aK aV k k0 k1 k2 k4 k5 k6 k7 k8 ka kb kl ko s.heap.size c3 c9 cc cd ce cf cg ch ci cj ck cm cn c0 (by first | omega | decide | assumption | rfl) (by first | omega | decide | assumption | rfl) (by first | omega | decide | assumption | rfl) (by first | omega | decide | assumption | rfl) (by first | omega | decide | assumption | rfl) (by first | omega | decide | assumption | rfl)) (cwV 0 hT (gV_in mw_1331 mw_1328 mw_1330 mw_p4_7 mw_12) rfl rfl rfl (by decide +kernel) ⟨Nat.le_of_ble_eq_true rfl, Nat.le_of_ble_eq_true rfl⟩) (kRecvX (q0 := 0) (ci := 11) hK hP hD hN hXS hS hA rfl rfl [0, 1] rfl (by decide)) rfl rfl hl.1 rfl (lv_room (Nat.le_of_ble_eq_true rfl)) dX11_sum_1 ⟨Nat.le_of_ble_eq_true rfl, Nat.le_of_ble_eq_true rfl⟩) hP hD hS hA [0, 1] [] rfl rfl (by decide) (by decide) ?_
  clear hP hD hS
  intro r_1 u_6 H locs w_2 hP hD hS
  obtain ⟨scd_3, scf_4, scg_5⟩ := u_6
  replace hP : va_P D vwCl [(k, .inr (11, [.ref k0, .ref k1, .ref k2, .int c3, .ref k4, .ref k5, .ref k6, .ref k7, .ref k8, .int c9, .ref ka, .ref kb, .int cc, .int scd_3, .int ce, .int scf_4, .int scg_5, .int ch, .int ci, .int cj, .int ck, .ref kl, .int cm, .int cn, .ref ko])), (k0, .inl (cI, 1201, .inl c0))] H := hP
  replace hD : va_D A [(k, .inr (11, [.ref k0, .ref k1, .ref k2, .int c3, .ref k4, .ref k5, .ref k6, .ref k7, .ref k8, .int c9, .ref ka, .ref kb, .int cc, .int scd_3, .int ce, .int scf_4, .int scg_5, .int ch, .int ci, .int cj, .int ck, .ref kl, .int cm, .int cn, .ref ko])), (k0, .inl (cI, 1201, .inl c0))] := hD
  have lo_scd_3 := k_lo scd_3
  have hi_scd_3 := k_hi scd_3
  have lo_scg_5 := k_lo scg_5
  have hi_scg_5 := k_hi scg_5
  obtain ⟨h_7, h_8, h_9⟩ := w_2
  have h_7 : cd.toInt ≤ scd_3.toInt := h_7
  have h_8 : scd_3.toInt ≤ ce.toInt := h_8
  have h_9 : scg_5.toInt = 3 := h_9
  have lo_r_1 := k_lo r_1
  have hi_r_1 := k_hi r_1
  refine lv_istore_n (lv' := [(1, .int r_1), (0, .ref k)]) hx hb dX11_sum_4 rfl hl (by decide) rfl ?_
  clear hl
  intro ls hl
  have hloop_5 : ∀ (fu_ : Nat) (l5_1 : Int32) (f5_kd : Int32) (f5_kf : Int32) (f5_kg : Int32), scd_3.toInt ≤ f5_kd.toInt → scg_5.toInt ≤ f5_kg.toInt → f5_kg.toInt ≤ scg_5.toInt → f5_kd.toInt ≤ ce.toInt → (ce.toInt - f5_kd.toInt).toNat < fu_ → ∀ (ls : Array Slot) (H : Heap) (locs : List Loc), lv_has ls 4 [(1, .int l5_1), (0, .ref k)] → va_P D vwCl [(k, .inr (11, [.ref k0, .ref k1, .ref k2, .int c3, .ref k4, .ref k5, .ref k6, .ref k7, .ref k8, .int c9, .ref ka, .ref kb, .int cc, .int f5_kd, .int ce, .int f5_kf, .int f5_kg, .int ch, .int ci, .int cj, .int ck, .ref kl, .int cm, .int cn, .ref ko])), (k0, .inl (cI, 1201, .inl c0))] H → va_D A [(k, .inr (11, [.ref k0, .ref k1, .ref k2, .int c3, .ref k4, .ref k5, .ref k6, .ref k7, .ref k8, .int c9, .ref ka, .ref kb, .int cc, .int f5_kd, .int ce, .int f5_kf, .int f5_kg, .int ch, .int ci, .int cj, .int ck, .ref kl, .int cm, .int cn, .ref ko])), (k0, .inl (cI, 1201, .inl c0))] → va_S A s.heap H locs → W p l e ({ frames := 9, cells := 0, slots := 0, locals := 204 } : Room) s m args below meth c H locs 0 0 Q (F0 m 5 ls []) := by
    intro fu_; induction fu_ with
    | zero => intro l5_1 f5_kd f5_kf f5_kg i5_0 i5_1 i5_2 i5_3 hm; exact absurd hm (by omega)
    | succ fu_ ih5 =>
        intro l5_1 f5_kd f5_kf f5_kg i5_0 i5_1 i5_2 i5_3 hm ls H locs hl hP hD hS
        have lo_l5_1 := k_lo l5_1
        have hi_l5_1 := k_hi l5_1
        have lo_f5_kd := k_lo f5_kd
        have hi_f5_kd := k_hi f5_kd
        have lo_f5_kf := k_lo f5_kf
        have hi_f5_kf := k_hi f5_kf
        have lo_f5_kg := k_lo f5_kg
        have hi_f5_kg := k_hi f5_kg
        refine lv_aload_n hx hb dX11_sum_5 rfl (lv_at hl 1 rfl) ?_
        refine va_get (D := D) (ci := 11) (v := .int f5_kf) (C := RX11) (T := TX11) (N := 25) hx hb hT giX11 hown hK hP 0 rfl rfl 15 (by decide) (hT (Cond.fieldLink RX11 148 "DesertWireModel" "isWrong" "Z") mw_1171) (fun _ h9 => h9) rfl dX11_sum_6 ?_
        refine b_if_ne hx hb rfl (tgt := 77) dX11_sum_9 (by decide) (fun c_10 => ?_) (fun c_10 => ?_)
        · refine lv_iload_n hx hb dX11_sum_77 rfl (lv_at hl 0 rfl) ?_
          exact hRet (f5_kd, f5_kf, f5_kg) [0, 1] ⟨(by first | omega | decide | assumption | rfl | (dsimp only; first | omega)), (by first | omega | decide | assumption | rfl | (dsimp only; first | omega)), (by first | omega | decide | assumption | rfl | (dsimp only; first | omega))⟩ hP hD (by decide) rfl hS rfl dX11_sum_78
        · refine lv_aload_n hx hb dX11_sum_12 rfl (lv_at hl 1 rfl) ?_
          refine kJi (wr := []) (va_runV (As := []) (rest := []) ⟨hx, hb, hml, hown, hT⟩ (c_X11_nowG l D cI aK aV k k0 k1 k2 k4 k5 k6 k7 k8 ka kb kl ko H.size c3 c9 cc f5_kd ce f5_kf f5_kg ch ci cj ck cm cn c0 (by first | omega | decide | assumption | rfl) (by first | omega | decide | assumption | rfl) (by first | omega | decide | assumption | rfl) (by first | omega | decide | assumption | rfl) (by first | omega | decide | assumption | rfl)) (cwV 0 hT (gV_in mw_1339 mw_1336 mw_1338 mw_p4_9 mw_12) rfl rfl rfl (by decide +kernel) ⟨Nat.le_of_ble_eq_true rfl, Nat.le_of_ble_eq_true rfl⟩) (kRecvX (q0 := 0) (ci := 11) hK hP hD hN hXS hS hA rfl rfl [0, 1] rfl (by decide)) rfl rfl hl.1 rfl (lv_room (Nat.le_of_ble_eq_true rfl)) dX11_sum_13 ⟨Nat.le_of_ble_eq_true rfl, Nat.le_of_ble_eq_true rfl⟩) hP hD hS hA [0, 1] [] rfl rfl (by decide) (by decide) ?_
          clear hP hD hS
          intro r_11 u_13 H locs w_12 hP hD hS
          replace hP : va_P D vwCl [(k, .inr (11, [.ref k0, .ref k1, .ref k2, .int c3, .ref k4, .ref k5, .ref k6, .ref k7, .ref k8, .int c9, .ref ka, .ref kb, .int cc, .int f5_kd, .int ce, .int f5_kf, .int f5_kg, .int ch, .int ci, .int cj, .int ck, .ref kl, .int cm, .int cn, .ref ko])), (k0, .inl (cI, 1201, .inl c0))] H := hP
          replace hD : va_D A [(k, .inr (11, [.ref k0, .ref k1, .ref k2, .int c3, .ref k4, .ref k5, .ref k6, .ref k7, .ref k8, .int c9, .ref ka, .ref kb, .int cc, .int f5_kd, .int ce, .int f5_kf, .int f5_kg, .int ch, .int ci, .int cj, .int ck, .ref kl, .int cm, .int cn, .ref ko])), (k0, .inl (cI, 1201, .inl c0))] := hD
          rcases w_12 with h_14 | ⟨hr_11, h_15⟩
          · have h_14 : f5_kd.toInt < ce.toInt := h_14
            have lo_r_11 := k_lo r_11
            have hi_r_11 := k_hi r_11
            refine lv_bipush (v := 43) hx hb dX11_sum_16 (by decide) ?_
            refine b_icmp_eq hx hb rfl zl_43 (tgt := 30) dX11_sum_18 (by decide) (fun c_16 => ?_) (fun c_16 => ?_)
            · refine lv_aload_n hx hb dX11_sum_30 rfl (lv_at hl 1 rfl) ?_
              refine kJi (wr := []) (va_runV (As := []) (rest := []) ⟨hx, hb, hml, hown, hT⟩ (c_X11_nowG l D cI aK aV k k0 k1 k2 k4 k5 k6 k7 k8 ka kb kl ko H.size c3 c9 cc f5_kd ce f5_kf f5_kg ch ci cj ck cm cn c0 (by first | omega | decide | assumption | rfl) (by first | omega | decide | assumption | rfl) (by first | omega | decide | assumption | rfl) (by first | omega | decide | assumption | rfl) (by first | omega | decide | assumption | rfl)) (cwV 0 hT (gV_in mw_1339 mw_1336 mw_1338 mw_p4_9 mw_12) rfl rfl rfl (by decide +kernel) ⟨Nat.le_of_ble_eq_true rfl, Nat.le_of_ble_eq_true rfl⟩) (kRecvX (q0 := 0) (ci := 11) hK hP hD hN hXS hS hA rfl rfl [0, 1] rfl (by decide)) rfl rfl hl.1 rfl (lv_room (Nat.le_of_ble_eq_true rfl)) dX11_sum_31 ⟨Nat.le_of_ble_eq_true rfl, Nat.le_of_ble_eq_true rfl⟩) hP hD hS hA [0, 1] [] rfl rfl (by decide) (by decide) ?_
              clear hP hD hS
              intro r_17 u_19 H locs w_18 hP hD hS
              replace hP : va_P D vwCl [(k, .inr (11, [.ref k0, .ref k1, .ref k2, .int c3, .ref k4, .ref k5, .ref k6, .ref k7, .ref k8, .int c9, .ref ka, .ref kb, .int cc, .int f5_kd, .int ce, .int f5_kf, .int f5_kg, .int ch, .int ci, .int cj, .int ck, .ref kl, .int cm, .int cn, .ref ko])), (k0, .inl (cI, 1201, .inl c0))] H := hP
              replace hD : va_D A [(k, .inr (11, [.ref k0, .ref k1, .ref k2, .int c3, .ref k4, .ref k5, .ref k6, .ref k7, .ref k8, .int c9, .ref ka, .ref kb, .int cc, .int f5_kd, .int ce, .int f5_kf, .int f5_kg, .int ch, .int ci, .int cj, .int ck, .ref kl, .int cm, .int cn, .ref ko])), (k0, .inl (cI, 1201, .inl c0))] := hD
              rcases w_18 with h_20 | ⟨hr_17, h_21⟩
              · have h_20 : f5_kd.toInt < ce.toInt := h_20
                have lo_r_17 := k_lo r_17
                have hi_r_17 := k_hi r_17
                refine lv_bipush (v := 43) hx hb dX11_sum_34 (by decide) ?_
                refine b_icmp_ne hx hb rfl zl_43 (tgt := 43) dX11_sum_36 (by decide) (fun c_22 => ?_) (fun c_22 => ?_)
                · refine lv_iconst (v := 0) hx hb dX11_sum_43 (by decide) ?_
                  refine lv_istore_n (lv' := [(2, .int 0), (1, .int l5_1), (0, .ref k)]) hx hb dX11_sum_44 rfl hl (by decide) rfl ?_
                  clear hl
                  intro ls hl
                  refine lv_aload_n hx hb dX11_sum_45 rfl (lv_at hl 2 rfl) ?_
                  refine lv_dup hx hb dX11_sum_46 rfl ?_
                  refine va_get (D := D) (ci := 11) (v := .int f5_kd) (C := RX11) (T := TX11) (N := 25) hx hb hT giX11 hown hK hP 0 rfl rfl 13 (by decide) (hT (Cond.fieldLink RX11 138 "DesertWireModel" "here" "I") mw_1169) (fun _ h9 => h9) rfl dX11_sum_47 ?_
                  refine lv_iconst (v := 1) hx hb dX11_sum_50 (by decide) ?_
                  refine lv_iadd hx hb dX11_sum_51 ?_
                  refine lv_topi (fun v_23 ev_23 => ?_)
                  have tv_23 : v_23.toInt = f5_kd.toInt + 1 := by rw [ev_23]; exact k_addv rfl zl_1 (by omega) (by omega)
                  refine va_put (D := D) (ci := 11) (v := .int v_23) (ty := .int) (C := RX11) (T := TX11) (N := 25) hx hb hT giX11 tyX11 tyX11_ok nmX11 hown hK hP hD hS 0 rfl rfl 13 (by decide) (hT (Cond.fieldLink RX11 138 "DesertWireModel" "here" "I") mw_1169) (fun _ h9 => h9) rfl (by decide +kernel) rfl rfl (Nat.le_of_ble_eq_true rfl) dX11_sum_52 ?_
                  clear hP hD hS
                  intro H locs hP hD hS
                  replace hP : va_P D vwCl [(k, .inr (11, [.ref k0, .ref k1, .ref k2, .int c3, .ref k4, .ref k5, .ref k6, .ref k7, .ref k8, .int c9, .ref ka, .ref kb, .int cc, .int v_23, .int ce, .int f5_kf, .int f5_kg, .int ch, .int ci, .int cj, .int ck, .ref kl, .int cm, .int cn, .ref ko])), (k0, .inl (cI, 1201, .inl c0))] H := hP
                  replace hD : va_D A [(k, .inr (11, [.ref k0, .ref k1, .ref k2, .int c3, .ref k4, .ref k5, .ref k6, .ref k7, .ref k8, .int c9, .ref ka, .ref kb, .int cc, .int v_23, .int ce, .int f5_kf, .int f5_kg, .int ch, .int ci, .int cj, .int ck, .ref kl, .int cm, .int cn, .ref ko])), (k0, .inl (cI, 1201, .inl c0))] := hD
                  refine lv_aload_n hx hb dX11_sum_55 rfl (lv_at hl 2 rfl) ?_
                  refine kJi (wr := []) (va_runV (As := []) (rest := []) ⟨hx, hb, hml, hown, hT⟩ (c_X11_productG3 l D cI aK aV k k0 k1 k2 k4 k5 k6 k7 k8 ka kb kl ko H.size c3 c9 cc v_23 ce f5_kf f5_kg ch ci cj ck cm cn c0 (by first | omega | decide | assumption | rfl) (by first | omega | decide | assumption | rfl) (by first | omega | decide | assumption | rfl) (by first | omega | decide | assumption | rfl) (by first | omega | decide | assumption | rfl) (by first | omega | decide | assumption | rfl)) (cwV 0 hT (gV_in mw_1331 mw_1328 mw_1330 mw_p4_7 mw_12) rfl rfl rfl (by decide +kernel) ⟨Nat.le_of_ble_eq_true rfl, Nat.le_of_ble_eq_true rfl⟩) (kRecvX (q0 := 0) (ci := 11) hK hP hD hN hXS hS hA rfl rfl [0, 1] rfl (by decide)) rfl rfl hl.1 rfl (lv_room (Nat.le_of_ble_eq_true rfl)) dX11_sum_56 ⟨Nat.le_of_ble_eq_true rfl, Nat.le_of_ble_eq_true rfl⟩) hP hD hS hA [0, 1] [] rfl rfl (by decide) (by decide) ?_
                  clear hP hD hS
                  intro r_24 u_29 H locs w_25 hP hD hS
                  obtain ⟨scd_26, scf_27, scg_28⟩ := u_29
                  replace hP : va_P D vwCl [(k, .inr (11, [.ref k0, .ref k1, .ref k2, .int c3, .ref k4, .ref k5, .ref k6, .ref k7, .ref k8, .int c9, .ref ka, .ref kb, .int cc, .int scd_26, .int ce, .int scf_27, .int scg_28, .int ch, .int ci, .int cj, .int ck, .ref kl, .int cm, .int cn, .ref ko])), (k0, .inl (cI, 1201, .inl c0))] H := hP
                  replace hD : va_D A [(k, .inr (11, [.ref k0, .ref k1, .ref k2, .int c3, .ref k4, .ref k5, .ref k6, .ref k7, .ref k8, .int c9, .ref ka, .ref kb, .int cc, .int scd_26, .int ce, .int scf_27, .int scg_28, .int ch, .int ci, .int cj, .int ck, .ref kl, .int cm, .int cn, .ref ko])), (k0, .inl (cI, 1201, .inl c0))] := hD
                  have lo_scd_26 := k_lo scd_26
                  have hi_scd_26 := k_hi scd_26
                  have lo_scg_28 := k_lo scg_28
                  have hi_scg_28 := k_hi scg_28
                  obtain ⟨h_30, h_31, h_32⟩ := w_25
                  have h_30 : v_23.toInt ≤ scd_26.toInt := h_30
                  have h_31 : scd_26.toInt ≤ ce.toInt := h_31
                  have h_32 : scg_28.toInt = 3 := h_32
                  have lo_r_24 := k_lo r_24
                  have hi_r_24 := k_hi r_24
                  refine lv_istore_n (lv' := [(3, .int r_24), (2, .int 0), (1, .int l5_1), (0, .ref k)]) hx hb dX11_sum_59 rfl hl (by decide) rfl ?_
                  clear hl
                  intro ls hl
                  refine lv_iload_n hx hb dX11_sum_60 rfl (lv_at hl 1 rfl) ?_
                  refine b_if_eq hx hb zl_0 (tgt := 70) dX11_sum_61 (by decide) (fun c_33 => ?_) (fun c_33 => by exfalso; omega)
                  refine lv_iload_n hx hb dX11_sum_70 rfl (lv_at hl 2 rfl) ?_
                  refine lv_iload_n hx hb dX11_sum_71 rfl (lv_at hl 0 rfl) ?_
                  refine lv_isub hx hb dX11_sum_72 ?_
                  refine lv_topi (fun v_34 ev_34 => ?_)
                  have lo_v_34 := k_lo v_34
                  have hi_v_34 := k_hi v_34
                  refine lv_istore_n (lv' := [(1, .int v_34), (3, .int r_24), (2, .int 0), (0, .ref k)]) hx hb dX11_sum_73 rfl hl (by decide) rfl ?_
                  clear hl
                  intro ls hl
                  refine lv_goto (tgt := 5) hx hb dX11_sum_74 (by decide) ?_
                  exact ih5 v_34 scd_26 scf_27 scg_28 (by first | omega | decide | assumption | rfl) (by first | omega | decide | assumption | rfl) (by first | omega | decide | assumption | rfl) (by first | omega | decide | assumption | rfl) (by omega) ls _ _ (lv_sub hl [0, 3] rfl) (hP.sub [0, 1] rfl) (hD.sub [0, 1] (by decide) rfl) hS
                · refine lv_iconst (v := 1) hx hb dX11_sum_39 (by decide) ?_
                  refine lv_goto (tgt := 44) hx hb dX11_sum_40 (by decide) ?_
                  refine lv_istore_n (lv' := [(2, .int 1), (1, .int l5_1), (0, .ref k)]) hx hb dX11_sum_44 rfl hl (by decide) rfl ?_
                  clear hl
                  intro ls hl
                  refine lv_aload_n hx hb dX11_sum_45 rfl (lv_at hl 2 rfl) ?_
                  refine lv_dup hx hb dX11_sum_46 rfl ?_
                  refine va_get (D := D) (ci := 11) (v := .int f5_kd) (C := RX11) (T := TX11) (N := 25) hx hb hT giX11 hown hK hP 0 rfl rfl 13 (by decide) (hT (Cond.fieldLink RX11 138 "DesertWireModel" "here" "I") mw_1169) (fun _ h9 => h9) rfl dX11_sum_47 ?_
                  refine lv_iconst (v := 1) hx hb dX11_sum_50 (by decide) ?_
                  refine lv_iadd hx hb dX11_sum_51 ?_
                  refine lv_topi (fun v_35 ev_35 => ?_)
                  have tv_35 : v_35.toInt = f5_kd.toInt + 1 := by rw [ev_35]; exact k_addv rfl zl_1 (by omega) (by omega)
                  refine va_put (D := D) (ci := 11) (v := .int v_35) (ty := .int) (C := RX11) (T := TX11) (N := 25) hx hb hT giX11 tyX11 tyX11_ok nmX11 hown hK hP hD hS 0 rfl rfl 13 (by decide) (hT (Cond.fieldLink RX11 138 "DesertWireModel" "here" "I") mw_1169) (fun _ h9 => h9) rfl (by decide +kernel) rfl rfl (Nat.le_of_ble_eq_true rfl) dX11_sum_52 ?_
                  clear hP hD hS
                  intro H locs hP hD hS
                  replace hP : va_P D vwCl [(k, .inr (11, [.ref k0, .ref k1, .ref k2, .int c3, .ref k4, .ref k5, .ref k6, .ref k7, .ref k8, .int c9, .ref ka, .ref kb, .int cc, .int v_35, .int ce, .int f5_kf, .int f5_kg, .int ch, .int ci, .int cj, .int ck, .ref kl, .int cm, .int cn, .ref ko])), (k0, .inl (cI, 1201, .inl c0))] H := hP
                  replace hD : va_D A [(k, .inr (11, [.ref k0, .ref k1, .ref k2, .int c3, .ref k4, .ref k5, .ref k6, .ref k7, .ref k8, .int c9, .ref ka, .ref kb, .int cc, .int v_35, .int ce, .int f5_kf, .int f5_kg, .int ch, .int ci, .int cj, .int ck, .ref kl, .int cm, .int cn, .ref ko])), (k0, .inl (cI, 1201, .inl c0))] := hD
                  refine lv_aload_n hx hb dX11_sum_55 rfl (lv_at hl 2 rfl) ?_
                  refine kJi (wr := []) (va_runV (As := []) (rest := []) ⟨hx, hb, hml, hown, hT⟩ (c_X11_productG3 l D cI aK aV k k0 k1 k2 k4 k5 k6 k7 k8 ka kb kl ko H.size c3 c9 cc v_35 ce f5_kf f5_kg ch ci cj ck cm cn c0 (by first | omega | decide | assumption | rfl) (by first | omega | decide | assumption | rfl) (by first | omega | decide | assumption | rfl) (by first | omega | decide | assumption | rfl) (by first | omega | decide | assumption | rfl) (by first | omega | decide | assumption | rfl)) (cwV 0 hT (gV_in mw_1331 mw_1328 mw_1330 mw_p4_7 mw_12) rfl rfl rfl (by decide +kernel) ⟨Nat.le_of_ble_eq_true rfl, Nat.le_of_ble_eq_true rfl⟩) (kRecvX (q0 := 0) (ci := 11) hK hP hD hN hXS hS hA rfl rfl [0, 1] rfl (by decide)) rfl rfl hl.1 rfl (lv_room (Nat.le_of_ble_eq_true rfl)) dX11_sum_56 ⟨Nat.le_of_ble_eq_true rfl, Nat.le_of_ble_eq_true rfl⟩) hP hD hS hA [0, 1] [] rfl rfl (by decide) (by decide) ?_
                  clear hP hD hS
                  intro r_36 u_41 H locs w_37 hP hD hS
                  obtain ⟨scd_38, scf_39, scg_40⟩ := u_41
                  replace hP : va_P D vwCl [(k, .inr (11, [.ref k0, .ref k1, .ref k2, .int c3, .ref k4, .ref k5, .ref k6, .ref k7, .ref k8, .int c9, .ref ka, .ref kb, .int cc, .int scd_38, .int ce, .int scf_39, .int scg_40, .int ch, .int ci, .int cj, .int ck, .ref kl, .int cm, .int cn, .ref ko])), (k0, .inl (cI, 1201, .inl c0))] H := hP
                  replace hD : va_D A [(k, .inr (11, [.ref k0, .ref k1, .ref k2, .int c3, .ref k4, .ref k5, .ref k6, .ref k7, .ref k8, .int c9, .ref ka, .ref kb, .int cc, .int scd_38, .int ce, .int scf_39, .int scg_40, .int ch, .int ci, .int cj, .int ck, .ref kl, .int cm, .int cn, .ref ko])), (k0, .inl (cI, 1201, .inl c0))] := hD
                  have lo_scd_38 := k_lo scd_38
                  have hi_scd_38 := k_hi scd_38
                  have lo_scg_40 := k_lo scg_40
                  have hi_scg_40 := k_hi scg_40
                  obtain ⟨h_42, h_43, h_44⟩ := w_37
                  have h_42 : v_35.toInt ≤ scd_38.toInt := h_42
                  have h_43 : scd_38.toInt ≤ ce.toInt := h_43
                  have h_44 : scg_40.toInt = 3 := h_44
                  have lo_r_36 := k_lo r_36
                  have hi_r_36 := k_hi r_36
                  refine lv_istore_n (lv' := [(3, .int r_36), (2, .int 1), (1, .int l5_1), (0, .ref k)]) hx hb dX11_sum_59 rfl hl (by decide) rfl ?_
                  clear hl
                  intro ls hl
                  refine lv_iload_n hx hb dX11_sum_60 rfl (lv_at hl 1 rfl) ?_
                  refine b_if_eq hx hb zl_1 (tgt := 70) dX11_sum_61 (by decide) (fun c_45 => by exfalso; omega) (fun c_45 => ?_)
                  refine lv_iload_n hx hb dX11_sum_64 rfl (lv_at hl 2 rfl) ?_
                  refine lv_iload_n hx hb dX11_sum_65 rfl (lv_at hl 0 rfl) ?_
                  refine lv_iadd hx hb dX11_sum_66 ?_
                  refine lv_topi (fun v_46 ev_46 => ?_)
                  have lo_v_46 := k_lo v_46
                  have hi_v_46 := k_hi v_46
                  refine lv_goto (tgt := 73) hx hb dX11_sum_67 (by decide) ?_
                  refine lv_istore_n (lv' := [(1, .int v_46), (3, .int r_36), (2, .int 1), (0, .ref k)]) hx hb dX11_sum_73 rfl hl (by decide) rfl ?_
                  clear hl
                  intro ls hl
                  refine lv_goto (tgt := 5) hx hb dX11_sum_74 (by decide) ?_
                  exact ih5 v_46 scd_38 scf_39 scg_40 (by first | omega | decide | assumption | rfl) (by first | omega | decide | assumption | rfl) (by first | omega | decide | assumption | rfl) (by first | omega | decide | assumption | rfl) (by omega) ls _ _ (lv_sub hl [0, 3] rfl) (hP.sub [0, 1] rfl) (hD.sub [0, 1] (by decide) rfl) hS
              · exfalso; omega
            · refine lv_aload_n hx hb dX11_sum_21 rfl (lv_at hl 1 rfl) ?_
              refine kJi (wr := []) (va_runV (As := []) (rest := []) ⟨hx, hb, hml, hown, hT⟩ (c_X11_nowG l D cI aK aV k k0 k1 k2 k4 k5 k6 k7 k8 ka kb kl ko H.size c3 c9 cc f5_kd ce f5_kf f5_kg ch ci cj ck cm cn c0 (by first | omega | decide | assumption | rfl) (by first | omega | decide | assumption | rfl) (by first | omega | decide | assumption | rfl) (by first | omega | decide | assumption | rfl) (by first | omega | decide | assumption | rfl)) (cwV 0 hT (gV_in mw_1339 mw_1336 mw_1338 mw_p4_9 mw_12) rfl rfl rfl (by decide +kernel) ⟨Nat.le_of_ble_eq_true rfl, Nat.le_of_ble_eq_true rfl⟩) (kRecvX (q0 := 0) (ci := 11) hK hP hD hN hXS hS hA rfl rfl [0, 1] rfl (by decide)) rfl rfl hl.1 rfl (lv_room (Nat.le_of_ble_eq_true rfl)) dX11_sum_22 ⟨Nat.le_of_ble_eq_true rfl, Nat.le_of_ble_eq_true rfl⟩) hP hD hS hA [0, 1] [] rfl rfl (by decide) (by decide) ?_
              clear hP hD hS
              intro r_47 u_49 H locs w_48 hP hD hS
              replace hP : va_P D vwCl [(k, .inr (11, [.ref k0, .ref k1, .ref k2, .int c3, .ref k4, .ref k5, .ref k6, .ref k7, .ref k8, .int c9, .ref ka, .ref kb, .int cc, .int f5_kd, .int ce, .int f5_kf, .int f5_kg, .int ch, .int ci, .int cj, .int ck, .ref kl, .int cm, .int cn, .ref ko])), (k0, .inl (cI, 1201, .inl c0))] H := hP
              replace hD : va_D A [(k, .inr (11, [.ref k0, .ref k1, .ref k2, .int c3, .ref k4, .ref k5, .ref k6, .ref k7, .ref k8, .int c9, .ref ka, .ref kb, .int cc, .int f5_kd, .int ce, .int f5_kf, .int f5_kg, .int ch, .int ci, .int cj, .int ck, .ref kl, .int cm, .int cn, .ref ko])), (k0, .inl (cI, 1201, .inl c0))] := hD
              rcases w_48 with h_50 | ⟨hr_47, h_51⟩
              · have h_50 : f5_kd.toInt < ce.toInt := h_50
                have lo_r_47 := k_lo r_47
                have hi_r_47 := k_hi r_47
                refine lv_bipush (v := 45) hx hb dX11_sum_25 (by decide) ?_
                refine b_icmp_ne hx hb rfl zl_45 (tgt := 77) dX11_sum_27 (by decide) (fun c_52 => ?_) (fun c_52 => ?_)
                · refine lv_iload_n hx hb dX11_sum_77 rfl (lv_at hl 0 rfl) ?_
                  exact hRet (f5_kd, f5_kf, f5_kg) [0, 1] ⟨(by first | omega | decide | assumption | rfl | (dsimp only; first | omega)), (by first | omega | decide | assumption | rfl | (dsimp only; first | omega)), (by first | omega | decide | assumption | rfl | (dsimp only; first | omega))⟩ hP hD (by decide) rfl hS rfl dX11_sum_78
                · refine lv_aload_n hx hb dX11_sum_30 rfl (lv_at hl 1 rfl) ?_
                  refine kJi (wr := []) (va_runV (As := []) (rest := []) ⟨hx, hb, hml, hown, hT⟩ (c_X11_nowG l D cI aK aV k k0 k1 k2 k4 k5 k6 k7 k8 ka kb kl ko H.size c3 c9 cc f5_kd ce f5_kf f5_kg ch ci cj ck cm cn c0 (by first | omega | decide | assumption | rfl) (by first | omega | decide | assumption | rfl) (by first | omega | decide | assumption | rfl) (by first | omega | decide | assumption | rfl) (by first | omega | decide | assumption | rfl)) (cwV 0 hT (gV_in mw_1339 mw_1336 mw_1338 mw_p4_9 mw_12) rfl rfl rfl (by decide +kernel) ⟨Nat.le_of_ble_eq_true rfl, Nat.le_of_ble_eq_true rfl⟩) (kRecvX (q0 := 0) (ci := 11) hK hP hD hN hXS hS hA rfl rfl [0, 1] rfl (by decide)) rfl rfl hl.1 rfl (lv_room (Nat.le_of_ble_eq_true rfl)) dX11_sum_31 ⟨Nat.le_of_ble_eq_true rfl, Nat.le_of_ble_eq_true rfl⟩) hP hD hS hA [0, 1] [] rfl rfl (by decide) (by decide) ?_
                  clear hP hD hS
                  intro r_53 u_55 H locs w_54 hP hD hS
                  replace hP : va_P D vwCl [(k, .inr (11, [.ref k0, .ref k1, .ref k2, .int c3, .ref k4, .ref k5, .ref k6, .ref k7, .ref k8, .int c9, .ref ka, .ref kb, .int cc, .int f5_kd, .int ce, .int f5_kf, .int f5_kg, .int ch, .int ci, .int cj, .int ck, .ref kl, .int cm, .int cn, .ref ko])), (k0, .inl (cI, 1201, .inl c0))] H := hP
                  replace hD : va_D A [(k, .inr (11, [.ref k0, .ref k1, .ref k2, .int c3, .ref k4, .ref k5, .ref k6, .ref k7, .ref k8, .int c9, .ref ka, .ref kb, .int cc, .int f5_kd, .int ce, .int f5_kf, .int f5_kg, .int ch, .int ci, .int cj, .int ck, .ref kl, .int cm, .int cn, .ref ko])), (k0, .inl (cI, 1201, .inl c0))] := hD
                  rcases w_54 with h_56 | ⟨hr_53, h_57⟩
                  · have h_56 : f5_kd.toInt < ce.toInt := h_56
                    have lo_r_53 := k_lo r_53
                    have hi_r_53 := k_hi r_53
                    refine lv_bipush (v := 43) hx hb dX11_sum_34 (by decide) ?_
                    refine b_icmp_ne hx hb rfl zl_43 (tgt := 43) dX11_sum_36 (by decide) (fun c_58 => ?_) (fun c_58 => ?_)
                    · refine lv_iconst (v := 0) hx hb dX11_sum_43 (by decide) ?_
                      refine lv_istore_n (lv' := [(2, .int 0), (1, .int l5_1), (0, .ref k)]) hx hb dX11_sum_44 rfl hl (by decide) rfl ?_
                      clear hl
                      intro ls hl
                      refine lv_aload_n hx hb dX11_sum_45 rfl (lv_at hl 2 rfl) ?_
                      refine lv_dup hx hb dX11_sum_46 rfl ?_
                      refine va_get (D := D) (ci := 11) (v := .int f5_kd) (C := RX11) (T := TX11) (N := 25) hx hb hT giX11 hown hK hP 0 rfl rfl 13 (by decide) (hT (Cond.fieldLink RX11 138 "DesertWireModel" "here" "I") mw_1169) (fun _ h9 => h9) rfl dX11_sum_47 ?_
                      refine lv_iconst (v := 1) hx hb dX11_sum_50 (by decide) ?_
                      refine lv_iadd hx hb dX11_sum_51 ?_
                      refine lv_topi (fun v_59 ev_59 => ?_)
                      have tv_59 : v_59.toInt = f5_kd.toInt + 1 := by rw [ev_59]; exact k_addv rfl zl_1 (by omega) (by omega)
                      refine va_put (D := D) (ci := 11) (v := .int v_59) (ty := .int) (C := RX11) (T := TX11) (N := 25) hx hb hT giX11 tyX11 tyX11_ok nmX11 hown hK hP hD hS 0 rfl rfl 13 (by decide) (hT (Cond.fieldLink RX11 138 "DesertWireModel" "here" "I") mw_1169) (fun _ h9 => h9) rfl (by decide +kernel) rfl rfl (Nat.le_of_ble_eq_true rfl) dX11_sum_52 ?_
                      clear hP hD hS
                      intro H locs hP hD hS
                      replace hP : va_P D vwCl [(k, .inr (11, [.ref k0, .ref k1, .ref k2, .int c3, .ref k4, .ref k5, .ref k6, .ref k7, .ref k8, .int c9, .ref ka, .ref kb, .int cc, .int v_59, .int ce, .int f5_kf, .int f5_kg, .int ch, .int ci, .int cj, .int ck, .ref kl, .int cm, .int cn, .ref ko])), (k0, .inl (cI, 1201, .inl c0))] H := hP
                      replace hD : va_D A [(k, .inr (11, [.ref k0, .ref k1, .ref k2, .int c3, .ref k4, .ref k5, .ref k6, .ref k7, .ref k8, .int c9, .ref ka, .ref kb, .int cc, .int v_59, .int ce, .int f5_kf, .int f5_kg, .int ch, .int ci, .int cj, .int ck, .ref kl, .int cm, .int cn, .ref ko])), (k0, .inl (cI, 1201, .inl c0))] := hD
                      refine lv_aload_n hx hb dX11_sum_55 rfl (lv_at hl 2 rfl) ?_
                      refine kJi (wr := []) (va_runV (As := []) (rest := []) ⟨hx, hb, hml, hown, hT⟩ (c_X11_productG3 l D cI aK aV k k0 k1 k2 k4 k5 k6 k7 k8 ka kb kl ko H.size c3 c9 cc v_59 ce f5_kf f5_kg ch ci cj ck cm cn c0 (by first | omega | decide | assumption | rfl) (by first | omega | decide | assumption | rfl) (by first | omega | decide | assumption | rfl) (by first | omega | decide | assumption | rfl) (by first | omega | decide | assumption | rfl) (by first | omega | decide | assumption | rfl)) (cwV 0 hT (gV_in mw_1331 mw_1328 mw_1330 mw_p4_7 mw_12) rfl rfl rfl (by decide +kernel) ⟨Nat.le_of_ble_eq_true rfl, Nat.le_of_ble_eq_true rfl⟩) (kRecvX (q0 := 0) (ci := 11) hK hP hD hN hXS hS hA rfl rfl [0, 1] rfl (by decide)) rfl rfl hl.1 rfl (lv_room (Nat.le_of_ble_eq_true rfl)) dX11_sum_56 ⟨Nat.le_of_ble_eq_true rfl, Nat.le_of_ble_eq_true rfl⟩) hP hD hS hA [0, 1] [] rfl rfl (by decide) (by decide) ?_
                      clear hP hD hS
                      intro r_60 u_65 H locs w_61 hP hD hS
                      obtain ⟨scd_62, scf_63, scg_64⟩ := u_65
                      replace hP : va_P D vwCl [(k, .inr (11, [.ref k0, .ref k1, .ref k2, .int c3, .ref k4, .ref k5, .ref k6, .ref k7, .ref k8, .int c9, .ref ka, .ref kb, .int cc, .int scd_62, .int ce, .int scf_63, .int scg_64, .int ch, .int ci, .int cj, .int ck, .ref kl, .int cm, .int cn, .ref ko])), (k0, .inl (cI, 1201, .inl c0))] H := hP
                      replace hD : va_D A [(k, .inr (11, [.ref k0, .ref k1, .ref k2, .int c3, .ref k4, .ref k5, .ref k6, .ref k7, .ref k8, .int c9, .ref ka, .ref kb, .int cc, .int scd_62, .int ce, .int scf_63, .int scg_64, .int ch, .int ci, .int cj, .int ck, .ref kl, .int cm, .int cn, .ref ko])), (k0, .inl (cI, 1201, .inl c0))] := hD
                      have lo_scd_62 := k_lo scd_62
                      have hi_scd_62 := k_hi scd_62
                      have lo_scg_64 := k_lo scg_64
                      have hi_scg_64 := k_hi scg_64
                      obtain ⟨h_66, h_67, h_68⟩ := w_61
                      have h_66 : v_59.toInt ≤ scd_62.toInt := h_66
                      have h_67 : scd_62.toInt ≤ ce.toInt := h_67
                      have h_68 : scg_64.toInt = 3 := h_68
                      have lo_r_60 := k_lo r_60
                      have hi_r_60 := k_hi r_60
                      refine lv_istore_n (lv' := [(3, .int r_60), (2, .int 0), (1, .int l5_1), (0, .ref k)]) hx hb dX11_sum_59 rfl hl (by decide) rfl ?_
                      clear hl
                      intro ls hl
                      refine lv_iload_n hx hb dX11_sum_60 rfl (lv_at hl 1 rfl) ?_
                      refine b_if_eq hx hb zl_0 (tgt := 70) dX11_sum_61 (by decide) (fun c_69 => ?_) (fun c_69 => by exfalso; omega)
                      refine lv_iload_n hx hb dX11_sum_70 rfl (lv_at hl 2 rfl) ?_
                      refine lv_iload_n hx hb dX11_sum_71 rfl (lv_at hl 0 rfl) ?_
                      refine lv_isub hx hb dX11_sum_72 ?_
                      refine lv_topi (fun v_70 ev_70 => ?_)
                      have lo_v_70 := k_lo v_70
                      have hi_v_70 := k_hi v_70
                      refine lv_istore_n (lv' := [(1, .int v_70), (3, .int r_60), (2, .int 0), (0, .ref k)]) hx hb dX11_sum_73 rfl hl (by decide) rfl ?_
                      clear hl
                      intro ls hl
                      refine lv_goto (tgt := 5) hx hb dX11_sum_74 (by decide) ?_
                      exact ih5 v_70 scd_62 scf_63 scg_64 (by first | omega | decide | assumption | rfl) (by first | omega | decide | assumption | rfl) (by first | omega | decide | assumption | rfl) (by first | omega | decide | assumption | rfl) (by omega) ls _ _ (lv_sub hl [0, 3] rfl) (hP.sub [0, 1] rfl) (hD.sub [0, 1] (by decide) rfl) hS
                    · refine lv_iconst (v := 1) hx hb dX11_sum_39 (by decide) ?_
                      refine lv_goto (tgt := 44) hx hb dX11_sum_40 (by decide) ?_
                      refine lv_istore_n (lv' := [(2, .int 1), (1, .int l5_1), (0, .ref k)]) hx hb dX11_sum_44 rfl hl (by decide) rfl ?_
                      clear hl
                      intro ls hl
                      refine lv_aload_n hx hb dX11_sum_45 rfl (lv_at hl 2 rfl) ?_
                      refine lv_dup hx hb dX11_sum_46 rfl ?_
                      refine va_get (D := D) (ci := 11) (v := .int f5_kd) (C := RX11) (T := TX11) (N := 25) hx hb hT giX11 hown hK hP 0 rfl rfl 13 (by decide) (hT (Cond.fieldLink RX11 138 "DesertWireModel" "here" "I") mw_1169) (fun _ h9 => h9) rfl dX11_sum_47 ?_
                      refine lv_iconst (v := 1) hx hb dX11_sum_50 (by decide) ?_
                      refine lv_iadd hx hb dX11_sum_51 ?_
                      refine lv_topi (fun v_71 ev_71 => ?_)
                      have tv_71 : v_71.toInt = f5_kd.toInt + 1 := by rw [ev_71]; exact k_addv rfl zl_1 (by omega) (by omega)
                      refine va_put (D := D) (ci := 11) (v := .int v_71) (ty := .int) (C := RX11) (T := TX11) (N := 25) hx hb hT giX11 tyX11 tyX11_ok nmX11 hown hK hP hD hS 0 rfl rfl 13 (by decide) (hT (Cond.fieldLink RX11 138 "DesertWireModel" "here" "I") mw_1169) (fun _ h9 => h9) rfl (by decide +kernel) rfl rfl (Nat.le_of_ble_eq_true rfl) dX11_sum_52 ?_
                      clear hP hD hS
                      intro H locs hP hD hS
                      replace hP : va_P D vwCl [(k, .inr (11, [.ref k0, .ref k1, .ref k2, .int c3, .ref k4, .ref k5, .ref k6, .ref k7, .ref k8, .int c9, .ref ka, .ref kb, .int cc, .int v_71, .int ce, .int f5_kf, .int f5_kg, .int ch, .int ci, .int cj, .int ck, .ref kl, .int cm, .int cn, .ref ko])), (k0, .inl (cI, 1201, .inl c0))] H := hP
                      replace hD : va_D A [(k, .inr (11, [.ref k0, .ref k1, .ref k2, .int c3, .ref k4, .ref k5, .ref k6, .ref k7, .ref k8, .int c9, .ref ka, .ref kb, .int cc, .int v_71, .int ce, .int f5_kf, .int f5_kg, .int ch, .int ci, .int cj, .int ck, .ref kl, .int cm, .int cn, .ref ko])), (k0, .inl (cI, 1201, .inl c0))] := hD
                      refine lv_aload_n hx hb dX11_sum_55 rfl (lv_at hl 2 rfl) ?_
                      refine kJi (wr := []) (va_runV (As := []) (rest := []) ⟨hx, hb, hml, hown, hT⟩ (c_X11_productG3 l D cI aK aV k k0 k1 k2 k4 k5 k6 k7 k8 ka kb kl ko H.size c3 c9 cc v_71 ce f5_kf f5_kg ch ci cj ck cm cn c0 (by first | omega | decide | assumption | rfl) (by first | omega | decide | assumption | rfl) (by first | omega | decide | assumption | rfl) (by first | omega | decide | assumption | rfl) (by first | omega | decide | assumption | rfl) (by first | omega | decide | assumption | rfl)) (cwV 0 hT (gV_in mw_1331 mw_1328 mw_1330 mw_p4_7 mw_12) rfl rfl rfl (by decide +kernel) ⟨Nat.le_of_ble_eq_true rfl, Nat.le_of_ble_eq_true rfl⟩) (kRecvX (q0 := 0) (ci := 11) hK hP hD hN hXS hS hA rfl rfl [0, 1] rfl (by decide)) rfl rfl hl.1 rfl (lv_room (Nat.le_of_ble_eq_true rfl)) dX11_sum_56 ⟨Nat.le_of_ble_eq_true rfl, Nat.le_of_ble_eq_true rfl⟩) hP hD hS hA [0, 1] [] rfl rfl (by decide) (by decide) ?_
                      clear hP hD hS
                      intro r_72 u_77 H locs w_73 hP hD hS
                      obtain ⟨scd_74, scf_75, scg_76⟩ := u_77
                      replace hP : va_P D vwCl [(k, .inr (11, [.ref k0, .ref k1, .ref k2, .int c3, .ref k4, .ref k5, .ref k6, .ref k7, .ref k8, .int c9, .ref ka, .ref kb, .int cc, .int scd_74, .int ce, .int scf_75, .int scg_76, .int ch, .int ci, .int cj, .int ck, .ref kl, .int cm, .int cn, .ref ko])), (k0, .inl (cI, 1201, .inl c0))] H := hP
                      replace hD : va_D A [(k, .inr (11, [.ref k0, .ref k1, .ref k2, .int c3, .ref k4, .ref k5, .ref k6, .ref k7, .ref k8, .int c9, .ref ka, .ref kb, .int cc, .int scd_74, .int ce, .int scf_75, .int scg_76, .int ch, .int ci, .int cj, .int ck, .ref kl, .int cm, .int cn, .ref ko])), (k0, .inl (cI, 1201, .inl c0))] := hD
                      have lo_scd_74 := k_lo scd_74
                      have hi_scd_74 := k_hi scd_74
                      have lo_scg_76 := k_lo scg_76
                      have hi_scg_76 := k_hi scg_76
                      obtain ⟨h_78, h_79, h_80⟩ := w_73
                      have h_78 : v_71.toInt ≤ scd_74.toInt := h_78
                      have h_79 : scd_74.toInt ≤ ce.toInt := h_79
                      have h_80 : scg_76.toInt = 3 := h_80
                      have lo_r_72 := k_lo r_72
                      have hi_r_72 := k_hi r_72
                      refine lv_istore_n (lv' := [(3, .int r_72), (2, .int 1), (1, .int l5_1), (0, .ref k)]) hx hb dX11_sum_59 rfl hl (by decide) rfl ?_
                      clear hl
                      intro ls hl
                      refine lv_iload_n hx hb dX11_sum_60 rfl (lv_at hl 1 rfl) ?_
                      refine b_if_eq hx hb zl_1 (tgt := 70) dX11_sum_61 (by decide) (fun c_81 => by exfalso; omega) (fun c_81 => ?_)
                      refine lv_iload_n hx hb dX11_sum_64 rfl (lv_at hl 2 rfl) ?_
                      refine lv_iload_n hx hb dX11_sum_65 rfl (lv_at hl 0 rfl) ?_
                      refine lv_iadd hx hb dX11_sum_66 ?_
                      refine lv_topi (fun v_82 ev_82 => ?_)
                      have lo_v_82 := k_lo v_82
                      have hi_v_82 := k_hi v_82
                      refine lv_goto (tgt := 73) hx hb dX11_sum_67 (by decide) ?_
                      refine lv_istore_n (lv' := [(1, .int v_82), (3, .int r_72), (2, .int 1), (0, .ref k)]) hx hb dX11_sum_73 rfl hl (by decide) rfl ?_
                      clear hl
                      intro ls hl
                      refine lv_goto (tgt := 5) hx hb dX11_sum_74 (by decide) ?_
                      exact ih5 v_82 scd_74 scf_75 scg_76 (by first | omega | decide | assumption | rfl) (by first | omega | decide | assumption | rfl) (by first | omega | decide | assumption | rfl) (by first | omega | decide | assumption | rfl) (by omega) ls _ _ (lv_sub hl [0, 3] rfl) (hP.sub [0, 1] rfl) (hD.sub [0, 1] (by decide) rfl) hS
                  · exfalso; omega
              · exfalso; omega
          · have h_15 : f5_kd.toInt = ce.toInt := h_15
            obtain rfl : r_11 = (-1) := hr_11.trans (by decide)
            refine lv_bipush (v := 43) hx hb dX11_sum_16 (by decide) ?_
            refine b_icmp_eq hx hb zl_m1 zl_43 (tgt := 30) dX11_sum_18 (by decide) (fun c_83 => by exfalso; omega) (fun c_83 => ?_)
            refine lv_aload_n hx hb dX11_sum_21 rfl (lv_at hl 1 rfl) ?_
            refine kJi (wr := []) (va_runV (As := []) (rest := []) ⟨hx, hb, hml, hown, hT⟩ (c_X11_nowG l D cI aK aV k k0 k1 k2 k4 k5 k6 k7 k8 ka kb kl ko H.size c3 c9 cc f5_kd ce f5_kf f5_kg ch ci cj ck cm cn c0 (by first | omega | decide | assumption | rfl) (by first | omega | decide | assumption | rfl) (by first | omega | decide | assumption | rfl) (by first | omega | decide | assumption | rfl) (by first | omega | decide | assumption | rfl)) (cwV 0 hT (gV_in mw_1339 mw_1336 mw_1338 mw_p4_9 mw_12) rfl rfl rfl (by decide +kernel) ⟨Nat.le_of_ble_eq_true rfl, Nat.le_of_ble_eq_true rfl⟩) (kRecvX (q0 := 0) (ci := 11) hK hP hD hN hXS hS hA rfl rfl [0, 1] rfl (by decide)) rfl rfl hl.1 rfl (lv_room (Nat.le_of_ble_eq_true rfl)) dX11_sum_22 ⟨Nat.le_of_ble_eq_true rfl, Nat.le_of_ble_eq_true rfl⟩) hP hD hS hA [0, 1] [] rfl rfl (by decide) (by decide) ?_
            clear hP hD hS
            intro r_84 u_86 H locs w_85 hP hD hS
            replace hP : va_P D vwCl [(k, .inr (11, [.ref k0, .ref k1, .ref k2, .int c3, .ref k4, .ref k5, .ref k6, .ref k7, .ref k8, .int c9, .ref ka, .ref kb, .int cc, .int f5_kd, .int ce, .int f5_kf, .int f5_kg, .int ch, .int ci, .int cj, .int ck, .ref kl, .int cm, .int cn, .ref ko])), (k0, .inl (cI, 1201, .inl c0))] H := hP
            replace hD : va_D A [(k, .inr (11, [.ref k0, .ref k1, .ref k2, .int c3, .ref k4, .ref k5, .ref k6, .ref k7, .ref k8, .int c9, .ref ka, .ref kb, .int cc, .int f5_kd, .int ce, .int f5_kf, .int f5_kg, .int ch, .int ci, .int cj, .int ck, .ref kl, .int cm, .int cn, .ref ko])), (k0, .inl (cI, 1201, .inl c0))] := hD
            rcases w_85 with h_87 | ⟨hr_84, h_88⟩
            · exfalso; omega
            · have h_88 : f5_kd.toInt = ce.toInt := h_88
              obtain rfl : r_84 = (-1) := hr_84.trans (by decide)
              refine lv_bipush (v := 45) hx hb dX11_sum_25 (by decide) ?_
              refine b_icmp_ne hx hb zl_m1 zl_45 (tgt := 77) dX11_sum_27 (by decide) (fun c_89 => ?_) (fun c_89 => by exfalso; omega)
              refine lv_iload_n hx hb dX11_sum_77 rfl (lv_at hl 0 rfl) ?_
              exact hRet (f5_kd, f5_kf, f5_kg) [0, 1] ⟨(by first | omega | decide | assumption | rfl | (dsimp only; first | omega)), (by first | omega | decide | assumption | rfl | (dsimp only; first | omega)), (by first | omega | decide | assumption | rfl | (dsimp only; first | omega))⟩ hP hD (by decide) rfl hS rfl dX11_sum_78
  exact hloop_5 _ r_1 scd_3 scf_4 scg_5 (by first | omega | decide | assumption | rfl) (by first | omega | decide | assumption | rfl) (by first | omega | decide | assumption | rfl) (by first | omega | decide | assumption | rfl) (Nat.lt_succ_self _) ls _ _ (lv_sub hl [0, 1] rfl) hP hD hS

set_option maxHeartbeats 4000000 in
set_option maxRecDepth 100000 in
theorem c_X11_testG3 (l : Launch) (D : va_G) (cI : ClassId) (aK aV : Nat → Nat) (k k0 k1 k2 k4 k5 k6 k7 k8 ka kb kl ko : Nat) (sz : Nat) (c3 : Int32) (c9 : Int32) (cc : Int32) (cd : Int32) (ce : Int32) (cf : Int32) (cg : Int32) (ch : Int32) (ci : Int32) (cj : Int32) (ck : Int32) (cm : Int32) (cn : Int32) (c0 : Nat → Int32) (pre0 : 0 ≤ cc.toInt) (pre1 : cc.toInt ≤ 1151) (pre2 : 0 ≤ cd.toInt) (pre3 : cd.toInt ≤ ce.toInt) (pre4 : ce.toInt ≤ 50) (pre5 : cg.toInt = 3) : Met l yX11_test (gW yX11_test cX11_test 4 (some .int)) ({ frames := 10, cells := 0, slots := 0, locals := 227 } : Room) (kPreX D cI aK aV [.ref k] [(k, .inr (11, [.ref k0, .ref k1, .ref k2, .int c3, .ref k4, .ref k5, .ref k6, .ref k7, .ref k8, .int c9, .ref ka, .ref kb, .int cc, .int cd, .int ce, .int cf, .int cg, .int ch, .int ci, .int cj, .int ck, .ref kl, .int cm, .int cn, .ref ko])), (k0, .inl (cI, 1201, .inl c0))] sz) (va_Qi (fun (r : Int32) (u : Int32 × Int32 × Int32) => cd.toInt ≤ u.1.toInt ∧ u.1.toInt ≤ ce.toInt ∧ u.2.2.toInt = 3) (fun u t => kWd D cI (va_A [(k, .inr (11, [.ref k0, .ref k1, .ref k2, .int c3, .ref k4, .ref k5, .ref k6, .ref k7, .ref k8, .int c9, .ref ka, .ref kb, .int cc, .int cd, .int ce, .int cf, .int cg, .int ch, .int ci, .int cj, .int ck, .ref kl, .int cm, .int cn, .ref ko])), (k0, .inl (cI, 1201, .inl c0))] sz) [(k, .inr (11, [.ref k0, .ref k1, .ref k2, .int c3, .ref k4, .ref k5, .ref k6, .ref k7, .ref k8, .int c9, .ref ka, .ref kb, .int cc, .int u.1, .int ce, .int u.2.1, .int u.2.2, .int ch, .int ci, .int cj, .int ck, .ref kl, .int cm, .int cn, .ref ko])), (k0, .inl (cI, 1201, .inl c0))] t) (va_A [(k, .inr (11, [.ref k0, .ref k1, .ref k2, .int c3, .ref k4, .ref k5, .ref k6, .ref k7, .ref k8, .int c9, .ref ka, .ref kb, .int cc, .int cd, .int ce, .int cf, .int cg, .int ch, .int ci, .int cj, .int ck, .ref kl, .int cm, .int cn, .ref ko])), (k0, .inl (cI, 1201, .inl c0))] sz)) 0 0 (va_A [(k, .inr (11, [.ref k0, .ref k1, .ref k2, .int c3, .ref k4, .ref k5, .ref k6, .ref k7, .ref k8, .int c9, .ref ka, .ref kb, .int cc, .int cd, .int ce, .int cf, .int cg, .int ch, .int ci, .int cj, .int ck, .ref kl, .int cm, .int cn, .ref ko])), (k0, .inl (cI, 1201, .inl c0))] sz) := by
  refine kMetIX (own := RX11) (by decide) rfl (Nat.le_of_ble_eq_true rfl) ?_
  intro p e s m args below meth c hx hb hT hown hname hml A Q hK hP hD hS hA hN hXS hRet ls hl
  have hl : lv_has ls 4 [(0, .ref k)] := hl
  have lo_cd := k_lo cd
  have hi_cd := k_hi cd
  have lo_ce := k_lo ce
  have hi_ce := k_hi ce
  have lo_ci := k_lo ci
  have hi_ci := k_hi ci
  refine lv_aload_n hx hb dX11_test_0 rfl (lv_at hl 0 rfl) ?_
  refine kJi (wr := []) (va_runV (As := []) (rest := []) ⟨hx, hb, hml, hown, hT⟩ (c_X11_sumG3 l D cI aK aV k k0 k1 k2 k4 k5 k6 k7 k8 ka kb kl ko s.heap.size c3 c9 cc cd ce cf cg ch ci cj ck cm cn c0 (by first | omega | decide | assumption | rfl) (by first | omega | decide | assumption | rfl) (by first | omega | decide | assumption | rfl) (by first | omega | decide | assumption | rfl) (by first | omega | decide | assumption | rfl) (by first | omega | decide | assumption | rfl)) (cwV 0 hT (gV_in mw_1327 mw_1324 mw_1326 mw_p4_6 mw_12) rfl rfl rfl (by decide +kernel) ⟨Nat.le_of_ble_eq_true rfl, Nat.le_of_ble_eq_true rfl⟩) (kRecvX (q0 := 0) (ci := 11) hK hP hD hN hXS hS hA rfl rfl [0, 1] rfl (by decide)) rfl rfl hl.1 rfl (lv_room (Nat.le_of_ble_eq_true rfl)) dX11_test_1 ⟨Nat.le_of_ble_eq_true rfl, Nat.le_of_ble_eq_true rfl⟩) hP hD hS hA [0, 1] [] rfl rfl (by decide) (by decide) ?_
  clear hP hD hS
  intro r_1 u_6 H locs w_2 hP hD hS
  obtain ⟨scd_3, scf_4, scg_5⟩ := u_6
  replace hP : va_P D vwCl [(k, .inr (11, [.ref k0, .ref k1, .ref k2, .int c3, .ref k4, .ref k5, .ref k6, .ref k7, .ref k8, .int c9, .ref ka, .ref kb, .int cc, .int scd_3, .int ce, .int scf_4, .int scg_5, .int ch, .int ci, .int cj, .int ck, .ref kl, .int cm, .int cn, .ref ko])), (k0, .inl (cI, 1201, .inl c0))] H := hP
  replace hD : va_D A [(k, .inr (11, [.ref k0, .ref k1, .ref k2, .int c3, .ref k4, .ref k5, .ref k6, .ref k7, .ref k8, .int c9, .ref ka, .ref kb, .int cc, .int scd_3, .int ce, .int scf_4, .int scg_5, .int ch, .int ci, .int cj, .int ck, .ref kl, .int cm, .int cn, .ref ko])), (k0, .inl (cI, 1201, .inl c0))] := hD
  have lo_scd_3 := k_lo scd_3
  have hi_scd_3 := k_hi scd_3
  have lo_scf_4 := k_lo scf_4
  have hi_scf_4 := k_hi scf_4
  have lo_scg_5 := k_lo scg_5
  have hi_scg_5 := k_hi scg_5
  obtain ⟨h_7, h_8, h_9⟩ := w_2
  have h_7 : cd.toInt ≤ scd_3.toInt := h_7
  have h_8 : scd_3.toInt ≤ ce.toInt := h_8
  have h_9 : scg_5.toInt = 3 := h_9
  have lo_r_1 := k_lo r_1
  have hi_r_1 := k_hi r_1
  refine lv_istore_n (lv' := [(1, .int r_1), (0, .ref k)]) hx hb dX11_test_4 rfl hl (by decide) rfl ?_
  clear hl
  intro ls hl
  refine lv_aload_n hx hb dX11_test_5 rfl (lv_at hl 1 rfl) ?_
  refine kJi (wr := []) (va_runV (As := []) (rest := []) ⟨hx, hb, hml, hown, hT⟩ (c_X11_nowG l D cI aK aV k k0 k1 k2 k4 k5 k6 k7 k8 ka kb kl ko H.size c3 c9 cc scd_3 ce scf_4 scg_5 ch ci cj ck cm cn c0 (by first | omega | decide | assumption | rfl) (by first | omega | decide | assumption | rfl) (by first | omega | decide | assumption | rfl) (by first | omega | decide | assumption | rfl) (by first | omega | decide | assumption | rfl)) (cwV 0 hT (gV_in mw_1339 mw_1336 mw_1338 mw_p4_9 mw_12) rfl rfl rfl (by decide +kernel) ⟨Nat.le_of_ble_eq_true rfl, Nat.le_of_ble_eq_true rfl⟩) (kRecvX (q0 := 0) (ci := 11) hK hP hD hN hXS hS hA rfl rfl [0, 1] rfl (by decide)) rfl rfl hl.1 rfl (lv_room (Nat.le_of_ble_eq_true rfl)) dX11_test_6 ⟨Nat.le_of_ble_eq_true rfl, Nat.le_of_ble_eq_true rfl⟩) hP hD hS hA [0, 1] [] rfl rfl (by decide) (by decide) ?_
  clear hP hD hS
  intro r_10 u_12 H locs w_11 hP hD hS
  replace hP : va_P D vwCl [(k, .inr (11, [.ref k0, .ref k1, .ref k2, .int c3, .ref k4, .ref k5, .ref k6, .ref k7, .ref k8, .int c9, .ref ka, .ref kb, .int cc, .int scd_3, .int ce, .int scf_4, .int scg_5, .int ch, .int ci, .int cj, .int ck, .ref kl, .int cm, .int cn, .ref ko])), (k0, .inl (cI, 1201, .inl c0))] H := hP
  replace hD : va_D A [(k, .inr (11, [.ref k0, .ref k1, .ref k2, .int c3, .ref k4, .ref k5, .ref k6, .ref k7, .ref k8, .int c9, .ref ka, .ref kb, .int cc, .int scd_3, .int ce, .int scf_4, .int scg_5, .int ch, .int ci, .int cj, .int ck, .ref kl, .int cm, .int cn, .ref ko])), (k0, .inl (cI, 1201, .inl c0))] := hD
  rcases w_11 with h_13 | ⟨hr_10, h_14⟩
  · have h_13 : scd_3.toInt < ce.toInt := h_13
    have lo_r_10 := k_lo r_10
    have hi_r_10 := k_hi r_10
    refine lv_istore_n (lv' := [(2, .int r_10), (1, .int r_1), (0, .ref k)]) hx hb dX11_test_9 rfl hl (by decide) rfl ?_
    clear hl
    intro ls hl
    refine lv_aload_n hx hb dX11_test_10 rfl (lv_at hl 2 rfl) ?_
    refine va_get (D := D) (ci := 11) (v := .int scf_4) (C := RX11) (T := TX11) (N := 25) hx hb hT giX11 hown hK hP 0 rfl rfl 15 (by decide) (hT (Cond.fieldLink RX11 148 "DesertWireModel" "isWrong" "Z") mw_1171) (fun _ h9 => h9) rfl dX11_test_11 ?_
    refine b_if_ne hx hb rfl (tgt := 35) dX11_test_14 (by decide) (fun c_15 => ?_) (fun c_15 => ?_)
    · refine lv_iload_n hx hb dX11_test_35 rfl (lv_at hl 1 rfl) ?_
      exact hRet (scd_3, scf_4, scg_5) [0, 1] ⟨(by first | omega | decide | assumption | rfl | (dsimp only; first | omega)), (by first | omega | decide | assumption | rfl | (dsimp only; first | omega)), (by first | omega | decide | assumption | rfl | (dsimp only; first | omega))⟩ hP hD (by decide) rfl hS rfl dX11_test_36
    · refine lv_iload_n hx hb dX11_test_17 rfl (lv_at hl 0 rfl) ?_
      refine lv_bipush (v := 60) hx hb dX11_test_18 (by decide) ?_
      refine b_icmp_eq hx hb rfl zl_60 (tgt := 37) dX11_test_20 (by decide) (fun c_16 => ?_) (fun c_16 => ?_)
      · refine lv_aload_n hx hb dX11_test_37 rfl (lv_at hl 2 rfl) ?_
        refine lv_dup hx hb dX11_test_38 rfl ?_
        refine va_get (D := D) (ci := 11) (v := .int scd_3) (C := RX11) (T := TX11) (N := 25) hx hb hT giX11 hown hK hP 0 rfl rfl 13 (by decide) (hT (Cond.fieldLink RX11 138 "DesertWireModel" "here" "I") mw_1169) (fun _ h9 => h9) rfl dX11_test_39 ?_
        refine lv_iconst (v := 1) hx hb dX11_test_42 (by decide) ?_
        refine lv_iadd hx hb dX11_test_43 ?_
        refine lv_topi (fun v_17 ev_17 => ?_)
        have tv_17 : v_17.toInt = scd_3.toInt + 1 := by rw [ev_17]; exact k_addv rfl zl_1 (by omega) (by omega)
        refine va_put (D := D) (ci := 11) (v := .int v_17) (ty := .int) (C := RX11) (T := TX11) (N := 25) hx hb hT giX11 tyX11 tyX11_ok nmX11 hown hK hP hD hS 0 rfl rfl 13 (by decide) (hT (Cond.fieldLink RX11 138 "DesertWireModel" "here" "I") mw_1169) (fun _ h9 => h9) rfl (by decide +kernel) rfl rfl (Nat.le_of_ble_eq_true rfl) dX11_test_44 ?_
        clear hP hD hS
        intro H locs hP hD hS
        replace hP : va_P D vwCl [(k, .inr (11, [.ref k0, .ref k1, .ref k2, .int c3, .ref k4, .ref k5, .ref k6, .ref k7, .ref k8, .int c9, .ref ka, .ref kb, .int cc, .int v_17, .int ce, .int scf_4, .int scg_5, .int ch, .int ci, .int cj, .int ck, .ref kl, .int cm, .int cn, .ref ko])), (k0, .inl (cI, 1201, .inl c0))] H := hP
        replace hD : va_D A [(k, .inr (11, [.ref k0, .ref k1, .ref k2, .int c3, .ref k4, .ref k5, .ref k6, .ref k7, .ref k8, .int c9, .ref ka, .ref kb, .int cc, .int v_17, .int ce, .int scf_4, .int scg_5, .int ch, .int ci, .int cj, .int ck, .ref kl, .int cm, .int cn, .ref ko])), (k0, .inl (cI, 1201, .inl c0))] := hD
        refine lv_aload_n hx hb dX11_test_47 rfl (lv_at hl 2 rfl) ?_
        refine kJi (wr := []) (va_runV (As := []) (rest := []) ⟨hx, hb, hml, hown, hT⟩ (c_X11_sumG3 l D cI aK aV k k0 k1 k2 k4 k5 k6 k7 k8 ka kb kl ko H.size c3 c9 cc v_17 ce scf_4 scg_5 ch ci cj ck cm cn c0 (by first | omega | decide | assumption | rfl) (by first | omega | decide | assumption | rfl) (by first | omega | decide | assumption | rfl) (by first | omega | decide | assumption | rfl) (by first | omega | decide | assumption | rfl) (by first | omega | decide | assumption | rfl)) (cwV 0 hT (gV_in mw_1327 mw_1324 mw_1326 mw_p4_6 mw_12) rfl rfl rfl (by decide +kernel) ⟨Nat.le_of_ble_eq_true rfl, Nat.le_of_ble_eq_true rfl⟩) (kRecvX (q0 := 0) (ci := 11) hK hP hD hN hXS hS hA rfl rfl [0, 1] rfl (by decide)) rfl rfl hl.1 rfl (lv_room (Nat.le_of_ble_eq_true rfl)) dX11_test_48 ⟨Nat.le_of_ble_eq_true rfl, Nat.le_of_ble_eq_true rfl⟩) hP hD hS hA [0, 1] [] rfl rfl (by decide) (by decide) ?_
        clear hP hD hS
        intro r_18 u_23 H locs w_19 hP hD hS
        obtain ⟨scd_20, scf_21, scg_22⟩ := u_23
        replace hP : va_P D vwCl [(k, .inr (11, [.ref k0, .ref k1, .ref k2, .int c3, .ref k4, .ref k5, .ref k6, .ref k7, .ref k8, .int c9, .ref ka, .ref kb, .int cc, .int scd_20, .int ce, .int scf_21, .int scg_22, .int ch, .int ci, .int cj, .int ck, .ref kl, .int cm, .int cn, .ref ko])), (k0, .inl (cI, 1201, .inl c0))] H := hP
        replace hD : va_D A [(k, .inr (11, [.ref k0, .ref k1, .ref k2, .int c3, .ref k4, .ref k5, .ref k6, .ref k7, .ref k8, .int c9, .ref ka, .ref kb, .int cc, .int scd_20, .int ce, .int scf_21, .int scg_22, .int ch, .int ci, .int cj, .int ck, .ref kl, .int cm, .int cn, .ref ko])), (k0, .inl (cI, 1201, .inl c0))] := hD
        have lo_scd_20 := k_lo scd_20
        have hi_scd_20 := k_hi scd_20
        have lo_scg_22 := k_lo scg_22
        have hi_scg_22 := k_hi scg_22
        obtain ⟨h_24, h_25, h_26⟩ := w_19
        have h_24 : v_17.toInt ≤ scd_20.toInt := h_24
        have h_25 : scd_20.toInt ≤ ce.toInt := h_25
        have h_26 : scg_22.toInt = 3 := h_26
        have lo_r_18 := k_lo r_18
        have hi_r_18 := k_hi r_18
        refine lv_istore_n (lv' := [(3, .int r_18), (2, .int r_10), (1, .int r_1), (0, .ref k)]) hx hb dX11_test_51 rfl hl (by decide) rfl ?_
        clear hl
        intro ls hl
        refine lv_iload_n hx hb dX11_test_52 rfl (lv_at hl 1 rfl) ?_
        refine lv_bipush (v := 60) hx hb dX11_test_53 (by decide) ?_
        refine b_icmp_ne hx hb rfl zl_60 (tgt := 66) dX11_test_55 (by decide) (fun c_27 => by exfalso; omega) (fun c_27 => ?_)
        refine lv_iload_n hx hb dX11_test_58 rfl (lv_at hl 2 rfl) ?_
        refine lv_iload_n hx hb dX11_test_59 rfl (lv_at hl 0 rfl) ?_
        refine b_icmp_ge hx hb rfl rfl (tgt := 89) dX11_test_60 (by decide) (fun c_28 => ?_) (fun c_28 => ?_)
        · refine lv_iconst (v := 0) hx hb dX11_test_89 (by decide) ?_
          exact hRet (scd_20, scf_21, scg_22) [0, 1] ⟨(by first | omega | (simp only [zl_0] <;> omega) | decide | assumption | rfl | (dsimp only; first | omega | (simp only [zl_0] <;> omega))), (by first | omega | (simp only [zl_0] <;> omega) | decide | assumption | rfl | (dsimp only; first | omega | (simp only [zl_0] <;> omega))), (by first | omega | (simp only [zl_0] <;> omega) | decide | assumption | rfl | (dsimp only; first | omega | (simp only [zl_0] <;> omega)))⟩ hP hD (by decide) rfl hS rfl dX11_test_90
        · refine lv_goto (tgt := 85) hx hb dX11_test_63 (by decide) ?_
          refine lv_iconst (v := 1) hx hb dX11_test_85 (by decide) ?_
          refine lv_goto (tgt := 90) hx hb dX11_test_86 (by decide) ?_
          exact hRet (scd_20, scf_21, scg_22) [0, 1] ⟨(by first | omega | (simp only [zl_1] <;> omega) | decide | assumption | rfl | (dsimp only; first | omega | (simp only [zl_1] <;> omega))), (by first | omega | (simp only [zl_1] <;> omega) | decide | assumption | rfl | (dsimp only; first | omega | (simp only [zl_1] <;> omega))), (by first | omega | (simp only [zl_1] <;> omega) | decide | assumption | rfl | (dsimp only; first | omega | (simp only [zl_1] <;> omega)))⟩ hP hD (by decide) rfl hS rfl dX11_test_90
      · refine lv_iload_n hx hb dX11_test_23 rfl (lv_at hl 0 rfl) ?_
        refine lv_bipush (v := 61) hx hb dX11_test_24 (by decide) ?_
        refine b_icmp_eq hx hb rfl zl_61 (tgt := 37) dX11_test_26 (by decide) (fun c_29 => ?_) (fun c_29 => ?_)
        · refine lv_aload_n hx hb dX11_test_37 rfl (lv_at hl 2 rfl) ?_
          refine lv_dup hx hb dX11_test_38 rfl ?_
          refine va_get (D := D) (ci := 11) (v := .int scd_3) (C := RX11) (T := TX11) (N := 25) hx hb hT giX11 hown hK hP 0 rfl rfl 13 (by decide) (hT (Cond.fieldLink RX11 138 "DesertWireModel" "here" "I") mw_1169) (fun _ h9 => h9) rfl dX11_test_39 ?_
          refine lv_iconst (v := 1) hx hb dX11_test_42 (by decide) ?_
          refine lv_iadd hx hb dX11_test_43 ?_
          refine lv_topi (fun v_30 ev_30 => ?_)
          have tv_30 : v_30.toInt = scd_3.toInt + 1 := by rw [ev_30]; exact k_addv rfl zl_1 (by omega) (by omega)
          refine va_put (D := D) (ci := 11) (v := .int v_30) (ty := .int) (C := RX11) (T := TX11) (N := 25) hx hb hT giX11 tyX11 tyX11_ok nmX11 hown hK hP hD hS 0 rfl rfl 13 (by decide) (hT (Cond.fieldLink RX11 138 "DesertWireModel" "here" "I") mw_1169) (fun _ h9 => h9) rfl (by decide +kernel) rfl rfl (Nat.le_of_ble_eq_true rfl) dX11_test_44 ?_
          clear hP hD hS
          intro H locs hP hD hS
          replace hP : va_P D vwCl [(k, .inr (11, [.ref k0, .ref k1, .ref k2, .int c3, .ref k4, .ref k5, .ref k6, .ref k7, .ref k8, .int c9, .ref ka, .ref kb, .int cc, .int v_30, .int ce, .int scf_4, .int scg_5, .int ch, .int ci, .int cj, .int ck, .ref kl, .int cm, .int cn, .ref ko])), (k0, .inl (cI, 1201, .inl c0))] H := hP
          replace hD : va_D A [(k, .inr (11, [.ref k0, .ref k1, .ref k2, .int c3, .ref k4, .ref k5, .ref k6, .ref k7, .ref k8, .int c9, .ref ka, .ref kb, .int cc, .int v_30, .int ce, .int scf_4, .int scg_5, .int ch, .int ci, .int cj, .int ck, .ref kl, .int cm, .int cn, .ref ko])), (k0, .inl (cI, 1201, .inl c0))] := hD
          refine lv_aload_n hx hb dX11_test_47 rfl (lv_at hl 2 rfl) ?_
          refine kJi (wr := []) (va_runV (As := []) (rest := []) ⟨hx, hb, hml, hown, hT⟩ (c_X11_sumG3 l D cI aK aV k k0 k1 k2 k4 k5 k6 k7 k8 ka kb kl ko H.size c3 c9 cc v_30 ce scf_4 scg_5 ch ci cj ck cm cn c0 (by first | omega | decide | assumption | rfl) (by first | omega | decide | assumption | rfl) (by first | omega | decide | assumption | rfl) (by first | omega | decide | assumption | rfl) (by first | omega | decide | assumption | rfl) (by first | omega | decide | assumption | rfl)) (cwV 0 hT (gV_in mw_1327 mw_1324 mw_1326 mw_p4_6 mw_12) rfl rfl rfl (by decide +kernel) ⟨Nat.le_of_ble_eq_true rfl, Nat.le_of_ble_eq_true rfl⟩) (kRecvX (q0 := 0) (ci := 11) hK hP hD hN hXS hS hA rfl rfl [0, 1] rfl (by decide)) rfl rfl hl.1 rfl (lv_room (Nat.le_of_ble_eq_true rfl)) dX11_test_48 ⟨Nat.le_of_ble_eq_true rfl, Nat.le_of_ble_eq_true rfl⟩) hP hD hS hA [0, 1] [] rfl rfl (by decide) (by decide) ?_
          clear hP hD hS
          intro r_31 u_36 H locs w_32 hP hD hS
          obtain ⟨scd_33, scf_34, scg_35⟩ := u_36
          replace hP : va_P D vwCl [(k, .inr (11, [.ref k0, .ref k1, .ref k2, .int c3, .ref k4, .ref k5, .ref k6, .ref k7, .ref k8, .int c9, .ref ka, .ref kb, .int cc, .int scd_33, .int ce, .int scf_34, .int scg_35, .int ch, .int ci, .int cj, .int ck, .ref kl, .int cm, .int cn, .ref ko])), (k0, .inl (cI, 1201, .inl c0))] H := hP
          replace hD : va_D A [(k, .inr (11, [.ref k0, .ref k1, .ref k2, .int c3, .ref k4, .ref k5, .ref k6, .ref k7, .ref k8, .int c9, .ref ka, .ref kb, .int cc, .int scd_33, .int ce, .int scf_34, .int scg_35, .int ch, .int ci, .int cj, .int ck, .ref kl, .int cm, .int cn, .ref ko])), (k0, .inl (cI, 1201, .inl c0))] := hD
          have lo_scd_33 := k_lo scd_33
          have hi_scd_33 := k_hi scd_33
          have lo_scg_35 := k_lo scg_35
          have hi_scg_35 := k_hi scg_35
          obtain ⟨h_37, h_38, h_39⟩ := w_32
          have h_37 : v_30.toInt ≤ scd_33.toInt := h_37
          have h_38 : scd_33.toInt ≤ ce.toInt := h_38
          have h_39 : scg_35.toInt = 3 := h_39
          have lo_r_31 := k_lo r_31
          have hi_r_31 := k_hi r_31
          refine lv_istore_n (lv' := [(3, .int r_31), (2, .int r_10), (1, .int r_1), (0, .ref k)]) hx hb dX11_test_51 rfl hl (by decide) rfl ?_
          clear hl
          intro ls hl
          refine lv_iload_n hx hb dX11_test_52 rfl (lv_at hl 1 rfl) ?_
          refine lv_bipush (v := 60) hx hb dX11_test_53 (by decide) ?_
          refine b_icmp_ne hx hb rfl zl_60 (tgt := 66) dX11_test_55 (by decide) (fun c_40 => ?_) (fun c_40 => by exfalso; omega)
          refine lv_iload_n hx hb dX11_test_66 rfl (lv_at hl 1 rfl) ?_
          refine lv_bipush (v := 62) hx hb dX11_test_67 (by decide) ?_
          refine b_icmp_ne hx hb rfl zl_62 (tgt := 80) dX11_test_69 (by decide) (fun c_41 => ?_) (fun c_41 => by exfalso; omega)
          refine lv_iload_n hx hb dX11_test_80 rfl (lv_at hl 2 rfl) ?_
          refine lv_iload_n hx hb dX11_test_81 rfl (lv_at hl 0 rfl) ?_
          refine b_icmp_ne hx hb rfl rfl (tgt := 89) dX11_test_82 (by decide) (fun c_42 => ?_) (fun c_42 => ?_)
          · refine lv_iconst (v := 0) hx hb dX11_test_89 (by decide) ?_
            exact hRet (scd_33, scf_34, scg_35) [0, 1] ⟨(by first | omega | (simp only [zl_0] <;> omega) | decide | assumption | rfl | (dsimp only; first | omega | (simp only [zl_0] <;> omega))), (by first | omega | (simp only [zl_0] <;> omega) | decide | assumption | rfl | (dsimp only; first | omega | (simp only [zl_0] <;> omega))), (by first | omega | (simp only [zl_0] <;> omega) | decide | assumption | rfl | (dsimp only; first | omega | (simp only [zl_0] <;> omega)))⟩ hP hD (by decide) rfl hS rfl dX11_test_90
          · refine lv_iconst (v := 1) hx hb dX11_test_85 (by decide) ?_
            refine lv_goto (tgt := 90) hx hb dX11_test_86 (by decide) ?_
            exact hRet (scd_33, scf_34, scg_35) [0, 1] ⟨(by first | omega | (simp only [zl_1] <;> omega) | decide | assumption | rfl | (dsimp only; first | omega | (simp only [zl_1] <;> omega))), (by first | omega | (simp only [zl_1] <;> omega) | decide | assumption | rfl | (dsimp only; first | omega | (simp only [zl_1] <;> omega))), (by first | omega | (simp only [zl_1] <;> omega) | decide | assumption | rfl | (dsimp only; first | omega | (simp only [zl_1] <;> omega)))⟩ hP hD (by decide) rfl hS rfl dX11_test_90
        · refine lv_iload_n hx hb dX11_test_29 rfl (lv_at hl 0 rfl) ?_
          refine lv_bipush (v := 62) hx hb dX11_test_30 (by decide) ?_
          refine b_icmp_eq hx hb rfl zl_62 (tgt := 37) dX11_test_32 (by decide) (fun c_43 => ?_) (fun c_43 => ?_)
          · refine lv_aload_n hx hb dX11_test_37 rfl (lv_at hl 2 rfl) ?_
            refine lv_dup hx hb dX11_test_38 rfl ?_
            refine va_get (D := D) (ci := 11) (v := .int scd_3) (C := RX11) (T := TX11) (N := 25) hx hb hT giX11 hown hK hP 0 rfl rfl 13 (by decide) (hT (Cond.fieldLink RX11 138 "DesertWireModel" "here" "I") mw_1169) (fun _ h9 => h9) rfl dX11_test_39 ?_
            refine lv_iconst (v := 1) hx hb dX11_test_42 (by decide) ?_
            refine lv_iadd hx hb dX11_test_43 ?_
            refine lv_topi (fun v_44 ev_44 => ?_)
            have tv_44 : v_44.toInt = scd_3.toInt + 1 := by rw [ev_44]; exact k_addv rfl zl_1 (by omega) (by omega)
            refine va_put (D := D) (ci := 11) (v := .int v_44) (ty := .int) (C := RX11) (T := TX11) (N := 25) hx hb hT giX11 tyX11 tyX11_ok nmX11 hown hK hP hD hS 0 rfl rfl 13 (by decide) (hT (Cond.fieldLink RX11 138 "DesertWireModel" "here" "I") mw_1169) (fun _ h9 => h9) rfl (by decide +kernel) rfl rfl (Nat.le_of_ble_eq_true rfl) dX11_test_44 ?_
            clear hP hD hS
            intro H locs hP hD hS
            replace hP : va_P D vwCl [(k, .inr (11, [.ref k0, .ref k1, .ref k2, .int c3, .ref k4, .ref k5, .ref k6, .ref k7, .ref k8, .int c9, .ref ka, .ref kb, .int cc, .int v_44, .int ce, .int scf_4, .int scg_5, .int ch, .int ci, .int cj, .int ck, .ref kl, .int cm, .int cn, .ref ko])), (k0, .inl (cI, 1201, .inl c0))] H := hP
            replace hD : va_D A [(k, .inr (11, [.ref k0, .ref k1, .ref k2, .int c3, .ref k4, .ref k5, .ref k6, .ref k7, .ref k8, .int c9, .ref ka, .ref kb, .int cc, .int v_44, .int ce, .int scf_4, .int scg_5, .int ch, .int ci, .int cj, .int ck, .ref kl, .int cm, .int cn, .ref ko])), (k0, .inl (cI, 1201, .inl c0))] := hD
            refine lv_aload_n hx hb dX11_test_47 rfl (lv_at hl 2 rfl) ?_
            refine kJi (wr := []) (va_runV (As := []) (rest := []) ⟨hx, hb, hml, hown, hT⟩ (c_X11_sumG3 l D cI aK aV k k0 k1 k2 k4 k5 k6 k7 k8 ka kb kl ko H.size c3 c9 cc v_44 ce scf_4 scg_5 ch ci cj ck cm cn c0 (by first | omega | decide | assumption | rfl) (by first | omega | decide | assumption | rfl) (by first | omega | decide | assumption | rfl) (by first | omega | decide | assumption | rfl) (by first | omega | decide | assumption | rfl) (by first | omega | decide | assumption | rfl)) (cwV 0 hT (gV_in mw_1327 mw_1324 mw_1326 mw_p4_6 mw_12) rfl rfl rfl (by decide +kernel) ⟨Nat.le_of_ble_eq_true rfl, Nat.le_of_ble_eq_true rfl⟩) (kRecvX (q0 := 0) (ci := 11) hK hP hD hN hXS hS hA rfl rfl [0, 1] rfl (by decide)) rfl rfl hl.1 rfl (lv_room (Nat.le_of_ble_eq_true rfl)) dX11_test_48 ⟨Nat.le_of_ble_eq_true rfl, Nat.le_of_ble_eq_true rfl⟩) hP hD hS hA [0, 1] [] rfl rfl (by decide) (by decide) ?_
            clear hP hD hS
            intro r_45 u_50 H locs w_46 hP hD hS
            obtain ⟨scd_47, scf_48, scg_49⟩ := u_50
            replace hP : va_P D vwCl [(k, .inr (11, [.ref k0, .ref k1, .ref k2, .int c3, .ref k4, .ref k5, .ref k6, .ref k7, .ref k8, .int c9, .ref ka, .ref kb, .int cc, .int scd_47, .int ce, .int scf_48, .int scg_49, .int ch, .int ci, .int cj, .int ck, .ref kl, .int cm, .int cn, .ref ko])), (k0, .inl (cI, 1201, .inl c0))] H := hP
            replace hD : va_D A [(k, .inr (11, [.ref k0, .ref k1, .ref k2, .int c3, .ref k4, .ref k5, .ref k6, .ref k7, .ref k8, .int c9, .ref ka, .ref kb, .int cc, .int scd_47, .int ce, .int scf_48, .int scg_49, .int ch, .int ci, .int cj, .int ck, .ref kl, .int cm, .int cn, .ref ko])), (k0, .inl (cI, 1201, .inl c0))] := hD
            have lo_scd_47 := k_lo scd_47
            have hi_scd_47 := k_hi scd_47
            have lo_scg_49 := k_lo scg_49
            have hi_scg_49 := k_hi scg_49
            obtain ⟨h_51, h_52, h_53⟩ := w_46
            have h_51 : v_44.toInt ≤ scd_47.toInt := h_51
            have h_52 : scd_47.toInt ≤ ce.toInt := h_52
            have h_53 : scg_49.toInt = 3 := h_53
            have lo_r_45 := k_lo r_45
            have hi_r_45 := k_hi r_45
            refine lv_istore_n (lv' := [(3, .int r_45), (2, .int r_10), (1, .int r_1), (0, .ref k)]) hx hb dX11_test_51 rfl hl (by decide) rfl ?_
            clear hl
            intro ls hl
            refine lv_iload_n hx hb dX11_test_52 rfl (lv_at hl 1 rfl) ?_
            refine lv_bipush (v := 60) hx hb dX11_test_53 (by decide) ?_
            refine b_icmp_ne hx hb rfl zl_60 (tgt := 66) dX11_test_55 (by decide) (fun c_54 => ?_) (fun c_54 => by exfalso; omega)
            refine lv_iload_n hx hb dX11_test_66 rfl (lv_at hl 1 rfl) ?_
            refine lv_bipush (v := 62) hx hb dX11_test_67 (by decide) ?_
            refine b_icmp_ne hx hb rfl zl_62 (tgt := 80) dX11_test_69 (by decide) (fun c_55 => by exfalso; omega) (fun c_55 => ?_)
            refine lv_iload_n hx hb dX11_test_72 rfl (lv_at hl 2 rfl) ?_
            refine lv_iload_n hx hb dX11_test_73 rfl (lv_at hl 0 rfl) ?_
            refine b_icmp_le hx hb rfl rfl (tgt := 89) dX11_test_74 (by decide) (fun c_56 => ?_) (fun c_56 => ?_)
            · refine lv_iconst (v := 0) hx hb dX11_test_89 (by decide) ?_
              exact hRet (scd_47, scf_48, scg_49) [0, 1] ⟨(by first | omega | (simp only [zl_0] <;> omega) | decide | assumption | rfl | (dsimp only; first | omega | (simp only [zl_0] <;> omega))), (by first | omega | (simp only [zl_0] <;> omega) | decide | assumption | rfl | (dsimp only; first | omega | (simp only [zl_0] <;> omega))), (by first | omega | (simp only [zl_0] <;> omega) | decide | assumption | rfl | (dsimp only; first | omega | (simp only [zl_0] <;> omega)))⟩ hP hD (by decide) rfl hS rfl dX11_test_90
            · refine lv_goto (tgt := 85) hx hb dX11_test_77 (by decide) ?_
              refine lv_iconst (v := 1) hx hb dX11_test_85 (by decide) ?_
              refine lv_goto (tgt := 90) hx hb dX11_test_86 (by decide) ?_
              exact hRet (scd_47, scf_48, scg_49) [0, 1] ⟨(by first | omega | (simp only [zl_1] <;> omega) | decide | assumption | rfl | (dsimp only; first | omega | (simp only [zl_1] <;> omega))), (by first | omega | (simp only [zl_1] <;> omega) | decide | assumption | rfl | (dsimp only; first | omega | (simp only [zl_1] <;> omega))), (by first | omega | (simp only [zl_1] <;> omega) | decide | assumption | rfl | (dsimp only; first | omega | (simp only [zl_1] <;> omega)))⟩ hP hD (by decide) rfl hS rfl dX11_test_90
          · refine lv_iload_n hx hb dX11_test_35 rfl (lv_at hl 1 rfl) ?_
            exact hRet (scd_3, scf_4, scg_5) [0, 1] ⟨(by first | omega | decide | assumption | rfl | (dsimp only; first | omega)), (by first | omega | decide | assumption | rfl | (dsimp only; first | omega)), (by first | omega | decide | assumption | rfl | (dsimp only; first | omega))⟩ hP hD (by decide) rfl hS rfl dX11_test_36
  · have h_14 : scd_3.toInt = ce.toInt := h_14
    obtain rfl : r_10 = (-1) := hr_10.trans (by decide)
    refine lv_istore_n (lv' := [(2, .int (-1)), (1, .int r_1), (0, .ref k)]) hx hb dX11_test_9 rfl hl (by decide) rfl ?_
    clear hl
    intro ls hl
    refine lv_aload_n hx hb dX11_test_10 rfl (lv_at hl 2 rfl) ?_
    refine va_get (D := D) (ci := 11) (v := .int scf_4) (C := RX11) (T := TX11) (N := 25) hx hb hT giX11 hown hK hP 0 rfl rfl 15 (by decide) (hT (Cond.fieldLink RX11 148 "DesertWireModel" "isWrong" "Z") mw_1171) (fun _ h9 => h9) rfl dX11_test_11 ?_
    refine b_if_ne hx hb rfl (tgt := 35) dX11_test_14 (by decide) (fun c_57 => ?_) (fun c_57 => ?_)
    · refine lv_iload_n hx hb dX11_test_35 rfl (lv_at hl 1 rfl) ?_
      exact hRet (scd_3, scf_4, scg_5) [0, 1] ⟨(by first | omega | decide | assumption | rfl | (dsimp only; first | omega)), (by first | omega | decide | assumption | rfl | (dsimp only; first | omega)), (by first | omega | decide | assumption | rfl | (dsimp only; first | omega))⟩ hP hD (by decide) rfl hS rfl dX11_test_36
    · refine lv_iload_n hx hb dX11_test_17 rfl (lv_at hl 0 rfl) ?_
      refine lv_bipush (v := 60) hx hb dX11_test_18 (by decide) ?_
      refine b_icmp_eq hx hb zl_m1 zl_60 (tgt := 37) dX11_test_20 (by decide) (fun c_58 => by exfalso; omega) (fun c_58 => ?_)
      refine lv_iload_n hx hb dX11_test_23 rfl (lv_at hl 0 rfl) ?_
      refine lv_bipush (v := 61) hx hb dX11_test_24 (by decide) ?_
      refine b_icmp_eq hx hb zl_m1 zl_61 (tgt := 37) dX11_test_26 (by decide) (fun c_59 => by exfalso; omega) (fun c_59 => ?_)
      refine lv_iload_n hx hb dX11_test_29 rfl (lv_at hl 0 rfl) ?_
      refine lv_bipush (v := 62) hx hb dX11_test_30 (by decide) ?_
      refine b_icmp_eq hx hb zl_m1 zl_62 (tgt := 37) dX11_test_32 (by decide) (fun c_60 => by exfalso; omega) (fun c_60 => ?_)
      refine lv_iload_n hx hb dX11_test_35 rfl (lv_at hl 1 rfl) ?_
      exact hRet (scd_3, scf_4, scg_5) [0, 1] ⟨(by first | omega | decide | assumption | rfl | (dsimp only; first | omega)), (by first | omega | decide | assumption | rfl | (dsimp only; first | omega)), (by first | omega | decide | assumption | rfl | (dsimp only; first | omega))⟩ hP hD (by decide) rfl hS rfl dX11_test_36

set_option maxHeartbeats 4000000 in
set_option maxRecDepth 100000 in
theorem c_X11_bothG3 (l : Launch) (D : va_G) (cI : ClassId) (aK aV : Nat → Nat) (k k0 k1 k2 k4 k5 k6 k7 k8 ka kb kl ko : Nat) (sz : Nat) (c3 : Int32) (c9 : Int32) (cc : Int32) (cd : Int32) (ce : Int32) (cf : Int32) (cg : Int32) (ch : Int32) (ci : Int32) (cj : Int32) (ck : Int32) (cm : Int32) (cn : Int32) (c0 : Nat → Int32) (pre0 : 0 ≤ cc.toInt) (pre1 : cc.toInt ≤ 1151) (pre2 : 0 ≤ cd.toInt) (pre3 : cd.toInt ≤ ce.toInt) (pre4 : ce.toInt ≤ 50) (pre5 : cg.toInt = 3) : Met l yX11_both (gW yX11_both cX11_both 3 (some .int)) ({ frames := 11, cells := 0, slots := 0, locals := 250 } : Room) (kPreX D cI aK aV [.ref k] [(k, .inr (11, [.ref k0, .ref k1, .ref k2, .int c3, .ref k4, .ref k5, .ref k6, .ref k7, .ref k8, .int c9, .ref ka, .ref kb, .int cc, .int cd, .int ce, .int cf, .int cg, .int ch, .int ci, .int cj, .int ck, .ref kl, .int cm, .int cn, .ref ko])), (k0, .inl (cI, 1201, .inl c0))] sz) (va_Qi (fun (r : Int32) (u : Int32 × Int32 × Int32) => cd.toInt ≤ u.1.toInt ∧ u.1.toInt ≤ ce.toInt ∧ u.2.2.toInt = 3) (fun u t => kWd D cI (va_A [(k, .inr (11, [.ref k0, .ref k1, .ref k2, .int c3, .ref k4, .ref k5, .ref k6, .ref k7, .ref k8, .int c9, .ref ka, .ref kb, .int cc, .int cd, .int ce, .int cf, .int cg, .int ch, .int ci, .int cj, .int ck, .ref kl, .int cm, .int cn, .ref ko])), (k0, .inl (cI, 1201, .inl c0))] sz) [(k, .inr (11, [.ref k0, .ref k1, .ref k2, .int c3, .ref k4, .ref k5, .ref k6, .ref k7, .ref k8, .int c9, .ref ka, .ref kb, .int cc, .int u.1, .int ce, .int u.2.1, .int u.2.2, .int ch, .int ci, .int cj, .int ck, .ref kl, .int cm, .int cn, .ref ko])), (k0, .inl (cI, 1201, .inl c0))] t) (va_A [(k, .inr (11, [.ref k0, .ref k1, .ref k2, .int c3, .ref k4, .ref k5, .ref k6, .ref k7, .ref k8, .int c9, .ref ka, .ref kb, .int cc, .int cd, .int ce, .int cf, .int cg, .int ch, .int ci, .int cj, .int ck, .ref kl, .int cm, .int cn, .ref ko])), (k0, .inl (cI, 1201, .inl c0))] sz)) 0 0 (va_A [(k, .inr (11, [.ref k0, .ref k1, .ref k2, .int c3, .ref k4, .ref k5, .ref k6, .ref k7, .ref k8, .int c9, .ref ka, .ref kb, .int cc, .int cd, .int ce, .int cf, .int cg, .int ch, .int ci, .int cj, .int ck, .ref kl, .int cm, .int cn, .ref ko])), (k0, .inl (cI, 1201, .inl c0))] sz) := by
  refine kMetIX (own := RX11) (by decide) rfl (Nat.le_of_ble_eq_true rfl) ?_
  intro p e s m args below meth c hx hb hT hown hname hml A Q hK hP hD hS hA hN hXS hRet ls hl
  have hl : lv_has ls 3 [(0, .ref k)] := hl
  have lo_cd := k_lo cd
  have hi_cd := k_hi cd
  have lo_ce := k_lo ce
  have hi_ce := k_hi ce
  have lo_ci := k_lo ci
  have hi_ci := k_hi ci
  refine lv_aload_n hx hb dX11_both_0 rfl (lv_at hl 0 rfl) ?_
  refine kJi (wr := []) (va_runV (As := []) (rest := []) ⟨hx, hb, hml, hown, hT⟩ (c_X11_testG3 l D cI aK aV k k0 k1 k2 k4 k5 k6 k7 k8 ka kb kl ko s.heap.size c3 c9 cc cd ce cf cg ch ci cj ck cm cn c0 (by first | omega | decide | assumption | rfl) (by first | omega | decide | assumption | rfl) (by first | omega | decide | assumption | rfl) (by first | omega | decide | assumption | rfl) (by first | omega | decide | assumption | rfl) (by first | omega | decide | assumption | rfl)) (cwV 0 hT (gV_in mw_1323 mw_1320 mw_1322 mw_p4_5 mw_12) rfl rfl rfl (by decide +kernel) ⟨Nat.le_of_ble_eq_true rfl, Nat.le_of_ble_eq_true rfl⟩) (kRecvX (q0 := 0) (ci := 11) hK hP hD hN hXS hS hA rfl rfl [0, 1] rfl (by decide)) rfl rfl hl.1 rfl (lv_room (Nat.le_of_ble_eq_true rfl)) dX11_both_1 ⟨Nat.le_of_ble_eq_true rfl, Nat.le_of_ble_eq_true rfl⟩) hP hD hS hA [0, 1] [] rfl rfl (by decide) (by decide) ?_
  clear hP hD hS
  intro r_1 u_6 H locs w_2 hP hD hS
  obtain ⟨scd_3, scf_4, scg_5⟩ := u_6
  replace hP : va_P D vwCl [(k, .inr (11, [.ref k0, .ref k1, .ref k2, .int c3, .ref k4, .ref k5, .ref k6, .ref k7, .ref k8, .int c9, .ref ka, .ref kb, .int cc, .int scd_3, .int ce, .int scf_4, .int scg_5, .int ch, .int ci, .int cj, .int ck, .ref kl, .int cm, .int cn, .ref ko])), (k0, .inl (cI, 1201, .inl c0))] H := hP
  replace hD : va_D A [(k, .inr (11, [.ref k0, .ref k1, .ref k2, .int c3, .ref k4, .ref k5, .ref k6, .ref k7, .ref k8, .int c9, .ref ka, .ref kb, .int cc, .int scd_3, .int ce, .int scf_4, .int scg_5, .int ch, .int ci, .int cj, .int ck, .ref kl, .int cm, .int cn, .ref ko])), (k0, .inl (cI, 1201, .inl c0))] := hD
  have lo_scd_3 := k_lo scd_3
  have hi_scd_3 := k_hi scd_3
  have lo_scg_5 := k_lo scg_5
  have hi_scg_5 := k_hi scg_5
  obtain ⟨h_7, h_8, h_9⟩ := w_2
  have h_7 : cd.toInt ≤ scd_3.toInt := h_7
  have h_8 : scd_3.toInt ≤ ce.toInt := h_8
  have h_9 : scg_5.toInt = 3 := h_9
  have lo_r_1 := k_lo r_1
  have hi_r_1 := k_hi r_1
  refine lv_istore_n (lv' := [(1, .int r_1), (0, .ref k)]) hx hb dX11_both_4 rfl hl (by decide) rfl ?_
  clear hl
  intro ls hl
  have hloop_5 : ∀ (fu_ : Nat) (l5_1 : Int32) (f5_kd : Int32) (f5_kf : Int32) (f5_kg : Int32), scd_3.toInt ≤ f5_kd.toInt → scg_5.toInt ≤ f5_kg.toInt → f5_kg.toInt ≤ scg_5.toInt → f5_kd.toInt ≤ ce.toInt → (ce.toInt - f5_kd.toInt).toNat < fu_ → ∀ (ls : Array Slot) (H : Heap) (locs : List Loc), lv_has ls 3 [(1, .int l5_1), (0, .ref k)] → va_P D vwCl [(k, .inr (11, [.ref k0, .ref k1, .ref k2, .int c3, .ref k4, .ref k5, .ref k6, .ref k7, .ref k8, .int c9, .ref ka, .ref kb, .int cc, .int f5_kd, .int ce, .int f5_kf, .int f5_kg, .int ch, .int ci, .int cj, .int ck, .ref kl, .int cm, .int cn, .ref ko])), (k0, .inl (cI, 1201, .inl c0))] H → va_D A [(k, .inr (11, [.ref k0, .ref k1, .ref k2, .int c3, .ref k4, .ref k5, .ref k6, .ref k7, .ref k8, .int c9, .ref ka, .ref kb, .int cc, .int f5_kd, .int ce, .int f5_kf, .int f5_kg, .int ch, .int ci, .int cj, .int ck, .ref kl, .int cm, .int cn, .ref ko])), (k0, .inl (cI, 1201, .inl c0))] → va_S A s.heap H locs → W p l e ({ frames := 11, cells := 0, slots := 0, locals := 250 } : Room) s m args below meth c H locs 0 0 Q (F0 m 5 ls []) := by
    intro fu_; induction fu_ with
    | zero => intro l5_1 f5_kd f5_kf f5_kg i5_0 i5_1 i5_2 i5_3 hm; exact absurd hm (by omega)
    | succ fu_ ih5 =>
        intro l5_1 f5_kd f5_kf f5_kg i5_0 i5_1 i5_2 i5_3 hm ls H locs hl hP hD hS
        have lo_l5_1 := k_lo l5_1
        have hi_l5_1 := k_hi l5_1
        have lo_f5_kd := k_lo f5_kd
        have hi_f5_kd := k_hi f5_kd
        have lo_f5_kf := k_lo f5_kf
        have hi_f5_kf := k_hi f5_kf
        have lo_f5_kg := k_lo f5_kg
        have hi_f5_kg := k_hi f5_kg
        refine lv_aload_n hx hb dX11_both_5 rfl (lv_at hl 1 rfl) ?_
        refine lv_bipush (v := 38) hx hb dX11_both_6 (by decide) ?_
        refine kJi (wr := []) (va_runV (As := [.int 38]) (rest := []) ⟨hx, hb, hml, hown, hT⟩ (c_X11_takesG l D cI aK aV k k0 k1 k2 k4 k5 k6 k7 k8 ka kb kl ko H.size c3 c9 cc f5_kd ce f5_kf f5_kg ch ci cj ck cm cn c0 38 (by first | omega | (simp only [zl_38] <;> omega) | decide | assumption | rfl) (by first | omega | (simp only [zl_38] <;> omega) | decide | assumption | rfl) (by first | omega | (simp only [zl_38] <;> omega) | decide | assumption | rfl) (by first | omega | (simp only [zl_38] <;> omega) | decide | assumption | rfl) (by first | omega | (simp only [zl_38] <;> omega) | decide | assumption | rfl) (by first | omega | (simp only [zl_38] <;> omega) | decide | assumption | rfl)) (cwV 1 hT (gV_in mw_1351 mw_1348 mw_1350 mw_p4_12 mw_12) rfl rfl rfl (by decide +kernel) ⟨Nat.le_of_ble_eq_true rfl, Nat.le_of_ble_eq_true rfl⟩) (kRecvX (q0 := 0) (ci := 11) hK hP hD hN hXS hS hA rfl rfl [0, 1] rfl (by decide)) rfl rfl hl.1 rfl (lv_room (Nat.le_of_ble_eq_true rfl)) dX11_both_8 ⟨Nat.le_of_ble_eq_true rfl, Nat.le_of_ble_eq_true rfl⟩) hP hD hS hA [0, 1] [] rfl rfl (by decide) (by decide) ?_
        clear hP hD hS
        intro r_10 scd_12 H locs w_11 hP hD hS
        replace hP : va_P D vwCl [(k, .inr (11, [.ref k0, .ref k1, .ref k2, .int c3, .ref k4, .ref k5, .ref k6, .ref k7, .ref k8, .int c9, .ref ka, .ref kb, .int cc, .int scd_12, .int ce, .int f5_kf, .int f5_kg, .int ch, .int ci, .int cj, .int ck, .ref kl, .int cm, .int cn, .ref ko])), (k0, .inl (cI, 1201, .inl c0))] H := hP
        replace hD : va_D A [(k, .inr (11, [.ref k0, .ref k1, .ref k2, .int c3, .ref k4, .ref k5, .ref k6, .ref k7, .ref k8, .int c9, .ref ka, .ref kb, .int cc, .int scd_12, .int ce, .int f5_kf, .int f5_kg, .int ch, .int ci, .int cj, .int ck, .ref kl, .int cm, .int cn, .ref ko])), (k0, .inl (cI, 1201, .inl c0))] := hD
        have lo_scd_12 := k_lo scd_12
        have hi_scd_12 := k_hi scd_12
        rcases w_11 with ⟨hr_10, h_13, h_14⟩ | ⟨hr_10, h_15⟩
        · try simp only [zl_38] at h_13
          have h_13 : scd_12.toInt = f5_kd.toInt + 1 := h_13
          try simp only [zl_38] at h_14
          have h_14 : scd_12.toInt ≤ ce.toInt := h_14
          obtain rfl : r_10 = 1 := hr_10.trans (by decide)
          refine b_if_eq hx hb zl_1 (tgt := 36) dX11_both_11 (by decide) (fun c_16 => by exfalso; omega) (fun c_16 => ?_)
          refine lv_aload_n hx hb dX11_both_14 rfl (lv_at hl 1 rfl) ?_
          refine kJi (wr := []) (va_runV (As := []) (rest := []) ⟨hx, hb, hml, hown, hT⟩ (c_X11_testG3 l D cI aK aV k k0 k1 k2 k4 k5 k6 k7 k8 ka kb kl ko H.size c3 c9 cc scd_12 ce f5_kf f5_kg ch ci cj ck cm cn c0 (by first | omega | decide | assumption | rfl) (by first | omega | decide | assumption | rfl) (by first | omega | decide | assumption | rfl) (by first | omega | decide | assumption | rfl) (by first | omega | decide | assumption | rfl) (by first | omega | decide | assumption | rfl)) (cwV 0 hT (gV_in mw_1323 mw_1320 mw_1322 mw_p4_5 mw_12) rfl rfl rfl (by decide +kernel) ⟨Nat.le_of_ble_eq_true rfl, Nat.le_of_ble_eq_true rfl⟩) (kRecvX (q0 := 0) (ci := 11) hK hP hD hN hXS hS hA rfl rfl [0, 1] rfl (by decide)) rfl rfl hl.1 rfl (lv_room (Nat.le_of_ble_eq_true rfl)) dX11_both_15 ⟨Nat.le_of_ble_eq_true rfl, Nat.le_of_ble_eq_true rfl⟩) hP hD hS hA [0, 1] [] rfl rfl (by decide) (by decide) ?_
          clear hP hD hS
          intro r_17 u_22 H locs w_18 hP hD hS
          obtain ⟨scd_19, scf_20, scg_21⟩ := u_22
          replace hP : va_P D vwCl [(k, .inr (11, [.ref k0, .ref k1, .ref k2, .int c3, .ref k4, .ref k5, .ref k6, .ref k7, .ref k8, .int c9, .ref ka, .ref kb, .int cc, .int scd_19, .int ce, .int scf_20, .int scg_21, .int ch, .int ci, .int cj, .int ck, .ref kl, .int cm, .int cn, .ref ko])), (k0, .inl (cI, 1201, .inl c0))] H := hP
          replace hD : va_D A [(k, .inr (11, [.ref k0, .ref k1, .ref k2, .int c3, .ref k4, .ref k5, .ref k6, .ref k7, .ref k8, .int c9, .ref ka, .ref kb, .int cc, .int scd_19, .int ce, .int scf_20, .int scg_21, .int ch, .int ci, .int cj, .int ck, .ref kl, .int cm, .int cn, .ref ko])), (k0, .inl (cI, 1201, .inl c0))] := hD
          have lo_scd_19 := k_lo scd_19
          have hi_scd_19 := k_hi scd_19
          have lo_scg_21 := k_lo scg_21
          have hi_scg_21 := k_hi scg_21
          obtain ⟨h_23, h_24, h_25⟩ := w_18
          have h_23 : scd_12.toInt ≤ scd_19.toInt := h_23
          have h_24 : scd_19.toInt ≤ ce.toInt := h_24
          have h_25 : scg_21.toInt = 3 := h_25
          have lo_r_17 := k_lo r_17
          have hi_r_17 := k_hi r_17
          refine lv_istore_n (lv' := [(2, .int r_17), (1, .int l5_1), (0, .ref k)]) hx hb dX11_both_18 rfl hl (by decide) rfl ?_
          clear hl
          intro ls hl
          refine lv_iload_n hx hb dX11_both_19 rfl (lv_at hl 1 rfl) ?_
          refine b_if_eq hx hb rfl (tgt := 31) dX11_both_20 (by decide) (fun c_26 => ?_) (fun c_26 => ?_)
          · refine lv_iconst (v := 0) hx hb dX11_both_31 (by decide) ?_
            refine lv_istore_n (lv' := [(1, .int 0), (2, .int r_17), (0, .ref k)]) hx hb dX11_both_32 rfl hl (by decide) rfl ?_
            clear hl
            intro ls hl
            refine lv_goto (tgt := 5) hx hb dX11_both_33 (by decide) ?_
            exact ih5 0 scd_19 scf_20 scg_21 (by first | omega | (simp only [zl_0] <;> omega) | decide | assumption | rfl) (by first | omega | (simp only [zl_0] <;> omega) | decide | assumption | rfl) (by first | omega | (simp only [zl_0] <;> omega) | decide | assumption | rfl) (by first | omega | (simp only [zl_0] <;> omega) | decide | assumption | rfl) (by omega) ls _ _ (lv_sub hl [0, 2] rfl) (hP.sub [0, 1] rfl) (hD.sub [0, 1] (by decide) rfl) hS
          · refine lv_iload_n hx hb dX11_both_23 rfl (lv_at hl 0 rfl) ?_
            refine b_if_eq hx hb rfl (tgt := 31) dX11_both_24 (by decide) (fun c_27 => ?_) (fun c_27 => ?_)
            · refine lv_iconst (v := 0) hx hb dX11_both_31 (by decide) ?_
              refine lv_istore_n (lv' := [(1, .int 0), (2, .int r_17), (0, .ref k)]) hx hb dX11_both_32 rfl hl (by decide) rfl ?_
              clear hl
              intro ls hl
              refine lv_goto (tgt := 5) hx hb dX11_both_33 (by decide) ?_
              exact ih5 0 scd_19 scf_20 scg_21 (by first | omega | (simp only [zl_0] <;> omega) | decide | assumption | rfl) (by first | omega | (simp only [zl_0] <;> omega) | decide | assumption | rfl) (by first | omega | (simp only [zl_0] <;> omega) | decide | assumption | rfl) (by first | omega | (simp only [zl_0] <;> omega) | decide | assumption | rfl) (by omega) ls _ _ (lv_sub hl [0, 2] rfl) (hP.sub [0, 1] rfl) (hD.sub [0, 1] (by decide) rfl) hS
            · refine lv_iconst (v := 1) hx hb dX11_both_27 (by decide) ?_
              refine lv_goto (tgt := 32) hx hb dX11_both_28 (by decide) ?_
              refine lv_istore_n (lv' := [(1, .int 1), (2, .int r_17), (0, .ref k)]) hx hb dX11_both_32 rfl hl (by decide) rfl ?_
              clear hl
              intro ls hl
              refine lv_goto (tgt := 5) hx hb dX11_both_33 (by decide) ?_
              exact ih5 1 scd_19 scf_20 scg_21 (by first | omega | (simp only [zl_1] <;> omega) | decide | assumption | rfl) (by first | omega | (simp only [zl_1] <;> omega) | decide | assumption | rfl) (by first | omega | (simp only [zl_1] <;> omega) | decide | assumption | rfl) (by first | omega | (simp only [zl_1] <;> omega) | decide | assumption | rfl) (by omega) ls _ _ (lv_sub hl [0, 2] rfl) (hP.sub [0, 1] rfl) (hD.sub [0, 1] (by decide) rfl) hS
        · try simp only [zl_38] at h_15
          have h_15 : scd_12.toInt = f5_kd.toInt := h_15
          obtain rfl : r_10 = 0 := hr_10.trans (by decide)
          refine b_if_eq hx hb zl_0 (tgt := 36) dX11_both_11 (by decide) (fun c_28 => ?_) (fun c_28 => by exfalso; omega)
          refine lv_iload_n hx hb dX11_both_36 rfl (lv_at hl 0 rfl) ?_
          exact hRet (scd_12, f5_kf, f5_kg) [0, 1] ⟨(by first | omega | decide | assumption | rfl | (dsimp only; first | omega)), (by first | omega | decide | assumption | rfl | (dsimp only; first | omega)), (by first | omega | decide | assumption | rfl | (dsimp only; first | omega))⟩ hP hD (by decide) rfl hS rfl dX11_both_37
  exact hloop_5 _ r_1 scd_3 scf_4 scg_5 (by first | omega | decide | assumption | rfl) (by first | omega | decide | assumption | rfl) (by first | omega | decide | assumption | rfl) (by first | omega | decide | assumption | rfl) (Nat.lt_succ_self _) ls _ _ (lv_sub hl [0, 1] rfl) hP hD hS

set_option maxHeartbeats 4000000 in
set_option maxRecDepth 100000 in
theorem c_X11_wholeG3 (l : Launch) (D : va_G) (cI : ClassId) (aK aV : Nat → Nat) (k k0 k1 k2 k4 k5 k6 k7 k8 ka kb kl ko : Nat) (sz : Nat) (c3 : Int32) (c9 : Int32) (cc : Int32) (cd : Int32) (ce : Int32) (cf : Int32) (cg : Int32) (ch : Int32) (ci : Int32) (cj : Int32) (ck : Int32) (cm : Int32) (cn : Int32) (c0 : Nat → Int32) (pre0 : 0 ≤ cc.toInt) (pre1 : cc.toInt ≤ 1151) (pre2 : 0 ≤ cd.toInt) (pre3 : cd.toInt ≤ ce.toInt) (pre4 : ce.toInt ≤ 50) (pre5 : cg.toInt = 3) : Met l yX11_whole (gW yX11_whole cX11_whole 3 (some .int)) ({ frames := 12, cells := 0, slots := 0, locals := 272 } : Room) (kPreX D cI aK aV [.ref k] [(k, .inr (11, [.ref k0, .ref k1, .ref k2, .int c3, .ref k4, .ref k5, .ref k6, .ref k7, .ref k8, .int c9, .ref ka, .ref kb, .int cc, .int cd, .int ce, .int cf, .int cg, .int ch, .int ci, .int cj, .int ck, .ref kl, .int cm, .int cn, .ref ko])), (k0, .inl (cI, 1201, .inl c0))] sz) (va_Qi (fun (r : Int32) (u : Int32 × Int32 × Int32) => cd.toInt ≤ u.1.toInt ∧ u.1.toInt ≤ ce.toInt ∧ u.2.2.toInt = 3) (fun u t => kWd D cI (va_A [(k, .inr (11, [.ref k0, .ref k1, .ref k2, .int c3, .ref k4, .ref k5, .ref k6, .ref k7, .ref k8, .int c9, .ref ka, .ref kb, .int cc, .int cd, .int ce, .int cf, .int cg, .int ch, .int ci, .int cj, .int ck, .ref kl, .int cm, .int cn, .ref ko])), (k0, .inl (cI, 1201, .inl c0))] sz) [(k, .inr (11, [.ref k0, .ref k1, .ref k2, .int c3, .ref k4, .ref k5, .ref k6, .ref k7, .ref k8, .int c9, .ref ka, .ref kb, .int cc, .int u.1, .int ce, .int u.2.1, .int u.2.2, .int ch, .int ci, .int cj, .int ck, .ref kl, .int cm, .int cn, .ref ko])), (k0, .inl (cI, 1201, .inl c0))] t) (va_A [(k, .inr (11, [.ref k0, .ref k1, .ref k2, .int c3, .ref k4, .ref k5, .ref k6, .ref k7, .ref k8, .int c9, .ref ka, .ref kb, .int cc, .int cd, .int ce, .int cf, .int cg, .int ch, .int ci, .int cj, .int ck, .ref kl, .int cm, .int cn, .ref ko])), (k0, .inl (cI, 1201, .inl c0))] sz)) 0 0 (va_A [(k, .inr (11, [.ref k0, .ref k1, .ref k2, .int c3, .ref k4, .ref k5, .ref k6, .ref k7, .ref k8, .int c9, .ref ka, .ref kb, .int cc, .int cd, .int ce, .int cf, .int cg, .int ch, .int ci, .int cj, .int ck, .ref kl, .int cm, .int cn, .ref ko])), (k0, .inl (cI, 1201, .inl c0))] sz) := by
  refine kMetIX (own := RX11) (by decide) rfl (Nat.le_of_ble_eq_true rfl) ?_
  intro p e s m args below meth c hx hb hT hown hname hml A Q hK hP hD hS hA hN hXS hRet ls hl
  have hl : lv_has ls 3 [(0, .ref k)] := hl
  have lo_cd := k_lo cd
  have hi_cd := k_hi cd
  have lo_ce := k_lo ce
  have hi_ce := k_hi ce
  have lo_ci := k_lo ci
  have hi_ci := k_hi ci
  refine lv_aload_n hx hb dX11_whole_0 rfl (lv_at hl 0 rfl) ?_
  refine kJi (wr := []) (va_runV (As := []) (rest := []) ⟨hx, hb, hml, hown, hT⟩ (c_X11_bothG3 l D cI aK aV k k0 k1 k2 k4 k5 k6 k7 k8 ka kb kl ko s.heap.size c3 c9 cc cd ce cf cg ch ci cj ck cm cn c0 (by first | omega | decide | assumption | rfl) (by first | omega | decide | assumption | rfl) (by first | omega | decide | assumption | rfl) (by first | omega | decide | assumption | rfl) (by first | omega | decide | assumption | rfl) (by first | omega | decide | assumption | rfl)) (cwV 0 hT (gV_in mw_1319 mw_1316 mw_1318 mw_p4_4 mw_12) rfl rfl rfl (by decide +kernel) ⟨Nat.le_of_ble_eq_true rfl, Nat.le_of_ble_eq_true rfl⟩) (kRecvX (q0 := 0) (ci := 11) hK hP hD hN hXS hS hA rfl rfl [0, 1] rfl (by decide)) rfl rfl hl.1 rfl (lv_room (Nat.le_of_ble_eq_true rfl)) dX11_whole_1 ⟨Nat.le_of_ble_eq_true rfl, Nat.le_of_ble_eq_true rfl⟩) hP hD hS hA [0, 1] [] rfl rfl (by decide) (by decide) ?_
  clear hP hD hS
  intro r_1 u_6 H locs w_2 hP hD hS
  obtain ⟨scd_3, scf_4, scg_5⟩ := u_6
  replace hP : va_P D vwCl [(k, .inr (11, [.ref k0, .ref k1, .ref k2, .int c3, .ref k4, .ref k5, .ref k6, .ref k7, .ref k8, .int c9, .ref ka, .ref kb, .int cc, .int scd_3, .int ce, .int scf_4, .int scg_5, .int ch, .int ci, .int cj, .int ck, .ref kl, .int cm, .int cn, .ref ko])), (k0, .inl (cI, 1201, .inl c0))] H := hP
  replace hD : va_D A [(k, .inr (11, [.ref k0, .ref k1, .ref k2, .int c3, .ref k4, .ref k5, .ref k6, .ref k7, .ref k8, .int c9, .ref ka, .ref kb, .int cc, .int scd_3, .int ce, .int scf_4, .int scg_5, .int ch, .int ci, .int cj, .int ck, .ref kl, .int cm, .int cn, .ref ko])), (k0, .inl (cI, 1201, .inl c0))] := hD
  have lo_scd_3 := k_lo scd_3
  have hi_scd_3 := k_hi scd_3
  have lo_scg_5 := k_lo scg_5
  have hi_scg_5 := k_hi scg_5
  obtain ⟨h_7, h_8, h_9⟩ := w_2
  have h_7 : cd.toInt ≤ scd_3.toInt := h_7
  have h_8 : scd_3.toInt ≤ ce.toInt := h_8
  have h_9 : scg_5.toInt = 3 := h_9
  have lo_r_1 := k_lo r_1
  have hi_r_1 := k_hi r_1
  refine lv_istore_n (lv' := [(1, .int r_1), (0, .ref k)]) hx hb dX11_whole_4 rfl hl (by decide) rfl ?_
  clear hl
  intro ls hl
  have hloop_5 : ∀ (fu_ : Nat) (l5_1 : Int32) (f5_kd : Int32) (f5_kf : Int32) (f5_kg : Int32), scd_3.toInt ≤ f5_kd.toInt → scg_5.toInt ≤ f5_kg.toInt → f5_kg.toInt ≤ scg_5.toInt → f5_kd.toInt ≤ ce.toInt → (ce.toInt - f5_kd.toInt).toNat < fu_ → ∀ (ls : Array Slot) (H : Heap) (locs : List Loc), lv_has ls 3 [(1, .int l5_1), (0, .ref k)] → va_P D vwCl [(k, .inr (11, [.ref k0, .ref k1, .ref k2, .int c3, .ref k4, .ref k5, .ref k6, .ref k7, .ref k8, .int c9, .ref ka, .ref kb, .int cc, .int f5_kd, .int ce, .int f5_kf, .int f5_kg, .int ch, .int ci, .int cj, .int ck, .ref kl, .int cm, .int cn, .ref ko])), (k0, .inl (cI, 1201, .inl c0))] H → va_D A [(k, .inr (11, [.ref k0, .ref k1, .ref k2, .int c3, .ref k4, .ref k5, .ref k6, .ref k7, .ref k8, .int c9, .ref ka, .ref kb, .int cc, .int f5_kd, .int ce, .int f5_kf, .int f5_kg, .int ch, .int ci, .int cj, .int ck, .ref kl, .int cm, .int cn, .ref ko])), (k0, .inl (cI, 1201, .inl c0))] → va_S A s.heap H locs → W p l e ({ frames := 12, cells := 0, slots := 0, locals := 272 } : Room) s m args below meth c H locs 0 0 Q (F0 m 5 ls []) := by
    intro fu_; induction fu_ with
    | zero => intro l5_1 f5_kd f5_kf f5_kg i5_0 i5_1 i5_2 i5_3 hm; exact absurd hm (by omega)
    | succ fu_ ih5 =>
        intro l5_1 f5_kd f5_kf f5_kg i5_0 i5_1 i5_2 i5_3 hm ls H locs hl hP hD hS
        have lo_l5_1 := k_lo l5_1
        have hi_l5_1 := k_hi l5_1
        have lo_f5_kd := k_lo f5_kd
        have hi_f5_kd := k_hi f5_kd
        have lo_f5_kf := k_lo f5_kf
        have hi_f5_kf := k_hi f5_kf
        have lo_f5_kg := k_lo f5_kg
        have hi_f5_kg := k_hi f5_kg
        refine lv_aload_n hx hb dX11_whole_5 rfl (lv_at hl 1 rfl) ?_
        refine lv_bipush (v := 124) hx hb dX11_whole_6 (by decide) ?_
        refine kJi (wr := []) (va_runV (As := [.int 124]) (rest := []) ⟨hx, hb, hml, hown, hT⟩ (c_X11_takesG l D cI aK aV k k0 k1 k2 k4 k5 k6 k7 k8 ka kb kl ko H.size c3 c9 cc f5_kd ce f5_kf f5_kg ch ci cj ck cm cn c0 124 (by first | omega | (simp only [zl_124] <;> omega) | decide | assumption | rfl) (by first | omega | (simp only [zl_124] <;> omega) | decide | assumption | rfl) (by first | omega | (simp only [zl_124] <;> omega) | decide | assumption | rfl) (by first | omega | (simp only [zl_124] <;> omega) | decide | assumption | rfl) (by first | omega | (simp only [zl_124] <;> omega) | decide | assumption | rfl) (by first | omega | (simp only [zl_124] <;> omega) | decide | assumption | rfl)) (cwV 1 hT (gV_in mw_1351 mw_1348 mw_1350 mw_p4_12 mw_12) rfl rfl rfl (by decide +kernel) ⟨Nat.le_of_ble_eq_true rfl, Nat.le_of_ble_eq_true rfl⟩) (kRecvX (q0 := 0) (ci := 11) hK hP hD hN hXS hS hA rfl rfl [0, 1] rfl (by decide)) rfl rfl hl.1 rfl (lv_room (Nat.le_of_ble_eq_true rfl)) dX11_whole_8 ⟨Nat.le_of_ble_eq_true rfl, Nat.le_of_ble_eq_true rfl⟩) hP hD hS hA [0, 1] [] rfl rfl (by decide) (by decide) ?_
        clear hP hD hS
        intro r_10 scd_12 H locs w_11 hP hD hS
        replace hP : va_P D vwCl [(k, .inr (11, [.ref k0, .ref k1, .ref k2, .int c3, .ref k4, .ref k5, .ref k6, .ref k7, .ref k8, .int c9, .ref ka, .ref kb, .int cc, .int scd_12, .int ce, .int f5_kf, .int f5_kg, .int ch, .int ci, .int cj, .int ck, .ref kl, .int cm, .int cn, .ref ko])), (k0, .inl (cI, 1201, .inl c0))] H := hP
        replace hD : va_D A [(k, .inr (11, [.ref k0, .ref k1, .ref k2, .int c3, .ref k4, .ref k5, .ref k6, .ref k7, .ref k8, .int c9, .ref ka, .ref kb, .int cc, .int scd_12, .int ce, .int f5_kf, .int f5_kg, .int ch, .int ci, .int cj, .int ck, .ref kl, .int cm, .int cn, .ref ko])), (k0, .inl (cI, 1201, .inl c0))] := hD
        have lo_scd_12 := k_lo scd_12
        have hi_scd_12 := k_hi scd_12
        rcases w_11 with ⟨hr_10, h_13, h_14⟩ | ⟨hr_10, h_15⟩
        · try simp only [zl_124] at h_13
          have h_13 : scd_12.toInt = f5_kd.toInt + 1 := h_13
          try simp only [zl_124] at h_14
          have h_14 : scd_12.toInt ≤ ce.toInt := h_14
          obtain rfl : r_10 = 1 := hr_10.trans (by decide)
          refine b_if_eq hx hb zl_1 (tgt := 36) dX11_whole_11 (by decide) (fun c_16 => by exfalso; omega) (fun c_16 => ?_)
          refine lv_aload_n hx hb dX11_whole_14 rfl (lv_at hl 1 rfl) ?_
          refine kJi (wr := []) (va_runV (As := []) (rest := []) ⟨hx, hb, hml, hown, hT⟩ (c_X11_bothG3 l D cI aK aV k k0 k1 k2 k4 k5 k6 k7 k8 ka kb kl ko H.size c3 c9 cc scd_12 ce f5_kf f5_kg ch ci cj ck cm cn c0 (by first | omega | decide | assumption | rfl) (by first | omega | decide | assumption | rfl) (by first | omega | decide | assumption | rfl) (by first | omega | decide | assumption | rfl) (by first | omega | decide | assumption | rfl) (by first | omega | decide | assumption | rfl)) (cwV 0 hT (gV_in mw_1319 mw_1316 mw_1318 mw_p4_4 mw_12) rfl rfl rfl (by decide +kernel) ⟨Nat.le_of_ble_eq_true rfl, Nat.le_of_ble_eq_true rfl⟩) (kRecvX (q0 := 0) (ci := 11) hK hP hD hN hXS hS hA rfl rfl [0, 1] rfl (by decide)) rfl rfl hl.1 rfl (lv_room (Nat.le_of_ble_eq_true rfl)) dX11_whole_15 ⟨Nat.le_of_ble_eq_true rfl, Nat.le_of_ble_eq_true rfl⟩) hP hD hS hA [0, 1] [] rfl rfl (by decide) (by decide) ?_
          clear hP hD hS
          intro r_17 u_22 H locs w_18 hP hD hS
          obtain ⟨scd_19, scf_20, scg_21⟩ := u_22
          replace hP : va_P D vwCl [(k, .inr (11, [.ref k0, .ref k1, .ref k2, .int c3, .ref k4, .ref k5, .ref k6, .ref k7, .ref k8, .int c9, .ref ka, .ref kb, .int cc, .int scd_19, .int ce, .int scf_20, .int scg_21, .int ch, .int ci, .int cj, .int ck, .ref kl, .int cm, .int cn, .ref ko])), (k0, .inl (cI, 1201, .inl c0))] H := hP
          replace hD : va_D A [(k, .inr (11, [.ref k0, .ref k1, .ref k2, .int c3, .ref k4, .ref k5, .ref k6, .ref k7, .ref k8, .int c9, .ref ka, .ref kb, .int cc, .int scd_19, .int ce, .int scf_20, .int scg_21, .int ch, .int ci, .int cj, .int ck, .ref kl, .int cm, .int cn, .ref ko])), (k0, .inl (cI, 1201, .inl c0))] := hD
          have lo_scd_19 := k_lo scd_19
          have hi_scd_19 := k_hi scd_19
          have lo_scg_21 := k_lo scg_21
          have hi_scg_21 := k_hi scg_21
          obtain ⟨h_23, h_24, h_25⟩ := w_18
          have h_23 : scd_12.toInt ≤ scd_19.toInt := h_23
          have h_24 : scd_19.toInt ≤ ce.toInt := h_24
          have h_25 : scg_21.toInt = 3 := h_25
          have lo_r_17 := k_lo r_17
          have hi_r_17 := k_hi r_17
          refine lv_istore_n (lv' := [(2, .int r_17), (1, .int l5_1), (0, .ref k)]) hx hb dX11_whole_18 rfl hl (by decide) rfl ?_
          clear hl
          intro ls hl
          refine lv_iload_n hx hb dX11_whole_19 rfl (lv_at hl 1 rfl) ?_
          refine b_if_ne hx hb rfl (tgt := 27) dX11_whole_20 (by decide) (fun c_26 => ?_) (fun c_26 => ?_)
          · refine lv_iconst (v := 1) hx hb dX11_whole_27 (by decide) ?_
            refine lv_goto (tgt := 32) hx hb dX11_whole_28 (by decide) ?_
            refine lv_istore_n (lv' := [(1, .int 1), (2, .int r_17), (0, .ref k)]) hx hb dX11_whole_32 rfl hl (by decide) rfl ?_
            clear hl
            intro ls hl
            refine lv_goto (tgt := 5) hx hb dX11_whole_33 (by decide) ?_
            exact ih5 1 scd_19 scf_20 scg_21 (by first | omega | (simp only [zl_1] <;> omega) | decide | assumption | rfl) (by first | omega | (simp only [zl_1] <;> omega) | decide | assumption | rfl) (by first | omega | (simp only [zl_1] <;> omega) | decide | assumption | rfl) (by first | omega | (simp only [zl_1] <;> omega) | decide | assumption | rfl) (by omega) ls _ _ (lv_sub hl [0, 2] rfl) (hP.sub [0, 1] rfl) (hD.sub [0, 1] (by decide) rfl) hS
          · refine lv_iload_n hx hb dX11_whole_23 rfl (lv_at hl 0 rfl) ?_
            refine b_if_eq hx hb rfl (tgt := 31) dX11_whole_24 (by decide) (fun c_27 => ?_) (fun c_27 => ?_)
            · refine lv_iconst (v := 0) hx hb dX11_whole_31 (by decide) ?_
              refine lv_istore_n (lv' := [(1, .int 0), (2, .int r_17), (0, .ref k)]) hx hb dX11_whole_32 rfl hl (by decide) rfl ?_
              clear hl
              intro ls hl
              refine lv_goto (tgt := 5) hx hb dX11_whole_33 (by decide) ?_
              exact ih5 0 scd_19 scf_20 scg_21 (by first | omega | (simp only [zl_0] <;> omega) | decide | assumption | rfl) (by first | omega | (simp only [zl_0] <;> omega) | decide | assumption | rfl) (by first | omega | (simp only [zl_0] <;> omega) | decide | assumption | rfl) (by first | omega | (simp only [zl_0] <;> omega) | decide | assumption | rfl) (by omega) ls _ _ (lv_sub hl [0, 2] rfl) (hP.sub [0, 1] rfl) (hD.sub [0, 1] (by decide) rfl) hS
            · refine lv_iconst (v := 1) hx hb dX11_whole_27 (by decide) ?_
              refine lv_goto (tgt := 32) hx hb dX11_whole_28 (by decide) ?_
              refine lv_istore_n (lv' := [(1, .int 1), (2, .int r_17), (0, .ref k)]) hx hb dX11_whole_32 rfl hl (by decide) rfl ?_
              clear hl
              intro ls hl
              refine lv_goto (tgt := 5) hx hb dX11_whole_33 (by decide) ?_
              exact ih5 1 scd_19 scf_20 scg_21 (by first | omega | (simp only [zl_1] <;> omega) | decide | assumption | rfl) (by first | omega | (simp only [zl_1] <;> omega) | decide | assumption | rfl) (by first | omega | (simp only [zl_1] <;> omega) | decide | assumption | rfl) (by first | omega | (simp only [zl_1] <;> omega) | decide | assumption | rfl) (by omega) ls _ _ (lv_sub hl [0, 2] rfl) (hP.sub [0, 1] rfl) (hD.sub [0, 1] (by decide) rfl) hS
        · try simp only [zl_124] at h_15
          have h_15 : scd_12.toInt = f5_kd.toInt := h_15
          obtain rfl : r_10 = 0 := hr_10.trans (by decide)
          refine b_if_eq hx hb zl_0 (tgt := 36) dX11_whole_11 (by decide) (fun c_28 => ?_) (fun c_28 => by exfalso; omega)
          refine lv_iload_n hx hb dX11_whole_36 rfl (lv_at hl 0 rfl) ?_
          exact hRet (scd_12, f5_kf, f5_kg) [0, 1] ⟨(by first | omega | decide | assumption | rfl | (dsimp only; first | omega)), (by first | omega | decide | assumption | rfl | (dsimp only; first | omega)), (by first | omega | decide | assumption | rfl | (dsimp only; first | omega))⟩ hP hD (by decide) rfl hS rfl dX11_whole_37
  exact hloop_5 _ r_1 scd_3 scf_4 scg_5 (by first | omega | decide | assumption | rfl) (by first | omega | decide | assumption | rfl) (by first | omega | decide | assumption | rfl) (by first | omega | decide | assumption | rfl) (Nat.lt_succ_self _) ls _ _ (lv_sub hl [0, 1] rfl) hP hD hS

set_option maxHeartbeats 4000000 in
set_option maxRecDepth 100000 in
theorem c_X11_oneG2 (l : Launch) (D : va_G) (cI : ClassId) (aK aV : Nat → Nat) (k k0 k1 k2 k4 k5 k6 k7 k8 ka kb kl ko : Nat) (sz : Nat) (c3 : Int32) (c9 : Int32) (cc : Int32) (cd : Int32) (ce : Int32) (cf : Int32) (cg : Int32) (ch : Int32) (ci : Int32) (cj : Int32) (ck : Int32) (cm : Int32) (cn : Int32) (c0 : Nat → Int32) (pre0 : 0 ≤ cc.toInt) (pre1 : cc.toInt ≤ 1151) (pre2 : 0 ≤ cd.toInt) (pre3 : cd.toInt ≤ ce.toInt) (pre4 : ce.toInt ≤ 50) (pre5 : cg.toInt = 2) : Met l yX11_one (gW yX11_one cX11_one 4 (some .int)) ({ frames := 13, cells := 0, slots := 0, locals := 294 } : Room) (kPreX D cI aK aV [.ref k] [(k, .inr (11, [.ref k0, .ref k1, .ref k2, .int c3, .ref k4, .ref k5, .ref k6, .ref k7, .ref k8, .int c9, .ref ka, .ref kb, .int cc, .int cd, .int ce, .int cf, .int cg, .int ch, .int ci, .int cj, .int ck, .ref kl, .int cm, .int cn, .ref ko])), (k0, .inl (cI, 1201, .inl c0))] sz) (va_Qi (fun (r : Int32) (u : Int32 × Int32 × Int32) => cd.toInt ≤ u.1.toInt ∧ u.1.toInt ≤ ce.toInt ∧ u.2.2.toInt = 2) (fun u t => kWd D cI (va_A [(k, .inr (11, [.ref k0, .ref k1, .ref k2, .int c3, .ref k4, .ref k5, .ref k6, .ref k7, .ref k8, .int c9, .ref ka, .ref kb, .int cc, .int cd, .int ce, .int cf, .int cg, .int ch, .int ci, .int cj, .int ck, .ref kl, .int cm, .int cn, .ref ko])), (k0, .inl (cI, 1201, .inl c0))] sz) [(k, .inr (11, [.ref k0, .ref k1, .ref k2, .int c3, .ref k4, .ref k5, .ref k6, .ref k7, .ref k8, .int c9, .ref ka, .ref kb, .int cc, .int u.1, .int ce, .int u.2.1, .int u.2.2, .int ch, .int ci, .int cj, .int ck, .ref kl, .int cm, .int cn, .ref ko])), (k0, .inl (cI, 1201, .inl c0))] t) (va_A [(k, .inr (11, [.ref k0, .ref k1, .ref k2, .int c3, .ref k4, .ref k5, .ref k6, .ref k7, .ref k8, .int c9, .ref ka, .ref kb, .int cc, .int cd, .int ce, .int cf, .int cg, .int ch, .int ci, .int cj, .int ck, .ref kl, .int cm, .int cn, .ref ko])), (k0, .inl (cI, 1201, .inl c0))] sz)) 0 0 (va_A [(k, .inr (11, [.ref k0, .ref k1, .ref k2, .int c3, .ref k4, .ref k5, .ref k6, .ref k7, .ref k8, .int c9, .ref ka, .ref kb, .int cc, .int cd, .int ce, .int cf, .int cg, .int ch, .int ci, .int cj, .int ck, .ref kl, .int cm, .int cn, .ref ko])), (k0, .inl (cI, 1201, .inl c0))] sz) := by
  refine kMetIX (own := RX11) (by decide) rfl (Nat.le_of_ble_eq_true rfl) ?_
  intro p e s m args below meth c hx hb hT hown hname hml A Q hK hP hD hS hA hN hXS hRet ls hl
  have hl : lv_has ls 4 [(0, .ref k)] := hl
  have lo_cd := k_lo cd
  have hi_cd := k_hi cd
  have lo_ce := k_lo ce
  have hi_ce := k_hi ce
  have lo_cf := k_lo cf
  have hi_cf := k_hi cf
  have lo_cg := k_lo cg
  have hi_cg := k_hi cg
  have lo_ci := k_lo ci
  have hi_ci := k_hi ci
  have lo_cj := k_lo cj
  have hi_cj := k_hi cj
  have lo_ck := k_lo ck
  have hi_ck := k_hi ck
  refine lv_aload_n hx hb dX11_one_0 rfl (lv_at hl 0 rfl) ?_
  refine kJi (wr := []) (va_runV (As := []) (rest := []) ⟨hx, hb, hml, hown, hT⟩ (c_X11_nowG l D cI aK aV k k0 k1 k2 k4 k5 k6 k7 k8 ka kb kl ko s.heap.size c3 c9 cc cd ce cf cg ch ci cj ck cm cn c0 (by first | omega | decide | assumption | rfl) (by first | omega | decide | assumption | rfl) (by first | omega | decide | assumption | rfl) (by first | omega | decide | assumption | rfl) (by first | omega | decide | assumption | rfl)) (cwV 0 hT (gV_in mw_1339 mw_1336 mw_1338 mw_p4_9 mw_12) rfl rfl rfl (by decide +kernel) ⟨Nat.le_of_ble_eq_true rfl, Nat.le_of_ble_eq_true rfl⟩) (kRecvX (q0 := 0) (ci := 11) hK hP hD hN hXS hS hA rfl rfl [0, 1] rfl (by decide)) rfl rfl hl.1 rfl (lv_room (Nat.le_of_ble_eq_true rfl)) dX11_one_1 ⟨Nat.le_of_ble_eq_true rfl, Nat.le_of_ble_eq_true rfl⟩) hP hD hS hA [0, 1] [] rfl rfl (by decide) (by decide) ?_
  clear hP hD hS
  intro r_1 u_3 H locs w_2 hP hD hS
  replace hP : va_P D vwCl [(k, .inr (11, [.ref k0, .ref k1, .ref k2, .int c3, .ref k4, .ref k5, .ref k6, .ref k7, .ref k8, .int c9, .ref ka, .ref kb, .int cc, .int cd, .int ce, .int cf, .int cg, .int ch, .int ci, .int cj, .int ck, .ref kl, .int cm, .int cn, .ref ko])), (k0, .inl (cI, 1201, .inl c0))] H := hP
  replace hD : va_D A [(k, .inr (11, [.ref k0, .ref k1, .ref k2, .int c3, .ref k4, .ref k5, .ref k6, .ref k7, .ref k8, .int c9, .ref ka, .ref kb, .int cc, .int cd, .int ce, .int cf, .int cg, .int ch, .int ci, .int cj, .int ck, .ref kl, .int cm, .int cn, .ref ko])), (k0, .inl (cI, 1201, .inl c0))] := hD
  rcases w_2 with h_4 | ⟨hr_1, h_5⟩
  · have h_4 : cd.toInt < ce.toInt := h_4
    have lo_r_1 := k_lo r_1
    have hi_r_1 := k_hi r_1
    refine lv_istore_n (lv' := [(1, .int r_1), (0, .ref k)]) hx hb dX11_one_4 rfl hl (by decide) rfl ?_
    clear hl
    intro ls hl
    refine lv_aload_n hx hb dX11_one_5 rfl (lv_at hl 1 rfl) ?_
    refine va_get (D := D) (ci := 11) (v := .int cf) (C := RX11) (T := TX11) (N := 25) hx hb hT giX11 hown hK hP 0 rfl rfl 15 (by decide) (hT (Cond.fieldLink RX11 148 "DesertWireModel" "isWrong" "Z") mw_1171) (fun _ h9 => h9) rfl dX11_one_6 ?_
    refine b_if_eq hx hb rfl (tgt := 14) dX11_one_9 (by decide) (fun c_6 => ?_) (fun c_6 => ?_)
    · refine lv_iload_n hx hb dX11_one_14 rfl (lv_at hl 0 rfl) ?_
      refine lv_bipush (v := 48) hx hb dX11_one_15 (by decide) ?_
      refine lv_bipush (v := 57) hx hb dX11_one_17 (by decide) ?_
      refine kJi (wr := [(k, .inr (11, [.ref k0, .ref k1, .ref k2, .int c3, .ref k4, .ref k5, .ref k6, .ref k7, .ref k8, .int c9, .ref ka, .ref kb, .int cc, .int cd, .int ce, .int cf, .int cg, .int ch, .int ci, .int cj, .int ck, .ref kl, .int cm, .int cn, .ref ko])), (k0, .inl (cI, 1201, .inl c0))]) (va_runS (As := [.int r_1, .int 48, .int 57]) (rest := []) ⟨hx, hb, hml, hown, hT⟩ (c_X11_inG l D cI aK aV H.size r_1 48 57) (cwS 3 hT (gS_in mw_1238 mw_1236 mw_1237 mw_12) rfl rfl rfl (by decide +kernel) ⟨Nat.le_of_ble_eq_true rfl, Nat.le_of_ble_eq_true rfl⟩) (kStatX hK hP hD hN hXS hS hA [] rfl (by decide)) rfl rfl hl.1 rfl (lv_room (Nat.le_of_ble_eq_true rfl)) dX11_one_19 ⟨Nat.le_of_ble_eq_true rfl, Nat.le_of_ble_eq_true rfl⟩) hP hD hS hA [] [0, 1] rfl rfl (by decide) (by decide) ?_
      clear hP hD hS
      intro r_7 u_9 H locs w_8 hP hD hS
      replace hP : va_P D vwCl [(k, .inr (11, [.ref k0, .ref k1, .ref k2, .int c3, .ref k4, .ref k5, .ref k6, .ref k7, .ref k8, .int c9, .ref ka, .ref kb, .int cc, .int cd, .int ce, .int cf, .int cg, .int ch, .int ci, .int cj, .int ck, .ref kl, .int cm, .int cn, .ref ko])), (k0, .inl (cI, 1201, .inl c0))] H := hP
      replace hD : va_D A [(k, .inr (11, [.ref k0, .ref k1, .ref k2, .int c3, .ref k4, .ref k5, .ref k6, .ref k7, .ref k8, .int c9, .ref ka, .ref kb, .int cc, .int cd, .int ce, .int cf, .int cg, .int ch, .int ci, .int cj, .int ck, .ref kl, .int cm, .int cn, .ref ko])), (k0, .inl (cI, 1201, .inl c0))] := hD
      rcases w_8 with ⟨hr_7, h_10, h_11⟩ | ⟨hr_7, h_12⟩
      · try simp only [zl_48, zl_57] at h_10
        have h_10 : 48 ≤ r_1.toInt := h_10
        try simp only [zl_48, zl_57] at h_11
        have h_11 : r_1.toInt ≤ 57 := h_11
        obtain rfl : r_7 = 1 := hr_7.trans (by decide)
        refine b_if_eq hx hb zl_1 (tgt := 79) dX11_one_22 (by decide) (fun c_13 => by exfalso; omega) (fun c_13 => ?_)
        refine lv_iconst (v := 0) hx hb dX11_one_25 (by decide) ?_
        refine lv_istore_n (lv' := [(2, .int 0), (1, .int r_1), (0, .ref k)]) hx hb dX11_one_26 rfl hl (by decide) rfl ?_
        clear hl
        intro ls hl
        refine lv_iconst (v := 0) hx hb dX11_one_27 (by decide) ?_
        refine lv_istore_n (lv' := [(3, .int 0), (2, .int 0), (1, .int r_1), (0, .ref k)]) hx hb dX11_one_28 rfl hl (by decide) rfl ?_
        clear hl
        intro ls hl
        have hloop_29 : ∀ (fu_ : Nat) (l29_2 : Int32) (l29_3 : Int32) (f29_kd : Int32), 0 ≤ l29_3.toInt → cd.toInt ≤ f29_kd.toInt → f29_kd.toInt ≤ ce.toInt → (4 - l29_3.toInt).toNat < fu_ → ∀ (ls : Array Slot) (H : Heap) (locs : List Loc), lv_has ls 4 [(3, .int l29_3), (2, .int l29_2), (1, .int r_1), (0, .ref k)] → va_P D vwCl [(k, .inr (11, [.ref k0, .ref k1, .ref k2, .int c3, .ref k4, .ref k5, .ref k6, .ref k7, .ref k8, .int c9, .ref ka, .ref kb, .int cc, .int f29_kd, .int ce, .int cf, .int cg, .int ch, .int ci, .int cj, .int ck, .ref kl, .int cm, .int cn, .ref ko])), (k0, .inl (cI, 1201, .inl c0))] H → va_D A [(k, .inr (11, [.ref k0, .ref k1, .ref k2, .int c3, .ref k4, .ref k5, .ref k6, .ref k7, .ref k8, .int c9, .ref ka, .ref kb, .int cc, .int f29_kd, .int ce, .int cf, .int cg, .int ch, .int ci, .int cj, .int ck, .ref kl, .int cm, .int cn, .ref ko])), (k0, .inl (cI, 1201, .inl c0))] → va_S A s.heap H locs → W p l e ({ frames := 13, cells := 0, slots := 0, locals := 294 } : Room) s m args below meth c H locs 0 0 Q (F0 m 29 ls []) := by
          intro fu_; induction fu_ with
          | zero => intro l29_2 l29_3 f29_kd i29_0 i29_1 i29_2 hm; exact absurd hm (by omega)
          | succ fu_ ih29 =>
              intro l29_2 l29_3 f29_kd i29_0 i29_1 i29_2 hm ls H locs hl hP hD hS
              have lo_l29_2 := k_lo l29_2
              have hi_l29_2 := k_hi l29_2
              have lo_l29_3 := k_lo l29_3
              have hi_l29_3 := k_hi l29_3
              have lo_f29_kd := k_lo f29_kd
              have hi_f29_kd := k_hi f29_kd
              refine lv_iload_n hx hb dX11_one_29 rfl (lv_at hl 0 rfl) ?_
              refine lv_iconst (v := 4) hx hb dX11_one_30 (by decide) ?_
              refine b_icmp_ge hx hb rfl zl_4 (tgt := 77) dX11_one_31 (by decide) (fun c_14 => ?_) (fun c_14 => ?_)
              · refine lv_iload_n hx hb dX11_one_77 rfl (lv_at hl 1 rfl) ?_
                exact hRet (f29_kd, cf, cg) [0, 1] ⟨(by first | omega | decide | assumption | rfl | (dsimp only; first | omega)), (by first | omega | decide | assumption | rfl | (dsimp only; first | omega)), (by first | omega | decide | assumption | rfl | (dsimp only; first | omega))⟩ hP hD (by decide) rfl hS rfl dX11_one_78
              · refine lv_aload_n hx hb dX11_one_34 rfl (lv_at hl 3 rfl) ?_
                refine kJi (wr := []) (va_runV (As := []) (rest := []) ⟨hx, hb, hml, hown, hT⟩ (c_X11_nowG l D cI aK aV k k0 k1 k2 k4 k5 k6 k7 k8 ka kb kl ko H.size c3 c9 cc f29_kd ce cf cg ch ci cj ck cm cn c0 (by first | omega | decide | assumption | rfl) (by first | omega | decide | assumption | rfl) (by first | omega | decide | assumption | rfl) (by first | omega | decide | assumption | rfl) (by first | omega | decide | assumption | rfl)) (cwV 0 hT (gV_in mw_1339 mw_1336 mw_1338 mw_p4_9 mw_12) rfl rfl rfl (by decide +kernel) ⟨Nat.le_of_ble_eq_true rfl, Nat.le_of_ble_eq_true rfl⟩) (kRecvX (q0 := 0) (ci := 11) hK hP hD hN hXS hS hA rfl rfl [0, 1] rfl (by decide)) rfl rfl hl.1 rfl (lv_room (Nat.le_of_ble_eq_true rfl)) dX11_one_35 ⟨Nat.le_of_ble_eq_true rfl, Nat.le_of_ble_eq_true rfl⟩) hP hD hS hA [0, 1] [] rfl rfl (by decide) (by decide) ?_
                clear hP hD hS
                intro r_15 u_17 H locs w_16 hP hD hS
                replace hP : va_P D vwCl [(k, .inr (11, [.ref k0, .ref k1, .ref k2, .int c3, .ref k4, .ref k5, .ref k6, .ref k7, .ref k8, .int c9, .ref ka, .ref kb, .int cc, .int f29_kd, .int ce, .int cf, .int cg, .int ch, .int ci, .int cj, .int ck, .ref kl, .int cm, .int cn, .ref ko])), (k0, .inl (cI, 1201, .inl c0))] H := hP
                replace hD : va_D A [(k, .inr (11, [.ref k0, .ref k1, .ref k2, .int c3, .ref k4, .ref k5, .ref k6, .ref k7, .ref k8, .int c9, .ref ka, .ref kb, .int cc, .int f29_kd, .int ce, .int cf, .int cg, .int ch, .int ci, .int cj, .int ck, .ref kl, .int cm, .int cn, .ref ko])), (k0, .inl (cI, 1201, .inl c0))] := hD
                rcases w_16 with h_18 | ⟨hr_15, h_19⟩
                · have h_18 : f29_kd.toInt < ce.toInt := h_18
                  have lo_r_15 := k_lo r_15
                  have hi_r_15 := k_hi r_15
                  refine lv_bipush (v := 48) hx hb dX11_one_38 (by decide) ?_
                  refine lv_bipush (v := 57) hx hb dX11_one_40 (by decide) ?_
                  refine kJi (wr := [(k, .inr (11, [.ref k0, .ref k1, .ref k2, .int c3, .ref k4, .ref k5, .ref k6, .ref k7, .ref k8, .int c9, .ref ka, .ref kb, .int cc, .int f29_kd, .int ce, .int cf, .int cg, .int ch, .int ci, .int cj, .int ck, .ref kl, .int cm, .int cn, .ref ko])), (k0, .inl (cI, 1201, .inl c0))]) (va_runS (As := [.int r_15, .int 48, .int 57]) (rest := []) ⟨hx, hb, hml, hown, hT⟩ (c_X11_inG l D cI aK aV H.size r_15 48 57) (cwS 3 hT (gS_in mw_1238 mw_1236 mw_1237 mw_12) rfl rfl rfl (by decide +kernel) ⟨Nat.le_of_ble_eq_true rfl, Nat.le_of_ble_eq_true rfl⟩) (kStatX hK hP hD hN hXS hS hA [] rfl (by decide)) rfl rfl hl.1 rfl (lv_room (Nat.le_of_ble_eq_true rfl)) dX11_one_42 ⟨Nat.le_of_ble_eq_true rfl, Nat.le_of_ble_eq_true rfl⟩) hP hD hS hA [] [0, 1] rfl rfl (by decide) (by decide) ?_
                  clear hP hD hS
                  intro r_20 u_22 H locs w_21 hP hD hS
                  replace hP : va_P D vwCl [(k, .inr (11, [.ref k0, .ref k1, .ref k2, .int c3, .ref k4, .ref k5, .ref k6, .ref k7, .ref k8, .int c9, .ref ka, .ref kb, .int cc, .int f29_kd, .int ce, .int cf, .int cg, .int ch, .int ci, .int cj, .int ck, .ref kl, .int cm, .int cn, .ref ko])), (k0, .inl (cI, 1201, .inl c0))] H := hP
                  replace hD : va_D A [(k, .inr (11, [.ref k0, .ref k1, .ref k2, .int c3, .ref k4, .ref k5, .ref k6, .ref k7, .ref k8, .int c9, .ref ka, .ref kb, .int cc, .int f29_kd, .int ce, .int cf, .int cg, .int ch, .int ci, .int cj, .int ck, .ref kl, .int cm, .int cn, .ref ko])), (k0, .inl (cI, 1201, .inl c0))] := hD
                  rcases w_21 with ⟨hr_20, h_23, h_24⟩ | ⟨hr_20, h_25⟩
                  · try simp only [zl_48, zl_57] at h_23
                    have h_23 : 48 ≤ r_15.toInt := h_23
                    try simp only [zl_48, zl_57] at h_24
                    have h_24 : r_15.toInt ≤ 57 := h_24
                    obtain rfl : r_20 = 1 := hr_20.trans (by decide)
                    refine b_if_eq hx hb zl_1 (tgt := 77) dX11_one_45 (by decide) (fun c_26 => by exfalso; omega) (fun c_26 => ?_)
                    refine lv_bipush (v := 10) hx hb dX11_one_48 (by decide) ?_
                    refine lv_iload_n hx hb dX11_one_50 rfl (lv_at hl 1 rfl) ?_
                    refine lv_imul hx hb dX11_one_51 ?_
                    refine lv_topi (fun v_27 ev_27 => ?_)
                    have lo_v_27 := k_lo v_27
                    have hi_v_27 := k_hi v_27
                    refine lv_aload_n hx hb dX11_one_52 rfl (lv_at hl 3 rfl) ?_
                    refine kJi (wr := []) (va_runV (As := []) (rest := [.int v_27]) ⟨hx, hb, hml, hown, hT⟩ (c_X11_nowG l D cI aK aV k k0 k1 k2 k4 k5 k6 k7 k8 ka kb kl ko H.size c3 c9 cc f29_kd ce cf cg ch ci cj ck cm cn c0 (by first | omega | decide | assumption | rfl) (by first | omega | decide | assumption | rfl) (by first | omega | decide | assumption | rfl) (by first | omega | decide | assumption | rfl) (by first | omega | decide | assumption | rfl)) (cwV 0 hT (gV_in mw_1339 mw_1336 mw_1338 mw_p4_9 mw_12) rfl rfl rfl (by decide +kernel) ⟨Nat.le_of_ble_eq_true rfl, Nat.le_of_ble_eq_true rfl⟩) (kRecvX (q0 := 0) (ci := 11) hK hP hD hN hXS hS hA rfl rfl [0, 1] rfl (by decide)) rfl rfl hl.1 rfl (lv_room (Nat.le_of_ble_eq_true rfl)) dX11_one_53 ⟨Nat.le_of_ble_eq_true rfl, Nat.le_of_ble_eq_true rfl⟩) hP hD hS hA [0, 1] [] rfl rfl (by decide) (by decide) ?_
                    clear hP hD hS
                    intro r_28 u_30 H locs w_29 hP hD hS
                    replace hP : va_P D vwCl [(k, .inr (11, [.ref k0, .ref k1, .ref k2, .int c3, .ref k4, .ref k5, .ref k6, .ref k7, .ref k8, .int c9, .ref ka, .ref kb, .int cc, .int f29_kd, .int ce, .int cf, .int cg, .int ch, .int ci, .int cj, .int ck, .ref kl, .int cm, .int cn, .ref ko])), (k0, .inl (cI, 1201, .inl c0))] H := hP
                    replace hD : va_D A [(k, .inr (11, [.ref k0, .ref k1, .ref k2, .int c3, .ref k4, .ref k5, .ref k6, .ref k7, .ref k8, .int c9, .ref ka, .ref kb, .int cc, .int f29_kd, .int ce, .int cf, .int cg, .int ch, .int ci, .int cj, .int ck, .ref kl, .int cm, .int cn, .ref ko])), (k0, .inl (cI, 1201, .inl c0))] := hD
                    rcases w_29 with h_31 | ⟨hr_28, h_32⟩
                    · have h_31 : f29_kd.toInt < ce.toInt := h_31
                      have lo_r_28 := k_lo r_28
                      have hi_r_28 := k_hi r_28
                      refine lv_iadd hx hb dX11_one_56 ?_
                      refine lv_topi (fun v_33 ev_33 => ?_)
                      have lo_v_33 := k_lo v_33
                      have hi_v_33 := k_hi v_33
                      refine lv_bipush (v := 48) hx hb dX11_one_57 (by decide) ?_
                      refine lv_isub hx hb dX11_one_59 ?_
                      refine lv_topi (fun v_34 ev_34 => ?_)
                      have lo_v_34 := k_lo v_34
                      have hi_v_34 := k_hi v_34
                      refine lv_istore_n (lv' := [(2, .int v_34), (3, .int l29_3), (1, .int r_1), (0, .ref k)]) hx hb dX11_one_60 rfl hl (by decide) rfl ?_
                      clear hl
                      intro ls hl
                      refine lv_aload_n hx hb dX11_one_61 rfl (lv_at hl 3 rfl) ?_
                      refine lv_dup hx hb dX11_one_62 rfl ?_
                      refine va_get (D := D) (ci := 11) (v := .int f29_kd) (C := RX11) (T := TX11) (N := 25) hx hb hT giX11 hown hK hP 0 rfl rfl 13 (by decide) (hT (Cond.fieldLink RX11 138 "DesertWireModel" "here" "I") mw_1169) (fun _ h9 => h9) rfl dX11_one_63 ?_
                      refine lv_iconst (v := 1) hx hb dX11_one_66 (by decide) ?_
                      refine lv_iadd hx hb dX11_one_67 ?_
                      refine lv_topi (fun v_35 ev_35 => ?_)
                      have tv_35 : v_35.toInt = f29_kd.toInt + 1 := by rw [ev_35]; exact k_addv rfl zl_1 (by omega) (by omega)
                      refine va_put (D := D) (ci := 11) (v := .int v_35) (ty := .int) (C := RX11) (T := TX11) (N := 25) hx hb hT giX11 tyX11 tyX11_ok nmX11 hown hK hP hD hS 0 rfl rfl 13 (by decide) (hT (Cond.fieldLink RX11 138 "DesertWireModel" "here" "I") mw_1169) (fun _ h9 => h9) rfl (by decide +kernel) rfl rfl (Nat.le_of_ble_eq_true rfl) dX11_one_68 ?_
                      clear hP hD hS
                      intro H locs hP hD hS
                      replace hP : va_P D vwCl [(k, .inr (11, [.ref k0, .ref k1, .ref k2, .int c3, .ref k4, .ref k5, .ref k6, .ref k7, .ref k8, .int c9, .ref ka, .ref kb, .int cc, .int v_35, .int ce, .int cf, .int cg, .int ch, .int ci, .int cj, .int ck, .ref kl, .int cm, .int cn, .ref ko])), (k0, .inl (cI, 1201, .inl c0))] H := hP
                      replace hD : va_D A [(k, .inr (11, [.ref k0, .ref k1, .ref k2, .int c3, .ref k4, .ref k5, .ref k6, .ref k7, .ref k8, .int c9, .ref ka, .ref kb, .int cc, .int v_35, .int ce, .int cf, .int cg, .int ch, .int ci, .int cj, .int ck, .ref kl, .int cm, .int cn, .ref ko])), (k0, .inl (cI, 1201, .inl c0))] := hD
                      obtain ⟨v_36, ev_36⟩ : ∃ y : Int32, y = l29_3 + 1 := ⟨_, rfl⟩
                      have tv_36 : v_36.toInt = l29_3.toInt + 1 := by rw [ev_36]; exact k_addv rfl zl_1 (by omega) (by omega)
                      refine lv_iinc (v := v_36) (lv' := [(3, .int v_36), (2, .int v_34), (1, .int r_1), (0, .ref k)]) hx hb dX11_one_71 hl (k := 1) rfl (by rw [ev_36]; rfl) (by decide) rfl ?_
                      clear hl
                      intro ls hl
                      refine lv_goto (tgt := 29) hx hb dX11_one_74 (by decide) ?_
                      exact ih29 v_34 v_36 v_35 (by first | omega | decide | assumption | rfl) (by first | omega | decide | assumption | rfl) (by first | omega | decide | assumption | rfl) (by omega) ls _ _ (lv_sub hl [0, 1, 2, 3] rfl) (hP.sub [0, 1] rfl) (hD.sub [0, 1] (by decide) rfl) hS
                    · exfalso; omega
                  · try simp only [zl_48, zl_57] at h_25
                    have h_25 : r_15.toInt < 48 ∨ 57 < r_15.toInt := h_25
                    obtain rfl : r_20 = 0 := hr_20.trans (by decide)
                    refine b_if_eq hx hb zl_0 (tgt := 77) dX11_one_45 (by decide) (fun c_37 => ?_) (fun c_37 => by exfalso; omega)
                    refine lv_iload_n hx hb dX11_one_77 rfl (lv_at hl 1 rfl) ?_
                    exact hRet (f29_kd, cf, cg) [0, 1] ⟨(by first | omega | decide | assumption | rfl | (dsimp only; first | omega)), (by first | omega | decide | assumption | rfl | (dsimp only; first | omega)), (by first | omega | decide | assumption | rfl | (dsimp only; first | omega))⟩ hP hD (by decide) rfl hS rfl dX11_one_78
                · have h_19 : f29_kd.toInt = ce.toInt := h_19
                  obtain rfl : r_15 = (-1) := hr_15.trans (by decide)
                  refine lv_bipush (v := 48) hx hb dX11_one_38 (by decide) ?_
                  refine lv_bipush (v := 57) hx hb dX11_one_40 (by decide) ?_
                  refine kJi (wr := [(k, .inr (11, [.ref k0, .ref k1, .ref k2, .int c3, .ref k4, .ref k5, .ref k6, .ref k7, .ref k8, .int c9, .ref ka, .ref kb, .int cc, .int f29_kd, .int ce, .int cf, .int cg, .int ch, .int ci, .int cj, .int ck, .ref kl, .int cm, .int cn, .ref ko])), (k0, .inl (cI, 1201, .inl c0))]) (va_runS (As := [.int (-1), .int 48, .int 57]) (rest := []) ⟨hx, hb, hml, hown, hT⟩ (c_X11_inG l D cI aK aV H.size (-1) 48 57) (cwS 3 hT (gS_in mw_1238 mw_1236 mw_1237 mw_12) rfl rfl rfl (by decide +kernel) ⟨Nat.le_of_ble_eq_true rfl, Nat.le_of_ble_eq_true rfl⟩) (kStatX hK hP hD hN hXS hS hA [] rfl (by decide)) rfl rfl hl.1 rfl (lv_room (Nat.le_of_ble_eq_true rfl)) dX11_one_42 ⟨Nat.le_of_ble_eq_true rfl, Nat.le_of_ble_eq_true rfl⟩) hP hD hS hA [] [0, 1] rfl rfl (by decide) (by decide) ?_
                  clear hP hD hS
                  intro r_38 u_40 H locs w_39 hP hD hS
                  replace hP : va_P D vwCl [(k, .inr (11, [.ref k0, .ref k1, .ref k2, .int c3, .ref k4, .ref k5, .ref k6, .ref k7, .ref k8, .int c9, .ref ka, .ref kb, .int cc, .int f29_kd, .int ce, .int cf, .int cg, .int ch, .int ci, .int cj, .int ck, .ref kl, .int cm, .int cn, .ref ko])), (k0, .inl (cI, 1201, .inl c0))] H := hP
                  replace hD : va_D A [(k, .inr (11, [.ref k0, .ref k1, .ref k2, .int c3, .ref k4, .ref k5, .ref k6, .ref k7, .ref k8, .int c9, .ref ka, .ref kb, .int cc, .int f29_kd, .int ce, .int cf, .int cg, .int ch, .int ci, .int cj, .int ck, .ref kl, .int cm, .int cn, .ref ko])), (k0, .inl (cI, 1201, .inl c0))] := hD
                  rcases w_39 with ⟨hr_38, h_41, h_42⟩ | ⟨hr_38, h_43⟩
                  · (try simp only [zl_m1, zl_48, zl_57] at h_41 h_42); exfalso; omega
                  · try simp only [zl_m1, zl_48, zl_57] at h_43
                    obtain rfl : r_38 = 0 := hr_38.trans (by decide)
                    refine b_if_eq hx hb zl_0 (tgt := 77) dX11_one_45 (by decide) (fun c_44 => ?_) (fun c_44 => by exfalso; omega)
                    refine lv_iload_n hx hb dX11_one_77 rfl (lv_at hl 1 rfl) ?_
                    exact hRet (f29_kd, cf, cg) [0, 1] ⟨(by first | omega | decide | assumption | rfl | (dsimp only; first | omega)), (by first | omega | decide | assumption | rfl | (dsimp only; first | omega)), (by first | omega | decide | assumption | rfl | (dsimp only; first | omega))⟩ hP hD (by decide) rfl hS rfl dX11_one_78
        exact hloop_29 _ 0 0 cd (by first | omega | (simp only [zl_0] <;> omega) | decide | assumption | rfl) (by first | omega | (simp only [zl_0] <;> omega) | decide | assumption | rfl) (by first | omega | (simp only [zl_0] <;> omega) | decide | assumption | rfl) (Nat.lt_succ_self _) ls _ _ (lv_sub hl [0, 1, 2, 3] rfl) hP hD hS
      · try simp only [zl_48, zl_57] at h_12
        have h_12 : r_1.toInt < 48 ∨ 57 < r_1.toInt := h_12
        obtain rfl : r_7 = 0 := hr_7.trans (by decide)
        refine b_if_eq hx hb zl_0 (tgt := 79) dX11_one_22 (by decide) (fun c_45 => ?_) (fun c_45 => by exfalso; omega)
        refine lv_aload_n hx hb dX11_one_79 rfl (lv_at hl 1 rfl) ?_
        refine lv_iload_n hx hb dX11_one_80 rfl (lv_at hl 0 rfl) ?_
        refine kJi (wr := [(k0, .inl (cI, 1201, .inl c0))]) (va_runV (As := [.int r_1]) (rest := []) ⟨hx, hb, hml, hown, hT⟩ (c_X11_nameAtG l D cI aK aV k k0 k1 k2 k4 k5 k6 k7 k8 ka kb kl ko H.size c3 c9 cc cd ce cf cg ch ci cj ck cm cn r_1) (cwV 1 hT (gV_in mw_1343 mw_1340 mw_1342 mw_p4_10 mw_12) rfl rfl rfl (by decide +kernel) ⟨Nat.le_of_ble_eq_true rfl, Nat.le_of_ble_eq_true rfl⟩) (kRecvX (q0 := 0) (ci := 11) hK hP hD hN hXS hS hA rfl rfl [0] rfl (by decide)) rfl rfl hl.1 rfl (lv_room (Nat.le_of_ble_eq_true rfl)) dX11_one_81 ⟨Nat.le_of_ble_eq_true rfl, Nat.le_of_ble_eq_true rfl⟩) hP hD hS hA [0] [1] rfl rfl (by decide) (by decide) ?_
        clear hP hD hS
        intro r_46 u_48 H locs w_47 hP hD hS
        replace hP : va_P D vwCl [(k0, .inl (cI, 1201, .inl c0)), (k, .inr (11, [.ref k0, .ref k1, .ref k2, .int c3, .ref k4, .ref k5, .ref k6, .ref k7, .ref k8, .int c9, .ref ka, .ref kb, .int cc, .int cd, .int ce, .int cf, .int cg, .int ch, .int ci, .int cj, .int ck, .ref kl, .int cm, .int cn, .ref ko]))] H := hP
        replace hD : va_D A [(k0, .inl (cI, 1201, .inl c0)), (k, .inr (11, [.ref k0, .ref k1, .ref k2, .int c3, .ref k4, .ref k5, .ref k6, .ref k7, .ref k8, .int c9, .ref ka, .ref kb, .int cc, .int cd, .int ce, .int cf, .int cg, .int ch, .int ci, .int cj, .int ck, .ref kl, .int cm, .int cn, .ref ko]))] := hD
        rcases w_47 with h_49 | hr_46
        · have h_49 : 97 ≤ r_1.toInt := h_49
          have lo_r_46 := k_lo r_46
          have hi_r_46 := k_hi r_46
          refine lv_istore_n (lv' := [(2, .int r_46), (1, .int r_1), (0, .ref k)]) hx hb dX11_one_84 rfl hl (by decide) rfl ?_
          clear hl
          intro ls hl
          refine lv_iload_n hx hb dX11_one_85 rfl (lv_at hl 0 rfl) ?_
          refine b_if_lt hx hb rfl (tgt := 127) dX11_one_86 (by decide) (fun c_50 => ?_) (fun c_50 => ?_)
          · refine lv_aload_n hx hb dX11_one_127 rfl (lv_at hl 2 rfl) ?_
            refine lv_iload_n hx hb dX11_one_128 rfl (lv_at hl 1 rfl) ?_
            refine lv_bipush (v := 45) hx hb dX11_one_129 (by decide) ?_
            refine b_icmp_eq hx hb rfl zl_45 (tgt := 146) dX11_one_131 (by decide) (fun c_51 => by exfalso; omega) (fun c_51 => ?_)
            refine lv_iload_n hx hb dX11_one_134 rfl (lv_at hl 1 rfl) ?_
            refine lv_bipush (v := 33) hx hb dX11_one_135 (by decide) ?_
            refine b_icmp_eq hx hb rfl zl_33 (tgt := 146) dX11_one_137 (by decide) (fun c_52 => by exfalso; omega) (fun c_52 => ?_)
            refine lv_iload_n hx hb dX11_one_140 rfl (lv_at hl 1 rfl) ?_
            refine lv_bipush (v := 40) hx hb dX11_one_141 (by decide) ?_
            refine b_icmp_ne hx hb rfl zl_40 (tgt := 158) dX11_one_143 (by decide) (fun c_53 => ?_) (fun c_53 => by exfalso; omega)
            refine lv_iconst (v := 0) hx hb dX11_one_158 (by decide) ?_
            refine kJv (wr := [(k0, .inl (cI, 1201, .inl c0))]) (va_runV (As := [.int 0]) (rest := []) ⟨hx, hb, hml, hown, hT⟩ (c_X11_needsG l D cI aK aV k k0 k1 k2 k4 k5 k6 k7 k8 ka kb kl ko H.size c3 c9 cc cd ce cf cg ch ci cj ck cm cn 0) (cwV 1 hT (gV_in mw_1347 mw_1344 mw_1346 mw_p4_11 mw_12) rfl rfl rfl (by decide +kernel) ⟨Nat.le_of_ble_eq_true rfl, Nat.le_of_ble_eq_true rfl⟩) (kRecvX (q0 := 1) (ci := 11) hK hP hD hN hXS hS hA rfl rfl [1] rfl (by decide)) rfl rfl hl.1 rfl (lv_room (Nat.le_of_ble_eq_true rfl)) dX11_one_159 ⟨Nat.le_of_ble_eq_true rfl, Nat.le_of_ble_eq_true rfl⟩) hP hD hS hA [1] [0] rfl rfl (by decide) (by decide) ?_
            clear hP hD hS
            intro scf_56 H locs w_55 hP hD hS
            replace hP : va_P D vwCl [(k0, .inl (cI, 1201, .inl c0)), (k, .inr (11, [.ref k0, .ref k1, .ref k2, .int c3, .ref k4, .ref k5, .ref k6, .ref k7, .ref k8, .int c9, .ref ka, .ref kb, .int cc, .int cd, .int ce, .int scf_56, .int cg, .int ch, .int ci, .int cj, .int ck, .ref kl, .int cm, .int cn, .ref ko]))] H := hP
            replace hD : va_D A [(k0, .inl (cI, 1201, .inl c0)), (k, .inr (11, [.ref k0, .ref k1, .ref k2, .int c3, .ref k4, .ref k5, .ref k6, .ref k7, .ref k8, .int c9, .ref ka, .ref kb, .int cc, .int cd, .int ce, .int scf_56, .int cg, .int ch, .int ci, .int cj, .int ck, .ref kl, .int cm, .int cn, .ref ko]))] := hD
            have lo_scf_56 := k_lo scf_56
            have hi_scf_56 := k_hi scf_56
            rcases w_55 with ⟨h_57, h_58, h_59⟩ | h_60
            · (try simp only [zl_0] at h_57 h_58 h_59); exfalso; omega
            · try simp only [zl_0] at h_60
              have h_60 : scf_56.toInt = 1 := h_60
              refine lv_aload_n hx hb dX11_one_162 rfl (lv_at hl 2 rfl) ?_
              refine va_get (D := D) (ci := 11) (v := .int scf_56) (C := RX11) (T := TX11) (N := 25) hx hb hT giX11 hown hK hP 1 rfl rfl 15 (by decide) (hT (Cond.fieldLink RX11 148 "DesertWireModel" "isWrong" "Z") mw_1171) (fun _ h9 => h9) rfl dX11_one_163 ?_
              refine b_if_eq hx hb rfl (tgt := 171) dX11_one_166 (by decide) (fun c_61 => by exfalso; omega) (fun c_61 => ?_)
              refine lv_iconst (v := 0) hx hb dX11_one_169 (by decide) ?_
              exact hRet (cd, scf_56, cg) [1, 0] ⟨(by first | omega | (simp only [zl_0] <;> omega) | decide | assumption | rfl | (dsimp only; first | omega | (simp only [zl_0] <;> omega))), (by first | omega | (simp only [zl_0] <;> omega) | decide | assumption | rfl | (dsimp only; first | omega | (simp only [zl_0] <;> omega))), (by first | omega | (simp only [zl_0] <;> omega) | decide | assumption | rfl | (dsimp only; first | omega | (simp only [zl_0] <;> omega)))⟩ hP hD (by decide) rfl hS rfl dX11_one_170
          · refine lv_aload_n hx hb dX11_one_89 rfl (lv_at hl 2 rfl) ?_
            refine lv_dup hx hb dX11_one_90 rfl ?_
            refine va_get (D := D) (ci := 11) (v := .int cd) (C := RX11) (T := TX11) (N := 25) hx hb hT giX11 hown hK hP 1 rfl rfl 13 (by decide) (hT (Cond.fieldLink RX11 138 "DesertWireModel" "here" "I") mw_1169) (fun _ h9 => h9) rfl dX11_one_91 ?_
            refine lv_iconst (v := 1) hx hb dX11_one_94 (by decide) ?_
            refine lv_iadd hx hb dX11_one_95 ?_
            refine lv_topi (fun v_62 ev_62 => ?_)
            have tv_62 : v_62.toInt = cd.toInt + 1 := by rw [ev_62]; exact k_addv rfl zl_1 (by omega) (by omega)
            refine va_put (D := D) (ci := 11) (v := .int v_62) (ty := .int) (C := RX11) (T := TX11) (N := 25) hx hb hT giX11 tyX11 tyX11_ok nmX11 hown hK hP hD hS 1 rfl rfl 13 (by decide) (hT (Cond.fieldLink RX11 138 "DesertWireModel" "here" "I") mw_1169) (fun _ h9 => h9) rfl (by decide +kernel) rfl rfl (Nat.le_of_ble_eq_true rfl) dX11_one_96 ?_
            clear hP hD hS
            intro H locs hP hD hS
            replace hP : va_P D vwCl [(k0, .inl (cI, 1201, .inl c0)), (k, .inr (11, [.ref k0, .ref k1, .ref k2, .int c3, .ref k4, .ref k5, .ref k6, .ref k7, .ref k8, .int c9, .ref ka, .ref kb, .int cc, .int v_62, .int ce, .int cf, .int cg, .int ch, .int ci, .int cj, .int ck, .ref kl, .int cm, .int cn, .ref ko]))] H := hP
            replace hD : va_D A [(k0, .inl (cI, 1201, .inl c0)), (k, .inr (11, [.ref k0, .ref k1, .ref k2, .int c3, .ref k4, .ref k5, .ref k6, .ref k7, .ref k8, .int c9, .ref ka, .ref kb, .int cc, .int v_62, .int ce, .int cf, .int cg, .int ch, .int ci, .int cj, .int ck, .ref kl, .int cm, .int cn, .ref ko]))] := hD
            refine lv_iload_n hx hb dX11_one_99 rfl (lv_at hl 0 rfl) ?_
            refine b_if_ne hx hb rfl (tgt := 110) dX11_one_100 (by decide) (fun c_63 => ?_) (fun c_63 => ?_)
            · refine lv_iload_n hx hb dX11_one_110 rfl (lv_at hl 0 rfl) ?_
              refine lv_iconst (v := 1) hx hb dX11_one_111 (by decide) ?_
              refine b_icmp_ne hx hb rfl zl_1 (tgt := 122) dX11_one_112 (by decide) (fun c_64 => ?_) (fun c_64 => ?_)
              · refine lv_aload_n hx hb dX11_one_122 rfl (lv_at hl 2 rfl) ?_
                refine va_get (D := D) (ci := 11) (v := .int ck) (C := RX11) (T := TX11) (N := 25) hx hb hT giX11 hown hK hP 1 rfl rfl 20 (by decide) (hT (Cond.fieldLink RX11 167 "DesertWireModel" "nameC" "I") mw_1176) (fun _ h9 => h9) rfl dX11_one_123 ?_
                exact hRet (v_62, cf, cg) [1, 0] ⟨(by first | omega | decide | assumption | rfl | (dsimp only; first | omega)), (by first | omega | decide | assumption | rfl | (dsimp only; first | omega)), (by first | omega | decide | assumption | rfl | (dsimp only; first | omega))⟩ hP hD (by decide) rfl hS rfl dX11_one_126
              · refine lv_aload_n hx hb dX11_one_115 rfl (lv_at hl 2 rfl) ?_
                refine va_get (D := D) (ci := 11) (v := .int cj) (C := RX11) (T := TX11) (N := 25) hx hb hT giX11 hown hK hP 1 rfl rfl 19 (by decide) (hT (Cond.fieldLink RX11 164 "DesertWireModel" "nameB" "I") mw_1175) (fun _ h9 => h9) rfl dX11_one_116 ?_
                refine lv_goto (tgt := 126) hx hb dX11_one_119 (by decide) ?_
                exact hRet (v_62, cf, cg) [1, 0] ⟨(by first | omega | decide | assumption | rfl | (dsimp only; first | omega)), (by first | omega | decide | assumption | rfl | (dsimp only; first | omega)), (by first | omega | decide | assumption | rfl | (dsimp only; first | omega))⟩ hP hD (by decide) rfl hS rfl dX11_one_126
            · refine lv_aload_n hx hb dX11_one_103 rfl (lv_at hl 2 rfl) ?_
              refine va_get (D := D) (ci := 11) (v := .int ci) (C := RX11) (T := TX11) (N := 25) hx hb hT giX11 hown hK hP 1 rfl rfl 18 (by decide) (hT (Cond.fieldLink RX11 161 "DesertWireModel" "nameA" "I") mw_1174) (fun _ h9 => h9) rfl dX11_one_104 ?_
              refine lv_goto (tgt := 126) hx hb dX11_one_107 (by decide) ?_
              exact hRet (v_62, cf, cg) [1, 0] ⟨(by first | omega | decide | assumption | rfl | (dsimp only; first | omega)), (by first | omega | decide | assumption | rfl | (dsimp only; first | omega)), (by first | omega | decide | assumption | rfl | (dsimp only; first | omega))⟩ hP hD (by decide) rfl hS rfl dX11_one_126
        · obtain rfl : r_46 = (-1) := hr_46.trans (by decide)
          refine lv_istore_n (lv' := [(2, .int (-1)), (1, .int r_1), (0, .ref k)]) hx hb dX11_one_84 rfl hl (by decide) rfl ?_
          clear hl
          intro ls hl
          refine lv_iload_n hx hb dX11_one_85 rfl (lv_at hl 0 rfl) ?_
          refine b_if_lt hx hb zl_m1 (tgt := 127) dX11_one_86 (by decide) (fun c_65 => ?_) (fun c_65 => by exfalso; omega)
          refine lv_aload_n hx hb dX11_one_127 rfl (lv_at hl 2 rfl) ?_
          refine lv_iload_n hx hb dX11_one_128 rfl (lv_at hl 1 rfl) ?_
          refine lv_bipush (v := 45) hx hb dX11_one_129 (by decide) ?_
          refine b_icmp_eq hx hb rfl zl_45 (tgt := 146) dX11_one_131 (by decide) (fun c_66 => ?_) (fun c_66 => ?_)
          · refine lv_aload_n hx hb dX11_one_146 rfl (lv_at hl 2 rfl) ?_
            refine va_get (D := D) (ci := 11) (v := .int cg) (C := RX11) (T := TX11) (N := 25) hx hb hT giX11 hown hK hP 1 rfl rfl 16 (by decide) (hT (Cond.fieldLink RX11 170 "DesertWireModel" "open" "I") mw_1172) (fun _ h9 => h9) rfl dX11_one_147 ?_
            refine lv_iconst (v := 4) hx hb dX11_one_150 (by decide) ?_
            refine b_icmp_ge hx hb rfl zl_4 (tgt := 158) dX11_one_151 (by decide) (fun c_67 => by exfalso; omega) (fun c_67 => ?_)
            refine lv_iconst (v := 1) hx hb dX11_one_154 (by decide) ?_
            refine lv_goto (tgt := 159) hx hb dX11_one_155 (by decide) ?_
            refine kJv (wr := [(k0, .inl (cI, 1201, .inl c0))]) (va_runV (As := [.int 1]) (rest := []) ⟨hx, hb, hml, hown, hT⟩ (c_X11_needsG l D cI aK aV k k0 k1 k2 k4 k5 k6 k7 k8 ka kb kl ko H.size c3 c9 cc cd ce cf cg ch ci cj ck cm cn 1) (cwV 1 hT (gV_in mw_1347 mw_1344 mw_1346 mw_p4_11 mw_12) rfl rfl rfl (by decide +kernel) ⟨Nat.le_of_ble_eq_true rfl, Nat.le_of_ble_eq_true rfl⟩) (kRecvX (q0 := 1) (ci := 11) hK hP hD hN hXS hS hA rfl rfl [1] rfl (by decide)) rfl rfl hl.1 rfl (lv_room (Nat.le_of_ble_eq_true rfl)) dX11_one_159 ⟨Nat.le_of_ble_eq_true rfl, Nat.le_of_ble_eq_true rfl⟩) hP hD hS hA [1] [0] rfl rfl (by decide) (by decide) ?_
            clear hP hD hS
            intro scf_70 H locs w_69 hP hD hS
            replace hP : va_P D vwCl [(k0, .inl (cI, 1201, .inl c0)), (k, .inr (11, [.ref k0, .ref k1, .ref k2, .int c3, .ref k4, .ref k5, .ref k6, .ref k7, .ref k8, .int c9, .ref ka, .ref kb, .int cc, .int cd, .int ce, .int scf_70, .int cg, .int ch, .int ci, .int cj, .int ck, .ref kl, .int cm, .int cn, .ref ko]))] H := hP
            replace hD : va_D A [(k0, .inl (cI, 1201, .inl c0)), (k, .inr (11, [.ref k0, .ref k1, .ref k2, .int c3, .ref k4, .ref k5, .ref k6, .ref k7, .ref k8, .int c9, .ref ka, .ref kb, .int cc, .int cd, .int ce, .int scf_70, .int cg, .int ch, .int ci, .int cj, .int ck, .ref kl, .int cm, .int cn, .ref ko]))] := hD
            have lo_scf_70 := k_lo scf_70
            have hi_scf_70 := k_hi scf_70
            rcases w_69 with ⟨h_71, h_72, h_73⟩ | h_74
            · try simp only [zl_1] at h_71
              try simp only [zl_1] at h_72
              have h_72 : cf.toInt = 0 := h_72
              try simp only [zl_1] at h_73
              have h_73 : scf_70.toInt = 0 := h_73
              refine lv_aload_n hx hb dX11_one_162 rfl (lv_at hl 2 rfl) ?_
              refine va_get (D := D) (ci := 11) (v := .int scf_70) (C := RX11) (T := TX11) (N := 25) hx hb hT giX11 hown hK hP 1 rfl rfl 15 (by decide) (hT (Cond.fieldLink RX11 148 "DesertWireModel" "isWrong" "Z") mw_1171) (fun _ h9 => h9) rfl dX11_one_163 ?_
              refine b_if_eq hx hb rfl (tgt := 171) dX11_one_166 (by decide) (fun c_75 => ?_) (fun c_75 => by exfalso; omega)
              refine lv_aload_n hx hb dX11_one_171 rfl (lv_at hl 2 rfl) ?_
              refine lv_dup hx hb dX11_one_172 rfl ?_
              refine va_get (D := D) (ci := 11) (v := .int cd) (C := RX11) (T := TX11) (N := 25) hx hb hT giX11 hown hK hP 1 rfl rfl 13 (by decide) (hT (Cond.fieldLink RX11 138 "DesertWireModel" "here" "I") mw_1169) (fun _ h9 => h9) rfl dX11_one_173 ?_
              refine lv_iconst (v := 1) hx hb dX11_one_176 (by decide) ?_
              refine lv_iadd hx hb dX11_one_177 ?_
              refine lv_topi (fun v_76 ev_76 => ?_)
              have tv_76 : v_76.toInt = cd.toInt + 1 := by rw [ev_76]; exact k_addv rfl zl_1 (by omega) (by omega)
              refine va_put (D := D) (ci := 11) (v := .int v_76) (ty := .int) (C := RX11) (T := TX11) (N := 25) hx hb hT giX11 tyX11 tyX11_ok nmX11 hown hK hP hD hS 1 rfl rfl 13 (by decide) (hT (Cond.fieldLink RX11 138 "DesertWireModel" "here" "I") mw_1169) (fun _ h9 => h9) rfl (by decide +kernel) rfl rfl (Nat.le_of_ble_eq_true rfl) dX11_one_178 ?_
              clear hP hD hS
              intro H locs hP hD hS
              replace hP : va_P D vwCl [(k0, .inl (cI, 1201, .inl c0)), (k, .inr (11, [.ref k0, .ref k1, .ref k2, .int c3, .ref k4, .ref k5, .ref k6, .ref k7, .ref k8, .int c9, .ref ka, .ref kb, .int cc, .int v_76, .int ce, .int scf_70, .int cg, .int ch, .int ci, .int cj, .int ck, .ref kl, .int cm, .int cn, .ref ko]))] H := hP
              replace hD : va_D A [(k0, .inl (cI, 1201, .inl c0)), (k, .inr (11, [.ref k0, .ref k1, .ref k2, .int c3, .ref k4, .ref k5, .ref k6, .ref k7, .ref k8, .int c9, .ref ka, .ref kb, .int cc, .int v_76, .int ce, .int scf_70, .int cg, .int ch, .int ci, .int cj, .int ck, .ref kl, .int cm, .int cn, .ref ko]))] := hD
              refine lv_aload_n hx hb dX11_one_181 rfl (lv_at hl 2 rfl) ?_
              refine lv_dup hx hb dX11_one_182 rfl ?_
              refine va_get (D := D) (ci := 11) (v := .int cg) (C := RX11) (T := TX11) (N := 25) hx hb hT giX11 hown hK hP 1 rfl rfl 16 (by decide) (hT (Cond.fieldLink RX11 170 "DesertWireModel" "open" "I") mw_1172) (fun _ h9 => h9) rfl dX11_one_183 ?_
              refine lv_iconst (v := 1) hx hb dX11_one_186 (by decide) ?_
              refine lv_iadd hx hb dX11_one_187 ?_
              refine lv_topi (fun v_77 ev_77 => ?_)
              have tv_77 : v_77.toInt = cg.toInt + 1 := by rw [ev_77]; exact k_addv rfl zl_1 (by omega) (by omega)
              refine va_put (D := D) (ci := 11) (v := .int v_77) (ty := .int) (C := RX11) (T := TX11) (N := 25) hx hb hT giX11 tyX11 tyX11_ok nmX11 hown hK hP hD hS 1 rfl rfl 16 (by decide) (hT (Cond.fieldLink RX11 170 "DesertWireModel" "open" "I") mw_1172) (fun _ h9 => h9) rfl (by decide +kernel) rfl rfl (Nat.le_of_ble_eq_true rfl) dX11_one_188 ?_
              clear hP hD hS
              intro H locs hP hD hS
              replace hP : va_P D vwCl [(k0, .inl (cI, 1201, .inl c0)), (k, .inr (11, [.ref k0, .ref k1, .ref k2, .int c3, .ref k4, .ref k5, .ref k6, .ref k7, .ref k8, .int c9, .ref ka, .ref kb, .int cc, .int v_76, .int ce, .int scf_70, .int v_77, .int ch, .int ci, .int cj, .int ck, .ref kl, .int cm, .int cn, .ref ko]))] H := hP
              replace hD : va_D A [(k0, .inl (cI, 1201, .inl c0)), (k, .inr (11, [.ref k0, .ref k1, .ref k2, .int c3, .ref k4, .ref k5, .ref k6, .ref k7, .ref k8, .int c9, .ref ka, .ref kb, .int cc, .int v_76, .int ce, .int scf_70, .int v_77, .int ch, .int ci, .int cj, .int ck, .ref kl, .int cm, .int cn, .ref ko]))] := hD
              refine lv_iload_n hx hb dX11_one_191 rfl (lv_at hl 1 rfl) ?_
              refine lv_bipush (v := 40) hx hb dX11_one_192 (by decide) ?_
              refine b_icmp_ne hx hb rfl zl_40 (tgt := 204) dX11_one_194 (by decide) (fun c_78 => ?_) (fun c_78 => by exfalso; omega)
              refine lv_aload_n hx hb dX11_one_204 rfl (lv_at hl 2 rfl) ?_
              refine kJi (wr := []) (va_runV (As := []) (rest := []) ⟨hx, hb, hml, hown, hT⟩ (c_X11_oneG3 l D cI aK aV k k0 k1 k2 k4 k5 k6 k7 k8 ka kb kl ko H.size c3 c9 cc v_76 ce scf_70 v_77 ch ci cj ck cm cn c0 (by first | omega | decide | assumption | rfl) (by first | omega | decide | assumption | rfl) (by first | omega | decide | assumption | rfl) (by first | omega | decide | assumption | rfl) (by first | omega | decide | assumption | rfl) (by first | omega | decide | assumption | rfl)) (cwV 0 hT (gV_in mw_1335 mw_1332 mw_1334 mw_p4_8 mw_12) rfl rfl rfl (by decide +kernel) ⟨Nat.le_of_ble_eq_true rfl, Nat.le_of_ble_eq_true rfl⟩) (kRecvX (q0 := 1) (ci := 11) hK hP hD hN hXS hS hA rfl rfl [1, 0] rfl (by decide)) rfl rfl hl.1 rfl (lv_room (Nat.le_of_ble_eq_true rfl)) dX11_one_205 ⟨Nat.le_of_ble_eq_true rfl, Nat.le_of_ble_eq_true rfl⟩) hP hD hS hA [1, 0] [] rfl rfl (by decide) (by decide) ?_
              clear hP hD hS
              intro r_79 u_84 H locs w_80 hP hD hS
              obtain ⟨scd_81, scf_82, scg_83⟩ := u_84
              replace hP : va_P D vwCl [(k, .inr (11, [.ref k0, .ref k1, .ref k2, .int c3, .ref k4, .ref k5, .ref k6, .ref k7, .ref k8, .int c9, .ref ka, .ref kb, .int cc, .int scd_81, .int ce, .int scf_82, .int scg_83, .int ch, .int ci, .int cj, .int ck, .ref kl, .int cm, .int cn, .ref ko])), (k0, .inl (cI, 1201, .inl c0))] H := hP
              replace hD : va_D A [(k, .inr (11, [.ref k0, .ref k1, .ref k2, .int c3, .ref k4, .ref k5, .ref k6, .ref k7, .ref k8, .int c9, .ref ka, .ref kb, .int cc, .int scd_81, .int ce, .int scf_82, .int scg_83, .int ch, .int ci, .int cj, .int ck, .ref kl, .int cm, .int cn, .ref ko])), (k0, .inl (cI, 1201, .inl c0))] := hD
              have lo_scd_81 := k_lo scd_81
              have hi_scd_81 := k_hi scd_81
              have lo_scf_82 := k_lo scf_82
              have hi_scf_82 := k_hi scf_82
              have lo_scg_83 := k_lo scg_83
              have hi_scg_83 := k_hi scg_83
              obtain ⟨h_85, h_86, h_87⟩ := w_80
              have h_85 : v_76.toInt ≤ scd_81.toInt := h_85
              have h_86 : scd_81.toInt ≤ ce.toInt := h_86
              have h_87 : scg_83.toInt = 3 := h_87
              have lo_r_79 := k_lo r_79
              have hi_r_79 := k_hi r_79
              refine lv_istore_n (lv' := [(3, .int r_79), (2, .int (-1)), (1, .int r_1), (0, .ref k)]) hx hb dX11_one_208 rfl hl (by decide) rfl ?_
              clear hl
              intro ls hl
              refine lv_aload_n hx hb dX11_one_209 rfl (lv_at hl 3 rfl) ?_
              refine lv_iload_n hx hb dX11_one_210 rfl (lv_at hl 2 rfl) ?_
              refine lv_bipush (v := 40) hx hb dX11_one_211 (by decide) ?_
              refine b_icmp_ne hx hb rfl zl_40 (tgt := 225) dX11_one_213 (by decide) (fun c_88 => ?_) (fun c_88 => by exfalso; omega)
              refine lv_iconst (v := 1) hx hb dX11_one_225 (by decide) ?_
              refine lv_goto (tgt := 230) hx hb dX11_one_226 (by decide) ?_
              refine kJv (wr := [(k0, .inl (cI, 1201, .inl c0))]) (va_runV (As := [.int 1]) (rest := []) ⟨hx, hb, hml, hown, hT⟩ (c_X11_needsG l D cI aK aV k k0 k1 k2 k4 k5 k6 k7 k8 ka kb kl ko H.size c3 c9 cc scd_81 ce scf_82 scg_83 ch ci cj ck cm cn 1) (cwV 1 hT (gV_in mw_1347 mw_1344 mw_1346 mw_p4_11 mw_12) rfl rfl rfl (by decide +kernel) ⟨Nat.le_of_ble_eq_true rfl, Nat.le_of_ble_eq_true rfl⟩) (kRecvX (q0 := 0) (ci := 11) hK hP hD hN hXS hS hA rfl rfl [0] rfl (by decide)) rfl rfl hl.1 rfl (lv_room (Nat.le_of_ble_eq_true rfl)) dX11_one_230 ⟨Nat.le_of_ble_eq_true rfl, Nat.le_of_ble_eq_true rfl⟩) hP hD hS hA [0] [1] rfl rfl (by decide) (by decide) ?_
              clear hP hD hS
              intro scf_91 H locs w_90 hP hD hS
              replace hP : va_P D vwCl [(k0, .inl (cI, 1201, .inl c0)), (k, .inr (11, [.ref k0, .ref k1, .ref k2, .int c3, .ref k4, .ref k5, .ref k6, .ref k7, .ref k8, .int c9, .ref ka, .ref kb, .int cc, .int scd_81, .int ce, .int scf_91, .int scg_83, .int ch, .int ci, .int cj, .int ck, .ref kl, .int cm, .int cn, .ref ko]))] H := hP
              replace hD : va_D A [(k0, .inl (cI, 1201, .inl c0)), (k, .inr (11, [.ref k0, .ref k1, .ref k2, .int c3, .ref k4, .ref k5, .ref k6, .ref k7, .ref k8, .int c9, .ref ka, .ref kb, .int cc, .int scd_81, .int ce, .int scf_91, .int scg_83, .int ch, .int ci, .int cj, .int ck, .ref kl, .int cm, .int cn, .ref ko]))] := hD
              have lo_scf_91 := k_lo scf_91
              have hi_scf_91 := k_hi scf_91
              rcases w_90 with ⟨h_92, h_93, h_94⟩ | h_95
              · try simp only [zl_1] at h_92
                try simp only [zl_1] at h_93
                have h_93 : scf_82.toInt = 0 := h_93
                try simp only [zl_1] at h_94
                have h_94 : scf_91.toInt = 0 := h_94
                refine lv_aload_n hx hb dX11_one_233 rfl (lv_at hl 3 rfl) ?_
                refine lv_dup hx hb dX11_one_234 rfl ?_
                refine va_get (D := D) (ci := 11) (v := .int scg_83) (C := RX11) (T := TX11) (N := 25) hx hb hT giX11 hown hK hP 1 rfl rfl 16 (by decide) (hT (Cond.fieldLink RX11 170 "DesertWireModel" "open" "I") mw_1172) (fun _ h9 => h9) rfl dX11_one_235 ?_
                refine lv_iconst (v := 1) hx hb dX11_one_238 (by decide) ?_
                refine lv_isub hx hb dX11_one_239 ?_
                refine lv_topi (fun v_96 ev_96 => ?_)
                have tv_96 : v_96.toInt = scg_83.toInt - 1 := by rw [ev_96]; exact k_subv rfl zl_1 (by omega) (by omega)
                refine va_put (D := D) (ci := 11) (v := .int v_96) (ty := .int) (C := RX11) (T := TX11) (N := 25) hx hb hT giX11 tyX11 tyX11_ok nmX11 hown hK hP hD hS 1 rfl rfl 16 (by decide) (hT (Cond.fieldLink RX11 170 "DesertWireModel" "open" "I") mw_1172) (fun _ h9 => h9) rfl (by decide +kernel) rfl rfl (Nat.le_of_ble_eq_true rfl) dX11_one_240 ?_
                clear hP hD hS
                intro H locs hP hD hS
                replace hP : va_P D vwCl [(k0, .inl (cI, 1201, .inl c0)), (k, .inr (11, [.ref k0, .ref k1, .ref k2, .int c3, .ref k4, .ref k5, .ref k6, .ref k7, .ref k8, .int c9, .ref ka, .ref kb, .int cc, .int scd_81, .int ce, .int scf_91, .int v_96, .int ch, .int ci, .int cj, .int ck, .ref kl, .int cm, .int cn, .ref ko]))] H := hP
                replace hD : va_D A [(k0, .inl (cI, 1201, .inl c0)), (k, .inr (11, [.ref k0, .ref k1, .ref k2, .int c3, .ref k4, .ref k5, .ref k6, .ref k7, .ref k8, .int c9, .ref ka, .ref kb, .int cc, .int scd_81, .int ce, .int scf_91, .int v_96, .int ch, .int ci, .int cj, .int ck, .ref kl, .int cm, .int cn, .ref ko]))] := hD
                refine lv_iload_n hx hb dX11_one_243 rfl (lv_at hl 2 rfl) ?_
                refine lv_bipush (v := 45) hx hb dX11_one_244 (by decide) ?_
                refine b_icmp_ne hx hb rfl zl_45 (tgt := 254) dX11_one_246 (by decide) (fun c_97 => by exfalso; omega) (fun c_97 => ?_)
                refine lv_iload_n hx hb dX11_one_249 rfl (lv_at hl 0 rfl) ?_
                refine lv_ineg hx hb dX11_one_250 ?_
                refine lv_topi (fun v_98 ev_98 => ?_)
                have lo_v_98 := k_lo v_98
                have hi_v_98 := k_hi v_98
                refine lv_goto (tgt := 273) hx hb dX11_one_251 (by decide) ?_
                exact hRet (scd_81, scf_91, v_96) [1, 0] ⟨(by first | omega | decide | assumption | rfl | (dsimp only; first | omega)), (by first | omega | decide | assumption | rfl | (dsimp only; first | omega)), (by first | omega | decide | assumption | rfl | (dsimp only; first | omega))⟩ hP hD (by decide) rfl hS rfl dX11_one_273
              · try simp only [zl_1] at h_95
                have h_95 : scf_91.toInt = 1 := h_95
                refine lv_aload_n hx hb dX11_one_233 rfl (lv_at hl 3 rfl) ?_
                refine lv_dup hx hb dX11_one_234 rfl ?_
                refine va_get (D := D) (ci := 11) (v := .int scg_83) (C := RX11) (T := TX11) (N := 25) hx hb hT giX11 hown hK hP 1 rfl rfl 16 (by decide) (hT (Cond.fieldLink RX11 170 "DesertWireModel" "open" "I") mw_1172) (fun _ h9 => h9) rfl dX11_one_235 ?_
                refine lv_iconst (v := 1) hx hb dX11_one_238 (by decide) ?_
                refine lv_isub hx hb dX11_one_239 ?_
                refine lv_topi (fun v_99 ev_99 => ?_)
                have tv_99 : v_99.toInt = scg_83.toInt - 1 := by rw [ev_99]; exact k_subv rfl zl_1 (by omega) (by omega)
                refine va_put (D := D) (ci := 11) (v := .int v_99) (ty := .int) (C := RX11) (T := TX11) (N := 25) hx hb hT giX11 tyX11 tyX11_ok nmX11 hown hK hP hD hS 1 rfl rfl 16 (by decide) (hT (Cond.fieldLink RX11 170 "DesertWireModel" "open" "I") mw_1172) (fun _ h9 => h9) rfl (by decide +kernel) rfl rfl (Nat.le_of_ble_eq_true rfl) dX11_one_240 ?_
                clear hP hD hS
                intro H locs hP hD hS
                replace hP : va_P D vwCl [(k0, .inl (cI, 1201, .inl c0)), (k, .inr (11, [.ref k0, .ref k1, .ref k2, .int c3, .ref k4, .ref k5, .ref k6, .ref k7, .ref k8, .int c9, .ref ka, .ref kb, .int cc, .int scd_81, .int ce, .int scf_91, .int v_99, .int ch, .int ci, .int cj, .int ck, .ref kl, .int cm, .int cn, .ref ko]))] H := hP
                replace hD : va_D A [(k0, .inl (cI, 1201, .inl c0)), (k, .inr (11, [.ref k0, .ref k1, .ref k2, .int c3, .ref k4, .ref k5, .ref k6, .ref k7, .ref k8, .int c9, .ref ka, .ref kb, .int cc, .int scd_81, .int ce, .int scf_91, .int v_99, .int ch, .int ci, .int cj, .int ck, .ref kl, .int cm, .int cn, .ref ko]))] := hD
                refine lv_iload_n hx hb dX11_one_243 rfl (lv_at hl 2 rfl) ?_
                refine lv_bipush (v := 45) hx hb dX11_one_244 (by decide) ?_
                refine b_icmp_ne hx hb rfl zl_45 (tgt := 254) dX11_one_246 (by decide) (fun c_100 => by exfalso; omega) (fun c_100 => ?_)
                refine lv_iload_n hx hb dX11_one_249 rfl (lv_at hl 0 rfl) ?_
                refine lv_ineg hx hb dX11_one_250 ?_
                refine lv_topi (fun v_101 ev_101 => ?_)
                have lo_v_101 := k_lo v_101
                have hi_v_101 := k_hi v_101
                refine lv_goto (tgt := 273) hx hb dX11_one_251 (by decide) ?_
                exact hRet (scd_81, scf_91, v_99) [1, 0] ⟨(by first | omega | decide | assumption | rfl | (dsimp only; first | omega)), (by first | omega | decide | assumption | rfl | (dsimp only; first | omega)), (by first | omega | decide | assumption | rfl | (dsimp only; first | omega))⟩ hP hD (by decide) rfl hS rfl dX11_one_273
            · try simp only [zl_1] at h_74
              have h_74 : scf_70.toInt = 1 := h_74
              refine lv_aload_n hx hb dX11_one_162 rfl (lv_at hl 2 rfl) ?_
              refine va_get (D := D) (ci := 11) (v := .int scf_70) (C := RX11) (T := TX11) (N := 25) hx hb hT giX11 hown hK hP 1 rfl rfl 15 (by decide) (hT (Cond.fieldLink RX11 148 "DesertWireModel" "isWrong" "Z") mw_1171) (fun _ h9 => h9) rfl dX11_one_163 ?_
              refine b_if_eq hx hb rfl (tgt := 171) dX11_one_166 (by decide) (fun c_102 => by exfalso; omega) (fun c_102 => ?_)
              refine lv_iconst (v := 0) hx hb dX11_one_169 (by decide) ?_
              exact hRet (cd, scf_70, cg) [1, 0] ⟨(by first | omega | (simp only [zl_0] <;> omega) | decide | assumption | rfl | (dsimp only; first | omega | (simp only [zl_0] <;> omega))), (by first | omega | (simp only [zl_0] <;> omega) | decide | assumption | rfl | (dsimp only; first | omega | (simp only [zl_0] <;> omega))), (by first | omega | (simp only [zl_0] <;> omega) | decide | assumption | rfl | (dsimp only; first | omega | (simp only [zl_0] <;> omega)))⟩ hP hD (by decide) rfl hS rfl dX11_one_170
          · refine lv_iload_n hx hb dX11_one_134 rfl (lv_at hl 1 rfl) ?_
            refine lv_bipush (v := 33) hx hb dX11_one_135 (by decide) ?_
            refine b_icmp_eq hx hb rfl zl_33 (tgt := 146) dX11_one_137 (by decide) (fun c_103 => ?_) (fun c_103 => ?_)
            · refine lv_aload_n hx hb dX11_one_146 rfl (lv_at hl 2 rfl) ?_
              refine va_get (D := D) (ci := 11) (v := .int cg) (C := RX11) (T := TX11) (N := 25) hx hb hT giX11 hown hK hP 1 rfl rfl 16 (by decide) (hT (Cond.fieldLink RX11 170 "DesertWireModel" "open" "I") mw_1172) (fun _ h9 => h9) rfl dX11_one_147 ?_
              refine lv_iconst (v := 4) hx hb dX11_one_150 (by decide) ?_
              refine b_icmp_ge hx hb rfl zl_4 (tgt := 158) dX11_one_151 (by decide) (fun c_104 => by exfalso; omega) (fun c_104 => ?_)
              refine lv_iconst (v := 1) hx hb dX11_one_154 (by decide) ?_
              refine lv_goto (tgt := 159) hx hb dX11_one_155 (by decide) ?_
              refine kJv (wr := [(k0, .inl (cI, 1201, .inl c0))]) (va_runV (As := [.int 1]) (rest := []) ⟨hx, hb, hml, hown, hT⟩ (c_X11_needsG l D cI aK aV k k0 k1 k2 k4 k5 k6 k7 k8 ka kb kl ko H.size c3 c9 cc cd ce cf cg ch ci cj ck cm cn 1) (cwV 1 hT (gV_in mw_1347 mw_1344 mw_1346 mw_p4_11 mw_12) rfl rfl rfl (by decide +kernel) ⟨Nat.le_of_ble_eq_true rfl, Nat.le_of_ble_eq_true rfl⟩) (kRecvX (q0 := 1) (ci := 11) hK hP hD hN hXS hS hA rfl rfl [1] rfl (by decide)) rfl rfl hl.1 rfl (lv_room (Nat.le_of_ble_eq_true rfl)) dX11_one_159 ⟨Nat.le_of_ble_eq_true rfl, Nat.le_of_ble_eq_true rfl⟩) hP hD hS hA [1] [0] rfl rfl (by decide) (by decide) ?_
              clear hP hD hS
              intro scf_107 H locs w_106 hP hD hS
              replace hP : va_P D vwCl [(k0, .inl (cI, 1201, .inl c0)), (k, .inr (11, [.ref k0, .ref k1, .ref k2, .int c3, .ref k4, .ref k5, .ref k6, .ref k7, .ref k8, .int c9, .ref ka, .ref kb, .int cc, .int cd, .int ce, .int scf_107, .int cg, .int ch, .int ci, .int cj, .int ck, .ref kl, .int cm, .int cn, .ref ko]))] H := hP
              replace hD : va_D A [(k0, .inl (cI, 1201, .inl c0)), (k, .inr (11, [.ref k0, .ref k1, .ref k2, .int c3, .ref k4, .ref k5, .ref k6, .ref k7, .ref k8, .int c9, .ref ka, .ref kb, .int cc, .int cd, .int ce, .int scf_107, .int cg, .int ch, .int ci, .int cj, .int ck, .ref kl, .int cm, .int cn, .ref ko]))] := hD
              have lo_scf_107 := k_lo scf_107
              have hi_scf_107 := k_hi scf_107
              rcases w_106 with ⟨h_108, h_109, h_110⟩ | h_111
              · try simp only [zl_1] at h_108
                try simp only [zl_1] at h_109
                have h_109 : cf.toInt = 0 := h_109
                try simp only [zl_1] at h_110
                have h_110 : scf_107.toInt = 0 := h_110
                refine lv_aload_n hx hb dX11_one_162 rfl (lv_at hl 2 rfl) ?_
                refine va_get (D := D) (ci := 11) (v := .int scf_107) (C := RX11) (T := TX11) (N := 25) hx hb hT giX11 hown hK hP 1 rfl rfl 15 (by decide) (hT (Cond.fieldLink RX11 148 "DesertWireModel" "isWrong" "Z") mw_1171) (fun _ h9 => h9) rfl dX11_one_163 ?_
                refine b_if_eq hx hb rfl (tgt := 171) dX11_one_166 (by decide) (fun c_112 => ?_) (fun c_112 => by exfalso; omega)
                refine lv_aload_n hx hb dX11_one_171 rfl (lv_at hl 2 rfl) ?_
                refine lv_dup hx hb dX11_one_172 rfl ?_
                refine va_get (D := D) (ci := 11) (v := .int cd) (C := RX11) (T := TX11) (N := 25) hx hb hT giX11 hown hK hP 1 rfl rfl 13 (by decide) (hT (Cond.fieldLink RX11 138 "DesertWireModel" "here" "I") mw_1169) (fun _ h9 => h9) rfl dX11_one_173 ?_
                refine lv_iconst (v := 1) hx hb dX11_one_176 (by decide) ?_
                refine lv_iadd hx hb dX11_one_177 ?_
                refine lv_topi (fun v_113 ev_113 => ?_)
                have tv_113 : v_113.toInt = cd.toInt + 1 := by rw [ev_113]; exact k_addv rfl zl_1 (by omega) (by omega)
                refine va_put (D := D) (ci := 11) (v := .int v_113) (ty := .int) (C := RX11) (T := TX11) (N := 25) hx hb hT giX11 tyX11 tyX11_ok nmX11 hown hK hP hD hS 1 rfl rfl 13 (by decide) (hT (Cond.fieldLink RX11 138 "DesertWireModel" "here" "I") mw_1169) (fun _ h9 => h9) rfl (by decide +kernel) rfl rfl (Nat.le_of_ble_eq_true rfl) dX11_one_178 ?_
                clear hP hD hS
                intro H locs hP hD hS
                replace hP : va_P D vwCl [(k0, .inl (cI, 1201, .inl c0)), (k, .inr (11, [.ref k0, .ref k1, .ref k2, .int c3, .ref k4, .ref k5, .ref k6, .ref k7, .ref k8, .int c9, .ref ka, .ref kb, .int cc, .int v_113, .int ce, .int scf_107, .int cg, .int ch, .int ci, .int cj, .int ck, .ref kl, .int cm, .int cn, .ref ko]))] H := hP
                replace hD : va_D A [(k0, .inl (cI, 1201, .inl c0)), (k, .inr (11, [.ref k0, .ref k1, .ref k2, .int c3, .ref k4, .ref k5, .ref k6, .ref k7, .ref k8, .int c9, .ref ka, .ref kb, .int cc, .int v_113, .int ce, .int scf_107, .int cg, .int ch, .int ci, .int cj, .int ck, .ref kl, .int cm, .int cn, .ref ko]))] := hD
                refine lv_aload_n hx hb dX11_one_181 rfl (lv_at hl 2 rfl) ?_
                refine lv_dup hx hb dX11_one_182 rfl ?_
                refine va_get (D := D) (ci := 11) (v := .int cg) (C := RX11) (T := TX11) (N := 25) hx hb hT giX11 hown hK hP 1 rfl rfl 16 (by decide) (hT (Cond.fieldLink RX11 170 "DesertWireModel" "open" "I") mw_1172) (fun _ h9 => h9) rfl dX11_one_183 ?_
                refine lv_iconst (v := 1) hx hb dX11_one_186 (by decide) ?_
                refine lv_iadd hx hb dX11_one_187 ?_
                refine lv_topi (fun v_114 ev_114 => ?_)
                have tv_114 : v_114.toInt = cg.toInt + 1 := by rw [ev_114]; exact k_addv rfl zl_1 (by omega) (by omega)
                refine va_put (D := D) (ci := 11) (v := .int v_114) (ty := .int) (C := RX11) (T := TX11) (N := 25) hx hb hT giX11 tyX11 tyX11_ok nmX11 hown hK hP hD hS 1 rfl rfl 16 (by decide) (hT (Cond.fieldLink RX11 170 "DesertWireModel" "open" "I") mw_1172) (fun _ h9 => h9) rfl (by decide +kernel) rfl rfl (Nat.le_of_ble_eq_true rfl) dX11_one_188 ?_
                clear hP hD hS
                intro H locs hP hD hS
                replace hP : va_P D vwCl [(k0, .inl (cI, 1201, .inl c0)), (k, .inr (11, [.ref k0, .ref k1, .ref k2, .int c3, .ref k4, .ref k5, .ref k6, .ref k7, .ref k8, .int c9, .ref ka, .ref kb, .int cc, .int v_113, .int ce, .int scf_107, .int v_114, .int ch, .int ci, .int cj, .int ck, .ref kl, .int cm, .int cn, .ref ko]))] H := hP
                replace hD : va_D A [(k0, .inl (cI, 1201, .inl c0)), (k, .inr (11, [.ref k0, .ref k1, .ref k2, .int c3, .ref k4, .ref k5, .ref k6, .ref k7, .ref k8, .int c9, .ref ka, .ref kb, .int cc, .int v_113, .int ce, .int scf_107, .int v_114, .int ch, .int ci, .int cj, .int ck, .ref kl, .int cm, .int cn, .ref ko]))] := hD
                refine lv_iload_n hx hb dX11_one_191 rfl (lv_at hl 1 rfl) ?_
                refine lv_bipush (v := 40) hx hb dX11_one_192 (by decide) ?_
                refine b_icmp_ne hx hb rfl zl_40 (tgt := 204) dX11_one_194 (by decide) (fun c_115 => ?_) (fun c_115 => by exfalso; omega)
                refine lv_aload_n hx hb dX11_one_204 rfl (lv_at hl 2 rfl) ?_
                refine kJi (wr := []) (va_runV (As := []) (rest := []) ⟨hx, hb, hml, hown, hT⟩ (c_X11_oneG3 l D cI aK aV k k0 k1 k2 k4 k5 k6 k7 k8 ka kb kl ko H.size c3 c9 cc v_113 ce scf_107 v_114 ch ci cj ck cm cn c0 (by first | omega | decide | assumption | rfl) (by first | omega | decide | assumption | rfl) (by first | omega | decide | assumption | rfl) (by first | omega | decide | assumption | rfl) (by first | omega | decide | assumption | rfl) (by first | omega | decide | assumption | rfl)) (cwV 0 hT (gV_in mw_1335 mw_1332 mw_1334 mw_p4_8 mw_12) rfl rfl rfl (by decide +kernel) ⟨Nat.le_of_ble_eq_true rfl, Nat.le_of_ble_eq_true rfl⟩) (kRecvX (q0 := 1) (ci := 11) hK hP hD hN hXS hS hA rfl rfl [1, 0] rfl (by decide)) rfl rfl hl.1 rfl (lv_room (Nat.le_of_ble_eq_true rfl)) dX11_one_205 ⟨Nat.le_of_ble_eq_true rfl, Nat.le_of_ble_eq_true rfl⟩) hP hD hS hA [1, 0] [] rfl rfl (by decide) (by decide) ?_
                clear hP hD hS
                intro r_116 u_121 H locs w_117 hP hD hS
                obtain ⟨scd_118, scf_119, scg_120⟩ := u_121
                replace hP : va_P D vwCl [(k, .inr (11, [.ref k0, .ref k1, .ref k2, .int c3, .ref k4, .ref k5, .ref k6, .ref k7, .ref k8, .int c9, .ref ka, .ref kb, .int cc, .int scd_118, .int ce, .int scf_119, .int scg_120, .int ch, .int ci, .int cj, .int ck, .ref kl, .int cm, .int cn, .ref ko])), (k0, .inl (cI, 1201, .inl c0))] H := hP
                replace hD : va_D A [(k, .inr (11, [.ref k0, .ref k1, .ref k2, .int c3, .ref k4, .ref k5, .ref k6, .ref k7, .ref k8, .int c9, .ref ka, .ref kb, .int cc, .int scd_118, .int ce, .int scf_119, .int scg_120, .int ch, .int ci, .int cj, .int ck, .ref kl, .int cm, .int cn, .ref ko])), (k0, .inl (cI, 1201, .inl c0))] := hD
                have lo_scd_118 := k_lo scd_118
                have hi_scd_118 := k_hi scd_118
                have lo_scf_119 := k_lo scf_119
                have hi_scf_119 := k_hi scf_119
                have lo_scg_120 := k_lo scg_120
                have hi_scg_120 := k_hi scg_120
                obtain ⟨h_122, h_123, h_124⟩ := w_117
                have h_122 : v_113.toInt ≤ scd_118.toInt := h_122
                have h_123 : scd_118.toInt ≤ ce.toInt := h_123
                have h_124 : scg_120.toInt = 3 := h_124
                have lo_r_116 := k_lo r_116
                have hi_r_116 := k_hi r_116
                refine lv_istore_n (lv' := [(3, .int r_116), (2, .int (-1)), (1, .int r_1), (0, .ref k)]) hx hb dX11_one_208 rfl hl (by decide) rfl ?_
                clear hl
                intro ls hl
                refine lv_aload_n hx hb dX11_one_209 rfl (lv_at hl 3 rfl) ?_
                refine lv_iload_n hx hb dX11_one_210 rfl (lv_at hl 2 rfl) ?_
                refine lv_bipush (v := 40) hx hb dX11_one_211 (by decide) ?_
                refine b_icmp_ne hx hb rfl zl_40 (tgt := 225) dX11_one_213 (by decide) (fun c_125 => ?_) (fun c_125 => by exfalso; omega)
                refine lv_iconst (v := 1) hx hb dX11_one_225 (by decide) ?_
                refine lv_goto (tgt := 230) hx hb dX11_one_226 (by decide) ?_
                refine kJv (wr := [(k0, .inl (cI, 1201, .inl c0))]) (va_runV (As := [.int 1]) (rest := []) ⟨hx, hb, hml, hown, hT⟩ (c_X11_needsG l D cI aK aV k k0 k1 k2 k4 k5 k6 k7 k8 ka kb kl ko H.size c3 c9 cc scd_118 ce scf_119 scg_120 ch ci cj ck cm cn 1) (cwV 1 hT (gV_in mw_1347 mw_1344 mw_1346 mw_p4_11 mw_12) rfl rfl rfl (by decide +kernel) ⟨Nat.le_of_ble_eq_true rfl, Nat.le_of_ble_eq_true rfl⟩) (kRecvX (q0 := 0) (ci := 11) hK hP hD hN hXS hS hA rfl rfl [0] rfl (by decide)) rfl rfl hl.1 rfl (lv_room (Nat.le_of_ble_eq_true rfl)) dX11_one_230 ⟨Nat.le_of_ble_eq_true rfl, Nat.le_of_ble_eq_true rfl⟩) hP hD hS hA [0] [1] rfl rfl (by decide) (by decide) ?_
                clear hP hD hS
                intro scf_128 H locs w_127 hP hD hS
                replace hP : va_P D vwCl [(k0, .inl (cI, 1201, .inl c0)), (k, .inr (11, [.ref k0, .ref k1, .ref k2, .int c3, .ref k4, .ref k5, .ref k6, .ref k7, .ref k8, .int c9, .ref ka, .ref kb, .int cc, .int scd_118, .int ce, .int scf_128, .int scg_120, .int ch, .int ci, .int cj, .int ck, .ref kl, .int cm, .int cn, .ref ko]))] H := hP
                replace hD : va_D A [(k0, .inl (cI, 1201, .inl c0)), (k, .inr (11, [.ref k0, .ref k1, .ref k2, .int c3, .ref k4, .ref k5, .ref k6, .ref k7, .ref k8, .int c9, .ref ka, .ref kb, .int cc, .int scd_118, .int ce, .int scf_128, .int scg_120, .int ch, .int ci, .int cj, .int ck, .ref kl, .int cm, .int cn, .ref ko]))] := hD
                have lo_scf_128 := k_lo scf_128
                have hi_scf_128 := k_hi scf_128
                rcases w_127 with ⟨h_129, h_130, h_131⟩ | h_132
                · try simp only [zl_1] at h_129
                  try simp only [zl_1] at h_130
                  have h_130 : scf_119.toInt = 0 := h_130
                  try simp only [zl_1] at h_131
                  have h_131 : scf_128.toInt = 0 := h_131
                  refine lv_aload_n hx hb dX11_one_233 rfl (lv_at hl 3 rfl) ?_
                  refine lv_dup hx hb dX11_one_234 rfl ?_
                  refine va_get (D := D) (ci := 11) (v := .int scg_120) (C := RX11) (T := TX11) (N := 25) hx hb hT giX11 hown hK hP 1 rfl rfl 16 (by decide) (hT (Cond.fieldLink RX11 170 "DesertWireModel" "open" "I") mw_1172) (fun _ h9 => h9) rfl dX11_one_235 ?_
                  refine lv_iconst (v := 1) hx hb dX11_one_238 (by decide) ?_
                  refine lv_isub hx hb dX11_one_239 ?_
                  refine lv_topi (fun v_133 ev_133 => ?_)
                  have tv_133 : v_133.toInt = scg_120.toInt - 1 := by rw [ev_133]; exact k_subv rfl zl_1 (by omega) (by omega)
                  refine va_put (D := D) (ci := 11) (v := .int v_133) (ty := .int) (C := RX11) (T := TX11) (N := 25) hx hb hT giX11 tyX11 tyX11_ok nmX11 hown hK hP hD hS 1 rfl rfl 16 (by decide) (hT (Cond.fieldLink RX11 170 "DesertWireModel" "open" "I") mw_1172) (fun _ h9 => h9) rfl (by decide +kernel) rfl rfl (Nat.le_of_ble_eq_true rfl) dX11_one_240 ?_
                  clear hP hD hS
                  intro H locs hP hD hS
                  replace hP : va_P D vwCl [(k0, .inl (cI, 1201, .inl c0)), (k, .inr (11, [.ref k0, .ref k1, .ref k2, .int c3, .ref k4, .ref k5, .ref k6, .ref k7, .ref k8, .int c9, .ref ka, .ref kb, .int cc, .int scd_118, .int ce, .int scf_128, .int v_133, .int ch, .int ci, .int cj, .int ck, .ref kl, .int cm, .int cn, .ref ko]))] H := hP
                  replace hD : va_D A [(k0, .inl (cI, 1201, .inl c0)), (k, .inr (11, [.ref k0, .ref k1, .ref k2, .int c3, .ref k4, .ref k5, .ref k6, .ref k7, .ref k8, .int c9, .ref ka, .ref kb, .int cc, .int scd_118, .int ce, .int scf_128, .int v_133, .int ch, .int ci, .int cj, .int ck, .ref kl, .int cm, .int cn, .ref ko]))] := hD
                  refine lv_iload_n hx hb dX11_one_243 rfl (lv_at hl 2 rfl) ?_
                  refine lv_bipush (v := 45) hx hb dX11_one_244 (by decide) ?_
                  refine b_icmp_ne hx hb rfl zl_45 (tgt := 254) dX11_one_246 (by decide) (fun c_134 => ?_) (fun c_134 => by exfalso; omega)
                  refine lv_iload_n hx hb dX11_one_254 rfl (lv_at hl 2 rfl) ?_
                  refine lv_bipush (v := 33) hx hb dX11_one_255 (by decide) ?_
                  refine b_icmp_ne hx hb rfl zl_33 (tgt := 272) dX11_one_257 (by decide) (fun c_135 => by exfalso; omega) (fun c_135 => ?_)
                  refine lv_iload_n hx hb dX11_one_260 rfl (lv_at hl 0 rfl) ?_
                  refine b_if_ne hx hb rfl (tgt := 268) dX11_one_261 (by decide) (fun c_136 => ?_) (fun c_136 => ?_)
                  · refine lv_iconst (v := 0) hx hb dX11_one_268 (by decide) ?_
                    refine lv_goto (tgt := 273) hx hb dX11_one_269 (by decide) ?_
                    exact hRet (scd_118, scf_128, v_133) [1, 0] ⟨(by first | omega | (simp only [zl_0] <;> omega) | decide | assumption | rfl | (dsimp only; first | omega | (simp only [zl_0] <;> omega))), (by first | omega | (simp only [zl_0] <;> omega) | decide | assumption | rfl | (dsimp only; first | omega | (simp only [zl_0] <;> omega))), (by first | omega | (simp only [zl_0] <;> omega) | decide | assumption | rfl | (dsimp only; first | omega | (simp only [zl_0] <;> omega)))⟩ hP hD (by decide) rfl hS rfl dX11_one_273
                  · refine lv_iconst (v := 1) hx hb dX11_one_264 (by decide) ?_
                    refine lv_goto (tgt := 273) hx hb dX11_one_265 (by decide) ?_
                    exact hRet (scd_118, scf_128, v_133) [1, 0] ⟨(by first | omega | (simp only [zl_1] <;> omega) | decide | assumption | rfl | (dsimp only; first | omega | (simp only [zl_1] <;> omega))), (by first | omega | (simp only [zl_1] <;> omega) | decide | assumption | rfl | (dsimp only; first | omega | (simp only [zl_1] <;> omega))), (by first | omega | (simp only [zl_1] <;> omega) | decide | assumption | rfl | (dsimp only; first | omega | (simp only [zl_1] <;> omega)))⟩ hP hD (by decide) rfl hS rfl dX11_one_273
                · try simp only [zl_1] at h_132
                  have h_132 : scf_128.toInt = 1 := h_132
                  refine lv_aload_n hx hb dX11_one_233 rfl (lv_at hl 3 rfl) ?_
                  refine lv_dup hx hb dX11_one_234 rfl ?_
                  refine va_get (D := D) (ci := 11) (v := .int scg_120) (C := RX11) (T := TX11) (N := 25) hx hb hT giX11 hown hK hP 1 rfl rfl 16 (by decide) (hT (Cond.fieldLink RX11 170 "DesertWireModel" "open" "I") mw_1172) (fun _ h9 => h9) rfl dX11_one_235 ?_
                  refine lv_iconst (v := 1) hx hb dX11_one_238 (by decide) ?_
                  refine lv_isub hx hb dX11_one_239 ?_
                  refine lv_topi (fun v_137 ev_137 => ?_)
                  have tv_137 : v_137.toInt = scg_120.toInt - 1 := by rw [ev_137]; exact k_subv rfl zl_1 (by omega) (by omega)
                  refine va_put (D := D) (ci := 11) (v := .int v_137) (ty := .int) (C := RX11) (T := TX11) (N := 25) hx hb hT giX11 tyX11 tyX11_ok nmX11 hown hK hP hD hS 1 rfl rfl 16 (by decide) (hT (Cond.fieldLink RX11 170 "DesertWireModel" "open" "I") mw_1172) (fun _ h9 => h9) rfl (by decide +kernel) rfl rfl (Nat.le_of_ble_eq_true rfl) dX11_one_240 ?_
                  clear hP hD hS
                  intro H locs hP hD hS
                  replace hP : va_P D vwCl [(k0, .inl (cI, 1201, .inl c0)), (k, .inr (11, [.ref k0, .ref k1, .ref k2, .int c3, .ref k4, .ref k5, .ref k6, .ref k7, .ref k8, .int c9, .ref ka, .ref kb, .int cc, .int scd_118, .int ce, .int scf_128, .int v_137, .int ch, .int ci, .int cj, .int ck, .ref kl, .int cm, .int cn, .ref ko]))] H := hP
                  replace hD : va_D A [(k0, .inl (cI, 1201, .inl c0)), (k, .inr (11, [.ref k0, .ref k1, .ref k2, .int c3, .ref k4, .ref k5, .ref k6, .ref k7, .ref k8, .int c9, .ref ka, .ref kb, .int cc, .int scd_118, .int ce, .int scf_128, .int v_137, .int ch, .int ci, .int cj, .int ck, .ref kl, .int cm, .int cn, .ref ko]))] := hD
                  refine lv_iload_n hx hb dX11_one_243 rfl (lv_at hl 2 rfl) ?_
                  refine lv_bipush (v := 45) hx hb dX11_one_244 (by decide) ?_
                  refine b_icmp_ne hx hb rfl zl_45 (tgt := 254) dX11_one_246 (by decide) (fun c_138 => ?_) (fun c_138 => by exfalso; omega)
                  refine lv_iload_n hx hb dX11_one_254 rfl (lv_at hl 2 rfl) ?_
                  refine lv_bipush (v := 33) hx hb dX11_one_255 (by decide) ?_
                  refine b_icmp_ne hx hb rfl zl_33 (tgt := 272) dX11_one_257 (by decide) (fun c_139 => by exfalso; omega) (fun c_139 => ?_)
                  refine lv_iload_n hx hb dX11_one_260 rfl (lv_at hl 0 rfl) ?_
                  refine b_if_ne hx hb rfl (tgt := 268) dX11_one_261 (by decide) (fun c_140 => ?_) (fun c_140 => ?_)
                  · refine lv_iconst (v := 0) hx hb dX11_one_268 (by decide) ?_
                    refine lv_goto (tgt := 273) hx hb dX11_one_269 (by decide) ?_
                    exact hRet (scd_118, scf_128, v_137) [1, 0] ⟨(by first | omega | (simp only [zl_0] <;> omega) | decide | assumption | rfl | (dsimp only; first | omega | (simp only [zl_0] <;> omega))), (by first | omega | (simp only [zl_0] <;> omega) | decide | assumption | rfl | (dsimp only; first | omega | (simp only [zl_0] <;> omega))), (by first | omega | (simp only [zl_0] <;> omega) | decide | assumption | rfl | (dsimp only; first | omega | (simp only [zl_0] <;> omega)))⟩ hP hD (by decide) rfl hS rfl dX11_one_273
                  · refine lv_iconst (v := 1) hx hb dX11_one_264 (by decide) ?_
                    refine lv_goto (tgt := 273) hx hb dX11_one_265 (by decide) ?_
                    exact hRet (scd_118, scf_128, v_137) [1, 0] ⟨(by first | omega | (simp only [zl_1] <;> omega) | decide | assumption | rfl | (dsimp only; first | omega | (simp only [zl_1] <;> omega))), (by first | omega | (simp only [zl_1] <;> omega) | decide | assumption | rfl | (dsimp only; first | omega | (simp only [zl_1] <;> omega))), (by first | omega | (simp only [zl_1] <;> omega) | decide | assumption | rfl | (dsimp only; first | omega | (simp only [zl_1] <;> omega)))⟩ hP hD (by decide) rfl hS rfl dX11_one_273
              · try simp only [zl_1] at h_111
                have h_111 : scf_107.toInt = 1 := h_111
                refine lv_aload_n hx hb dX11_one_162 rfl (lv_at hl 2 rfl) ?_
                refine va_get (D := D) (ci := 11) (v := .int scf_107) (C := RX11) (T := TX11) (N := 25) hx hb hT giX11 hown hK hP 1 rfl rfl 15 (by decide) (hT (Cond.fieldLink RX11 148 "DesertWireModel" "isWrong" "Z") mw_1171) (fun _ h9 => h9) rfl dX11_one_163 ?_
                refine b_if_eq hx hb rfl (tgt := 171) dX11_one_166 (by decide) (fun c_141 => by exfalso; omega) (fun c_141 => ?_)
                refine lv_iconst (v := 0) hx hb dX11_one_169 (by decide) ?_
                exact hRet (cd, scf_107, cg) [1, 0] ⟨(by first | omega | (simp only [zl_0] <;> omega) | decide | assumption | rfl | (dsimp only; first | omega | (simp only [zl_0] <;> omega))), (by first | omega | (simp only [zl_0] <;> omega) | decide | assumption | rfl | (dsimp only; first | omega | (simp only [zl_0] <;> omega))), (by first | omega | (simp only [zl_0] <;> omega) | decide | assumption | rfl | (dsimp only; first | omega | (simp only [zl_0] <;> omega)))⟩ hP hD (by decide) rfl hS rfl dX11_one_170
            · refine lv_iload_n hx hb dX11_one_140 rfl (lv_at hl 1 rfl) ?_
              refine lv_bipush (v := 40) hx hb dX11_one_141 (by decide) ?_
              refine b_icmp_ne hx hb rfl zl_40 (tgt := 158) dX11_one_143 (by decide) (fun c_142 => ?_) (fun c_142 => ?_)
              · refine lv_iconst (v := 0) hx hb dX11_one_158 (by decide) ?_
                refine kJv (wr := [(k0, .inl (cI, 1201, .inl c0))]) (va_runV (As := [.int 0]) (rest := []) ⟨hx, hb, hml, hown, hT⟩ (c_X11_needsG l D cI aK aV k k0 k1 k2 k4 k5 k6 k7 k8 ka kb kl ko H.size c3 c9 cc cd ce cf cg ch ci cj ck cm cn 0) (cwV 1 hT (gV_in mw_1347 mw_1344 mw_1346 mw_p4_11 mw_12) rfl rfl rfl (by decide +kernel) ⟨Nat.le_of_ble_eq_true rfl, Nat.le_of_ble_eq_true rfl⟩) (kRecvX (q0 := 1) (ci := 11) hK hP hD hN hXS hS hA rfl rfl [1] rfl (by decide)) rfl rfl hl.1 rfl (lv_room (Nat.le_of_ble_eq_true rfl)) dX11_one_159 ⟨Nat.le_of_ble_eq_true rfl, Nat.le_of_ble_eq_true rfl⟩) hP hD hS hA [1] [0] rfl rfl (by decide) (by decide) ?_
                clear hP hD hS
                intro scf_145 H locs w_144 hP hD hS
                replace hP : va_P D vwCl [(k0, .inl (cI, 1201, .inl c0)), (k, .inr (11, [.ref k0, .ref k1, .ref k2, .int c3, .ref k4, .ref k5, .ref k6, .ref k7, .ref k8, .int c9, .ref ka, .ref kb, .int cc, .int cd, .int ce, .int scf_145, .int cg, .int ch, .int ci, .int cj, .int ck, .ref kl, .int cm, .int cn, .ref ko]))] H := hP
                replace hD : va_D A [(k0, .inl (cI, 1201, .inl c0)), (k, .inr (11, [.ref k0, .ref k1, .ref k2, .int c3, .ref k4, .ref k5, .ref k6, .ref k7, .ref k8, .int c9, .ref ka, .ref kb, .int cc, .int cd, .int ce, .int scf_145, .int cg, .int ch, .int ci, .int cj, .int ck, .ref kl, .int cm, .int cn, .ref ko]))] := hD
                have lo_scf_145 := k_lo scf_145
                have hi_scf_145 := k_hi scf_145
                rcases w_144 with ⟨h_146, h_147, h_148⟩ | h_149
                · (try simp only [zl_0] at h_146 h_147 h_148); exfalso; omega
                · try simp only [zl_0] at h_149
                  have h_149 : scf_145.toInt = 1 := h_149
                  refine lv_aload_n hx hb dX11_one_162 rfl (lv_at hl 2 rfl) ?_
                  refine va_get (D := D) (ci := 11) (v := .int scf_145) (C := RX11) (T := TX11) (N := 25) hx hb hT giX11 hown hK hP 1 rfl rfl 15 (by decide) (hT (Cond.fieldLink RX11 148 "DesertWireModel" "isWrong" "Z") mw_1171) (fun _ h9 => h9) rfl dX11_one_163 ?_
                  refine b_if_eq hx hb rfl (tgt := 171) dX11_one_166 (by decide) (fun c_150 => by exfalso; omega) (fun c_150 => ?_)
                  refine lv_iconst (v := 0) hx hb dX11_one_169 (by decide) ?_
                  exact hRet (cd, scf_145, cg) [1, 0] ⟨(by first | omega | (simp only [zl_0] <;> omega) | decide | assumption | rfl | (dsimp only; first | omega | (simp only [zl_0] <;> omega))), (by first | omega | (simp only [zl_0] <;> omega) | decide | assumption | rfl | (dsimp only; first | omega | (simp only [zl_0] <;> omega))), (by first | omega | (simp only [zl_0] <;> omega) | decide | assumption | rfl | (dsimp only; first | omega | (simp only [zl_0] <;> omega)))⟩ hP hD (by decide) rfl hS rfl dX11_one_170
              · refine lv_aload_n hx hb dX11_one_146 rfl (lv_at hl 2 rfl) ?_
                refine va_get (D := D) (ci := 11) (v := .int cg) (C := RX11) (T := TX11) (N := 25) hx hb hT giX11 hown hK hP 1 rfl rfl 16 (by decide) (hT (Cond.fieldLink RX11 170 "DesertWireModel" "open" "I") mw_1172) (fun _ h9 => h9) rfl dX11_one_147 ?_
                refine lv_iconst (v := 4) hx hb dX11_one_150 (by decide) ?_
                refine b_icmp_ge hx hb rfl zl_4 (tgt := 158) dX11_one_151 (by decide) (fun c_151 => by exfalso; omega) (fun c_151 => ?_)
                refine lv_iconst (v := 1) hx hb dX11_one_154 (by decide) ?_
                refine lv_goto (tgt := 159) hx hb dX11_one_155 (by decide) ?_
                refine kJv (wr := [(k0, .inl (cI, 1201, .inl c0))]) (va_runV (As := [.int 1]) (rest := []) ⟨hx, hb, hml, hown, hT⟩ (c_X11_needsG l D cI aK aV k k0 k1 k2 k4 k5 k6 k7 k8 ka kb kl ko H.size c3 c9 cc cd ce cf cg ch ci cj ck cm cn 1) (cwV 1 hT (gV_in mw_1347 mw_1344 mw_1346 mw_p4_11 mw_12) rfl rfl rfl (by decide +kernel) ⟨Nat.le_of_ble_eq_true rfl, Nat.le_of_ble_eq_true rfl⟩) (kRecvX (q0 := 1) (ci := 11) hK hP hD hN hXS hS hA rfl rfl [1] rfl (by decide)) rfl rfl hl.1 rfl (lv_room (Nat.le_of_ble_eq_true rfl)) dX11_one_159 ⟨Nat.le_of_ble_eq_true rfl, Nat.le_of_ble_eq_true rfl⟩) hP hD hS hA [1] [0] rfl rfl (by decide) (by decide) ?_
                clear hP hD hS
                intro scf_154 H locs w_153 hP hD hS
                replace hP : va_P D vwCl [(k0, .inl (cI, 1201, .inl c0)), (k, .inr (11, [.ref k0, .ref k1, .ref k2, .int c3, .ref k4, .ref k5, .ref k6, .ref k7, .ref k8, .int c9, .ref ka, .ref kb, .int cc, .int cd, .int ce, .int scf_154, .int cg, .int ch, .int ci, .int cj, .int ck, .ref kl, .int cm, .int cn, .ref ko]))] H := hP
                replace hD : va_D A [(k0, .inl (cI, 1201, .inl c0)), (k, .inr (11, [.ref k0, .ref k1, .ref k2, .int c3, .ref k4, .ref k5, .ref k6, .ref k7, .ref k8, .int c9, .ref ka, .ref kb, .int cc, .int cd, .int ce, .int scf_154, .int cg, .int ch, .int ci, .int cj, .int ck, .ref kl, .int cm, .int cn, .ref ko]))] := hD
                have lo_scf_154 := k_lo scf_154
                have hi_scf_154 := k_hi scf_154
                rcases w_153 with ⟨h_155, h_156, h_157⟩ | h_158
                · try simp only [zl_1] at h_155
                  try simp only [zl_1] at h_156
                  have h_156 : cf.toInt = 0 := h_156
                  try simp only [zl_1] at h_157
                  have h_157 : scf_154.toInt = 0 := h_157
                  refine lv_aload_n hx hb dX11_one_162 rfl (lv_at hl 2 rfl) ?_
                  refine va_get (D := D) (ci := 11) (v := .int scf_154) (C := RX11) (T := TX11) (N := 25) hx hb hT giX11 hown hK hP 1 rfl rfl 15 (by decide) (hT (Cond.fieldLink RX11 148 "DesertWireModel" "isWrong" "Z") mw_1171) (fun _ h9 => h9) rfl dX11_one_163 ?_
                  refine b_if_eq hx hb rfl (tgt := 171) dX11_one_166 (by decide) (fun c_159 => ?_) (fun c_159 => by exfalso; omega)
                  refine lv_aload_n hx hb dX11_one_171 rfl (lv_at hl 2 rfl) ?_
                  refine lv_dup hx hb dX11_one_172 rfl ?_
                  refine va_get (D := D) (ci := 11) (v := .int cd) (C := RX11) (T := TX11) (N := 25) hx hb hT giX11 hown hK hP 1 rfl rfl 13 (by decide) (hT (Cond.fieldLink RX11 138 "DesertWireModel" "here" "I") mw_1169) (fun _ h9 => h9) rfl dX11_one_173 ?_
                  refine lv_iconst (v := 1) hx hb dX11_one_176 (by decide) ?_
                  refine lv_iadd hx hb dX11_one_177 ?_
                  refine lv_topi (fun v_160 ev_160 => ?_)
                  have tv_160 : v_160.toInt = cd.toInt + 1 := by rw [ev_160]; exact k_addv rfl zl_1 (by omega) (by omega)
                  refine va_put (D := D) (ci := 11) (v := .int v_160) (ty := .int) (C := RX11) (T := TX11) (N := 25) hx hb hT giX11 tyX11 tyX11_ok nmX11 hown hK hP hD hS 1 rfl rfl 13 (by decide) (hT (Cond.fieldLink RX11 138 "DesertWireModel" "here" "I") mw_1169) (fun _ h9 => h9) rfl (by decide +kernel) rfl rfl (Nat.le_of_ble_eq_true rfl) dX11_one_178 ?_
                  clear hP hD hS
                  intro H locs hP hD hS
                  replace hP : va_P D vwCl [(k0, .inl (cI, 1201, .inl c0)), (k, .inr (11, [.ref k0, .ref k1, .ref k2, .int c3, .ref k4, .ref k5, .ref k6, .ref k7, .ref k8, .int c9, .ref ka, .ref kb, .int cc, .int v_160, .int ce, .int scf_154, .int cg, .int ch, .int ci, .int cj, .int ck, .ref kl, .int cm, .int cn, .ref ko]))] H := hP
                  replace hD : va_D A [(k0, .inl (cI, 1201, .inl c0)), (k, .inr (11, [.ref k0, .ref k1, .ref k2, .int c3, .ref k4, .ref k5, .ref k6, .ref k7, .ref k8, .int c9, .ref ka, .ref kb, .int cc, .int v_160, .int ce, .int scf_154, .int cg, .int ch, .int ci, .int cj, .int ck, .ref kl, .int cm, .int cn, .ref ko]))] := hD
                  refine lv_aload_n hx hb dX11_one_181 rfl (lv_at hl 2 rfl) ?_
                  refine lv_dup hx hb dX11_one_182 rfl ?_
                  refine va_get (D := D) (ci := 11) (v := .int cg) (C := RX11) (T := TX11) (N := 25) hx hb hT giX11 hown hK hP 1 rfl rfl 16 (by decide) (hT (Cond.fieldLink RX11 170 "DesertWireModel" "open" "I") mw_1172) (fun _ h9 => h9) rfl dX11_one_183 ?_
                  refine lv_iconst (v := 1) hx hb dX11_one_186 (by decide) ?_
                  refine lv_iadd hx hb dX11_one_187 ?_
                  refine lv_topi (fun v_161 ev_161 => ?_)
                  have tv_161 : v_161.toInt = cg.toInt + 1 := by rw [ev_161]; exact k_addv rfl zl_1 (by omega) (by omega)
                  refine va_put (D := D) (ci := 11) (v := .int v_161) (ty := .int) (C := RX11) (T := TX11) (N := 25) hx hb hT giX11 tyX11 tyX11_ok nmX11 hown hK hP hD hS 1 rfl rfl 16 (by decide) (hT (Cond.fieldLink RX11 170 "DesertWireModel" "open" "I") mw_1172) (fun _ h9 => h9) rfl (by decide +kernel) rfl rfl (Nat.le_of_ble_eq_true rfl) dX11_one_188 ?_
                  clear hP hD hS
                  intro H locs hP hD hS
                  replace hP : va_P D vwCl [(k0, .inl (cI, 1201, .inl c0)), (k, .inr (11, [.ref k0, .ref k1, .ref k2, .int c3, .ref k4, .ref k5, .ref k6, .ref k7, .ref k8, .int c9, .ref ka, .ref kb, .int cc, .int v_160, .int ce, .int scf_154, .int v_161, .int ch, .int ci, .int cj, .int ck, .ref kl, .int cm, .int cn, .ref ko]))] H := hP
                  replace hD : va_D A [(k0, .inl (cI, 1201, .inl c0)), (k, .inr (11, [.ref k0, .ref k1, .ref k2, .int c3, .ref k4, .ref k5, .ref k6, .ref k7, .ref k8, .int c9, .ref ka, .ref kb, .int cc, .int v_160, .int ce, .int scf_154, .int v_161, .int ch, .int ci, .int cj, .int ck, .ref kl, .int cm, .int cn, .ref ko]))] := hD
                  refine lv_iload_n hx hb dX11_one_191 rfl (lv_at hl 1 rfl) ?_
                  refine lv_bipush (v := 40) hx hb dX11_one_192 (by decide) ?_
                  refine b_icmp_ne hx hb rfl zl_40 (tgt := 204) dX11_one_194 (by decide) (fun c_162 => by exfalso; omega) (fun c_162 => ?_)
                  refine lv_aload_n hx hb dX11_one_197 rfl (lv_at hl 2 rfl) ?_
                  refine kJi (wr := []) (va_runV (As := []) (rest := []) ⟨hx, hb, hml, hown, hT⟩ (c_X11_wholeG3 l D cI aK aV k k0 k1 k2 k4 k5 k6 k7 k8 ka kb kl ko H.size c3 c9 cc v_160 ce scf_154 v_161 ch ci cj ck cm cn c0 (by first | omega | decide | assumption | rfl) (by first | omega | decide | assumption | rfl) (by first | omega | decide | assumption | rfl) (by first | omega | decide | assumption | rfl) (by first | omega | decide | assumption | rfl) (by first | omega | decide | assumption | rfl)) (cwV 0 hT (gV_in mw_1315 mw_1312 mw_1314 mw_p4_3 mw_12) rfl rfl rfl (by decide +kernel) ⟨Nat.le_of_ble_eq_true rfl, Nat.le_of_ble_eq_true rfl⟩) (kRecvX (q0 := 1) (ci := 11) hK hP hD hN hXS hS hA rfl rfl [1, 0] rfl (by decide)) rfl rfl hl.1 rfl (lv_room (Nat.le_of_ble_eq_true rfl)) dX11_one_198 ⟨Nat.le_of_ble_eq_true rfl, Nat.le_of_ble_eq_true rfl⟩) hP hD hS hA [1, 0] [] rfl rfl (by decide) (by decide) ?_
                  clear hP hD hS
                  intro r_163 u_168 H locs w_164 hP hD hS
                  obtain ⟨scd_165, scf_166, scg_167⟩ := u_168
                  replace hP : va_P D vwCl [(k, .inr (11, [.ref k0, .ref k1, .ref k2, .int c3, .ref k4, .ref k5, .ref k6, .ref k7, .ref k8, .int c9, .ref ka, .ref kb, .int cc, .int scd_165, .int ce, .int scf_166, .int scg_167, .int ch, .int ci, .int cj, .int ck, .ref kl, .int cm, .int cn, .ref ko])), (k0, .inl (cI, 1201, .inl c0))] H := hP
                  replace hD : va_D A [(k, .inr (11, [.ref k0, .ref k1, .ref k2, .int c3, .ref k4, .ref k5, .ref k6, .ref k7, .ref k8, .int c9, .ref ka, .ref kb, .int cc, .int scd_165, .int ce, .int scf_166, .int scg_167, .int ch, .int ci, .int cj, .int ck, .ref kl, .int cm, .int cn, .ref ko])), (k0, .inl (cI, 1201, .inl c0))] := hD
                  have lo_scd_165 := k_lo scd_165
                  have hi_scd_165 := k_hi scd_165
                  have lo_scf_166 := k_lo scf_166
                  have hi_scf_166 := k_hi scf_166
                  have lo_scg_167 := k_lo scg_167
                  have hi_scg_167 := k_hi scg_167
                  obtain ⟨h_169, h_170, h_171⟩ := w_164
                  have h_169 : v_160.toInt ≤ scd_165.toInt := h_169
                  have h_170 : scd_165.toInt ≤ ce.toInt := h_170
                  have h_171 : scg_167.toInt = 3 := h_171
                  have lo_r_163 := k_lo r_163
                  have hi_r_163 := k_hi r_163
                  refine lv_goto (tgt := 208) hx hb dX11_one_201 (by decide) ?_
                  refine lv_istore_n (lv' := [(3, .int r_163), (2, .int (-1)), (1, .int r_1), (0, .ref k)]) hx hb dX11_one_208 rfl hl (by decide) rfl ?_
                  clear hl
                  intro ls hl
                  refine lv_aload_n hx hb dX11_one_209 rfl (lv_at hl 3 rfl) ?_
                  refine lv_iload_n hx hb dX11_one_210 rfl (lv_at hl 2 rfl) ?_
                  refine lv_bipush (v := 40) hx hb dX11_one_211 (by decide) ?_
                  refine b_icmp_ne hx hb rfl zl_40 (tgt := 225) dX11_one_213 (by decide) (fun c_172 => by exfalso; omega) (fun c_172 => ?_)
                  refine lv_aload_n hx hb dX11_one_216 rfl (lv_at hl 3 rfl) ?_
                  refine lv_bipush (v := 41) hx hb dX11_one_217 (by decide) ?_
                  refine kJi (wr := []) (va_runV (As := [.int 41]) (rest := [.ref k]) ⟨hx, hb, hml, hown, hT⟩ (c_X11_takesG l D cI aK aV k k0 k1 k2 k4 k5 k6 k7 k8 ka kb kl ko H.size c3 c9 cc scd_165 ce scf_166 scg_167 ch ci cj ck cm cn c0 41 (by first | omega | (simp only [zl_41] <;> omega) | decide | assumption | rfl) (by first | omega | (simp only [zl_41] <;> omega) | decide | assumption | rfl) (by first | omega | (simp only [zl_41] <;> omega) | decide | assumption | rfl) (by first | omega | (simp only [zl_41] <;> omega) | decide | assumption | rfl) (by first | omega | (simp only [zl_41] <;> omega) | decide | assumption | rfl) (by first | omega | (simp only [zl_41] <;> omega) | decide | assumption | rfl)) (cwV 1 hT (gV_in mw_1351 mw_1348 mw_1350 mw_p4_12 mw_12) rfl rfl rfl (by decide +kernel) ⟨Nat.le_of_ble_eq_true rfl, Nat.le_of_ble_eq_true rfl⟩) (kRecvX (q0 := 0) (ci := 11) hK hP hD hN hXS hS hA rfl rfl [0, 1] rfl (by decide)) rfl rfl hl.1 rfl (lv_room (Nat.le_of_ble_eq_true rfl)) dX11_one_219 ⟨Nat.le_of_ble_eq_true rfl, Nat.le_of_ble_eq_true rfl⟩) hP hD hS hA [0, 1] [] rfl rfl (by decide) (by decide) ?_
                  clear hP hD hS
                  intro r_173 scd_175 H locs w_174 hP hD hS
                  replace hP : va_P D vwCl [(k, .inr (11, [.ref k0, .ref k1, .ref k2, .int c3, .ref k4, .ref k5, .ref k6, .ref k7, .ref k8, .int c9, .ref ka, .ref kb, .int cc, .int scd_175, .int ce, .int scf_166, .int scg_167, .int ch, .int ci, .int cj, .int ck, .ref kl, .int cm, .int cn, .ref ko])), (k0, .inl (cI, 1201, .inl c0))] H := hP
                  replace hD : va_D A [(k, .inr (11, [.ref k0, .ref k1, .ref k2, .int c3, .ref k4, .ref k5, .ref k6, .ref k7, .ref k8, .int c9, .ref ka, .ref kb, .int cc, .int scd_175, .int ce, .int scf_166, .int scg_167, .int ch, .int ci, .int cj, .int ck, .ref kl, .int cm, .int cn, .ref ko])), (k0, .inl (cI, 1201, .inl c0))] := hD
                  have lo_scd_175 := k_lo scd_175
                  have hi_scd_175 := k_hi scd_175
                  rcases w_174 with ⟨hr_173, h_176, h_177⟩ | ⟨hr_173, h_178⟩
                  · try simp only [zl_41] at h_176
                    have h_176 : scd_175.toInt = scd_165.toInt + 1 := h_176
                    try simp only [zl_41] at h_177
                    have h_177 : scd_175.toInt ≤ ce.toInt := h_177
                    obtain rfl : r_173 = 1 := hr_173.trans (by decide)
                    refine b_if_eq hx hb zl_1 (tgt := 229) dX11_one_222 (by decide) (fun c_179 => by exfalso; omega) (fun c_179 => ?_)
                    refine lv_iconst (v := 1) hx hb dX11_one_225 (by decide) ?_
                    refine lv_goto (tgt := 230) hx hb dX11_one_226 (by decide) ?_
                    refine kJv (wr := [(k0, .inl (cI, 1201, .inl c0))]) (va_runV (As := [.int 1]) (rest := []) ⟨hx, hb, hml, hown, hT⟩ (c_X11_needsG l D cI aK aV k k0 k1 k2 k4 k5 k6 k7 k8 ka kb kl ko H.size c3 c9 cc scd_175 ce scf_166 scg_167 ch ci cj ck cm cn 1) (cwV 1 hT (gV_in mw_1347 mw_1344 mw_1346 mw_p4_11 mw_12) rfl rfl rfl (by decide +kernel) ⟨Nat.le_of_ble_eq_true rfl, Nat.le_of_ble_eq_true rfl⟩) (kRecvX (q0 := 0) (ci := 11) hK hP hD hN hXS hS hA rfl rfl [0] rfl (by decide)) rfl rfl hl.1 rfl (lv_room (Nat.le_of_ble_eq_true rfl)) dX11_one_230 ⟨Nat.le_of_ble_eq_true rfl, Nat.le_of_ble_eq_true rfl⟩) hP hD hS hA [0] [1] rfl rfl (by decide) (by decide) ?_
                    clear hP hD hS
                    intro scf_182 H locs w_181 hP hD hS
                    replace hP : va_P D vwCl [(k0, .inl (cI, 1201, .inl c0)), (k, .inr (11, [.ref k0, .ref k1, .ref k2, .int c3, .ref k4, .ref k5, .ref k6, .ref k7, .ref k8, .int c9, .ref ka, .ref kb, .int cc, .int scd_175, .int ce, .int scf_182, .int scg_167, .int ch, .int ci, .int cj, .int ck, .ref kl, .int cm, .int cn, .ref ko]))] H := hP
                    replace hD : va_D A [(k0, .inl (cI, 1201, .inl c0)), (k, .inr (11, [.ref k0, .ref k1, .ref k2, .int c3, .ref k4, .ref k5, .ref k6, .ref k7, .ref k8, .int c9, .ref ka, .ref kb, .int cc, .int scd_175, .int ce, .int scf_182, .int scg_167, .int ch, .int ci, .int cj, .int ck, .ref kl, .int cm, .int cn, .ref ko]))] := hD
                    have lo_scf_182 := k_lo scf_182
                    have hi_scf_182 := k_hi scf_182
                    rcases w_181 with ⟨h_183, h_184, h_185⟩ | h_186
                    · try simp only [zl_1] at h_183
                      try simp only [zl_1] at h_184
                      have h_184 : scf_166.toInt = 0 := h_184
                      try simp only [zl_1] at h_185
                      have h_185 : scf_182.toInt = 0 := h_185
                      refine lv_aload_n hx hb dX11_one_233 rfl (lv_at hl 3 rfl) ?_
                      refine lv_dup hx hb dX11_one_234 rfl ?_
                      refine va_get (D := D) (ci := 11) (v := .int scg_167) (C := RX11) (T := TX11) (N := 25) hx hb hT giX11 hown hK hP 1 rfl rfl 16 (by decide) (hT (Cond.fieldLink RX11 170 "DesertWireModel" "open" "I") mw_1172) (fun _ h9 => h9) rfl dX11_one_235 ?_
                      refine lv_iconst (v := 1) hx hb dX11_one_238 (by decide) ?_
                      refine lv_isub hx hb dX11_one_239 ?_
                      refine lv_topi (fun v_187 ev_187 => ?_)
                      have tv_187 : v_187.toInt = scg_167.toInt - 1 := by rw [ev_187]; exact k_subv rfl zl_1 (by omega) (by omega)
                      refine va_put (D := D) (ci := 11) (v := .int v_187) (ty := .int) (C := RX11) (T := TX11) (N := 25) hx hb hT giX11 tyX11 tyX11_ok nmX11 hown hK hP hD hS 1 rfl rfl 16 (by decide) (hT (Cond.fieldLink RX11 170 "DesertWireModel" "open" "I") mw_1172) (fun _ h9 => h9) rfl (by decide +kernel) rfl rfl (Nat.le_of_ble_eq_true rfl) dX11_one_240 ?_
                      clear hP hD hS
                      intro H locs hP hD hS
                      replace hP : va_P D vwCl [(k0, .inl (cI, 1201, .inl c0)), (k, .inr (11, [.ref k0, .ref k1, .ref k2, .int c3, .ref k4, .ref k5, .ref k6, .ref k7, .ref k8, .int c9, .ref ka, .ref kb, .int cc, .int scd_175, .int ce, .int scf_182, .int v_187, .int ch, .int ci, .int cj, .int ck, .ref kl, .int cm, .int cn, .ref ko]))] H := hP
                      replace hD : va_D A [(k0, .inl (cI, 1201, .inl c0)), (k, .inr (11, [.ref k0, .ref k1, .ref k2, .int c3, .ref k4, .ref k5, .ref k6, .ref k7, .ref k8, .int c9, .ref ka, .ref kb, .int cc, .int scd_175, .int ce, .int scf_182, .int v_187, .int ch, .int ci, .int cj, .int ck, .ref kl, .int cm, .int cn, .ref ko]))] := hD
                      refine lv_iload_n hx hb dX11_one_243 rfl (lv_at hl 2 rfl) ?_
                      refine lv_bipush (v := 45) hx hb dX11_one_244 (by decide) ?_
                      refine b_icmp_ne hx hb rfl zl_45 (tgt := 254) dX11_one_246 (by decide) (fun c_188 => ?_) (fun c_188 => by exfalso; omega)
                      refine lv_iload_n hx hb dX11_one_254 rfl (lv_at hl 2 rfl) ?_
                      refine lv_bipush (v := 33) hx hb dX11_one_255 (by decide) ?_
                      refine b_icmp_ne hx hb rfl zl_33 (tgt := 272) dX11_one_257 (by decide) (fun c_189 => ?_) (fun c_189 => by exfalso; omega)
                      refine lv_iload_n hx hb dX11_one_272 rfl (lv_at hl 0 rfl) ?_
                      exact hRet (scd_175, scf_182, v_187) [1, 0] ⟨(by first | omega | decide | assumption | rfl | (dsimp only; first | omega)), (by first | omega | decide | assumption | rfl | (dsimp only; first | omega)), (by first | omega | decide | assumption | rfl | (dsimp only; first | omega))⟩ hP hD (by decide) rfl hS rfl dX11_one_273
                    · try simp only [zl_1] at h_186
                      have h_186 : scf_182.toInt = 1 := h_186
                      refine lv_aload_n hx hb dX11_one_233 rfl (lv_at hl 3 rfl) ?_
                      refine lv_dup hx hb dX11_one_234 rfl ?_
                      refine va_get (D := D) (ci := 11) (v := .int scg_167) (C := RX11) (T := TX11) (N := 25) hx hb hT giX11 hown hK hP 1 rfl rfl 16 (by decide) (hT (Cond.fieldLink RX11 170 "DesertWireModel" "open" "I") mw_1172) (fun _ h9 => h9) rfl dX11_one_235 ?_
                      refine lv_iconst (v := 1) hx hb dX11_one_238 (by decide) ?_
                      refine lv_isub hx hb dX11_one_239 ?_
                      refine lv_topi (fun v_190 ev_190 => ?_)
                      have tv_190 : v_190.toInt = scg_167.toInt - 1 := by rw [ev_190]; exact k_subv rfl zl_1 (by omega) (by omega)
                      refine va_put (D := D) (ci := 11) (v := .int v_190) (ty := .int) (C := RX11) (T := TX11) (N := 25) hx hb hT giX11 tyX11 tyX11_ok nmX11 hown hK hP hD hS 1 rfl rfl 16 (by decide) (hT (Cond.fieldLink RX11 170 "DesertWireModel" "open" "I") mw_1172) (fun _ h9 => h9) rfl (by decide +kernel) rfl rfl (Nat.le_of_ble_eq_true rfl) dX11_one_240 ?_
                      clear hP hD hS
                      intro H locs hP hD hS
                      replace hP : va_P D vwCl [(k0, .inl (cI, 1201, .inl c0)), (k, .inr (11, [.ref k0, .ref k1, .ref k2, .int c3, .ref k4, .ref k5, .ref k6, .ref k7, .ref k8, .int c9, .ref ka, .ref kb, .int cc, .int scd_175, .int ce, .int scf_182, .int v_190, .int ch, .int ci, .int cj, .int ck, .ref kl, .int cm, .int cn, .ref ko]))] H := hP
                      replace hD : va_D A [(k0, .inl (cI, 1201, .inl c0)), (k, .inr (11, [.ref k0, .ref k1, .ref k2, .int c3, .ref k4, .ref k5, .ref k6, .ref k7, .ref k8, .int c9, .ref ka, .ref kb, .int cc, .int scd_175, .int ce, .int scf_182, .int v_190, .int ch, .int ci, .int cj, .int ck, .ref kl, .int cm, .int cn, .ref ko]))] := hD
                      refine lv_iload_n hx hb dX11_one_243 rfl (lv_at hl 2 rfl) ?_
                      refine lv_bipush (v := 45) hx hb dX11_one_244 (by decide) ?_
                      refine b_icmp_ne hx hb rfl zl_45 (tgt := 254) dX11_one_246 (by decide) (fun c_191 => ?_) (fun c_191 => by exfalso; omega)
                      refine lv_iload_n hx hb dX11_one_254 rfl (lv_at hl 2 rfl) ?_
                      refine lv_bipush (v := 33) hx hb dX11_one_255 (by decide) ?_
                      refine b_icmp_ne hx hb rfl zl_33 (tgt := 272) dX11_one_257 (by decide) (fun c_192 => ?_) (fun c_192 => by exfalso; omega)
                      refine lv_iload_n hx hb dX11_one_272 rfl (lv_at hl 0 rfl) ?_
                      exact hRet (scd_175, scf_182, v_190) [1, 0] ⟨(by first | omega | decide | assumption | rfl | (dsimp only; first | omega)), (by first | omega | decide | assumption | rfl | (dsimp only; first | omega)), (by first | omega | decide | assumption | rfl | (dsimp only; first | omega))⟩ hP hD (by decide) rfl hS rfl dX11_one_273
                  · try simp only [zl_41] at h_178
                    have h_178 : scd_175.toInt = scd_165.toInt := h_178
                    obtain rfl : r_173 = 0 := hr_173.trans (by decide)
                    refine b_if_eq hx hb zl_0 (tgt := 229) dX11_one_222 (by decide) (fun c_193 => ?_) (fun c_193 => by exfalso; omega)
                    refine lv_iconst (v := 0) hx hb dX11_one_229 (by decide) ?_
                    refine kJv (wr := [(k0, .inl (cI, 1201, .inl c0))]) (va_runV (As := [.int 0]) (rest := []) ⟨hx, hb, hml, hown, hT⟩ (c_X11_needsG l D cI aK aV k k0 k1 k2 k4 k5 k6 k7 k8 ka kb kl ko H.size c3 c9 cc scd_175 ce scf_166 scg_167 ch ci cj ck cm cn 0) (cwV 1 hT (gV_in mw_1347 mw_1344 mw_1346 mw_p4_11 mw_12) rfl rfl rfl (by decide +kernel) ⟨Nat.le_of_ble_eq_true rfl, Nat.le_of_ble_eq_true rfl⟩) (kRecvX (q0 := 0) (ci := 11) hK hP hD hN hXS hS hA rfl rfl [0] rfl (by decide)) rfl rfl hl.1 rfl (lv_room (Nat.le_of_ble_eq_true rfl)) dX11_one_230 ⟨Nat.le_of_ble_eq_true rfl, Nat.le_of_ble_eq_true rfl⟩) hP hD hS hA [0] [1] rfl rfl (by decide) (by decide) ?_
                    clear hP hD hS
                    intro scf_196 H locs w_195 hP hD hS
                    replace hP : va_P D vwCl [(k0, .inl (cI, 1201, .inl c0)), (k, .inr (11, [.ref k0, .ref k1, .ref k2, .int c3, .ref k4, .ref k5, .ref k6, .ref k7, .ref k8, .int c9, .ref ka, .ref kb, .int cc, .int scd_175, .int ce, .int scf_196, .int scg_167, .int ch, .int ci, .int cj, .int ck, .ref kl, .int cm, .int cn, .ref ko]))] H := hP
                    replace hD : va_D A [(k0, .inl (cI, 1201, .inl c0)), (k, .inr (11, [.ref k0, .ref k1, .ref k2, .int c3, .ref k4, .ref k5, .ref k6, .ref k7, .ref k8, .int c9, .ref ka, .ref kb, .int cc, .int scd_175, .int ce, .int scf_196, .int scg_167, .int ch, .int ci, .int cj, .int ck, .ref kl, .int cm, .int cn, .ref ko]))] := hD
                    have lo_scf_196 := k_lo scf_196
                    have hi_scf_196 := k_hi scf_196
                    rcases w_195 with ⟨h_197, h_198, h_199⟩ | h_200
                    · (try simp only [zl_0] at h_197 h_198 h_199); exfalso; omega
                    · try simp only [zl_0] at h_200
                      have h_200 : scf_196.toInt = 1 := h_200
                      refine lv_aload_n hx hb dX11_one_233 rfl (lv_at hl 3 rfl) ?_
                      refine lv_dup hx hb dX11_one_234 rfl ?_
                      refine va_get (D := D) (ci := 11) (v := .int scg_167) (C := RX11) (T := TX11) (N := 25) hx hb hT giX11 hown hK hP 1 rfl rfl 16 (by decide) (hT (Cond.fieldLink RX11 170 "DesertWireModel" "open" "I") mw_1172) (fun _ h9 => h9) rfl dX11_one_235 ?_
                      refine lv_iconst (v := 1) hx hb dX11_one_238 (by decide) ?_
                      refine lv_isub hx hb dX11_one_239 ?_
                      refine lv_topi (fun v_201 ev_201 => ?_)
                      have tv_201 : v_201.toInt = scg_167.toInt - 1 := by rw [ev_201]; exact k_subv rfl zl_1 (by omega) (by omega)
                      refine va_put (D := D) (ci := 11) (v := .int v_201) (ty := .int) (C := RX11) (T := TX11) (N := 25) hx hb hT giX11 tyX11 tyX11_ok nmX11 hown hK hP hD hS 1 rfl rfl 16 (by decide) (hT (Cond.fieldLink RX11 170 "DesertWireModel" "open" "I") mw_1172) (fun _ h9 => h9) rfl (by decide +kernel) rfl rfl (Nat.le_of_ble_eq_true rfl) dX11_one_240 ?_
                      clear hP hD hS
                      intro H locs hP hD hS
                      replace hP : va_P D vwCl [(k0, .inl (cI, 1201, .inl c0)), (k, .inr (11, [.ref k0, .ref k1, .ref k2, .int c3, .ref k4, .ref k5, .ref k6, .ref k7, .ref k8, .int c9, .ref ka, .ref kb, .int cc, .int scd_175, .int ce, .int scf_196, .int v_201, .int ch, .int ci, .int cj, .int ck, .ref kl, .int cm, .int cn, .ref ko]))] H := hP
                      replace hD : va_D A [(k0, .inl (cI, 1201, .inl c0)), (k, .inr (11, [.ref k0, .ref k1, .ref k2, .int c3, .ref k4, .ref k5, .ref k6, .ref k7, .ref k8, .int c9, .ref ka, .ref kb, .int cc, .int scd_175, .int ce, .int scf_196, .int v_201, .int ch, .int ci, .int cj, .int ck, .ref kl, .int cm, .int cn, .ref ko]))] := hD
                      refine lv_iload_n hx hb dX11_one_243 rfl (lv_at hl 2 rfl) ?_
                      refine lv_bipush (v := 45) hx hb dX11_one_244 (by decide) ?_
                      refine b_icmp_ne hx hb rfl zl_45 (tgt := 254) dX11_one_246 (by decide) (fun c_202 => ?_) (fun c_202 => by exfalso; omega)
                      refine lv_iload_n hx hb dX11_one_254 rfl (lv_at hl 2 rfl) ?_
                      refine lv_bipush (v := 33) hx hb dX11_one_255 (by decide) ?_
                      refine b_icmp_ne hx hb rfl zl_33 (tgt := 272) dX11_one_257 (by decide) (fun c_203 => ?_) (fun c_203 => by exfalso; omega)
                      refine lv_iload_n hx hb dX11_one_272 rfl (lv_at hl 0 rfl) ?_
                      exact hRet (scd_175, scf_196, v_201) [1, 0] ⟨(by first | omega | decide | assumption | rfl | (dsimp only; first | omega)), (by first | omega | decide | assumption | rfl | (dsimp only; first | omega)), (by first | omega | decide | assumption | rfl | (dsimp only; first | omega))⟩ hP hD (by decide) rfl hS rfl dX11_one_273
                · try simp only [zl_1] at h_158
                  have h_158 : scf_154.toInt = 1 := h_158
                  refine lv_aload_n hx hb dX11_one_162 rfl (lv_at hl 2 rfl) ?_
                  refine va_get (D := D) (ci := 11) (v := .int scf_154) (C := RX11) (T := TX11) (N := 25) hx hb hT giX11 hown hK hP 1 rfl rfl 15 (by decide) (hT (Cond.fieldLink RX11 148 "DesertWireModel" "isWrong" "Z") mw_1171) (fun _ h9 => h9) rfl dX11_one_163 ?_
                  refine b_if_eq hx hb rfl (tgt := 171) dX11_one_166 (by decide) (fun c_204 => by exfalso; omega) (fun c_204 => ?_)
                  refine lv_iconst (v := 0) hx hb dX11_one_169 (by decide) ?_
                  exact hRet (cd, scf_154, cg) [1, 0] ⟨(by first | omega | (simp only [zl_0] <;> omega) | decide | assumption | rfl | (dsimp only; first | omega | (simp only [zl_0] <;> omega))), (by first | omega | (simp only [zl_0] <;> omega) | decide | assumption | rfl | (dsimp only; first | omega | (simp only [zl_0] <;> omega))), (by first | omega | (simp only [zl_0] <;> omega) | decide | assumption | rfl | (dsimp only; first | omega | (simp only [zl_0] <;> omega)))⟩ hP hD (by decide) rfl hS rfl dX11_one_170
    · refine lv_iconst (v := 0) hx hb dX11_one_12 (by decide) ?_
      exact hRet (cd, cf, cg) [0, 1] ⟨(by first | omega | (simp only [zl_0] <;> omega) | decide | assumption | rfl | (dsimp only; first | omega | (simp only [zl_0] <;> omega))), (by first | omega | (simp only [zl_0] <;> omega) | decide | assumption | rfl | (dsimp only; first | omega | (simp only [zl_0] <;> omega))), (by first | omega | (simp only [zl_0] <;> omega) | decide | assumption | rfl | (dsimp only; first | omega | (simp only [zl_0] <;> omega)))⟩ hP hD (by decide) rfl hS rfl dX11_one_13
  · have h_5 : cd.toInt = ce.toInt := h_5
    obtain rfl : r_1 = (-1) := hr_1.trans (by decide)
    refine lv_istore_n (lv' := [(1, .int (-1)), (0, .ref k)]) hx hb dX11_one_4 rfl hl (by decide) rfl ?_
    clear hl
    intro ls hl
    refine lv_aload_n hx hb dX11_one_5 rfl (lv_at hl 1 rfl) ?_
    refine va_get (D := D) (ci := 11) (v := .int cf) (C := RX11) (T := TX11) (N := 25) hx hb hT giX11 hown hK hP 0 rfl rfl 15 (by decide) (hT (Cond.fieldLink RX11 148 "DesertWireModel" "isWrong" "Z") mw_1171) (fun _ h9 => h9) rfl dX11_one_6 ?_
    refine b_if_eq hx hb rfl (tgt := 14) dX11_one_9 (by decide) (fun c_205 => ?_) (fun c_205 => ?_)
    · refine lv_iload_n hx hb dX11_one_14 rfl (lv_at hl 0 rfl) ?_
      refine lv_bipush (v := 48) hx hb dX11_one_15 (by decide) ?_
      refine lv_bipush (v := 57) hx hb dX11_one_17 (by decide) ?_
      refine kJi (wr := [(k, .inr (11, [.ref k0, .ref k1, .ref k2, .int c3, .ref k4, .ref k5, .ref k6, .ref k7, .ref k8, .int c9, .ref ka, .ref kb, .int cc, .int cd, .int ce, .int cf, .int cg, .int ch, .int ci, .int cj, .int ck, .ref kl, .int cm, .int cn, .ref ko])), (k0, .inl (cI, 1201, .inl c0))]) (va_runS (As := [.int (-1), .int 48, .int 57]) (rest := []) ⟨hx, hb, hml, hown, hT⟩ (c_X11_inG l D cI aK aV H.size (-1) 48 57) (cwS 3 hT (gS_in mw_1238 mw_1236 mw_1237 mw_12) rfl rfl rfl (by decide +kernel) ⟨Nat.le_of_ble_eq_true rfl, Nat.le_of_ble_eq_true rfl⟩) (kStatX hK hP hD hN hXS hS hA [] rfl (by decide)) rfl rfl hl.1 rfl (lv_room (Nat.le_of_ble_eq_true rfl)) dX11_one_19 ⟨Nat.le_of_ble_eq_true rfl, Nat.le_of_ble_eq_true rfl⟩) hP hD hS hA [] [0, 1] rfl rfl (by decide) (by decide) ?_
      clear hP hD hS
      intro r_206 u_208 H locs w_207 hP hD hS
      replace hP : va_P D vwCl [(k, .inr (11, [.ref k0, .ref k1, .ref k2, .int c3, .ref k4, .ref k5, .ref k6, .ref k7, .ref k8, .int c9, .ref ka, .ref kb, .int cc, .int cd, .int ce, .int cf, .int cg, .int ch, .int ci, .int cj, .int ck, .ref kl, .int cm, .int cn, .ref ko])), (k0, .inl (cI, 1201, .inl c0))] H := hP
      replace hD : va_D A [(k, .inr (11, [.ref k0, .ref k1, .ref k2, .int c3, .ref k4, .ref k5, .ref k6, .ref k7, .ref k8, .int c9, .ref ka, .ref kb, .int cc, .int cd, .int ce, .int cf, .int cg, .int ch, .int ci, .int cj, .int ck, .ref kl, .int cm, .int cn, .ref ko])), (k0, .inl (cI, 1201, .inl c0))] := hD
      rcases w_207 with ⟨hr_206, h_209, h_210⟩ | ⟨hr_206, h_211⟩
      · (try simp only [zl_m1, zl_48, zl_57] at h_209 h_210); exfalso; omega
      · try simp only [zl_m1, zl_48, zl_57] at h_211
        obtain rfl : r_206 = 0 := hr_206.trans (by decide)
        refine b_if_eq hx hb zl_0 (tgt := 79) dX11_one_22 (by decide) (fun c_212 => ?_) (fun c_212 => by exfalso; omega)
        refine lv_aload_n hx hb dX11_one_79 rfl (lv_at hl 1 rfl) ?_
        refine lv_iload_n hx hb dX11_one_80 rfl (lv_at hl 0 rfl) ?_
        refine kJi (wr := [(k0, .inl (cI, 1201, .inl c0))]) (va_runV (As := [.int (-1)]) (rest := []) ⟨hx, hb, hml, hown, hT⟩ (c_X11_nameAtG l D cI aK aV k k0 k1 k2 k4 k5 k6 k7 k8 ka kb kl ko H.size c3 c9 cc cd ce cf cg ch ci cj ck cm cn (-1)) (cwV 1 hT (gV_in mw_1343 mw_1340 mw_1342 mw_p4_10 mw_12) rfl rfl rfl (by decide +kernel) ⟨Nat.le_of_ble_eq_true rfl, Nat.le_of_ble_eq_true rfl⟩) (kRecvX (q0 := 0) (ci := 11) hK hP hD hN hXS hS hA rfl rfl [0] rfl (by decide)) rfl rfl hl.1 rfl (lv_room (Nat.le_of_ble_eq_true rfl)) dX11_one_81 ⟨Nat.le_of_ble_eq_true rfl, Nat.le_of_ble_eq_true rfl⟩) hP hD hS hA [0] [1] rfl rfl (by decide) (by decide) ?_
        clear hP hD hS
        intro r_213 u_215 H locs w_214 hP hD hS
        replace hP : va_P D vwCl [(k0, .inl (cI, 1201, .inl c0)), (k, .inr (11, [.ref k0, .ref k1, .ref k2, .int c3, .ref k4, .ref k5, .ref k6, .ref k7, .ref k8, .int c9, .ref ka, .ref kb, .int cc, .int cd, .int ce, .int cf, .int cg, .int ch, .int ci, .int cj, .int ck, .ref kl, .int cm, .int cn, .ref ko]))] H := hP
        replace hD : va_D A [(k0, .inl (cI, 1201, .inl c0)), (k, .inr (11, [.ref k0, .ref k1, .ref k2, .int c3, .ref k4, .ref k5, .ref k6, .ref k7, .ref k8, .int c9, .ref ka, .ref kb, .int cc, .int cd, .int ce, .int cf, .int cg, .int ch, .int ci, .int cj, .int ck, .ref kl, .int cm, .int cn, .ref ko]))] := hD
        rcases w_214 with h_216 | hr_213
        · (try simp only [zl_m1] at h_216); exfalso; omega
        · obtain rfl : r_213 = (-1) := hr_213.trans (by decide)
          refine lv_istore_n (lv' := [(2, .int (-1)), (1, .int (-1)), (0, .ref k)]) hx hb dX11_one_84 rfl hl (by decide) rfl ?_
          clear hl
          intro ls hl
          refine lv_iload_n hx hb dX11_one_85 rfl (lv_at hl 0 rfl) ?_
          refine b_if_lt hx hb zl_m1 (tgt := 127) dX11_one_86 (by decide) (fun c_217 => ?_) (fun c_217 => by exfalso; omega)
          refine lv_aload_n hx hb dX11_one_127 rfl (lv_at hl 2 rfl) ?_
          refine lv_iload_n hx hb dX11_one_128 rfl (lv_at hl 1 rfl) ?_
          refine lv_bipush (v := 45) hx hb dX11_one_129 (by decide) ?_
          refine b_icmp_eq hx hb zl_m1 zl_45 (tgt := 146) dX11_one_131 (by decide) (fun c_218 => by exfalso; omega) (fun c_218 => ?_)
          refine lv_iload_n hx hb dX11_one_134 rfl (lv_at hl 1 rfl) ?_
          refine lv_bipush (v := 33) hx hb dX11_one_135 (by decide) ?_
          refine b_icmp_eq hx hb zl_m1 zl_33 (tgt := 146) dX11_one_137 (by decide) (fun c_219 => by exfalso; omega) (fun c_219 => ?_)
          refine lv_iload_n hx hb dX11_one_140 rfl (lv_at hl 1 rfl) ?_
          refine lv_bipush (v := 40) hx hb dX11_one_141 (by decide) ?_
          refine b_icmp_ne hx hb zl_m1 zl_40 (tgt := 158) dX11_one_143 (by decide) (fun c_220 => ?_) (fun c_220 => by exfalso; omega)
          refine lv_iconst (v := 0) hx hb dX11_one_158 (by decide) ?_
          refine kJv (wr := [(k0, .inl (cI, 1201, .inl c0))]) (va_runV (As := [.int 0]) (rest := []) ⟨hx, hb, hml, hown, hT⟩ (c_X11_needsG l D cI aK aV k k0 k1 k2 k4 k5 k6 k7 k8 ka kb kl ko H.size c3 c9 cc cd ce cf cg ch ci cj ck cm cn 0) (cwV 1 hT (gV_in mw_1347 mw_1344 mw_1346 mw_p4_11 mw_12) rfl rfl rfl (by decide +kernel) ⟨Nat.le_of_ble_eq_true rfl, Nat.le_of_ble_eq_true rfl⟩) (kRecvX (q0 := 1) (ci := 11) hK hP hD hN hXS hS hA rfl rfl [1] rfl (by decide)) rfl rfl hl.1 rfl (lv_room (Nat.le_of_ble_eq_true rfl)) dX11_one_159 ⟨Nat.le_of_ble_eq_true rfl, Nat.le_of_ble_eq_true rfl⟩) hP hD hS hA [1] [0] rfl rfl (by decide) (by decide) ?_
          clear hP hD hS
          intro scf_223 H locs w_222 hP hD hS
          replace hP : va_P D vwCl [(k0, .inl (cI, 1201, .inl c0)), (k, .inr (11, [.ref k0, .ref k1, .ref k2, .int c3, .ref k4, .ref k5, .ref k6, .ref k7, .ref k8, .int c9, .ref ka, .ref kb, .int cc, .int cd, .int ce, .int scf_223, .int cg, .int ch, .int ci, .int cj, .int ck, .ref kl, .int cm, .int cn, .ref ko]))] H := hP
          replace hD : va_D A [(k0, .inl (cI, 1201, .inl c0)), (k, .inr (11, [.ref k0, .ref k1, .ref k2, .int c3, .ref k4, .ref k5, .ref k6, .ref k7, .ref k8, .int c9, .ref ka, .ref kb, .int cc, .int cd, .int ce, .int scf_223, .int cg, .int ch, .int ci, .int cj, .int ck, .ref kl, .int cm, .int cn, .ref ko]))] := hD
          have lo_scf_223 := k_lo scf_223
          have hi_scf_223 := k_hi scf_223
          rcases w_222 with ⟨h_224, h_225, h_226⟩ | h_227
          · (try simp only [zl_0] at h_224 h_225 h_226); exfalso; omega
          · try simp only [zl_0] at h_227
            have h_227 : scf_223.toInt = 1 := h_227
            refine lv_aload_n hx hb dX11_one_162 rfl (lv_at hl 2 rfl) ?_
            refine va_get (D := D) (ci := 11) (v := .int scf_223) (C := RX11) (T := TX11) (N := 25) hx hb hT giX11 hown hK hP 1 rfl rfl 15 (by decide) (hT (Cond.fieldLink RX11 148 "DesertWireModel" "isWrong" "Z") mw_1171) (fun _ h9 => h9) rfl dX11_one_163 ?_
            refine b_if_eq hx hb rfl (tgt := 171) dX11_one_166 (by decide) (fun c_228 => by exfalso; omega) (fun c_228 => ?_)
            refine lv_iconst (v := 0) hx hb dX11_one_169 (by decide) ?_
            exact hRet (cd, scf_223, cg) [1, 0] ⟨(by first | omega | (simp only [zl_0] <;> omega) | decide | assumption | rfl | (dsimp only; first | omega | (simp only [zl_0] <;> omega))), (by first | omega | (simp only [zl_0] <;> omega) | decide | assumption | rfl | (dsimp only; first | omega | (simp only [zl_0] <;> omega))), (by first | omega | (simp only [zl_0] <;> omega) | decide | assumption | rfl | (dsimp only; first | omega | (simp only [zl_0] <;> omega)))⟩ hP hD (by decide) rfl hS rfl dX11_one_170
    · refine lv_iconst (v := 0) hx hb dX11_one_12 (by decide) ?_
      exact hRet (cd, cf, cg) [0, 1] ⟨(by first | omega | (simp only [zl_0] <;> omega) | decide | assumption | rfl | (dsimp only; first | omega | (simp only [zl_0] <;> omega))), (by first | omega | (simp only [zl_0] <;> omega) | decide | assumption | rfl | (dsimp only; first | omega | (simp only [zl_0] <;> omega))), (by first | omega | (simp only [zl_0] <;> omega) | decide | assumption | rfl | (dsimp only; first | omega | (simp only [zl_0] <;> omega)))⟩ hP hD (by decide) rfl hS rfl dX11_one_13

set_option maxHeartbeats 4000000 in
set_option maxRecDepth 100000 in
theorem c_X11_productG2 (l : Launch) (D : va_G) (cI : ClassId) (aK aV : Nat → Nat) (k k0 k1 k2 k4 k5 k6 k7 k8 ka kb kl ko : Nat) (sz : Nat) (c3 : Int32) (c9 : Int32) (cc : Int32) (cd : Int32) (ce : Int32) (cf : Int32) (cg : Int32) (ch : Int32) (ci : Int32) (cj : Int32) (ck : Int32) (cm : Int32) (cn : Int32) (c0 : Nat → Int32) (pre0 : 0 ≤ cc.toInt) (pre1 : cc.toInt ≤ 1151) (pre2 : 0 ≤ cd.toInt) (pre3 : cd.toInt ≤ ce.toInt) (pre4 : ce.toInt ≤ 50) (pre5 : cg.toInt = 2) : Met l yX11_product (gW yX11_product cX11_product 4 (some .int)) ({ frames := 14, cells := 0, slots := 0, locals := 317 } : Room) (kPreX D cI aK aV [.ref k] [(k, .inr (11, [.ref k0, .ref k1, .ref k2, .int c3, .ref k4, .ref k5, .ref k6, .ref k7, .ref k8, .int c9, .ref ka, .ref kb, .int cc, .int cd, .int ce, .int cf, .int cg, .int ch, .int ci, .int cj, .int ck, .ref kl, .int cm, .int cn, .ref ko])), (k0, .inl (cI, 1201, .inl c0))] sz) (va_Qi (fun (r : Int32) (u : Int32 × Int32 × Int32) => cd.toInt ≤ u.1.toInt ∧ u.1.toInt ≤ ce.toInt ∧ u.2.2.toInt = 2) (fun u t => kWd D cI (va_A [(k, .inr (11, [.ref k0, .ref k1, .ref k2, .int c3, .ref k4, .ref k5, .ref k6, .ref k7, .ref k8, .int c9, .ref ka, .ref kb, .int cc, .int cd, .int ce, .int cf, .int cg, .int ch, .int ci, .int cj, .int ck, .ref kl, .int cm, .int cn, .ref ko])), (k0, .inl (cI, 1201, .inl c0))] sz) [(k, .inr (11, [.ref k0, .ref k1, .ref k2, .int c3, .ref k4, .ref k5, .ref k6, .ref k7, .ref k8, .int c9, .ref ka, .ref kb, .int cc, .int u.1, .int ce, .int u.2.1, .int u.2.2, .int ch, .int ci, .int cj, .int ck, .ref kl, .int cm, .int cn, .ref ko])), (k0, .inl (cI, 1201, .inl c0))] t) (va_A [(k, .inr (11, [.ref k0, .ref k1, .ref k2, .int c3, .ref k4, .ref k5, .ref k6, .ref k7, .ref k8, .int c9, .ref ka, .ref kb, .int cc, .int cd, .int ce, .int cf, .int cg, .int ch, .int ci, .int cj, .int ck, .ref kl, .int cm, .int cn, .ref ko])), (k0, .inl (cI, 1201, .inl c0))] sz)) 0 0 (va_A [(k, .inr (11, [.ref k0, .ref k1, .ref k2, .int c3, .ref k4, .ref k5, .ref k6, .ref k7, .ref k8, .int c9, .ref ka, .ref kb, .int cc, .int cd, .int ce, .int cf, .int cg, .int ch, .int ci, .int cj, .int ck, .ref kl, .int cm, .int cn, .ref ko])), (k0, .inl (cI, 1201, .inl c0))] sz) := by
  refine kMetIX (own := RX11) (by decide) rfl (Nat.le_of_ble_eq_true rfl) ?_
  intro p e s m args below meth c hx hb hT hown hname hml A Q hK hP hD hS hA hN hXS hRet ls hl
  have hl : lv_has ls 4 [(0, .ref k)] := hl
  have lo_cd := k_lo cd
  have hi_cd := k_hi cd
  have lo_ce := k_lo ce
  have hi_ce := k_hi ce
  have lo_ci := k_lo ci
  have hi_ci := k_hi ci
  refine lv_aload_n hx hb dX11_product_0 rfl (lv_at hl 0 rfl) ?_
  refine kJi (wr := []) (va_runV (As := []) (rest := []) ⟨hx, hb, hml, hown, hT⟩ (c_X11_oneG2 l D cI aK aV k k0 k1 k2 k4 k5 k6 k7 k8 ka kb kl ko s.heap.size c3 c9 cc cd ce cf cg ch ci cj ck cm cn c0 (by first | omega | decide | assumption | rfl) (by first | omega | decide | assumption | rfl) (by first | omega | decide | assumption | rfl) (by first | omega | decide | assumption | rfl) (by first | omega | decide | assumption | rfl) (by first | omega | decide | assumption | rfl)) (cwV 0 hT (gV_in mw_1335 mw_1332 mw_1334 mw_p4_8 mw_12) rfl rfl rfl (by decide +kernel) ⟨Nat.le_of_ble_eq_true rfl, Nat.le_of_ble_eq_true rfl⟩) (kRecvX (q0 := 0) (ci := 11) hK hP hD hN hXS hS hA rfl rfl [0, 1] rfl (by decide)) rfl rfl hl.1 rfl (lv_room (Nat.le_of_ble_eq_true rfl)) dX11_product_1 ⟨Nat.le_of_ble_eq_true rfl, Nat.le_of_ble_eq_true rfl⟩) hP hD hS hA [0, 1] [] rfl rfl (by decide) (by decide) ?_
  clear hP hD hS
  intro r_1 u_6 H locs w_2 hP hD hS
  obtain ⟨scd_3, scf_4, scg_5⟩ := u_6
  replace hP : va_P D vwCl [(k, .inr (11, [.ref k0, .ref k1, .ref k2, .int c3, .ref k4, .ref k5, .ref k6, .ref k7, .ref k8, .int c9, .ref ka, .ref kb, .int cc, .int scd_3, .int ce, .int scf_4, .int scg_5, .int ch, .int ci, .int cj, .int ck, .ref kl, .int cm, .int cn, .ref ko])), (k0, .inl (cI, 1201, .inl c0))] H := hP
  replace hD : va_D A [(k, .inr (11, [.ref k0, .ref k1, .ref k2, .int c3, .ref k4, .ref k5, .ref k6, .ref k7, .ref k8, .int c9, .ref ka, .ref kb, .int cc, .int scd_3, .int ce, .int scf_4, .int scg_5, .int ch, .int ci, .int cj, .int ck, .ref kl, .int cm, .int cn, .ref ko])), (k0, .inl (cI, 1201, .inl c0))] := hD
  have lo_scd_3 := k_lo scd_3
  have hi_scd_3 := k_hi scd_3
  have lo_scg_5 := k_lo scg_5
  have hi_scg_5 := k_hi scg_5
  obtain ⟨h_7, h_8, h_9⟩ := w_2
  have h_7 : cd.toInt ≤ scd_3.toInt := h_7
  have h_8 : scd_3.toInt ≤ ce.toInt := h_8
  have h_9 : scg_5.toInt = 2 := h_9
  have lo_r_1 := k_lo r_1
  have hi_r_1 := k_hi r_1
  refine lv_istore_n (lv' := [(1, .int r_1), (0, .ref k)]) hx hb dX11_product_4 rfl hl (by decide) rfl ?_
  clear hl
  intro ls hl
  have hloop_5 : ∀ (fu_ : Nat) (l5_1 : Int32) (f5_kd : Int32) (f5_kf : Int32) (f5_kg : Int32), scd_3.toInt ≤ f5_kd.toInt → scg_5.toInt ≤ f5_kg.toInt → f5_kg.toInt ≤ scg_5.toInt → f5_kd.toInt ≤ ce.toInt → (ce.toInt - f5_kd.toInt).toNat < fu_ → ∀ (ls : Array Slot) (H : Heap) (locs : List Loc), lv_has ls 4 [(1, .int l5_1), (0, .ref k)] → va_P D vwCl [(k, .inr (11, [.ref k0, .ref k1, .ref k2, .int c3, .ref k4, .ref k5, .ref k6, .ref k7, .ref k8, .int c9, .ref ka, .ref kb, .int cc, .int f5_kd, .int ce, .int f5_kf, .int f5_kg, .int ch, .int ci, .int cj, .int ck, .ref kl, .int cm, .int cn, .ref ko])), (k0, .inl (cI, 1201, .inl c0))] H → va_D A [(k, .inr (11, [.ref k0, .ref k1, .ref k2, .int c3, .ref k4, .ref k5, .ref k6, .ref k7, .ref k8, .int c9, .ref ka, .ref kb, .int cc, .int f5_kd, .int ce, .int f5_kf, .int f5_kg, .int ch, .int ci, .int cj, .int ck, .ref kl, .int cm, .int cn, .ref ko])), (k0, .inl (cI, 1201, .inl c0))] → va_S A s.heap H locs → W p l e ({ frames := 14, cells := 0, slots := 0, locals := 317 } : Room) s m args below meth c H locs 0 0 Q (F0 m 5 ls []) := by
    intro fu_; induction fu_ with
    | zero => intro l5_1 f5_kd f5_kf f5_kg i5_0 i5_1 i5_2 i5_3 hm; exact absurd hm (by omega)
    | succ fu_ ih5 =>
        intro l5_1 f5_kd f5_kf f5_kg i5_0 i5_1 i5_2 i5_3 hm ls H locs hl hP hD hS
        have lo_l5_1 := k_lo l5_1
        have hi_l5_1 := k_hi l5_1
        have lo_f5_kd := k_lo f5_kd
        have hi_f5_kd := k_hi f5_kd
        have lo_f5_kf := k_lo f5_kf
        have hi_f5_kf := k_hi f5_kf
        have lo_f5_kg := k_lo f5_kg
        have hi_f5_kg := k_hi f5_kg
        refine lv_aload_n hx hb dX11_product_5 rfl (lv_at hl 1 rfl) ?_
        refine va_get (D := D) (ci := 11) (v := .int f5_kf) (C := RX11) (T := TX11) (N := 25) hx hb hT giX11 hown hK hP 0 rfl rfl 15 (by decide) (hT (Cond.fieldLink RX11 148 "DesertWireModel" "isWrong" "Z") mw_1171) (fun _ h9 => h9) rfl dX11_product_6 ?_
        refine b_if_ne hx hb rfl (tgt := 85) dX11_product_9 (by decide) (fun c_10 => ?_) (fun c_10 => ?_)
        · refine lv_iload_n hx hb dX11_product_85 rfl (lv_at hl 0 rfl) ?_
          exact hRet (f5_kd, f5_kf, f5_kg) [0, 1] ⟨(by first | omega | decide | assumption | rfl | (dsimp only; first | omega)), (by first | omega | decide | assumption | rfl | (dsimp only; first | omega)), (by first | omega | decide | assumption | rfl | (dsimp only; first | omega))⟩ hP hD (by decide) rfl hS rfl dX11_product_86
        · refine lv_aload_n hx hb dX11_product_12 rfl (lv_at hl 1 rfl) ?_
          refine kJi (wr := []) (va_runV (As := []) (rest := []) ⟨hx, hb, hml, hown, hT⟩ (c_X11_nowG l D cI aK aV k k0 k1 k2 k4 k5 k6 k7 k8 ka kb kl ko H.size c3 c9 cc f5_kd ce f5_kf f5_kg ch ci cj ck cm cn c0 (by first | omega | decide | assumption | rfl) (by first | omega | decide | assumption | rfl) (by first | omega | decide | assumption | rfl) (by first | omega | decide | assumption | rfl) (by first | omega | decide | assumption | rfl)) (cwV 0 hT (gV_in mw_1339 mw_1336 mw_1338 mw_p4_9 mw_12) rfl rfl rfl (by decide +kernel) ⟨Nat.le_of_ble_eq_true rfl, Nat.le_of_ble_eq_true rfl⟩) (kRecvX (q0 := 0) (ci := 11) hK hP hD hN hXS hS hA rfl rfl [0, 1] rfl (by decide)) rfl rfl hl.1 rfl (lv_room (Nat.le_of_ble_eq_true rfl)) dX11_product_13 ⟨Nat.le_of_ble_eq_true rfl, Nat.le_of_ble_eq_true rfl⟩) hP hD hS hA [0, 1] [] rfl rfl (by decide) (by decide) ?_
          clear hP hD hS
          intro r_11 u_13 H locs w_12 hP hD hS
          replace hP : va_P D vwCl [(k, .inr (11, [.ref k0, .ref k1, .ref k2, .int c3, .ref k4, .ref k5, .ref k6, .ref k7, .ref k8, .int c9, .ref ka, .ref kb, .int cc, .int f5_kd, .int ce, .int f5_kf, .int f5_kg, .int ch, .int ci, .int cj, .int ck, .ref kl, .int cm, .int cn, .ref ko])), (k0, .inl (cI, 1201, .inl c0))] H := hP
          replace hD : va_D A [(k, .inr (11, [.ref k0, .ref k1, .ref k2, .int c3, .ref k4, .ref k5, .ref k6, .ref k7, .ref k8, .int c9, .ref ka, .ref kb, .int cc, .int f5_kd, .int ce, .int f5_kf, .int f5_kg, .int ch, .int ci, .int cj, .int ck, .ref kl, .int cm, .int cn, .ref ko])), (k0, .inl (cI, 1201, .inl c0))] := hD
          rcases w_12 with h_14 | ⟨hr_11, h_15⟩
          · have h_14 : f5_kd.toInt < ce.toInt := h_14
            have lo_r_11 := k_lo r_11
            have hi_r_11 := k_hi r_11
            refine lv_bipush (v := 42) hx hb dX11_product_16 (by decide) ?_
            refine b_icmp_eq hx hb rfl zl_42 (tgt := 30) dX11_product_18 (by decide) (fun c_16 => ?_) (fun c_16 => ?_)
            · refine lv_aload_n hx hb dX11_product_30 rfl (lv_at hl 1 rfl) ?_
              refine kJi (wr := []) (va_runV (As := []) (rest := []) ⟨hx, hb, hml, hown, hT⟩ (c_X11_nowG l D cI aK aV k k0 k1 k2 k4 k5 k6 k7 k8 ka kb kl ko H.size c3 c9 cc f5_kd ce f5_kf f5_kg ch ci cj ck cm cn c0 (by first | omega | decide | assumption | rfl) (by first | omega | decide | assumption | rfl) (by first | omega | decide | assumption | rfl) (by first | omega | decide | assumption | rfl) (by first | omega | decide | assumption | rfl)) (cwV 0 hT (gV_in mw_1339 mw_1336 mw_1338 mw_p4_9 mw_12) rfl rfl rfl (by decide +kernel) ⟨Nat.le_of_ble_eq_true rfl, Nat.le_of_ble_eq_true rfl⟩) (kRecvX (q0 := 0) (ci := 11) hK hP hD hN hXS hS hA rfl rfl [0, 1] rfl (by decide)) rfl rfl hl.1 rfl (lv_room (Nat.le_of_ble_eq_true rfl)) dX11_product_31 ⟨Nat.le_of_ble_eq_true rfl, Nat.le_of_ble_eq_true rfl⟩) hP hD hS hA [0, 1] [] rfl rfl (by decide) (by decide) ?_
              clear hP hD hS
              intro r_17 u_19 H locs w_18 hP hD hS
              replace hP : va_P D vwCl [(k, .inr (11, [.ref k0, .ref k1, .ref k2, .int c3, .ref k4, .ref k5, .ref k6, .ref k7, .ref k8, .int c9, .ref ka, .ref kb, .int cc, .int f5_kd, .int ce, .int f5_kf, .int f5_kg, .int ch, .int ci, .int cj, .int ck, .ref kl, .int cm, .int cn, .ref ko])), (k0, .inl (cI, 1201, .inl c0))] H := hP
              replace hD : va_D A [(k, .inr (11, [.ref k0, .ref k1, .ref k2, .int c3, .ref k4, .ref k5, .ref k6, .ref k7, .ref k8, .int c9, .ref ka, .ref kb, .int cc, .int f5_kd, .int ce, .int f5_kf, .int f5_kg, .int ch, .int ci, .int cj, .int ck, .ref kl, .int cm, .int cn, .ref ko])), (k0, .inl (cI, 1201, .inl c0))] := hD
              rcases w_18 with h_20 | ⟨hr_17, h_21⟩
              · have h_20 : f5_kd.toInt < ce.toInt := h_20
                have lo_r_17 := k_lo r_17
                have hi_r_17 := k_hi r_17
                refine lv_bipush (v := 42) hx hb dX11_product_34 (by decide) ?_
                refine b_icmp_ne hx hb rfl zl_42 (tgt := 43) dX11_product_36 (by decide) (fun c_22 => ?_) (fun c_22 => ?_)
                · refine lv_iconst (v := 0) hx hb dX11_product_43 (by decide) ?_
                  refine lv_istore_n (lv' := [(2, .int 0), (1, .int l5_1), (0, .ref k)]) hx hb dX11_product_44 rfl hl (by decide) rfl ?_
                  clear hl
                  intro ls hl
                  refine lv_aload_n hx hb dX11_product_45 rfl (lv_at hl 2 rfl) ?_
                  refine lv_dup hx hb dX11_product_46 rfl ?_
                  refine va_get (D := D) (ci := 11) (v := .int f5_kd) (C := RX11) (T := TX11) (N := 25) hx hb hT giX11 hown hK hP 0 rfl rfl 13 (by decide) (hT (Cond.fieldLink RX11 138 "DesertWireModel" "here" "I") mw_1169) (fun _ h9 => h9) rfl dX11_product_47 ?_
                  refine lv_iconst (v := 1) hx hb dX11_product_50 (by decide) ?_
                  refine lv_iadd hx hb dX11_product_51 ?_
                  refine lv_topi (fun v_23 ev_23 => ?_)
                  have tv_23 : v_23.toInt = f5_kd.toInt + 1 := by rw [ev_23]; exact k_addv rfl zl_1 (by omega) (by omega)
                  refine va_put (D := D) (ci := 11) (v := .int v_23) (ty := .int) (C := RX11) (T := TX11) (N := 25) hx hb hT giX11 tyX11 tyX11_ok nmX11 hown hK hP hD hS 0 rfl rfl 13 (by decide) (hT (Cond.fieldLink RX11 138 "DesertWireModel" "here" "I") mw_1169) (fun _ h9 => h9) rfl (by decide +kernel) rfl rfl (Nat.le_of_ble_eq_true rfl) dX11_product_52 ?_
                  clear hP hD hS
                  intro H locs hP hD hS
                  replace hP : va_P D vwCl [(k, .inr (11, [.ref k0, .ref k1, .ref k2, .int c3, .ref k4, .ref k5, .ref k6, .ref k7, .ref k8, .int c9, .ref ka, .ref kb, .int cc, .int v_23, .int ce, .int f5_kf, .int f5_kg, .int ch, .int ci, .int cj, .int ck, .ref kl, .int cm, .int cn, .ref ko])), (k0, .inl (cI, 1201, .inl c0))] H := hP
                  replace hD : va_D A [(k, .inr (11, [.ref k0, .ref k1, .ref k2, .int c3, .ref k4, .ref k5, .ref k6, .ref k7, .ref k8, .int c9, .ref ka, .ref kb, .int cc, .int v_23, .int ce, .int f5_kf, .int f5_kg, .int ch, .int ci, .int cj, .int ck, .ref kl, .int cm, .int cn, .ref ko])), (k0, .inl (cI, 1201, .inl c0))] := hD
                  refine lv_aload_n hx hb dX11_product_55 rfl (lv_at hl 2 rfl) ?_
                  refine kJi (wr := []) (va_runV (As := []) (rest := []) ⟨hx, hb, hml, hown, hT⟩ (c_X11_oneG2 l D cI aK aV k k0 k1 k2 k4 k5 k6 k7 k8 ka kb kl ko H.size c3 c9 cc v_23 ce f5_kf f5_kg ch ci cj ck cm cn c0 (by first | omega | decide | assumption | rfl) (by first | omega | decide | assumption | rfl) (by first | omega | decide | assumption | rfl) (by first | omega | decide | assumption | rfl) (by first | omega | decide | assumption | rfl) (by first | omega | decide | assumption | rfl)) (cwV 0 hT (gV_in mw_1335 mw_1332 mw_1334 mw_p4_8 mw_12) rfl rfl rfl (by decide +kernel) ⟨Nat.le_of_ble_eq_true rfl, Nat.le_of_ble_eq_true rfl⟩) (kRecvX (q0 := 0) (ci := 11) hK hP hD hN hXS hS hA rfl rfl [0, 1] rfl (by decide)) rfl rfl hl.1 rfl (lv_room (Nat.le_of_ble_eq_true rfl)) dX11_product_56 ⟨Nat.le_of_ble_eq_true rfl, Nat.le_of_ble_eq_true rfl⟩) hP hD hS hA [0, 1] [] rfl rfl (by decide) (by decide) ?_
                  clear hP hD hS
                  intro r_24 u_29 H locs w_25 hP hD hS
                  obtain ⟨scd_26, scf_27, scg_28⟩ := u_29
                  replace hP : va_P D vwCl [(k, .inr (11, [.ref k0, .ref k1, .ref k2, .int c3, .ref k4, .ref k5, .ref k6, .ref k7, .ref k8, .int c9, .ref ka, .ref kb, .int cc, .int scd_26, .int ce, .int scf_27, .int scg_28, .int ch, .int ci, .int cj, .int ck, .ref kl, .int cm, .int cn, .ref ko])), (k0, .inl (cI, 1201, .inl c0))] H := hP
                  replace hD : va_D A [(k, .inr (11, [.ref k0, .ref k1, .ref k2, .int c3, .ref k4, .ref k5, .ref k6, .ref k7, .ref k8, .int c9, .ref ka, .ref kb, .int cc, .int scd_26, .int ce, .int scf_27, .int scg_28, .int ch, .int ci, .int cj, .int ck, .ref kl, .int cm, .int cn, .ref ko])), (k0, .inl (cI, 1201, .inl c0))] := hD
                  have lo_scd_26 := k_lo scd_26
                  have hi_scd_26 := k_hi scd_26
                  have lo_scg_28 := k_lo scg_28
                  have hi_scg_28 := k_hi scg_28
                  obtain ⟨h_30, h_31, h_32⟩ := w_25
                  have h_30 : v_23.toInt ≤ scd_26.toInt := h_30
                  have h_31 : scd_26.toInt ≤ ce.toInt := h_31
                  have h_32 : scg_28.toInt = 2 := h_32
                  have lo_r_24 := k_lo r_24
                  have hi_r_24 := k_hi r_24
                  refine lv_istore_n (lv' := [(3, .int r_24), (2, .int 0), (1, .int l5_1), (0, .ref k)]) hx hb dX11_product_59 rfl hl (by decide) rfl ?_
                  clear hl
                  intro ls hl
                  refine lv_iload_n hx hb dX11_product_60 rfl (lv_at hl 1 rfl) ?_
                  refine b_if_eq hx hb zl_0 (tgt := 70) dX11_product_61 (by decide) (fun c_33 => ?_) (fun c_33 => by exfalso; omega)
                  refine lv_iload_n hx hb dX11_product_70 rfl (lv_at hl 0 rfl) ?_
                  refine b_if_ne hx hb rfl (tgt := 78) dX11_product_71 (by decide) (fun c_34 => ?_) (fun c_34 => ?_)
                  · refine lv_iload_n hx hb dX11_product_78 rfl (lv_at hl 2 rfl) ?_
                    refine lv_iload_n hx hb dX11_product_79 rfl (lv_at hl 0 rfl) ?_
                    refine lv_irem hx hb dX11_product_80 (k_ne0 (by omega)) ?_
                    refine lv_topi (fun v_35 ev_35 => ?_)
                    have lo_v_35 := k_lo v_35
                    have hi_v_35 := k_hi v_35
                    refine lv_istore_n (lv' := [(1, .int v_35), (3, .int r_24), (2, .int 0), (0, .ref k)]) hx hb dX11_product_81 rfl hl (by decide) rfl ?_
                    clear hl
                    intro ls hl
                    refine lv_goto (tgt := 5) hx hb dX11_product_82 (by decide) ?_
                    exact ih5 v_35 scd_26 scf_27 scg_28 (by first | omega | decide | assumption | rfl) (by first | omega | decide | assumption | rfl) (by first | omega | decide | assumption | rfl) (by first | omega | decide | assumption | rfl) (by omega) ls _ _ (lv_sub hl [0, 3] rfl) (hP.sub [0, 1] rfl) (hD.sub [0, 1] (by decide) rfl) hS
                  · refine lv_iconst (v := 0) hx hb dX11_product_74 (by decide) ?_
                    refine lv_goto (tgt := 81) hx hb dX11_product_75 (by decide) ?_
                    refine lv_istore_n (lv' := [(1, .int 0), (3, .int r_24), (2, .int 0), (0, .ref k)]) hx hb dX11_product_81 rfl hl (by decide) rfl ?_
                    clear hl
                    intro ls hl
                    refine lv_goto (tgt := 5) hx hb dX11_product_82 (by decide) ?_
                    exact ih5 0 scd_26 scf_27 scg_28 (by first | omega | (simp only [zl_0] <;> omega) | decide | assumption | rfl) (by first | omega | (simp only [zl_0] <;> omega) | decide | assumption | rfl) (by first | omega | (simp only [zl_0] <;> omega) | decide | assumption | rfl) (by first | omega | (simp only [zl_0] <;> omega) | decide | assumption | rfl) (by omega) ls _ _ (lv_sub hl [0, 3] rfl) (hP.sub [0, 1] rfl) (hD.sub [0, 1] (by decide) rfl) hS
                · refine lv_iconst (v := 1) hx hb dX11_product_39 (by decide) ?_
                  refine lv_goto (tgt := 44) hx hb dX11_product_40 (by decide) ?_
                  refine lv_istore_n (lv' := [(2, .int 1), (1, .int l5_1), (0, .ref k)]) hx hb dX11_product_44 rfl hl (by decide) rfl ?_
                  clear hl
                  intro ls hl
                  refine lv_aload_n hx hb dX11_product_45 rfl (lv_at hl 2 rfl) ?_
                  refine lv_dup hx hb dX11_product_46 rfl ?_
                  refine va_get (D := D) (ci := 11) (v := .int f5_kd) (C := RX11) (T := TX11) (N := 25) hx hb hT giX11 hown hK hP 0 rfl rfl 13 (by decide) (hT (Cond.fieldLink RX11 138 "DesertWireModel" "here" "I") mw_1169) (fun _ h9 => h9) rfl dX11_product_47 ?_
                  refine lv_iconst (v := 1) hx hb dX11_product_50 (by decide) ?_
                  refine lv_iadd hx hb dX11_product_51 ?_
                  refine lv_topi (fun v_36 ev_36 => ?_)
                  have tv_36 : v_36.toInt = f5_kd.toInt + 1 := by rw [ev_36]; exact k_addv rfl zl_1 (by omega) (by omega)
                  refine va_put (D := D) (ci := 11) (v := .int v_36) (ty := .int) (C := RX11) (T := TX11) (N := 25) hx hb hT giX11 tyX11 tyX11_ok nmX11 hown hK hP hD hS 0 rfl rfl 13 (by decide) (hT (Cond.fieldLink RX11 138 "DesertWireModel" "here" "I") mw_1169) (fun _ h9 => h9) rfl (by decide +kernel) rfl rfl (Nat.le_of_ble_eq_true rfl) dX11_product_52 ?_
                  clear hP hD hS
                  intro H locs hP hD hS
                  replace hP : va_P D vwCl [(k, .inr (11, [.ref k0, .ref k1, .ref k2, .int c3, .ref k4, .ref k5, .ref k6, .ref k7, .ref k8, .int c9, .ref ka, .ref kb, .int cc, .int v_36, .int ce, .int f5_kf, .int f5_kg, .int ch, .int ci, .int cj, .int ck, .ref kl, .int cm, .int cn, .ref ko])), (k0, .inl (cI, 1201, .inl c0))] H := hP
                  replace hD : va_D A [(k, .inr (11, [.ref k0, .ref k1, .ref k2, .int c3, .ref k4, .ref k5, .ref k6, .ref k7, .ref k8, .int c9, .ref ka, .ref kb, .int cc, .int v_36, .int ce, .int f5_kf, .int f5_kg, .int ch, .int ci, .int cj, .int ck, .ref kl, .int cm, .int cn, .ref ko])), (k0, .inl (cI, 1201, .inl c0))] := hD
                  refine lv_aload_n hx hb dX11_product_55 rfl (lv_at hl 2 rfl) ?_
                  refine kJi (wr := []) (va_runV (As := []) (rest := []) ⟨hx, hb, hml, hown, hT⟩ (c_X11_oneG2 l D cI aK aV k k0 k1 k2 k4 k5 k6 k7 k8 ka kb kl ko H.size c3 c9 cc v_36 ce f5_kf f5_kg ch ci cj ck cm cn c0 (by first | omega | decide | assumption | rfl) (by first | omega | decide | assumption | rfl) (by first | omega | decide | assumption | rfl) (by first | omega | decide | assumption | rfl) (by first | omega | decide | assumption | rfl) (by first | omega | decide | assumption | rfl)) (cwV 0 hT (gV_in mw_1335 mw_1332 mw_1334 mw_p4_8 mw_12) rfl rfl rfl (by decide +kernel) ⟨Nat.le_of_ble_eq_true rfl, Nat.le_of_ble_eq_true rfl⟩) (kRecvX (q0 := 0) (ci := 11) hK hP hD hN hXS hS hA rfl rfl [0, 1] rfl (by decide)) rfl rfl hl.1 rfl (lv_room (Nat.le_of_ble_eq_true rfl)) dX11_product_56 ⟨Nat.le_of_ble_eq_true rfl, Nat.le_of_ble_eq_true rfl⟩) hP hD hS hA [0, 1] [] rfl rfl (by decide) (by decide) ?_
                  clear hP hD hS
                  intro r_37 u_42 H locs w_38 hP hD hS
                  obtain ⟨scd_39, scf_40, scg_41⟩ := u_42
                  replace hP : va_P D vwCl [(k, .inr (11, [.ref k0, .ref k1, .ref k2, .int c3, .ref k4, .ref k5, .ref k6, .ref k7, .ref k8, .int c9, .ref ka, .ref kb, .int cc, .int scd_39, .int ce, .int scf_40, .int scg_41, .int ch, .int ci, .int cj, .int ck, .ref kl, .int cm, .int cn, .ref ko])), (k0, .inl (cI, 1201, .inl c0))] H := hP
                  replace hD : va_D A [(k, .inr (11, [.ref k0, .ref k1, .ref k2, .int c3, .ref k4, .ref k5, .ref k6, .ref k7, .ref k8, .int c9, .ref ka, .ref kb, .int cc, .int scd_39, .int ce, .int scf_40, .int scg_41, .int ch, .int ci, .int cj, .int ck, .ref kl, .int cm, .int cn, .ref ko])), (k0, .inl (cI, 1201, .inl c0))] := hD
                  have lo_scd_39 := k_lo scd_39
                  have hi_scd_39 := k_hi scd_39
                  have lo_scg_41 := k_lo scg_41
                  have hi_scg_41 := k_hi scg_41
                  obtain ⟨h_43, h_44, h_45⟩ := w_38
                  have h_43 : v_36.toInt ≤ scd_39.toInt := h_43
                  have h_44 : scd_39.toInt ≤ ce.toInt := h_44
                  have h_45 : scg_41.toInt = 2 := h_45
                  have lo_r_37 := k_lo r_37
                  have hi_r_37 := k_hi r_37
                  refine lv_istore_n (lv' := [(3, .int r_37), (2, .int 1), (1, .int l5_1), (0, .ref k)]) hx hb dX11_product_59 rfl hl (by decide) rfl ?_
                  clear hl
                  intro ls hl
                  refine lv_iload_n hx hb dX11_product_60 rfl (lv_at hl 1 rfl) ?_
                  refine b_if_eq hx hb zl_1 (tgt := 70) dX11_product_61 (by decide) (fun c_46 => by exfalso; omega) (fun c_46 => ?_)
                  refine lv_iload_n hx hb dX11_product_64 rfl (lv_at hl 2 rfl) ?_
                  refine lv_iload_n hx hb dX11_product_65 rfl (lv_at hl 0 rfl) ?_
                  refine lv_imul hx hb dX11_product_66 ?_
                  refine lv_topi (fun v_47 ev_47 => ?_)
                  have lo_v_47 := k_lo v_47
                  have hi_v_47 := k_hi v_47
                  refine lv_goto (tgt := 81) hx hb dX11_product_67 (by decide) ?_
                  refine lv_istore_n (lv' := [(1, .int v_47), (3, .int r_37), (2, .int 1), (0, .ref k)]) hx hb dX11_product_81 rfl hl (by decide) rfl ?_
                  clear hl
                  intro ls hl
                  refine lv_goto (tgt := 5) hx hb dX11_product_82 (by decide) ?_
                  exact ih5 v_47 scd_39 scf_40 scg_41 (by first | omega | decide | assumption | rfl) (by first | omega | decide | assumption | rfl) (by first | omega | decide | assumption | rfl) (by first | omega | decide | assumption | rfl) (by omega) ls _ _ (lv_sub hl [0, 3] rfl) (hP.sub [0, 1] rfl) (hD.sub [0, 1] (by decide) rfl) hS
              · exfalso; omega
            · refine lv_aload_n hx hb dX11_product_21 rfl (lv_at hl 1 rfl) ?_
              refine kJi (wr := []) (va_runV (As := []) (rest := []) ⟨hx, hb, hml, hown, hT⟩ (c_X11_nowG l D cI aK aV k k0 k1 k2 k4 k5 k6 k7 k8 ka kb kl ko H.size c3 c9 cc f5_kd ce f5_kf f5_kg ch ci cj ck cm cn c0 (by first | omega | decide | assumption | rfl) (by first | omega | decide | assumption | rfl) (by first | omega | decide | assumption | rfl) (by first | omega | decide | assumption | rfl) (by first | omega | decide | assumption | rfl)) (cwV 0 hT (gV_in mw_1339 mw_1336 mw_1338 mw_p4_9 mw_12) rfl rfl rfl (by decide +kernel) ⟨Nat.le_of_ble_eq_true rfl, Nat.le_of_ble_eq_true rfl⟩) (kRecvX (q0 := 0) (ci := 11) hK hP hD hN hXS hS hA rfl rfl [0, 1] rfl (by decide)) rfl rfl hl.1 rfl (lv_room (Nat.le_of_ble_eq_true rfl)) dX11_product_22 ⟨Nat.le_of_ble_eq_true rfl, Nat.le_of_ble_eq_true rfl⟩) hP hD hS hA [0, 1] [] rfl rfl (by decide) (by decide) ?_
              clear hP hD hS
              intro r_48 u_50 H locs w_49 hP hD hS
              replace hP : va_P D vwCl [(k, .inr (11, [.ref k0, .ref k1, .ref k2, .int c3, .ref k4, .ref k5, .ref k6, .ref k7, .ref k8, .int c9, .ref ka, .ref kb, .int cc, .int f5_kd, .int ce, .int f5_kf, .int f5_kg, .int ch, .int ci, .int cj, .int ck, .ref kl, .int cm, .int cn, .ref ko])), (k0, .inl (cI, 1201, .inl c0))] H := hP
              replace hD : va_D A [(k, .inr (11, [.ref k0, .ref k1, .ref k2, .int c3, .ref k4, .ref k5, .ref k6, .ref k7, .ref k8, .int c9, .ref ka, .ref kb, .int cc, .int f5_kd, .int ce, .int f5_kf, .int f5_kg, .int ch, .int ci, .int cj, .int ck, .ref kl, .int cm, .int cn, .ref ko])), (k0, .inl (cI, 1201, .inl c0))] := hD
              rcases w_49 with h_51 | ⟨hr_48, h_52⟩
              · have h_51 : f5_kd.toInt < ce.toInt := h_51
                have lo_r_48 := k_lo r_48
                have hi_r_48 := k_hi r_48
                refine lv_bipush (v := 37) hx hb dX11_product_25 (by decide) ?_
                refine b_icmp_ne hx hb rfl zl_37 (tgt := 85) dX11_product_27 (by decide) (fun c_53 => ?_) (fun c_53 => ?_)
                · refine lv_iload_n hx hb dX11_product_85 rfl (lv_at hl 0 rfl) ?_
                  exact hRet (f5_kd, f5_kf, f5_kg) [0, 1] ⟨(by first | omega | decide | assumption | rfl | (dsimp only; first | omega)), (by first | omega | decide | assumption | rfl | (dsimp only; first | omega)), (by first | omega | decide | assumption | rfl | (dsimp only; first | omega))⟩ hP hD (by decide) rfl hS rfl dX11_product_86
                · refine lv_aload_n hx hb dX11_product_30 rfl (lv_at hl 1 rfl) ?_
                  refine kJi (wr := []) (va_runV (As := []) (rest := []) ⟨hx, hb, hml, hown, hT⟩ (c_X11_nowG l D cI aK aV k k0 k1 k2 k4 k5 k6 k7 k8 ka kb kl ko H.size c3 c9 cc f5_kd ce f5_kf f5_kg ch ci cj ck cm cn c0 (by first | omega | decide | assumption | rfl) (by first | omega | decide | assumption | rfl) (by first | omega | decide | assumption | rfl) (by first | omega | decide | assumption | rfl) (by first | omega | decide | assumption | rfl)) (cwV 0 hT (gV_in mw_1339 mw_1336 mw_1338 mw_p4_9 mw_12) rfl rfl rfl (by decide +kernel) ⟨Nat.le_of_ble_eq_true rfl, Nat.le_of_ble_eq_true rfl⟩) (kRecvX (q0 := 0) (ci := 11) hK hP hD hN hXS hS hA rfl rfl [0, 1] rfl (by decide)) rfl rfl hl.1 rfl (lv_room (Nat.le_of_ble_eq_true rfl)) dX11_product_31 ⟨Nat.le_of_ble_eq_true rfl, Nat.le_of_ble_eq_true rfl⟩) hP hD hS hA [0, 1] [] rfl rfl (by decide) (by decide) ?_
                  clear hP hD hS
                  intro r_54 u_56 H locs w_55 hP hD hS
                  replace hP : va_P D vwCl [(k, .inr (11, [.ref k0, .ref k1, .ref k2, .int c3, .ref k4, .ref k5, .ref k6, .ref k7, .ref k8, .int c9, .ref ka, .ref kb, .int cc, .int f5_kd, .int ce, .int f5_kf, .int f5_kg, .int ch, .int ci, .int cj, .int ck, .ref kl, .int cm, .int cn, .ref ko])), (k0, .inl (cI, 1201, .inl c0))] H := hP
                  replace hD : va_D A [(k, .inr (11, [.ref k0, .ref k1, .ref k2, .int c3, .ref k4, .ref k5, .ref k6, .ref k7, .ref k8, .int c9, .ref ka, .ref kb, .int cc, .int f5_kd, .int ce, .int f5_kf, .int f5_kg, .int ch, .int ci, .int cj, .int ck, .ref kl, .int cm, .int cn, .ref ko])), (k0, .inl (cI, 1201, .inl c0))] := hD
                  rcases w_55 with h_57 | ⟨hr_54, h_58⟩
                  · have h_57 : f5_kd.toInt < ce.toInt := h_57
                    have lo_r_54 := k_lo r_54
                    have hi_r_54 := k_hi r_54
                    refine lv_bipush (v := 42) hx hb dX11_product_34 (by decide) ?_
                    refine b_icmp_ne hx hb rfl zl_42 (tgt := 43) dX11_product_36 (by decide) (fun c_59 => ?_) (fun c_59 => ?_)
                    · refine lv_iconst (v := 0) hx hb dX11_product_43 (by decide) ?_
                      refine lv_istore_n (lv' := [(2, .int 0), (1, .int l5_1), (0, .ref k)]) hx hb dX11_product_44 rfl hl (by decide) rfl ?_
                      clear hl
                      intro ls hl
                      refine lv_aload_n hx hb dX11_product_45 rfl (lv_at hl 2 rfl) ?_
                      refine lv_dup hx hb dX11_product_46 rfl ?_
                      refine va_get (D := D) (ci := 11) (v := .int f5_kd) (C := RX11) (T := TX11) (N := 25) hx hb hT giX11 hown hK hP 0 rfl rfl 13 (by decide) (hT (Cond.fieldLink RX11 138 "DesertWireModel" "here" "I") mw_1169) (fun _ h9 => h9) rfl dX11_product_47 ?_
                      refine lv_iconst (v := 1) hx hb dX11_product_50 (by decide) ?_
                      refine lv_iadd hx hb dX11_product_51 ?_
                      refine lv_topi (fun v_60 ev_60 => ?_)
                      have tv_60 : v_60.toInt = f5_kd.toInt + 1 := by rw [ev_60]; exact k_addv rfl zl_1 (by omega) (by omega)
                      refine va_put (D := D) (ci := 11) (v := .int v_60) (ty := .int) (C := RX11) (T := TX11) (N := 25) hx hb hT giX11 tyX11 tyX11_ok nmX11 hown hK hP hD hS 0 rfl rfl 13 (by decide) (hT (Cond.fieldLink RX11 138 "DesertWireModel" "here" "I") mw_1169) (fun _ h9 => h9) rfl (by decide +kernel) rfl rfl (Nat.le_of_ble_eq_true rfl) dX11_product_52 ?_
                      clear hP hD hS
                      intro H locs hP hD hS
                      replace hP : va_P D vwCl [(k, .inr (11, [.ref k0, .ref k1, .ref k2, .int c3, .ref k4, .ref k5, .ref k6, .ref k7, .ref k8, .int c9, .ref ka, .ref kb, .int cc, .int v_60, .int ce, .int f5_kf, .int f5_kg, .int ch, .int ci, .int cj, .int ck, .ref kl, .int cm, .int cn, .ref ko])), (k0, .inl (cI, 1201, .inl c0))] H := hP
                      replace hD : va_D A [(k, .inr (11, [.ref k0, .ref k1, .ref k2, .int c3, .ref k4, .ref k5, .ref k6, .ref k7, .ref k8, .int c9, .ref ka, .ref kb, .int cc, .int v_60, .int ce, .int f5_kf, .int f5_kg, .int ch, .int ci, .int cj, .int ck, .ref kl, .int cm, .int cn, .ref ko])), (k0, .inl (cI, 1201, .inl c0))] := hD
                      refine lv_aload_n hx hb dX11_product_55 rfl (lv_at hl 2 rfl) ?_
                      refine kJi (wr := []) (va_runV (As := []) (rest := []) ⟨hx, hb, hml, hown, hT⟩ (c_X11_oneG2 l D cI aK aV k k0 k1 k2 k4 k5 k6 k7 k8 ka kb kl ko H.size c3 c9 cc v_60 ce f5_kf f5_kg ch ci cj ck cm cn c0 (by first | omega | decide | assumption | rfl) (by first | omega | decide | assumption | rfl) (by first | omega | decide | assumption | rfl) (by first | omega | decide | assumption | rfl) (by first | omega | decide | assumption | rfl) (by first | omega | decide | assumption | rfl)) (cwV 0 hT (gV_in mw_1335 mw_1332 mw_1334 mw_p4_8 mw_12) rfl rfl rfl (by decide +kernel) ⟨Nat.le_of_ble_eq_true rfl, Nat.le_of_ble_eq_true rfl⟩) (kRecvX (q0 := 0) (ci := 11) hK hP hD hN hXS hS hA rfl rfl [0, 1] rfl (by decide)) rfl rfl hl.1 rfl (lv_room (Nat.le_of_ble_eq_true rfl)) dX11_product_56 ⟨Nat.le_of_ble_eq_true rfl, Nat.le_of_ble_eq_true rfl⟩) hP hD hS hA [0, 1] [] rfl rfl (by decide) (by decide) ?_
                      clear hP hD hS
                      intro r_61 u_66 H locs w_62 hP hD hS
                      obtain ⟨scd_63, scf_64, scg_65⟩ := u_66
                      replace hP : va_P D vwCl [(k, .inr (11, [.ref k0, .ref k1, .ref k2, .int c3, .ref k4, .ref k5, .ref k6, .ref k7, .ref k8, .int c9, .ref ka, .ref kb, .int cc, .int scd_63, .int ce, .int scf_64, .int scg_65, .int ch, .int ci, .int cj, .int ck, .ref kl, .int cm, .int cn, .ref ko])), (k0, .inl (cI, 1201, .inl c0))] H := hP
                      replace hD : va_D A [(k, .inr (11, [.ref k0, .ref k1, .ref k2, .int c3, .ref k4, .ref k5, .ref k6, .ref k7, .ref k8, .int c9, .ref ka, .ref kb, .int cc, .int scd_63, .int ce, .int scf_64, .int scg_65, .int ch, .int ci, .int cj, .int ck, .ref kl, .int cm, .int cn, .ref ko])), (k0, .inl (cI, 1201, .inl c0))] := hD
                      have lo_scd_63 := k_lo scd_63
                      have hi_scd_63 := k_hi scd_63
                      have lo_scg_65 := k_lo scg_65
                      have hi_scg_65 := k_hi scg_65
                      obtain ⟨h_67, h_68, h_69⟩ := w_62
                      have h_67 : v_60.toInt ≤ scd_63.toInt := h_67
                      have h_68 : scd_63.toInt ≤ ce.toInt := h_68
                      have h_69 : scg_65.toInt = 2 := h_69
                      have lo_r_61 := k_lo r_61
                      have hi_r_61 := k_hi r_61
                      refine lv_istore_n (lv' := [(3, .int r_61), (2, .int 0), (1, .int l5_1), (0, .ref k)]) hx hb dX11_product_59 rfl hl (by decide) rfl ?_
                      clear hl
                      intro ls hl
                      refine lv_iload_n hx hb dX11_product_60 rfl (lv_at hl 1 rfl) ?_
                      refine b_if_eq hx hb zl_0 (tgt := 70) dX11_product_61 (by decide) (fun c_70 => ?_) (fun c_70 => by exfalso; omega)
                      refine lv_iload_n hx hb dX11_product_70 rfl (lv_at hl 0 rfl) ?_
                      refine b_if_ne hx hb rfl (tgt := 78) dX11_product_71 (by decide) (fun c_71 => ?_) (fun c_71 => ?_)
                      · refine lv_iload_n hx hb dX11_product_78 rfl (lv_at hl 2 rfl) ?_
                        refine lv_iload_n hx hb dX11_product_79 rfl (lv_at hl 0 rfl) ?_
                        refine lv_irem hx hb dX11_product_80 (k_ne0 (by omega)) ?_
                        refine lv_topi (fun v_72 ev_72 => ?_)
                        have lo_v_72 := k_lo v_72
                        have hi_v_72 := k_hi v_72
                        refine lv_istore_n (lv' := [(1, .int v_72), (3, .int r_61), (2, .int 0), (0, .ref k)]) hx hb dX11_product_81 rfl hl (by decide) rfl ?_
                        clear hl
                        intro ls hl
                        refine lv_goto (tgt := 5) hx hb dX11_product_82 (by decide) ?_
                        exact ih5 v_72 scd_63 scf_64 scg_65 (by first | omega | decide | assumption | rfl) (by first | omega | decide | assumption | rfl) (by first | omega | decide | assumption | rfl) (by first | omega | decide | assumption | rfl) (by omega) ls _ _ (lv_sub hl [0, 3] rfl) (hP.sub [0, 1] rfl) (hD.sub [0, 1] (by decide) rfl) hS
                      · refine lv_iconst (v := 0) hx hb dX11_product_74 (by decide) ?_
                        refine lv_goto (tgt := 81) hx hb dX11_product_75 (by decide) ?_
                        refine lv_istore_n (lv' := [(1, .int 0), (3, .int r_61), (2, .int 0), (0, .ref k)]) hx hb dX11_product_81 rfl hl (by decide) rfl ?_
                        clear hl
                        intro ls hl
                        refine lv_goto (tgt := 5) hx hb dX11_product_82 (by decide) ?_
                        exact ih5 0 scd_63 scf_64 scg_65 (by first | omega | (simp only [zl_0] <;> omega) | decide | assumption | rfl) (by first | omega | (simp only [zl_0] <;> omega) | decide | assumption | rfl) (by first | omega | (simp only [zl_0] <;> omega) | decide | assumption | rfl) (by first | omega | (simp only [zl_0] <;> omega) | decide | assumption | rfl) (by omega) ls _ _ (lv_sub hl [0, 3] rfl) (hP.sub [0, 1] rfl) (hD.sub [0, 1] (by decide) rfl) hS
                    · refine lv_iconst (v := 1) hx hb dX11_product_39 (by decide) ?_
                      refine lv_goto (tgt := 44) hx hb dX11_product_40 (by decide) ?_
                      refine lv_istore_n (lv' := [(2, .int 1), (1, .int l5_1), (0, .ref k)]) hx hb dX11_product_44 rfl hl (by decide) rfl ?_
                      clear hl
                      intro ls hl
                      refine lv_aload_n hx hb dX11_product_45 rfl (lv_at hl 2 rfl) ?_
                      refine lv_dup hx hb dX11_product_46 rfl ?_
                      refine va_get (D := D) (ci := 11) (v := .int f5_kd) (C := RX11) (T := TX11) (N := 25) hx hb hT giX11 hown hK hP 0 rfl rfl 13 (by decide) (hT (Cond.fieldLink RX11 138 "DesertWireModel" "here" "I") mw_1169) (fun _ h9 => h9) rfl dX11_product_47 ?_
                      refine lv_iconst (v := 1) hx hb dX11_product_50 (by decide) ?_
                      refine lv_iadd hx hb dX11_product_51 ?_
                      refine lv_topi (fun v_73 ev_73 => ?_)
                      have tv_73 : v_73.toInt = f5_kd.toInt + 1 := by rw [ev_73]; exact k_addv rfl zl_1 (by omega) (by omega)
                      refine va_put (D := D) (ci := 11) (v := .int v_73) (ty := .int) (C := RX11) (T := TX11) (N := 25) hx hb hT giX11 tyX11 tyX11_ok nmX11 hown hK hP hD hS 0 rfl rfl 13 (by decide) (hT (Cond.fieldLink RX11 138 "DesertWireModel" "here" "I") mw_1169) (fun _ h9 => h9) rfl (by decide +kernel) rfl rfl (Nat.le_of_ble_eq_true rfl) dX11_product_52 ?_
                      clear hP hD hS
                      intro H locs hP hD hS
                      replace hP : va_P D vwCl [(k, .inr (11, [.ref k0, .ref k1, .ref k2, .int c3, .ref k4, .ref k5, .ref k6, .ref k7, .ref k8, .int c9, .ref ka, .ref kb, .int cc, .int v_73, .int ce, .int f5_kf, .int f5_kg, .int ch, .int ci, .int cj, .int ck, .ref kl, .int cm, .int cn, .ref ko])), (k0, .inl (cI, 1201, .inl c0))] H := hP
                      replace hD : va_D A [(k, .inr (11, [.ref k0, .ref k1, .ref k2, .int c3, .ref k4, .ref k5, .ref k6, .ref k7, .ref k8, .int c9, .ref ka, .ref kb, .int cc, .int v_73, .int ce, .int f5_kf, .int f5_kg, .int ch, .int ci, .int cj, .int ck, .ref kl, .int cm, .int cn, .ref ko])), (k0, .inl (cI, 1201, .inl c0))] := hD
                      refine lv_aload_n hx hb dX11_product_55 rfl (lv_at hl 2 rfl) ?_
                      refine kJi (wr := []) (va_runV (As := []) (rest := []) ⟨hx, hb, hml, hown, hT⟩ (c_X11_oneG2 l D cI aK aV k k0 k1 k2 k4 k5 k6 k7 k8 ka kb kl ko H.size c3 c9 cc v_73 ce f5_kf f5_kg ch ci cj ck cm cn c0 (by first | omega | decide | assumption | rfl) (by first | omega | decide | assumption | rfl) (by first | omega | decide | assumption | rfl) (by first | omega | decide | assumption | rfl) (by first | omega | decide | assumption | rfl) (by first | omega | decide | assumption | rfl)) (cwV 0 hT (gV_in mw_1335 mw_1332 mw_1334 mw_p4_8 mw_12) rfl rfl rfl (by decide +kernel) ⟨Nat.le_of_ble_eq_true rfl, Nat.le_of_ble_eq_true rfl⟩) (kRecvX (q0 := 0) (ci := 11) hK hP hD hN hXS hS hA rfl rfl [0, 1] rfl (by decide)) rfl rfl hl.1 rfl (lv_room (Nat.le_of_ble_eq_true rfl)) dX11_product_56 ⟨Nat.le_of_ble_eq_true rfl, Nat.le_of_ble_eq_true rfl⟩) hP hD hS hA [0, 1] [] rfl rfl (by decide) (by decide) ?_
                      clear hP hD hS
                      intro r_74 u_79 H locs w_75 hP hD hS
                      obtain ⟨scd_76, scf_77, scg_78⟩ := u_79
                      replace hP : va_P D vwCl [(k, .inr (11, [.ref k0, .ref k1, .ref k2, .int c3, .ref k4, .ref k5, .ref k6, .ref k7, .ref k8, .int c9, .ref ka, .ref kb, .int cc, .int scd_76, .int ce, .int scf_77, .int scg_78, .int ch, .int ci, .int cj, .int ck, .ref kl, .int cm, .int cn, .ref ko])), (k0, .inl (cI, 1201, .inl c0))] H := hP
                      replace hD : va_D A [(k, .inr (11, [.ref k0, .ref k1, .ref k2, .int c3, .ref k4, .ref k5, .ref k6, .ref k7, .ref k8, .int c9, .ref ka, .ref kb, .int cc, .int scd_76, .int ce, .int scf_77, .int scg_78, .int ch, .int ci, .int cj, .int ck, .ref kl, .int cm, .int cn, .ref ko])), (k0, .inl (cI, 1201, .inl c0))] := hD
                      have lo_scd_76 := k_lo scd_76
                      have hi_scd_76 := k_hi scd_76
                      have lo_scg_78 := k_lo scg_78
                      have hi_scg_78 := k_hi scg_78
                      obtain ⟨h_80, h_81, h_82⟩ := w_75
                      have h_80 : v_73.toInt ≤ scd_76.toInt := h_80
                      have h_81 : scd_76.toInt ≤ ce.toInt := h_81
                      have h_82 : scg_78.toInt = 2 := h_82
                      have lo_r_74 := k_lo r_74
                      have hi_r_74 := k_hi r_74
                      refine lv_istore_n (lv' := [(3, .int r_74), (2, .int 1), (1, .int l5_1), (0, .ref k)]) hx hb dX11_product_59 rfl hl (by decide) rfl ?_
                      clear hl
                      intro ls hl
                      refine lv_iload_n hx hb dX11_product_60 rfl (lv_at hl 1 rfl) ?_
                      refine b_if_eq hx hb zl_1 (tgt := 70) dX11_product_61 (by decide) (fun c_83 => by exfalso; omega) (fun c_83 => ?_)
                      refine lv_iload_n hx hb dX11_product_64 rfl (lv_at hl 2 rfl) ?_
                      refine lv_iload_n hx hb dX11_product_65 rfl (lv_at hl 0 rfl) ?_
                      refine lv_imul hx hb dX11_product_66 ?_
                      refine lv_topi (fun v_84 ev_84 => ?_)
                      have lo_v_84 := k_lo v_84
                      have hi_v_84 := k_hi v_84
                      refine lv_goto (tgt := 81) hx hb dX11_product_67 (by decide) ?_
                      refine lv_istore_n (lv' := [(1, .int v_84), (3, .int r_74), (2, .int 1), (0, .ref k)]) hx hb dX11_product_81 rfl hl (by decide) rfl ?_
                      clear hl
                      intro ls hl
                      refine lv_goto (tgt := 5) hx hb dX11_product_82 (by decide) ?_
                      exact ih5 v_84 scd_76 scf_77 scg_78 (by first | omega | decide | assumption | rfl) (by first | omega | decide | assumption | rfl) (by first | omega | decide | assumption | rfl) (by first | omega | decide | assumption | rfl) (by omega) ls _ _ (lv_sub hl [0, 3] rfl) (hP.sub [0, 1] rfl) (hD.sub [0, 1] (by decide) rfl) hS
                  · exfalso; omega
              · exfalso; omega
          · have h_15 : f5_kd.toInt = ce.toInt := h_15
            obtain rfl : r_11 = (-1) := hr_11.trans (by decide)
            refine lv_bipush (v := 42) hx hb dX11_product_16 (by decide) ?_
            refine b_icmp_eq hx hb zl_m1 zl_42 (tgt := 30) dX11_product_18 (by decide) (fun c_85 => by exfalso; omega) (fun c_85 => ?_)
            refine lv_aload_n hx hb dX11_product_21 rfl (lv_at hl 1 rfl) ?_
            refine kJi (wr := []) (va_runV (As := []) (rest := []) ⟨hx, hb, hml, hown, hT⟩ (c_X11_nowG l D cI aK aV k k0 k1 k2 k4 k5 k6 k7 k8 ka kb kl ko H.size c3 c9 cc f5_kd ce f5_kf f5_kg ch ci cj ck cm cn c0 (by first | omega | decide | assumption | rfl) (by first | omega | decide | assumption | rfl) (by first | omega | decide | assumption | rfl) (by first | omega | decide | assumption | rfl) (by first | omega | decide | assumption | rfl)) (cwV 0 hT (gV_in mw_1339 mw_1336 mw_1338 mw_p4_9 mw_12) rfl rfl rfl (by decide +kernel) ⟨Nat.le_of_ble_eq_true rfl, Nat.le_of_ble_eq_true rfl⟩) (kRecvX (q0 := 0) (ci := 11) hK hP hD hN hXS hS hA rfl rfl [0, 1] rfl (by decide)) rfl rfl hl.1 rfl (lv_room (Nat.le_of_ble_eq_true rfl)) dX11_product_22 ⟨Nat.le_of_ble_eq_true rfl, Nat.le_of_ble_eq_true rfl⟩) hP hD hS hA [0, 1] [] rfl rfl (by decide) (by decide) ?_
            clear hP hD hS
            intro r_86 u_88 H locs w_87 hP hD hS
            replace hP : va_P D vwCl [(k, .inr (11, [.ref k0, .ref k1, .ref k2, .int c3, .ref k4, .ref k5, .ref k6, .ref k7, .ref k8, .int c9, .ref ka, .ref kb, .int cc, .int f5_kd, .int ce, .int f5_kf, .int f5_kg, .int ch, .int ci, .int cj, .int ck, .ref kl, .int cm, .int cn, .ref ko])), (k0, .inl (cI, 1201, .inl c0))] H := hP
            replace hD : va_D A [(k, .inr (11, [.ref k0, .ref k1, .ref k2, .int c3, .ref k4, .ref k5, .ref k6, .ref k7, .ref k8, .int c9, .ref ka, .ref kb, .int cc, .int f5_kd, .int ce, .int f5_kf, .int f5_kg, .int ch, .int ci, .int cj, .int ck, .ref kl, .int cm, .int cn, .ref ko])), (k0, .inl (cI, 1201, .inl c0))] := hD
            rcases w_87 with h_89 | ⟨hr_86, h_90⟩
            · exfalso; omega
            · have h_90 : f5_kd.toInt = ce.toInt := h_90
              obtain rfl : r_86 = (-1) := hr_86.trans (by decide)
              refine lv_bipush (v := 37) hx hb dX11_product_25 (by decide) ?_
              refine b_icmp_ne hx hb zl_m1 zl_37 (tgt := 85) dX11_product_27 (by decide) (fun c_91 => ?_) (fun c_91 => by exfalso; omega)
              refine lv_iload_n hx hb dX11_product_85 rfl (lv_at hl 0 rfl) ?_
              exact hRet (f5_kd, f5_kf, f5_kg) [0, 1] ⟨(by first | omega | decide | assumption | rfl | (dsimp only; first | omega)), (by first | omega | decide | assumption | rfl | (dsimp only; first | omega)), (by first | omega | decide | assumption | rfl | (dsimp only; first | omega))⟩ hP hD (by decide) rfl hS rfl dX11_product_86
  exact hloop_5 _ r_1 scd_3 scf_4 scg_5 (by first | omega | decide | assumption | rfl) (by first | omega | decide | assumption | rfl) (by first | omega | decide | assumption | rfl) (by first | omega | decide | assumption | rfl) (Nat.lt_succ_self _) ls _ _ (lv_sub hl [0, 1] rfl) hP hD hS

set_option maxHeartbeats 4000000 in
set_option maxRecDepth 100000 in
theorem c_X11_sumG2 (l : Launch) (D : va_G) (cI : ClassId) (aK aV : Nat → Nat) (k k0 k1 k2 k4 k5 k6 k7 k8 ka kb kl ko : Nat) (sz : Nat) (c3 : Int32) (c9 : Int32) (cc : Int32) (cd : Int32) (ce : Int32) (cf : Int32) (cg : Int32) (ch : Int32) (ci : Int32) (cj : Int32) (ck : Int32) (cm : Int32) (cn : Int32) (c0 : Nat → Int32) (pre0 : 0 ≤ cc.toInt) (pre1 : cc.toInt ≤ 1151) (pre2 : 0 ≤ cd.toInt) (pre3 : cd.toInt ≤ ce.toInt) (pre4 : ce.toInt ≤ 50) (pre5 : cg.toInt = 2) : Met l yX11_sum (gW yX11_sum cX11_sum 4 (some .int)) ({ frames := 15, cells := 0, slots := 0, locals := 340 } : Room) (kPreX D cI aK aV [.ref k] [(k, .inr (11, [.ref k0, .ref k1, .ref k2, .int c3, .ref k4, .ref k5, .ref k6, .ref k7, .ref k8, .int c9, .ref ka, .ref kb, .int cc, .int cd, .int ce, .int cf, .int cg, .int ch, .int ci, .int cj, .int ck, .ref kl, .int cm, .int cn, .ref ko])), (k0, .inl (cI, 1201, .inl c0))] sz) (va_Qi (fun (r : Int32) (u : Int32 × Int32 × Int32) => cd.toInt ≤ u.1.toInt ∧ u.1.toInt ≤ ce.toInt ∧ u.2.2.toInt = 2) (fun u t => kWd D cI (va_A [(k, .inr (11, [.ref k0, .ref k1, .ref k2, .int c3, .ref k4, .ref k5, .ref k6, .ref k7, .ref k8, .int c9, .ref ka, .ref kb, .int cc, .int cd, .int ce, .int cf, .int cg, .int ch, .int ci, .int cj, .int ck, .ref kl, .int cm, .int cn, .ref ko])), (k0, .inl (cI, 1201, .inl c0))] sz) [(k, .inr (11, [.ref k0, .ref k1, .ref k2, .int c3, .ref k4, .ref k5, .ref k6, .ref k7, .ref k8, .int c9, .ref ka, .ref kb, .int cc, .int u.1, .int ce, .int u.2.1, .int u.2.2, .int ch, .int ci, .int cj, .int ck, .ref kl, .int cm, .int cn, .ref ko])), (k0, .inl (cI, 1201, .inl c0))] t) (va_A [(k, .inr (11, [.ref k0, .ref k1, .ref k2, .int c3, .ref k4, .ref k5, .ref k6, .ref k7, .ref k8, .int c9, .ref ka, .ref kb, .int cc, .int cd, .int ce, .int cf, .int cg, .int ch, .int ci, .int cj, .int ck, .ref kl, .int cm, .int cn, .ref ko])), (k0, .inl (cI, 1201, .inl c0))] sz)) 0 0 (va_A [(k, .inr (11, [.ref k0, .ref k1, .ref k2, .int c3, .ref k4, .ref k5, .ref k6, .ref k7, .ref k8, .int c9, .ref ka, .ref kb, .int cc, .int cd, .int ce, .int cf, .int cg, .int ch, .int ci, .int cj, .int ck, .ref kl, .int cm, .int cn, .ref ko])), (k0, .inl (cI, 1201, .inl c0))] sz) := by
  refine kMetIX (own := RX11) (by decide) rfl (Nat.le_of_ble_eq_true rfl) ?_
  intro p e s m args below meth c hx hb hT hown hname hml A Q hK hP hD hS hA hN hXS hRet ls hl
  have hl : lv_has ls 4 [(0, .ref k)] := hl
  have lo_cd := k_lo cd
  have hi_cd := k_hi cd
  have lo_ce := k_lo ce
  have hi_ce := k_hi ce
  have lo_ci := k_lo ci
  have hi_ci := k_hi ci
  refine lv_aload_n hx hb dX11_sum_0 rfl (lv_at hl 0 rfl) ?_
  refine kJi (wr := []) (va_runV (As := []) (rest := []) ⟨hx, hb, hml, hown, hT⟩ (c_X11_productG2 l D cI aK aV k k0 k1 k2 k4 k5 k6 k7 k8 ka kb kl ko s.heap.size c3 c9 cc cd ce cf cg ch ci cj ck cm cn c0 (by first | omega | decide | assumption | rfl) (by first | omega | decide | assumption | rfl) (by first | omega | decide | assumption | rfl) (by first | omega | decide | assumption | rfl) (by first | omega | decide | assumption | rfl) (by first | omega | decide | assumption | rfl)) (cwV 0 hT (gV_in mw_1331 mw_1328 mw_1330 mw_p4_7 mw_12) rfl rfl rfl (by decide +kernel) ⟨Nat.le_of_ble_eq_true rfl, Nat.le_of_ble_eq_true rfl⟩) (kRecvX (q0 := 0) (ci := 11) hK hP hD hN hXS hS hA rfl rfl [0, 1] rfl (by decide)) rfl rfl hl.1 rfl (lv_room (Nat.le_of_ble_eq_true rfl)) dX11_sum_1 ⟨Nat.le_of_ble_eq_true rfl, Nat.le_of_ble_eq_true rfl⟩) hP hD hS hA [0, 1] [] rfl rfl (by decide) (by decide) ?_
  clear hP hD hS
  intro r_1 u_6 H locs w_2 hP hD hS
  obtain ⟨scd_3, scf_4, scg_5⟩ := u_6
  replace hP : va_P D vwCl [(k, .inr (11, [.ref k0, .ref k1, .ref k2, .int c3, .ref k4, .ref k5, .ref k6, .ref k7, .ref k8, .int c9, .ref ka, .ref kb, .int cc, .int scd_3, .int ce, .int scf_4, .int scg_5, .int ch, .int ci, .int cj, .int ck, .ref kl, .int cm, .int cn, .ref ko])), (k0, .inl (cI, 1201, .inl c0))] H := hP
  replace hD : va_D A [(k, .inr (11, [.ref k0, .ref k1, .ref k2, .int c3, .ref k4, .ref k5, .ref k6, .ref k7, .ref k8, .int c9, .ref ka, .ref kb, .int cc, .int scd_3, .int ce, .int scf_4, .int scg_5, .int ch, .int ci, .int cj, .int ck, .ref kl, .int cm, .int cn, .ref ko])), (k0, .inl (cI, 1201, .inl c0))] := hD
  have lo_scd_3 := k_lo scd_3
  have hi_scd_3 := k_hi scd_3
  have lo_scg_5 := k_lo scg_5
  have hi_scg_5 := k_hi scg_5
  obtain ⟨h_7, h_8, h_9⟩ := w_2
  have h_7 : cd.toInt ≤ scd_3.toInt := h_7
  have h_8 : scd_3.toInt ≤ ce.toInt := h_8
  have h_9 : scg_5.toInt = 2 := h_9
  have lo_r_1 := k_lo r_1
  have hi_r_1 := k_hi r_1
  refine lv_istore_n (lv' := [(1, .int r_1), (0, .ref k)]) hx hb dX11_sum_4 rfl hl (by decide) rfl ?_
  clear hl
  intro ls hl
  have hloop_5 : ∀ (fu_ : Nat) (l5_1 : Int32) (f5_kd : Int32) (f5_kf : Int32) (f5_kg : Int32), scd_3.toInt ≤ f5_kd.toInt → scg_5.toInt ≤ f5_kg.toInt → f5_kg.toInt ≤ scg_5.toInt → f5_kd.toInt ≤ ce.toInt → (ce.toInt - f5_kd.toInt).toNat < fu_ → ∀ (ls : Array Slot) (H : Heap) (locs : List Loc), lv_has ls 4 [(1, .int l5_1), (0, .ref k)] → va_P D vwCl [(k, .inr (11, [.ref k0, .ref k1, .ref k2, .int c3, .ref k4, .ref k5, .ref k6, .ref k7, .ref k8, .int c9, .ref ka, .ref kb, .int cc, .int f5_kd, .int ce, .int f5_kf, .int f5_kg, .int ch, .int ci, .int cj, .int ck, .ref kl, .int cm, .int cn, .ref ko])), (k0, .inl (cI, 1201, .inl c0))] H → va_D A [(k, .inr (11, [.ref k0, .ref k1, .ref k2, .int c3, .ref k4, .ref k5, .ref k6, .ref k7, .ref k8, .int c9, .ref ka, .ref kb, .int cc, .int f5_kd, .int ce, .int f5_kf, .int f5_kg, .int ch, .int ci, .int cj, .int ck, .ref kl, .int cm, .int cn, .ref ko])), (k0, .inl (cI, 1201, .inl c0))] → va_S A s.heap H locs → W p l e ({ frames := 15, cells := 0, slots := 0, locals := 340 } : Room) s m args below meth c H locs 0 0 Q (F0 m 5 ls []) := by
    intro fu_; induction fu_ with
    | zero => intro l5_1 f5_kd f5_kf f5_kg i5_0 i5_1 i5_2 i5_3 hm; exact absurd hm (by omega)
    | succ fu_ ih5 =>
        intro l5_1 f5_kd f5_kf f5_kg i5_0 i5_1 i5_2 i5_3 hm ls H locs hl hP hD hS
        have lo_l5_1 := k_lo l5_1
        have hi_l5_1 := k_hi l5_1
        have lo_f5_kd := k_lo f5_kd
        have hi_f5_kd := k_hi f5_kd
        have lo_f5_kf := k_lo f5_kf
        have hi_f5_kf := k_hi f5_kf
        have lo_f5_kg := k_lo f5_kg
        have hi_f5_kg := k_hi f5_kg
        refine lv_aload_n hx hb dX11_sum_5 rfl (lv_at hl 1 rfl) ?_
        refine va_get (D := D) (ci := 11) (v := .int f5_kf) (C := RX11) (T := TX11) (N := 25) hx hb hT giX11 hown hK hP 0 rfl rfl 15 (by decide) (hT (Cond.fieldLink RX11 148 "DesertWireModel" "isWrong" "Z") mw_1171) (fun _ h9 => h9) rfl dX11_sum_6 ?_
        refine b_if_ne hx hb rfl (tgt := 77) dX11_sum_9 (by decide) (fun c_10 => ?_) (fun c_10 => ?_)
        · refine lv_iload_n hx hb dX11_sum_77 rfl (lv_at hl 0 rfl) ?_
          exact hRet (f5_kd, f5_kf, f5_kg) [0, 1] ⟨(by first | omega | decide | assumption | rfl | (dsimp only; first | omega)), (by first | omega | decide | assumption | rfl | (dsimp only; first | omega)), (by first | omega | decide | assumption | rfl | (dsimp only; first | omega))⟩ hP hD (by decide) rfl hS rfl dX11_sum_78
        · refine lv_aload_n hx hb dX11_sum_12 rfl (lv_at hl 1 rfl) ?_
          refine kJi (wr := []) (va_runV (As := []) (rest := []) ⟨hx, hb, hml, hown, hT⟩ (c_X11_nowG l D cI aK aV k k0 k1 k2 k4 k5 k6 k7 k8 ka kb kl ko H.size c3 c9 cc f5_kd ce f5_kf f5_kg ch ci cj ck cm cn c0 (by first | omega | decide | assumption | rfl) (by first | omega | decide | assumption | rfl) (by first | omega | decide | assumption | rfl) (by first | omega | decide | assumption | rfl) (by first | omega | decide | assumption | rfl)) (cwV 0 hT (gV_in mw_1339 mw_1336 mw_1338 mw_p4_9 mw_12) rfl rfl rfl (by decide +kernel) ⟨Nat.le_of_ble_eq_true rfl, Nat.le_of_ble_eq_true rfl⟩) (kRecvX (q0 := 0) (ci := 11) hK hP hD hN hXS hS hA rfl rfl [0, 1] rfl (by decide)) rfl rfl hl.1 rfl (lv_room (Nat.le_of_ble_eq_true rfl)) dX11_sum_13 ⟨Nat.le_of_ble_eq_true rfl, Nat.le_of_ble_eq_true rfl⟩) hP hD hS hA [0, 1] [] rfl rfl (by decide) (by decide) ?_
          clear hP hD hS
          intro r_11 u_13 H locs w_12 hP hD hS
          replace hP : va_P D vwCl [(k, .inr (11, [.ref k0, .ref k1, .ref k2, .int c3, .ref k4, .ref k5, .ref k6, .ref k7, .ref k8, .int c9, .ref ka, .ref kb, .int cc, .int f5_kd, .int ce, .int f5_kf, .int f5_kg, .int ch, .int ci, .int cj, .int ck, .ref kl, .int cm, .int cn, .ref ko])), (k0, .inl (cI, 1201, .inl c0))] H := hP
          replace hD : va_D A [(k, .inr (11, [.ref k0, .ref k1, .ref k2, .int c3, .ref k4, .ref k5, .ref k6, .ref k7, .ref k8, .int c9, .ref ka, .ref kb, .int cc, .int f5_kd, .int ce, .int f5_kf, .int f5_kg, .int ch, .int ci, .int cj, .int ck, .ref kl, .int cm, .int cn, .ref ko])), (k0, .inl (cI, 1201, .inl c0))] := hD
          rcases w_12 with h_14 | ⟨hr_11, h_15⟩
          · have h_14 : f5_kd.toInt < ce.toInt := h_14
            have lo_r_11 := k_lo r_11
            have hi_r_11 := k_hi r_11
            refine lv_bipush (v := 43) hx hb dX11_sum_16 (by decide) ?_
            refine b_icmp_eq hx hb rfl zl_43 (tgt := 30) dX11_sum_18 (by decide) (fun c_16 => ?_) (fun c_16 => ?_)
            · refine lv_aload_n hx hb dX11_sum_30 rfl (lv_at hl 1 rfl) ?_
              refine kJi (wr := []) (va_runV (As := []) (rest := []) ⟨hx, hb, hml, hown, hT⟩ (c_X11_nowG l D cI aK aV k k0 k1 k2 k4 k5 k6 k7 k8 ka kb kl ko H.size c3 c9 cc f5_kd ce f5_kf f5_kg ch ci cj ck cm cn c0 (by first | omega | decide | assumption | rfl) (by first | omega | decide | assumption | rfl) (by first | omega | decide | assumption | rfl) (by first | omega | decide | assumption | rfl) (by first | omega | decide | assumption | rfl)) (cwV 0 hT (gV_in mw_1339 mw_1336 mw_1338 mw_p4_9 mw_12) rfl rfl rfl (by decide +kernel) ⟨Nat.le_of_ble_eq_true rfl, Nat.le_of_ble_eq_true rfl⟩) (kRecvX (q0 := 0) (ci := 11) hK hP hD hN hXS hS hA rfl rfl [0, 1] rfl (by decide)) rfl rfl hl.1 rfl (lv_room (Nat.le_of_ble_eq_true rfl)) dX11_sum_31 ⟨Nat.le_of_ble_eq_true rfl, Nat.le_of_ble_eq_true rfl⟩) hP hD hS hA [0, 1] [] rfl rfl (by decide) (by decide) ?_
              clear hP hD hS
              intro r_17 u_19 H locs w_18 hP hD hS
              replace hP : va_P D vwCl [(k, .inr (11, [.ref k0, .ref k1, .ref k2, .int c3, .ref k4, .ref k5, .ref k6, .ref k7, .ref k8, .int c9, .ref ka, .ref kb, .int cc, .int f5_kd, .int ce, .int f5_kf, .int f5_kg, .int ch, .int ci, .int cj, .int ck, .ref kl, .int cm, .int cn, .ref ko])), (k0, .inl (cI, 1201, .inl c0))] H := hP
              replace hD : va_D A [(k, .inr (11, [.ref k0, .ref k1, .ref k2, .int c3, .ref k4, .ref k5, .ref k6, .ref k7, .ref k8, .int c9, .ref ka, .ref kb, .int cc, .int f5_kd, .int ce, .int f5_kf, .int f5_kg, .int ch, .int ci, .int cj, .int ck, .ref kl, .int cm, .int cn, .ref ko])), (k0, .inl (cI, 1201, .inl c0))] := hD
              rcases w_18 with h_20 | ⟨hr_17, h_21⟩
              · have h_20 : f5_kd.toInt < ce.toInt := h_20
                have lo_r_17 := k_lo r_17
                have hi_r_17 := k_hi r_17
                refine lv_bipush (v := 43) hx hb dX11_sum_34 (by decide) ?_
                refine b_icmp_ne hx hb rfl zl_43 (tgt := 43) dX11_sum_36 (by decide) (fun c_22 => ?_) (fun c_22 => ?_)
                · refine lv_iconst (v := 0) hx hb dX11_sum_43 (by decide) ?_
                  refine lv_istore_n (lv' := [(2, .int 0), (1, .int l5_1), (0, .ref k)]) hx hb dX11_sum_44 rfl hl (by decide) rfl ?_
                  clear hl
                  intro ls hl
                  refine lv_aload_n hx hb dX11_sum_45 rfl (lv_at hl 2 rfl) ?_
                  refine lv_dup hx hb dX11_sum_46 rfl ?_
                  refine va_get (D := D) (ci := 11) (v := .int f5_kd) (C := RX11) (T := TX11) (N := 25) hx hb hT giX11 hown hK hP 0 rfl rfl 13 (by decide) (hT (Cond.fieldLink RX11 138 "DesertWireModel" "here" "I") mw_1169) (fun _ h9 => h9) rfl dX11_sum_47 ?_
                  refine lv_iconst (v := 1) hx hb dX11_sum_50 (by decide) ?_
                  refine lv_iadd hx hb dX11_sum_51 ?_
                  refine lv_topi (fun v_23 ev_23 => ?_)
                  have tv_23 : v_23.toInt = f5_kd.toInt + 1 := by rw [ev_23]; exact k_addv rfl zl_1 (by omega) (by omega)
                  refine va_put (D := D) (ci := 11) (v := .int v_23) (ty := .int) (C := RX11) (T := TX11) (N := 25) hx hb hT giX11 tyX11 tyX11_ok nmX11 hown hK hP hD hS 0 rfl rfl 13 (by decide) (hT (Cond.fieldLink RX11 138 "DesertWireModel" "here" "I") mw_1169) (fun _ h9 => h9) rfl (by decide +kernel) rfl rfl (Nat.le_of_ble_eq_true rfl) dX11_sum_52 ?_
                  clear hP hD hS
                  intro H locs hP hD hS
                  replace hP : va_P D vwCl [(k, .inr (11, [.ref k0, .ref k1, .ref k2, .int c3, .ref k4, .ref k5, .ref k6, .ref k7, .ref k8, .int c9, .ref ka, .ref kb, .int cc, .int v_23, .int ce, .int f5_kf, .int f5_kg, .int ch, .int ci, .int cj, .int ck, .ref kl, .int cm, .int cn, .ref ko])), (k0, .inl (cI, 1201, .inl c0))] H := hP
                  replace hD : va_D A [(k, .inr (11, [.ref k0, .ref k1, .ref k2, .int c3, .ref k4, .ref k5, .ref k6, .ref k7, .ref k8, .int c9, .ref ka, .ref kb, .int cc, .int v_23, .int ce, .int f5_kf, .int f5_kg, .int ch, .int ci, .int cj, .int ck, .ref kl, .int cm, .int cn, .ref ko])), (k0, .inl (cI, 1201, .inl c0))] := hD
                  refine lv_aload_n hx hb dX11_sum_55 rfl (lv_at hl 2 rfl) ?_
                  refine kJi (wr := []) (va_runV (As := []) (rest := []) ⟨hx, hb, hml, hown, hT⟩ (c_X11_productG2 l D cI aK aV k k0 k1 k2 k4 k5 k6 k7 k8 ka kb kl ko H.size c3 c9 cc v_23 ce f5_kf f5_kg ch ci cj ck cm cn c0 (by first | omega | decide | assumption | rfl) (by first | omega | decide | assumption | rfl) (by first | omega | decide | assumption | rfl) (by first | omega | decide | assumption | rfl) (by first | omega | decide | assumption | rfl) (by first | omega | decide | assumption | rfl)) (cwV 0 hT (gV_in mw_1331 mw_1328 mw_1330 mw_p4_7 mw_12) rfl rfl rfl (by decide +kernel) ⟨Nat.le_of_ble_eq_true rfl, Nat.le_of_ble_eq_true rfl⟩) (kRecvX (q0 := 0) (ci := 11) hK hP hD hN hXS hS hA rfl rfl [0, 1] rfl (by decide)) rfl rfl hl.1 rfl (lv_room (Nat.le_of_ble_eq_true rfl)) dX11_sum_56 ⟨Nat.le_of_ble_eq_true rfl, Nat.le_of_ble_eq_true rfl⟩) hP hD hS hA [0, 1] [] rfl rfl (by decide) (by decide) ?_
                  clear hP hD hS
                  intro r_24 u_29 H locs w_25 hP hD hS
                  obtain ⟨scd_26, scf_27, scg_28⟩ := u_29
                  replace hP : va_P D vwCl [(k, .inr (11, [.ref k0, .ref k1, .ref k2, .int c3, .ref k4, .ref k5, .ref k6, .ref k7, .ref k8, .int c9, .ref ka, .ref kb, .int cc, .int scd_26, .int ce, .int scf_27, .int scg_28, .int ch, .int ci, .int cj, .int ck, .ref kl, .int cm, .int cn, .ref ko])), (k0, .inl (cI, 1201, .inl c0))] H := hP
                  replace hD : va_D A [(k, .inr (11, [.ref k0, .ref k1, .ref k2, .int c3, .ref k4, .ref k5, .ref k6, .ref k7, .ref k8, .int c9, .ref ka, .ref kb, .int cc, .int scd_26, .int ce, .int scf_27, .int scg_28, .int ch, .int ci, .int cj, .int ck, .ref kl, .int cm, .int cn, .ref ko])), (k0, .inl (cI, 1201, .inl c0))] := hD
                  have lo_scd_26 := k_lo scd_26
                  have hi_scd_26 := k_hi scd_26
                  have lo_scg_28 := k_lo scg_28
                  have hi_scg_28 := k_hi scg_28
                  obtain ⟨h_30, h_31, h_32⟩ := w_25
                  have h_30 : v_23.toInt ≤ scd_26.toInt := h_30
                  have h_31 : scd_26.toInt ≤ ce.toInt := h_31
                  have h_32 : scg_28.toInt = 2 := h_32
                  have lo_r_24 := k_lo r_24
                  have hi_r_24 := k_hi r_24
                  refine lv_istore_n (lv' := [(3, .int r_24), (2, .int 0), (1, .int l5_1), (0, .ref k)]) hx hb dX11_sum_59 rfl hl (by decide) rfl ?_
                  clear hl
                  intro ls hl
                  refine lv_iload_n hx hb dX11_sum_60 rfl (lv_at hl 1 rfl) ?_
                  refine b_if_eq hx hb zl_0 (tgt := 70) dX11_sum_61 (by decide) (fun c_33 => ?_) (fun c_33 => by exfalso; omega)
                  refine lv_iload_n hx hb dX11_sum_70 rfl (lv_at hl 2 rfl) ?_
                  refine lv_iload_n hx hb dX11_sum_71 rfl (lv_at hl 0 rfl) ?_
                  refine lv_isub hx hb dX11_sum_72 ?_
                  refine lv_topi (fun v_34 ev_34 => ?_)
                  have lo_v_34 := k_lo v_34
                  have hi_v_34 := k_hi v_34
                  refine lv_istore_n (lv' := [(1, .int v_34), (3, .int r_24), (2, .int 0), (0, .ref k)]) hx hb dX11_sum_73 rfl hl (by decide) rfl ?_
                  clear hl
                  intro ls hl
                  refine lv_goto (tgt := 5) hx hb dX11_sum_74 (by decide) ?_
                  exact ih5 v_34 scd_26 scf_27 scg_28 (by first | omega | decide | assumption | rfl) (by first | omega | decide | assumption | rfl) (by first | omega | decide | assumption | rfl) (by first | omega | decide | assumption | rfl) (by omega) ls _ _ (lv_sub hl [0, 3] rfl) (hP.sub [0, 1] rfl) (hD.sub [0, 1] (by decide) rfl) hS
                · refine lv_iconst (v := 1) hx hb dX11_sum_39 (by decide) ?_
                  refine lv_goto (tgt := 44) hx hb dX11_sum_40 (by decide) ?_
                  refine lv_istore_n (lv' := [(2, .int 1), (1, .int l5_1), (0, .ref k)]) hx hb dX11_sum_44 rfl hl (by decide) rfl ?_
                  clear hl
                  intro ls hl
                  refine lv_aload_n hx hb dX11_sum_45 rfl (lv_at hl 2 rfl) ?_
                  refine lv_dup hx hb dX11_sum_46 rfl ?_
                  refine va_get (D := D) (ci := 11) (v := .int f5_kd) (C := RX11) (T := TX11) (N := 25) hx hb hT giX11 hown hK hP 0 rfl rfl 13 (by decide) (hT (Cond.fieldLink RX11 138 "DesertWireModel" "here" "I") mw_1169) (fun _ h9 => h9) rfl dX11_sum_47 ?_
                  refine lv_iconst (v := 1) hx hb dX11_sum_50 (by decide) ?_
                  refine lv_iadd hx hb dX11_sum_51 ?_
                  refine lv_topi (fun v_35 ev_35 => ?_)
                  have tv_35 : v_35.toInt = f5_kd.toInt + 1 := by rw [ev_35]; exact k_addv rfl zl_1 (by omega) (by omega)
                  refine va_put (D := D) (ci := 11) (v := .int v_35) (ty := .int) (C := RX11) (T := TX11) (N := 25) hx hb hT giX11 tyX11 tyX11_ok nmX11 hown hK hP hD hS 0 rfl rfl 13 (by decide) (hT (Cond.fieldLink RX11 138 "DesertWireModel" "here" "I") mw_1169) (fun _ h9 => h9) rfl (by decide +kernel) rfl rfl (Nat.le_of_ble_eq_true rfl) dX11_sum_52 ?_
                  clear hP hD hS
                  intro H locs hP hD hS
                  replace hP : va_P D vwCl [(k, .inr (11, [.ref k0, .ref k1, .ref k2, .int c3, .ref k4, .ref k5, .ref k6, .ref k7, .ref k8, .int c9, .ref ka, .ref kb, .int cc, .int v_35, .int ce, .int f5_kf, .int f5_kg, .int ch, .int ci, .int cj, .int ck, .ref kl, .int cm, .int cn, .ref ko])), (k0, .inl (cI, 1201, .inl c0))] H := hP
                  replace hD : va_D A [(k, .inr (11, [.ref k0, .ref k1, .ref k2, .int c3, .ref k4, .ref k5, .ref k6, .ref k7, .ref k8, .int c9, .ref ka, .ref kb, .int cc, .int v_35, .int ce, .int f5_kf, .int f5_kg, .int ch, .int ci, .int cj, .int ck, .ref kl, .int cm, .int cn, .ref ko])), (k0, .inl (cI, 1201, .inl c0))] := hD
                  refine lv_aload_n hx hb dX11_sum_55 rfl (lv_at hl 2 rfl) ?_
                  refine kJi (wr := []) (va_runV (As := []) (rest := []) ⟨hx, hb, hml, hown, hT⟩ (c_X11_productG2 l D cI aK aV k k0 k1 k2 k4 k5 k6 k7 k8 ka kb kl ko H.size c3 c9 cc v_35 ce f5_kf f5_kg ch ci cj ck cm cn c0 (by first | omega | decide | assumption | rfl) (by first | omega | decide | assumption | rfl) (by first | omega | decide | assumption | rfl) (by first | omega | decide | assumption | rfl) (by first | omega | decide | assumption | rfl) (by first | omega | decide | assumption | rfl)) (cwV 0 hT (gV_in mw_1331 mw_1328 mw_1330 mw_p4_7 mw_12) rfl rfl rfl (by decide +kernel) ⟨Nat.le_of_ble_eq_true rfl, Nat.le_of_ble_eq_true rfl⟩) (kRecvX (q0 := 0) (ci := 11) hK hP hD hN hXS hS hA rfl rfl [0, 1] rfl (by decide)) rfl rfl hl.1 rfl (lv_room (Nat.le_of_ble_eq_true rfl)) dX11_sum_56 ⟨Nat.le_of_ble_eq_true rfl, Nat.le_of_ble_eq_true rfl⟩) hP hD hS hA [0, 1] [] rfl rfl (by decide) (by decide) ?_
                  clear hP hD hS
                  intro r_36 u_41 H locs w_37 hP hD hS
                  obtain ⟨scd_38, scf_39, scg_40⟩ := u_41
                  replace hP : va_P D vwCl [(k, .inr (11, [.ref k0, .ref k1, .ref k2, .int c3, .ref k4, .ref k5, .ref k6, .ref k7, .ref k8, .int c9, .ref ka, .ref kb, .int cc, .int scd_38, .int ce, .int scf_39, .int scg_40, .int ch, .int ci, .int cj, .int ck, .ref kl, .int cm, .int cn, .ref ko])), (k0, .inl (cI, 1201, .inl c0))] H := hP
                  replace hD : va_D A [(k, .inr (11, [.ref k0, .ref k1, .ref k2, .int c3, .ref k4, .ref k5, .ref k6, .ref k7, .ref k8, .int c9, .ref ka, .ref kb, .int cc, .int scd_38, .int ce, .int scf_39, .int scg_40, .int ch, .int ci, .int cj, .int ck, .ref kl, .int cm, .int cn, .ref ko])), (k0, .inl (cI, 1201, .inl c0))] := hD
                  have lo_scd_38 := k_lo scd_38
                  have hi_scd_38 := k_hi scd_38
                  have lo_scg_40 := k_lo scg_40
                  have hi_scg_40 := k_hi scg_40
                  obtain ⟨h_42, h_43, h_44⟩ := w_37
                  have h_42 : v_35.toInt ≤ scd_38.toInt := h_42
                  have h_43 : scd_38.toInt ≤ ce.toInt := h_43
                  have h_44 : scg_40.toInt = 2 := h_44
                  have lo_r_36 := k_lo r_36
                  have hi_r_36 := k_hi r_36
                  refine lv_istore_n (lv' := [(3, .int r_36), (2, .int 1), (1, .int l5_1), (0, .ref k)]) hx hb dX11_sum_59 rfl hl (by decide) rfl ?_
                  clear hl
                  intro ls hl
                  refine lv_iload_n hx hb dX11_sum_60 rfl (lv_at hl 1 rfl) ?_
                  refine b_if_eq hx hb zl_1 (tgt := 70) dX11_sum_61 (by decide) (fun c_45 => by exfalso; omega) (fun c_45 => ?_)
                  refine lv_iload_n hx hb dX11_sum_64 rfl (lv_at hl 2 rfl) ?_
                  refine lv_iload_n hx hb dX11_sum_65 rfl (lv_at hl 0 rfl) ?_
                  refine lv_iadd hx hb dX11_sum_66 ?_
                  refine lv_topi (fun v_46 ev_46 => ?_)
                  have lo_v_46 := k_lo v_46
                  have hi_v_46 := k_hi v_46
                  refine lv_goto (tgt := 73) hx hb dX11_sum_67 (by decide) ?_
                  refine lv_istore_n (lv' := [(1, .int v_46), (3, .int r_36), (2, .int 1), (0, .ref k)]) hx hb dX11_sum_73 rfl hl (by decide) rfl ?_
                  clear hl
                  intro ls hl
                  refine lv_goto (tgt := 5) hx hb dX11_sum_74 (by decide) ?_
                  exact ih5 v_46 scd_38 scf_39 scg_40 (by first | omega | decide | assumption | rfl) (by first | omega | decide | assumption | rfl) (by first | omega | decide | assumption | rfl) (by first | omega | decide | assumption | rfl) (by omega) ls _ _ (lv_sub hl [0, 3] rfl) (hP.sub [0, 1] rfl) (hD.sub [0, 1] (by decide) rfl) hS
              · exfalso; omega
            · refine lv_aload_n hx hb dX11_sum_21 rfl (lv_at hl 1 rfl) ?_
              refine kJi (wr := []) (va_runV (As := []) (rest := []) ⟨hx, hb, hml, hown, hT⟩ (c_X11_nowG l D cI aK aV k k0 k1 k2 k4 k5 k6 k7 k8 ka kb kl ko H.size c3 c9 cc f5_kd ce f5_kf f5_kg ch ci cj ck cm cn c0 (by first | omega | decide | assumption | rfl) (by first | omega | decide | assumption | rfl) (by first | omega | decide | assumption | rfl) (by first | omega | decide | assumption | rfl) (by first | omega | decide | assumption | rfl)) (cwV 0 hT (gV_in mw_1339 mw_1336 mw_1338 mw_p4_9 mw_12) rfl rfl rfl (by decide +kernel) ⟨Nat.le_of_ble_eq_true rfl, Nat.le_of_ble_eq_true rfl⟩) (kRecvX (q0 := 0) (ci := 11) hK hP hD hN hXS hS hA rfl rfl [0, 1] rfl (by decide)) rfl rfl hl.1 rfl (lv_room (Nat.le_of_ble_eq_true rfl)) dX11_sum_22 ⟨Nat.le_of_ble_eq_true rfl, Nat.le_of_ble_eq_true rfl⟩) hP hD hS hA [0, 1] [] rfl rfl (by decide) (by decide) ?_
              clear hP hD hS
              intro r_47 u_49 H locs w_48 hP hD hS
              replace hP : va_P D vwCl [(k, .inr (11, [.ref k0, .ref k1, .ref k2, .int c3, .ref k4, .ref k5, .ref k6, .ref k7, .ref k8, .int c9, .ref ka, .ref kb, .int cc, .int f5_kd, .int ce, .int f5_kf, .int f5_kg, .int ch, .int ci, .int cj, .int ck, .ref kl, .int cm, .int cn, .ref ko])), (k0, .inl (cI, 1201, .inl c0))] H := hP
              replace hD : va_D A [(k, .inr (11, [.ref k0, .ref k1, .ref k2, .int c3, .ref k4, .ref k5, .ref k6, .ref k7, .ref k8, .int c9, .ref ka, .ref kb, .int cc, .int f5_kd, .int ce, .int f5_kf, .int f5_kg, .int ch, .int ci, .int cj, .int ck, .ref kl, .int cm, .int cn, .ref ko])), (k0, .inl (cI, 1201, .inl c0))] := hD
              rcases w_48 with h_50 | ⟨hr_47, h_51⟩
              · have h_50 : f5_kd.toInt < ce.toInt := h_50
                have lo_r_47 := k_lo r_47
                have hi_r_47 := k_hi r_47
                refine lv_bipush (v := 45) hx hb dX11_sum_25 (by decide) ?_
                refine b_icmp_ne hx hb rfl zl_45 (tgt := 77) dX11_sum_27 (by decide) (fun c_52 => ?_) (fun c_52 => ?_)
                · refine lv_iload_n hx hb dX11_sum_77 rfl (lv_at hl 0 rfl) ?_
                  exact hRet (f5_kd, f5_kf, f5_kg) [0, 1] ⟨(by first | omega | decide | assumption | rfl | (dsimp only; first | omega)), (by first | omega | decide | assumption | rfl | (dsimp only; first | omega)), (by first | omega | decide | assumption | rfl | (dsimp only; first | omega))⟩ hP hD (by decide) rfl hS rfl dX11_sum_78
                · refine lv_aload_n hx hb dX11_sum_30 rfl (lv_at hl 1 rfl) ?_
                  refine kJi (wr := []) (va_runV (As := []) (rest := []) ⟨hx, hb, hml, hown, hT⟩ (c_X11_nowG l D cI aK aV k k0 k1 k2 k4 k5 k6 k7 k8 ka kb kl ko H.size c3 c9 cc f5_kd ce f5_kf f5_kg ch ci cj ck cm cn c0 (by first | omega | decide | assumption | rfl) (by first | omega | decide | assumption | rfl) (by first | omega | decide | assumption | rfl) (by first | omega | decide | assumption | rfl) (by first | omega | decide | assumption | rfl)) (cwV 0 hT (gV_in mw_1339 mw_1336 mw_1338 mw_p4_9 mw_12) rfl rfl rfl (by decide +kernel) ⟨Nat.le_of_ble_eq_true rfl, Nat.le_of_ble_eq_true rfl⟩) (kRecvX (q0 := 0) (ci := 11) hK hP hD hN hXS hS hA rfl rfl [0, 1] rfl (by decide)) rfl rfl hl.1 rfl (lv_room (Nat.le_of_ble_eq_true rfl)) dX11_sum_31 ⟨Nat.le_of_ble_eq_true rfl, Nat.le_of_ble_eq_true rfl⟩) hP hD hS hA [0, 1] [] rfl rfl (by decide) (by decide) ?_
                  clear hP hD hS
                  intro r_53 u_55 H locs w_54 hP hD hS
                  replace hP : va_P D vwCl [(k, .inr (11, [.ref k0, .ref k1, .ref k2, .int c3, .ref k4, .ref k5, .ref k6, .ref k7, .ref k8, .int c9, .ref ka, .ref kb, .int cc, .int f5_kd, .int ce, .int f5_kf, .int f5_kg, .int ch, .int ci, .int cj, .int ck, .ref kl, .int cm, .int cn, .ref ko])), (k0, .inl (cI, 1201, .inl c0))] H := hP
                  replace hD : va_D A [(k, .inr (11, [.ref k0, .ref k1, .ref k2, .int c3, .ref k4, .ref k5, .ref k6, .ref k7, .ref k8, .int c9, .ref ka, .ref kb, .int cc, .int f5_kd, .int ce, .int f5_kf, .int f5_kg, .int ch, .int ci, .int cj, .int ck, .ref kl, .int cm, .int cn, .ref ko])), (k0, .inl (cI, 1201, .inl c0))] := hD
                  rcases w_54 with h_56 | ⟨hr_53, h_57⟩
                  · have h_56 : f5_kd.toInt < ce.toInt := h_56
                    have lo_r_53 := k_lo r_53
                    have hi_r_53 := k_hi r_53
                    refine lv_bipush (v := 43) hx hb dX11_sum_34 (by decide) ?_
                    refine b_icmp_ne hx hb rfl zl_43 (tgt := 43) dX11_sum_36 (by decide) (fun c_58 => ?_) (fun c_58 => ?_)
                    · refine lv_iconst (v := 0) hx hb dX11_sum_43 (by decide) ?_
                      refine lv_istore_n (lv' := [(2, .int 0), (1, .int l5_1), (0, .ref k)]) hx hb dX11_sum_44 rfl hl (by decide) rfl ?_
                      clear hl
                      intro ls hl
                      refine lv_aload_n hx hb dX11_sum_45 rfl (lv_at hl 2 rfl) ?_
                      refine lv_dup hx hb dX11_sum_46 rfl ?_
                      refine va_get (D := D) (ci := 11) (v := .int f5_kd) (C := RX11) (T := TX11) (N := 25) hx hb hT giX11 hown hK hP 0 rfl rfl 13 (by decide) (hT (Cond.fieldLink RX11 138 "DesertWireModel" "here" "I") mw_1169) (fun _ h9 => h9) rfl dX11_sum_47 ?_
                      refine lv_iconst (v := 1) hx hb dX11_sum_50 (by decide) ?_
                      refine lv_iadd hx hb dX11_sum_51 ?_
                      refine lv_topi (fun v_59 ev_59 => ?_)
                      have tv_59 : v_59.toInt = f5_kd.toInt + 1 := by rw [ev_59]; exact k_addv rfl zl_1 (by omega) (by omega)
                      refine va_put (D := D) (ci := 11) (v := .int v_59) (ty := .int) (C := RX11) (T := TX11) (N := 25) hx hb hT giX11 tyX11 tyX11_ok nmX11 hown hK hP hD hS 0 rfl rfl 13 (by decide) (hT (Cond.fieldLink RX11 138 "DesertWireModel" "here" "I") mw_1169) (fun _ h9 => h9) rfl (by decide +kernel) rfl rfl (Nat.le_of_ble_eq_true rfl) dX11_sum_52 ?_
                      clear hP hD hS
                      intro H locs hP hD hS
                      replace hP : va_P D vwCl [(k, .inr (11, [.ref k0, .ref k1, .ref k2, .int c3, .ref k4, .ref k5, .ref k6, .ref k7, .ref k8, .int c9, .ref ka, .ref kb, .int cc, .int v_59, .int ce, .int f5_kf, .int f5_kg, .int ch, .int ci, .int cj, .int ck, .ref kl, .int cm, .int cn, .ref ko])), (k0, .inl (cI, 1201, .inl c0))] H := hP
                      replace hD : va_D A [(k, .inr (11, [.ref k0, .ref k1, .ref k2, .int c3, .ref k4, .ref k5, .ref k6, .ref k7, .ref k8, .int c9, .ref ka, .ref kb, .int cc, .int v_59, .int ce, .int f5_kf, .int f5_kg, .int ch, .int ci, .int cj, .int ck, .ref kl, .int cm, .int cn, .ref ko])), (k0, .inl (cI, 1201, .inl c0))] := hD
                      refine lv_aload_n hx hb dX11_sum_55 rfl (lv_at hl 2 rfl) ?_
                      refine kJi (wr := []) (va_runV (As := []) (rest := []) ⟨hx, hb, hml, hown, hT⟩ (c_X11_productG2 l D cI aK aV k k0 k1 k2 k4 k5 k6 k7 k8 ka kb kl ko H.size c3 c9 cc v_59 ce f5_kf f5_kg ch ci cj ck cm cn c0 (by first | omega | decide | assumption | rfl) (by first | omega | decide | assumption | rfl) (by first | omega | decide | assumption | rfl) (by first | omega | decide | assumption | rfl) (by first | omega | decide | assumption | rfl) (by first | omega | decide | assumption | rfl)) (cwV 0 hT (gV_in mw_1331 mw_1328 mw_1330 mw_p4_7 mw_12) rfl rfl rfl (by decide +kernel) ⟨Nat.le_of_ble_eq_true rfl, Nat.le_of_ble_eq_true rfl⟩) (kRecvX (q0 := 0) (ci := 11) hK hP hD hN hXS hS hA rfl rfl [0, 1] rfl (by decide)) rfl rfl hl.1 rfl (lv_room (Nat.le_of_ble_eq_true rfl)) dX11_sum_56 ⟨Nat.le_of_ble_eq_true rfl, Nat.le_of_ble_eq_true rfl⟩) hP hD hS hA [0, 1] [] rfl rfl (by decide) (by decide) ?_
                      clear hP hD hS
                      intro r_60 u_65 H locs w_61 hP hD hS
                      obtain ⟨scd_62, scf_63, scg_64⟩ := u_65
                      replace hP : va_P D vwCl [(k, .inr (11, [.ref k0, .ref k1, .ref k2, .int c3, .ref k4, .ref k5, .ref k6, .ref k7, .ref k8, .int c9, .ref ka, .ref kb, .int cc, .int scd_62, .int ce, .int scf_63, .int scg_64, .int ch, .int ci, .int cj, .int ck, .ref kl, .int cm, .int cn, .ref ko])), (k0, .inl (cI, 1201, .inl c0))] H := hP
                      replace hD : va_D A [(k, .inr (11, [.ref k0, .ref k1, .ref k2, .int c3, .ref k4, .ref k5, .ref k6, .ref k7, .ref k8, .int c9, .ref ka, .ref kb, .int cc, .int scd_62, .int ce, .int scf_63, .int scg_64, .int ch, .int ci, .int cj, .int ck, .ref kl, .int cm, .int cn, .ref ko])), (k0, .inl (cI, 1201, .inl c0))] := hD
                      have lo_scd_62 := k_lo scd_62
                      have hi_scd_62 := k_hi scd_62
                      have lo_scg_64 := k_lo scg_64
                      have hi_scg_64 := k_hi scg_64
                      obtain ⟨h_66, h_67, h_68⟩ := w_61
                      have h_66 : v_59.toInt ≤ scd_62.toInt := h_66
                      have h_67 : scd_62.toInt ≤ ce.toInt := h_67
                      have h_68 : scg_64.toInt = 2 := h_68
                      have lo_r_60 := k_lo r_60
                      have hi_r_60 := k_hi r_60
                      refine lv_istore_n (lv' := [(3, .int r_60), (2, .int 0), (1, .int l5_1), (0, .ref k)]) hx hb dX11_sum_59 rfl hl (by decide) rfl ?_
                      clear hl
                      intro ls hl
                      refine lv_iload_n hx hb dX11_sum_60 rfl (lv_at hl 1 rfl) ?_
                      refine b_if_eq hx hb zl_0 (tgt := 70) dX11_sum_61 (by decide) (fun c_69 => ?_) (fun c_69 => by exfalso; omega)
                      refine lv_iload_n hx hb dX11_sum_70 rfl (lv_at hl 2 rfl) ?_
                      refine lv_iload_n hx hb dX11_sum_71 rfl (lv_at hl 0 rfl) ?_
                      refine lv_isub hx hb dX11_sum_72 ?_
                      refine lv_topi (fun v_70 ev_70 => ?_)
                      have lo_v_70 := k_lo v_70
                      have hi_v_70 := k_hi v_70
                      refine lv_istore_n (lv' := [(1, .int v_70), (3, .int r_60), (2, .int 0), (0, .ref k)]) hx hb dX11_sum_73 rfl hl (by decide) rfl ?_
                      clear hl
                      intro ls hl
                      refine lv_goto (tgt := 5) hx hb dX11_sum_74 (by decide) ?_
                      exact ih5 v_70 scd_62 scf_63 scg_64 (by first | omega | decide | assumption | rfl) (by first | omega | decide | assumption | rfl) (by first | omega | decide | assumption | rfl) (by first | omega | decide | assumption | rfl) (by omega) ls _ _ (lv_sub hl [0, 3] rfl) (hP.sub [0, 1] rfl) (hD.sub [0, 1] (by decide) rfl) hS
                    · refine lv_iconst (v := 1) hx hb dX11_sum_39 (by decide) ?_
                      refine lv_goto (tgt := 44) hx hb dX11_sum_40 (by decide) ?_
                      refine lv_istore_n (lv' := [(2, .int 1), (1, .int l5_1), (0, .ref k)]) hx hb dX11_sum_44 rfl hl (by decide) rfl ?_
                      clear hl
                      intro ls hl
                      refine lv_aload_n hx hb dX11_sum_45 rfl (lv_at hl 2 rfl) ?_
                      refine lv_dup hx hb dX11_sum_46 rfl ?_
                      refine va_get (D := D) (ci := 11) (v := .int f5_kd) (C := RX11) (T := TX11) (N := 25) hx hb hT giX11 hown hK hP 0 rfl rfl 13 (by decide) (hT (Cond.fieldLink RX11 138 "DesertWireModel" "here" "I") mw_1169) (fun _ h9 => h9) rfl dX11_sum_47 ?_
                      refine lv_iconst (v := 1) hx hb dX11_sum_50 (by decide) ?_
                      refine lv_iadd hx hb dX11_sum_51 ?_
                      refine lv_topi (fun v_71 ev_71 => ?_)
                      have tv_71 : v_71.toInt = f5_kd.toInt + 1 := by rw [ev_71]; exact k_addv rfl zl_1 (by omega) (by omega)
                      refine va_put (D := D) (ci := 11) (v := .int v_71) (ty := .int) (C := RX11) (T := TX11) (N := 25) hx hb hT giX11 tyX11 tyX11_ok nmX11 hown hK hP hD hS 0 rfl rfl 13 (by decide) (hT (Cond.fieldLink RX11 138 "DesertWireModel" "here" "I") mw_1169) (fun _ h9 => h9) rfl (by decide +kernel) rfl rfl (Nat.le_of_ble_eq_true rfl) dX11_sum_52 ?_
                      clear hP hD hS
                      intro H locs hP hD hS
                      replace hP : va_P D vwCl [(k, .inr (11, [.ref k0, .ref k1, .ref k2, .int c3, .ref k4, .ref k5, .ref k6, .ref k7, .ref k8, .int c9, .ref ka, .ref kb, .int cc, .int v_71, .int ce, .int f5_kf, .int f5_kg, .int ch, .int ci, .int cj, .int ck, .ref kl, .int cm, .int cn, .ref ko])), (k0, .inl (cI, 1201, .inl c0))] H := hP
                      replace hD : va_D A [(k, .inr (11, [.ref k0, .ref k1, .ref k2, .int c3, .ref k4, .ref k5, .ref k6, .ref k7, .ref k8, .int c9, .ref ka, .ref kb, .int cc, .int v_71, .int ce, .int f5_kf, .int f5_kg, .int ch, .int ci, .int cj, .int ck, .ref kl, .int cm, .int cn, .ref ko])), (k0, .inl (cI, 1201, .inl c0))] := hD
                      refine lv_aload_n hx hb dX11_sum_55 rfl (lv_at hl 2 rfl) ?_
                      refine kJi (wr := []) (va_runV (As := []) (rest := []) ⟨hx, hb, hml, hown, hT⟩ (c_X11_productG2 l D cI aK aV k k0 k1 k2 k4 k5 k6 k7 k8 ka kb kl ko H.size c3 c9 cc v_71 ce f5_kf f5_kg ch ci cj ck cm cn c0 (by first | omega | decide | assumption | rfl) (by first | omega | decide | assumption | rfl) (by first | omega | decide | assumption | rfl) (by first | omega | decide | assumption | rfl) (by first | omega | decide | assumption | rfl) (by first | omega | decide | assumption | rfl)) (cwV 0 hT (gV_in mw_1331 mw_1328 mw_1330 mw_p4_7 mw_12) rfl rfl rfl (by decide +kernel) ⟨Nat.le_of_ble_eq_true rfl, Nat.le_of_ble_eq_true rfl⟩) (kRecvX (q0 := 0) (ci := 11) hK hP hD hN hXS hS hA rfl rfl [0, 1] rfl (by decide)) rfl rfl hl.1 rfl (lv_room (Nat.le_of_ble_eq_true rfl)) dX11_sum_56 ⟨Nat.le_of_ble_eq_true rfl, Nat.le_of_ble_eq_true rfl⟩) hP hD hS hA [0, 1] [] rfl rfl (by decide) (by decide) ?_
                      clear hP hD hS
                      intro r_72 u_77 H locs w_73 hP hD hS
                      obtain ⟨scd_74, scf_75, scg_76⟩ := u_77
                      replace hP : va_P D vwCl [(k, .inr (11, [.ref k0, .ref k1, .ref k2, .int c3, .ref k4, .ref k5, .ref k6, .ref k7, .ref k8, .int c9, .ref ka, .ref kb, .int cc, .int scd_74, .int ce, .int scf_75, .int scg_76, .int ch, .int ci, .int cj, .int ck, .ref kl, .int cm, .int cn, .ref ko])), (k0, .inl (cI, 1201, .inl c0))] H := hP
                      replace hD : va_D A [(k, .inr (11, [.ref k0, .ref k1, .ref k2, .int c3, .ref k4, .ref k5, .ref k6, .ref k7, .ref k8, .int c9, .ref ka, .ref kb, .int cc, .int scd_74, .int ce, .int scf_75, .int scg_76, .int ch, .int ci, .int cj, .int ck, .ref kl, .int cm, .int cn, .ref ko])), (k0, .inl (cI, 1201, .inl c0))] := hD
                      have lo_scd_74 := k_lo scd_74
                      have hi_scd_74 := k_hi scd_74
                      have lo_scg_76 := k_lo scg_76
                      have hi_scg_76 := k_hi scg_76
                      obtain ⟨h_78, h_79, h_80⟩ := w_73
                      have h_78 : v_71.toInt ≤ scd_74.toInt := h_78
                      have h_79 : scd_74.toInt ≤ ce.toInt := h_79
                      have h_80 : scg_76.toInt = 2 := h_80
                      have lo_r_72 := k_lo r_72
                      have hi_r_72 := k_hi r_72
                      refine lv_istore_n (lv' := [(3, .int r_72), (2, .int 1), (1, .int l5_1), (0, .ref k)]) hx hb dX11_sum_59 rfl hl (by decide) rfl ?_
                      clear hl
                      intro ls hl
                      refine lv_iload_n hx hb dX11_sum_60 rfl (lv_at hl 1 rfl) ?_
                      refine b_if_eq hx hb zl_1 (tgt := 70) dX11_sum_61 (by decide) (fun c_81 => by exfalso; omega) (fun c_81 => ?_)
                      refine lv_iload_n hx hb dX11_sum_64 rfl (lv_at hl 2 rfl) ?_
                      refine lv_iload_n hx hb dX11_sum_65 rfl (lv_at hl 0 rfl) ?_
                      refine lv_iadd hx hb dX11_sum_66 ?_
                      refine lv_topi (fun v_82 ev_82 => ?_)
                      have lo_v_82 := k_lo v_82
                      have hi_v_82 := k_hi v_82
                      refine lv_goto (tgt := 73) hx hb dX11_sum_67 (by decide) ?_
                      refine lv_istore_n (lv' := [(1, .int v_82), (3, .int r_72), (2, .int 1), (0, .ref k)]) hx hb dX11_sum_73 rfl hl (by decide) rfl ?_
                      clear hl
                      intro ls hl
                      refine lv_goto (tgt := 5) hx hb dX11_sum_74 (by decide) ?_
                      exact ih5 v_82 scd_74 scf_75 scg_76 (by first | omega | decide | assumption | rfl) (by first | omega | decide | assumption | rfl) (by first | omega | decide | assumption | rfl) (by first | omega | decide | assumption | rfl) (by omega) ls _ _ (lv_sub hl [0, 3] rfl) (hP.sub [0, 1] rfl) (hD.sub [0, 1] (by decide) rfl) hS
                  · exfalso; omega
              · exfalso; omega
          · have h_15 : f5_kd.toInt = ce.toInt := h_15
            obtain rfl : r_11 = (-1) := hr_11.trans (by decide)
            refine lv_bipush (v := 43) hx hb dX11_sum_16 (by decide) ?_
            refine b_icmp_eq hx hb zl_m1 zl_43 (tgt := 30) dX11_sum_18 (by decide) (fun c_83 => by exfalso; omega) (fun c_83 => ?_)
            refine lv_aload_n hx hb dX11_sum_21 rfl (lv_at hl 1 rfl) ?_
            refine kJi (wr := []) (va_runV (As := []) (rest := []) ⟨hx, hb, hml, hown, hT⟩ (c_X11_nowG l D cI aK aV k k0 k1 k2 k4 k5 k6 k7 k8 ka kb kl ko H.size c3 c9 cc f5_kd ce f5_kf f5_kg ch ci cj ck cm cn c0 (by first | omega | decide | assumption | rfl) (by first | omega | decide | assumption | rfl) (by first | omega | decide | assumption | rfl) (by first | omega | decide | assumption | rfl) (by first | omega | decide | assumption | rfl)) (cwV 0 hT (gV_in mw_1339 mw_1336 mw_1338 mw_p4_9 mw_12) rfl rfl rfl (by decide +kernel) ⟨Nat.le_of_ble_eq_true rfl, Nat.le_of_ble_eq_true rfl⟩) (kRecvX (q0 := 0) (ci := 11) hK hP hD hN hXS hS hA rfl rfl [0, 1] rfl (by decide)) rfl rfl hl.1 rfl (lv_room (Nat.le_of_ble_eq_true rfl)) dX11_sum_22 ⟨Nat.le_of_ble_eq_true rfl, Nat.le_of_ble_eq_true rfl⟩) hP hD hS hA [0, 1] [] rfl rfl (by decide) (by decide) ?_
            clear hP hD hS
            intro r_84 u_86 H locs w_85 hP hD hS
            replace hP : va_P D vwCl [(k, .inr (11, [.ref k0, .ref k1, .ref k2, .int c3, .ref k4, .ref k5, .ref k6, .ref k7, .ref k8, .int c9, .ref ka, .ref kb, .int cc, .int f5_kd, .int ce, .int f5_kf, .int f5_kg, .int ch, .int ci, .int cj, .int ck, .ref kl, .int cm, .int cn, .ref ko])), (k0, .inl (cI, 1201, .inl c0))] H := hP
            replace hD : va_D A [(k, .inr (11, [.ref k0, .ref k1, .ref k2, .int c3, .ref k4, .ref k5, .ref k6, .ref k7, .ref k8, .int c9, .ref ka, .ref kb, .int cc, .int f5_kd, .int ce, .int f5_kf, .int f5_kg, .int ch, .int ci, .int cj, .int ck, .ref kl, .int cm, .int cn, .ref ko])), (k0, .inl (cI, 1201, .inl c0))] := hD
            rcases w_85 with h_87 | ⟨hr_84, h_88⟩
            · exfalso; omega
            · have h_88 : f5_kd.toInt = ce.toInt := h_88
              obtain rfl : r_84 = (-1) := hr_84.trans (by decide)
              refine lv_bipush (v := 45) hx hb dX11_sum_25 (by decide) ?_
              refine b_icmp_ne hx hb zl_m1 zl_45 (tgt := 77) dX11_sum_27 (by decide) (fun c_89 => ?_) (fun c_89 => by exfalso; omega)
              refine lv_iload_n hx hb dX11_sum_77 rfl (lv_at hl 0 rfl) ?_
              exact hRet (f5_kd, f5_kf, f5_kg) [0, 1] ⟨(by first | omega | decide | assumption | rfl | (dsimp only; first | omega)), (by first | omega | decide | assumption | rfl | (dsimp only; first | omega)), (by first | omega | decide | assumption | rfl | (dsimp only; first | omega))⟩ hP hD (by decide) rfl hS rfl dX11_sum_78
  exact hloop_5 _ r_1 scd_3 scf_4 scg_5 (by first | omega | decide | assumption | rfl) (by first | omega | decide | assumption | rfl) (by first | omega | decide | assumption | rfl) (by first | omega | decide | assumption | rfl) (Nat.lt_succ_self _) ls _ _ (lv_sub hl [0, 1] rfl) hP hD hS
