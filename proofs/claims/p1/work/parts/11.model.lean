theorem dX11_areWired_0 : decode cX11_areWired 0 = .ok (.iconst 1, 1) := by decide +kernel
theorem dX11_areWired_1 : decode cX11_areWired 1 = .ok (.istore_n 3, 1) := by decide +kernel
theorem dX11_areWired_2 : decode cX11_areWired 2 = .ok (.iload_n 1, 1) := by decide +kernel
theorem dX11_areWired_3 : decode cX11_areWired 3 = .ok (.istore 4, 2) := by decide +kernel
theorem dX11_areWired_5 : decode cX11_areWired 5 = .ok (.iload 4, 2) := by decide +kernel
theorem dX11_areWired_7 : decode cX11_areWired 7 = .ok (.iload_n 2, 1) := by decide +kernel
theorem dX11_areWired_8 : decode cX11_areWired 8 = .ok (.if_icmp .gt 28, 3) := by decide +kernel
theorem dX11_areWired_11 : decode cX11_areWired 11 = .ok (.iload_n 3, 1) := by decide +kernel
theorem dX11_areWired_12 : decode cX11_areWired 12 = .ok (.ifCond .eq 16, 3) := by decide +kernel
theorem dX11_areWired_15 : decode cX11_areWired 15 = .ok (.aload_n 0, 1) := by decide +kernel
theorem dX11_areWired_16 : decode cX11_areWired 16 = .ok (.iload 4, 2) := by decide +kernel
theorem dX11_areWired_18 : decode cX11_areWired 18 = .ok (.invokevirtual 95, 3) := by decide +kernel
theorem dX11_areWired_21 : decode cX11_areWired 21 = .ok (.ifCond .eq 7, 3) := by decide +kernel
theorem dX11_areWired_28 : decode cX11_areWired 28 = .ok (.iconst 0, 1) := by decide +kernel
theorem dX11_areWired_29 : decode cX11_areWired 29 = .ok (.istore_n 3, 1) := by decide +kernel
theorem dX11_areWired_30 : decode cX11_areWired 30 = .ok (.iinc 4 1, 3) := by decide +kernel
theorem dX11_areWired_33 : decode cX11_areWired 33 = .ok (.goto (-28), 3) := by decide +kernel
theorem dX11_areWired_36 : decode cX11_areWired 36 = .ok (.iload_n 3, 1) := by decide +kernel
theorem dX11_areWired_37 : decode cX11_areWired 37 = .ok (.ireturn, 1) := by decide +kernel
theorem dX11_both_0 : decode cX11_both 0 = .ok (.aload_n 0, 1) := by decide +kernel
theorem dX11_both_1 : decode cX11_both 1 = .ok (.invokevirtual 192, 3) := by decide +kernel
theorem dX11_both_4 : decode cX11_both 4 = .ok (.istore_n 1, 1) := by decide +kernel
theorem dX11_both_5 : decode cX11_both 5 = .ok (.aload_n 0, 1) := by decide +kernel
theorem dX11_both_6 : decode cX11_both 6 = .ok (.bipush 38, 2) := by decide +kernel
theorem dX11_both_8 : decode cX11_both 8 = .ok (.invokevirtual 183, 3) := by decide +kernel
theorem dX11_both_11 : decode cX11_both 11 = .ok (.ifCond .eq 25, 3) := by decide +kernel
theorem dX11_both_36 : decode cX11_both 36 = .ok (.iload_n 1, 1) := by decide +kernel
theorem dX11_both_37 : decode cX11_both 37 = .ok (.ireturn, 1) := by decide +kernel
theorem dX11_comes_0 : decode cX11_comes 0 = .ok (.aload_n 0, 1) := by decide +kernel
theorem dX11_comes_1 : decode cX11_comes 1 = .ok (.getfield 9, 3) := by decide +kernel
theorem dX11_comes_4 : decode cX11_comes 4 = .ok (.iconst 1, 1) := by decide +kernel
theorem dX11_comes_5 : decode cX11_comes 5 = .ok (.iaload, 1) := by decide +kernel
theorem dX11_comes_6 : decode cX11_comes 6 = .ok (.istore 5, 2) := by decide +kernel
theorem dX11_comes_8 : decode cX11_comes 8 = .ok (.aload_n 0, 1) := by decide +kernel
theorem dX11_comes_9 : decode cX11_comes 9 = .ok (.getfield 9, 3) := by decide +kernel
theorem dX11_comes_12 : decode cX11_comes 12 = .ok (.iconst 1, 1) := by decide +kernel
theorem dX11_comes_13 : decode cX11_comes 13 = .ok (.dup2, 1) := by decide +kernel
theorem dX11_comes_14 : decode cX11_comes 14 = .ok (.iaload, 1) := by decide +kernel
theorem dX11_comes_15 : decode cX11_comes 15 = .ok (.iconst 1, 1) := by decide +kernel
theorem dX11_comes_16 : decode cX11_comes 16 = .ok (.iadd, 1) := by decide +kernel
theorem dX11_comes_17 : decode cX11_comes 17 = .ok (.iastore, 1) := by decide +kernel
theorem dX11_comes_18 : decode cX11_comes 18 = .ok (.aload_n 0, 1) := by decide +kernel
theorem dX11_comes_19 : decode cX11_comes 19 = .ok (.iload 5, 2) := by decide +kernel
theorem dX11_comes_21 : decode cX11_comes 21 = .ok (.iconst 0, 1) := by decide +kernel
theorem dX11_comes_22 : decode cX11_comes 22 = .ok (.iload_n 1, 1) := by decide +kernel
theorem dX11_comes_23 : decode cX11_comes 23 = .ok (.invokevirtual 71, 3) := by decide +kernel
theorem dX11_comes_26 : decode cX11_comes 26 = .ok (.aload_n 0, 1) := by decide +kernel
theorem dX11_comes_27 : decode cX11_comes 27 = .ok (.iload 5, 2) := by decide +kernel
theorem dX11_comes_29 : decode cX11_comes 29 = .ok (.iconst 1, 1) := by decide +kernel
theorem dX11_comes_30 : decode cX11_comes 30 = .ok (.iload_n 2, 1) := by decide +kernel
theorem dX11_comes_31 : decode cX11_comes 31 = .ok (.invokevirtual 71, 3) := by decide +kernel
theorem dX11_comes_34 : decode cX11_comes 34 = .ok (.aload_n 0, 1) := by decide +kernel
theorem dX11_comes_35 : decode cX11_comes 35 = .ok (.iload 5, 2) := by decide +kernel
theorem dX11_comes_37 : decode cX11_comes 37 = .ok (.iconst 2, 1) := by decide +kernel
theorem dX11_comes_38 : decode cX11_comes 38 = .ok (.iload_n 3, 1) := by decide +kernel
theorem dX11_comes_39 : decode cX11_comes 39 = .ok (.invokevirtual 71, 3) := by decide +kernel
theorem dX11_comes_42 : decode cX11_comes 42 = .ok (.aload_n 0, 1) := by decide +kernel
theorem dX11_comes_43 : decode cX11_comes 43 = .ok (.iload 5, 2) := by decide +kernel
theorem dX11_comes_45 : decode cX11_comes 45 = .ok (.iconst 3, 1) := by decide +kernel
theorem dX11_comes_46 : decode cX11_comes 46 = .ok (.iload 4, 2) := by decide +kernel
theorem dX11_comes_48 : decode cX11_comes 48 = .ok (.invokevirtual 71, 3) := by decide +kernel
theorem dX11_comes_51 : decode cX11_comes 51 = .ok (.aload_n 0, 1) := by decide +kernel
theorem dX11_comes_52 : decode cX11_comes 52 = .ok (.iload 5, 2) := by decide +kernel
theorem dX11_comes_54 : decode cX11_comes 54 = .ok (.iconst 4, 1) := by decide +kernel
theorem dX11_comes_55 : decode cX11_comes 55 = .ok (.iconst 0, 1) := by decide +kernel
theorem dX11_comes_56 : decode cX11_comes 56 = .ok (.invokevirtual 71, 3) := by decide +kernel
theorem dX11_comes_59 : decode cX11_comes 59 = .ok (.aload_n 0, 1) := by decide +kernel
theorem dX11_comes_60 : decode cX11_comes 60 = .ok (.iload 5, 2) := by decide +kernel
theorem dX11_comes_62 : decode cX11_comes 62 = .ok (.iconst 5, 1) := by decide +kernel
theorem dX11_comes_63 : decode cX11_comes 63 = .ok (.iconst 0, 1) := by decide +kernel
theorem dX11_comes_64 : decode cX11_comes 64 = .ok (.invokevirtual 71, 3) := by decide +kernel
theorem dX11_comes_67 : decode cX11_comes 67 = .ok (.iload 5, 2) := by decide +kernel
theorem dX11_comes_69 : decode cX11_comes 69 = .ok (.ireturn, 1) := by decide +kernel
theorem dX11_effort_0 : decode cX11_effort 0 = .ok (.aload_n 0, 1) := by decide +kernel
theorem dX11_effort_1 : decode cX11_effort 1 = .ok (.getfield 9, 3) := by decide +kernel
theorem dX11_effort_4 : decode cX11_effort 4 = .ok (.bipush 19, 2) := by decide +kernel
theorem dX11_effort_6 : decode cX11_effort 6 = .ok (.iload_n 1, 1) := by decide +kernel
theorem dX11_effort_7 : decode cX11_effort 7 = .ok (.iadd, 1) := by decide +kernel
theorem dX11_effort_8 : decode cX11_effort 8 = .ok (.iaload, 1) := by decide +kernel
theorem dX11_effort_9 : decode cX11_effort 9 = .ok (.istore_n 3, 1) := by decide +kernel
theorem dX11_effort_10 : decode cX11_effort 10 = .ok (.iload_n 3, 1) := by decide +kernel
theorem dX11_effort_11 : decode cX11_effort 11 = .ok (.ifCond .ne 8, 3) := by decide +kernel
theorem dX11_effort_14 : decode cX11_effort 14 = .ok (.bipush 10, 2) := by decide +kernel
theorem dX11_effort_16 : decode cX11_effort 16 = .ok (.goto 20, 3) := by decide +kernel
theorem dX11_effort_36 : decode cX11_effort 36 = .ok (.ireturn, 1) := by decide +kernel
theorem dX11_finding_0 : decode cX11_finding 0 = .ok (.aload_n 0, 1) := by decide +kernel
theorem dX11_finding_1 : decode cX11_finding 1 = .ok (.getfield 19, 3) := by decide +kernel
theorem dX11_finding_4 : decode cX11_finding 4 = .ok (.ldc 46, 2) := by decide +kernel
theorem dX11_finding_6 : decode cX11_finding 6 = .ok (.iload_n 1, 1) := by decide +kernel
theorem dX11_finding_7 : decode cX11_finding 7 = .ok (.isub, 1) := by decide +kernel
theorem dX11_finding_8 : decode cX11_finding 8 = .ok (.dup2, 1) := by decide +kernel
theorem dX11_finding_9 : decode cX11_finding 9 = .ok (.iaload, 1) := by decide +kernel
theorem dX11_finding_10 : decode cX11_finding 10 = .ok (.iconst 1, 1) := by decide +kernel
theorem dX11_finding_11 : decode cX11_finding 11 = .ok (.iadd, 1) := by decide +kernel
theorem dX11_finding_12 : decode cX11_finding 12 = .ok (.iastore, 1) := by decide +kernel
theorem dX11_finding_13 : decode cX11_finding 13 = .ok (.iload_n 1, 1) := by decide +kernel
theorem dX11_finding_14 : decode cX11_finding 14 = .ok (.ireturn, 1) := by decide +kernel
theorem dX11_goesOver_0 : decode cX11_goesOver 0 = .ok (.aload_n 0, 1) := by decide +kernel
theorem dX11_goesOver_1 : decode cX11_goesOver 1 = .ok (.iload_n 1, 1) := by decide +kernel
theorem dX11_goesOver_2 : decode cX11_goesOver 2 = .ok (.putfield 155, 3) := by decide +kernel
theorem dX11_goesOver_5 : decode cX11_goesOver 5 = .ok (.aload_n 0, 1) := by decide +kernel
theorem dX11_goesOver_6 : decode cX11_goesOver 6 = .ok (.iload_n 2, 1) := by decide +kernel
theorem dX11_goesOver_7 : decode cX11_goesOver 7 = .ok (.putfield 145, 3) := by decide +kernel
theorem dX11_goesOver_10 : decode cX11_goesOver 10 = .ok (.aload_n 0, 1) := by decide +kernel
theorem dX11_goesOver_11 : decode cX11_goesOver 11 = .ok (.iload_n 3, 1) := by decide +kernel
theorem dX11_goesOver_12 : decode cX11_goesOver 12 = .ok (.putfield 142, 3) := by decide +kernel
theorem dX11_goesOver_15 : decode cX11_goesOver 15 = .ok (.aload_n 0, 1) := by decide +kernel
theorem dX11_goesOver_16 : decode cX11_goesOver 16 = .ok (.iconst 0, 1) := by decide +kernel
theorem dX11_goesOver_17 : decode cX11_goesOver 17 = .ok (.putfield 138, 3) := by decide +kernel
theorem dX11_goesOver_20 : decode cX11_goesOver 20 = .ok (.aload_n 0, 1) := by decide +kernel
theorem dX11_goesOver_21 : decode cX11_goesOver 21 = .ok (.iconst 0, 1) := by decide +kernel
theorem dX11_goesOver_22 : decode cX11_goesOver 22 = .ok (.putfield 148, 3) := by decide +kernel
theorem dX11_goesOver_25 : decode cX11_goesOver 25 = .ok (.aload_n 0, 1) := by decide +kernel
theorem dX11_goesOver_26 : decode cX11_goesOver 26 = .ok (.iconst 0, 1) := by decide +kernel
theorem dX11_goesOver_27 : decode cX11_goesOver 27 = .ok (.putfield 170, 3) := by decide +kernel
theorem dX11_goesOver_30 : decode cX11_goesOver 30 = .ok (.aload_n 0, 1) := by decide +kernel
theorem dX11_goesOver_31 : decode cX11_goesOver 31 = .ok (.iload 4, 2) := by decide +kernel
theorem dX11_goesOver_33 : decode cX11_goesOver 33 = .ok (.putfield 161, 3) := by decide +kernel
theorem dX11_goesOver_36 : decode cX11_goesOver 36 = .ok (.aload_n 0, 1) := by decide +kernel
theorem dX11_goesOver_37 : decode cX11_goesOver 37 = .ok (.iload 5, 2) := by decide +kernel
theorem dX11_goesOver_39 : decode cX11_goesOver 39 = .ok (.putfield 164, 3) := by decide +kernel
theorem dX11_goesOver_42 : decode cX11_goesOver 42 = .ok (.aload_n 0, 1) := by decide +kernel
theorem dX11_goesOver_43 : decode cX11_goesOver 43 = .ok (.iload 6, 2) := by decide +kernel
theorem dX11_goesOver_45 : decode cX11_goesOver 45 = .ok (.putfield 167, 3) := by decide +kernel
theorem dX11_goesOver_48 : decode cX11_goesOver 48 = .ok (.aload_n 0, 1) := by decide +kernel
theorem dX11_goesOver_49 : decode cX11_goesOver 49 = .ok (.invokevirtual 177, 3) := by decide +kernel
theorem dX11_goesOver_52 : decode cX11_goesOver 52 = .ok (.ireturn, 1) := by decide +kernel
theorem dX11_in_0 : decode cX11_in 0 = .ok (.iload_n 0, 1) := by decide +kernel
theorem dX11_in_1 : decode cX11_in 1 = .ok (.iload_n 1, 1) := by decide +kernel
theorem dX11_in_2 : decode cX11_in 2 = .ok (.if_icmp .lt 12, 3) := by decide +kernel
theorem dX11_in_5 : decode cX11_in 5 = .ok (.iload_n 0, 1) := by decide +kernel
theorem dX11_in_6 : decode cX11_in 6 = .ok (.iload_n 2, 1) := by decide +kernel
theorem dX11_in_7 : decode cX11_in 7 = .ok (.if_icmp .gt 7, 3) := by decide +kernel
theorem dX11_in_10 : decode cX11_in 10 = .ok (.iconst 1, 1) := by decide +kernel
theorem dX11_in_11 : decode cX11_in 11 = .ok (.goto 4, 3) := by decide +kernel
theorem dX11_in_14 : decode cX11_in 14 = .ok (.iconst 0, 1) := by decide +kernel
theorem dX11_in_15 : decode cX11_in 15 = .ok (.ireturn, 1) := by decide +kernel
theorem dX11_inForce_0 : decode cX11_inForce 0 = .ok (.iconst (-1), 1) := by decide +kernel
theorem dX11_inForce_1 : decode cX11_inForce 1 = .ok (.istore_n 3, 1) := by decide +kernel
theorem dX11_inForce_2 : decode cX11_inForce 2 = .ok (.iconst 0, 1) := by decide +kernel
theorem dX11_inForce_3 : decode cX11_inForce 3 = .ok (.istore 4, 2) := by decide +kernel
theorem dX11_inForce_5 : decode cX11_inForce 5 = .ok (.iload 4, 2) := by decide +kernel
theorem dX11_inForce_7 : decode cX11_inForce 7 = .ok (.aload_n 0, 1) := by decide +kernel
theorem dX11_inForce_8 : decode cX11_inForce 8 = .ok (.getfield 9, 3) := by decide +kernel
theorem dX11_inForce_11 : decode cX11_inForce 11 = .ok (.iconst 3, 1) := by decide +kernel
theorem dX11_inForce_12 : decode cX11_inForce 12 = .ok (.iaload, 1) := by decide +kernel
theorem dX11_inForce_13 : decode cX11_inForce 13 = .ok (.if_icmp .ge 38, 3) := by decide +kernel
theorem dX11_inForce_51 : decode cX11_inForce 51 = .ok (.iload_n 3, 1) := by decide +kernel
theorem dX11_inForce_52 : decode cX11_inForce 52 = .ok (.ireturn, 1) := by decide +kernel
theorem dX11_isDay_0 : decode cX11_isDay 0 = .ok (.iload_n 0, 1) := by decide +kernel
theorem dX11_isDay_1 : decode cX11_isDay 1 = .ok (.iconst 0, 1) := by decide +kernel
theorem dX11_isDay_2 : decode cX11_isDay 2 = .ok (.sipush 2000, 3) := by decide +kernel
theorem dX11_isDay_5 : decode cX11_isDay 5 = .ok (.invokestatic 47, 3) := by decide +kernel
theorem dX11_isDay_8 : decode cX11_isDay 8 = .ok (.ireturn, 1) := by decide +kernel
theorem dX11_isMile_0 : decode cX11_isMile 0 = .ok (.iload_n 0, 1) := by decide +kernel
theorem dX11_isMile_1 : decode cX11_isMile 1 = .ok (.iconst 0, 1) := by decide +kernel
theorem dX11_isMile_2 : decode cX11_isMile 2 = .ok (.bipush 39, 2) := by decide +kernel
theorem dX11_isMile_4 : decode cX11_isMile 4 = .ok (.invokestatic 47, 3) := by decide +kernel
theorem dX11_isMile_7 : decode cX11_isMile 7 = .ok (.ireturn, 1) := by decide +kernel
theorem dX11_isParty_0 : decode cX11_isParty 0 = .ok (.iload_n 1, 1) := by decide +kernel
theorem dX11_isParty_1 : decode cX11_isParty 1 = .ok (.iconst 0, 1) := by decide +kernel
theorem dX11_isParty_2 : decode cX11_isParty 2 = .ok (.aload_n 0, 1) := by decide +kernel
theorem dX11_isParty_3 : decode cX11_isParty 3 = .ok (.getfield 9, 3) := by decide +kernel
theorem dX11_isParty_6 : decode cX11_isParty 6 = .ok (.iconst 2, 1) := by decide +kernel
theorem dX11_isParty_7 : decode cX11_isParty 7 = .ok (.iaload, 1) := by decide +kernel
theorem dX11_isParty_8 : decode cX11_isParty 8 = .ok (.iconst 1, 1) := by decide +kernel
theorem dX11_isParty_9 : decode cX11_isParty 9 = .ok (.isub, 1) := by decide +kernel
theorem dX11_isParty_10 : decode cX11_isParty 10 = .ok (.invokestatic 47, 3) := by decide +kernel
theorem dX11_isParty_13 : decode cX11_isParty 13 = .ok (.ireturn, 1) := by decide +kernel
theorem dX11_isSheet_0 : decode cX11_isSheet 0 = .ok (.iload_n 0, 1) := by decide +kernel
theorem dX11_isSheet_1 : decode cX11_isSheet 1 = .ok (.iconst 0, 1) := by decide +kernel
theorem dX11_isSheet_2 : decode cX11_isSheet 2 = .ok (.iconst 3, 1) := by decide +kernel
theorem dX11_isSheet_3 : decode cX11_isSheet 3 = .ok (.invokestatic 47, 3) := by decide +kernel
theorem dX11_isSheet_6 : decode cX11_isSheet 6 = .ok (.ireturn, 1) := by decide +kernel
theorem dX11_isUse_0 : decode cX11_isUse 0 = .ok (.iload_n 0, 1) := by decide +kernel
theorem dX11_isUse_1 : decode cX11_isUse 1 = .ok (.iconst 0, 1) := by decide +kernel
theorem dX11_isUse_2 : decode cX11_isUse 2 = .ok (.iconst 2, 1) := by decide +kernel
theorem dX11_isUse_3 : decode cX11_isUse 3 = .ok (.invokestatic 47, 3) := by decide +kernel
theorem dX11_isUse_6 : decode cX11_isUse 6 = .ok (.ireturn, 1) := by decide +kernel
theorem dX11_isWired_0 : decode cX11_isWired 0 = .ok (.iconst 0, 1) := by decide +kernel
theorem dX11_isWired_1 : decode cX11_isWired 1 = .ok (.istore_n 2, 1) := by decide +kernel
theorem dX11_isWired_2 : decode cX11_isWired 2 = .ok (.iconst 0, 1) := by decide +kernel
theorem dX11_isWired_3 : decode cX11_isWired 3 = .ok (.istore_n 3, 1) := by decide +kernel
theorem dX11_isWired_4 : decode cX11_isWired 4 = .ok (.iload_n 3, 1) := by decide +kernel
theorem dX11_isWired_5 : decode cX11_isWired 5 = .ok (.aload_n 0, 1) := by decide +kernel
theorem dX11_isWired_6 : decode cX11_isWired 6 = .ok (.getfield 9, 3) := by decide +kernel
theorem dX11_isWired_9 : decode cX11_isWired 9 = .ok (.iconst 1, 1) := by decide +kernel
theorem dX11_isWired_10 : decode cX11_isWired 10 = .ok (.iaload, 1) := by decide +kernel
theorem dX11_isWired_11 : decode cX11_isWired 11 = .ok (.if_icmp .ge 38, 3) := by decide +kernel
theorem dX11_isWired_49 : decode cX11_isWired 49 = .ok (.iload_n 2, 1) := by decide +kernel
theorem dX11_isWired_50 : decode cX11_isWired 50 = .ok (.ireturn, 1) := by decide +kernel
theorem dX11_isWork_0 : decode cX11_isWork 0 = .ok (.iload_n 1, 1) := by decide +kernel
theorem dX11_isWork_1 : decode cX11_isWork 1 = .ok (.iconst 0, 1) := by decide +kernel
theorem dX11_isWork_2 : decode cX11_isWork 2 = .ok (.aload_n 0, 1) := by decide +kernel
theorem dX11_isWork_3 : decode cX11_isWork 3 = .ok (.getfield 9, 3) := by decide +kernel
theorem dX11_isWork_6 : decode cX11_isWork 6 = .ok (.iconst 1, 1) := by decide +kernel
theorem dX11_isWork_7 : decode cX11_isWork 7 = .ok (.iaload, 1) := by decide +kernel
theorem dX11_isWork_8 : decode cX11_isWork 8 = .ok (.iconst 1, 1) := by decide +kernel
theorem dX11_isWork_9 : decode cX11_isWork 9 = .ok (.isub, 1) := by decide +kernel
theorem dX11_isWork_10 : decode cX11_isWork 10 = .ok (.invokestatic 47, 3) := by decide +kernel
theorem dX11_isWork_13 : decode cX11_isWork 13 = .ok (.ireturn, 1) := by decide +kernel
theorem dX11_leakOf_0 : decode cX11_leakOf 0 = .ok (.iconst (-1), 1) := by decide +kernel
theorem dX11_leakOf_1 : decode cX11_leakOf 1 = .ok (.istore_n 2, 1) := by decide +kernel
theorem dX11_leakOf_2 : decode cX11_leakOf 2 = .ok (.iconst 0, 1) := by decide +kernel
theorem dX11_leakOf_3 : decode cX11_leakOf 3 = .ok (.istore_n 3, 1) := by decide +kernel
theorem dX11_leakOf_4 : decode cX11_leakOf 4 = .ok (.iload_n 3, 1) := by decide +kernel
theorem dX11_leakOf_5 : decode cX11_leakOf 5 = .ok (.aload_n 0, 1) := by decide +kernel
theorem dX11_leakOf_6 : decode cX11_leakOf 6 = .ok (.getfield 9, 3) := by decide +kernel
theorem dX11_leakOf_9 : decode cX11_leakOf 9 = .ok (.iconst 1, 1) := by decide +kernel
theorem dX11_leakOf_10 : decode cX11_leakOf 10 = .ok (.iaload, 1) := by decide +kernel
theorem dX11_leakOf_11 : decode cX11_leakOf 11 = .ok (.if_icmp .ge 109, 3) := by decide +kernel
theorem dX11_leakOf_120 : decode cX11_leakOf 120 = .ok (.iload_n 2, 1) := by decide +kernel
theorem dX11_leakOf_121 : decode cX11_leakOf 121 = .ok (.ireturn, 1) := by decide +kernel
theorem dX11_nameAt_0 : decode cX11_nameAt 0 = .ok (.aload_n 0, 1) := by decide +kernel
theorem dX11_nameAt_1 : decode cX11_nameAt 1 = .ok (.getfield 155, 3) := by decide +kernel
theorem dX11_nameAt_4 : decode cX11_nameAt 4 = .ok (.lookupswitch 82 #[(0, 28), (1, 60)], 28) := by decide +kernel
theorem dX11_nameAt_32 : decode cX11_nameAt 32 = .ok (.iload_n 1, 1) := by decide +kernel
theorem dX11_nameAt_33 : decode cX11_nameAt 33 = .ok (.bipush 110, 2) := by decide +kernel
theorem dX11_nameAt_35 : decode cX11_nameAt 35 = .ok (.if_icmp .ne 7, 3) := by decide +kernel
theorem dX11_nameAt_42 : decode cX11_nameAt 42 = .ok (.iload_n 1, 1) := by decide +kernel
theorem dX11_nameAt_43 : decode cX11_nameAt 43 = .ok (.bipush 99, 2) := by decide +kernel
theorem dX11_nameAt_45 : decode cX11_nameAt 45 = .ok (.if_icmp .ne 7, 3) := by decide +kernel
theorem dX11_nameAt_52 : decode cX11_nameAt 52 = .ok (.iload_n 1, 1) := by decide +kernel
theorem dX11_nameAt_53 : decode cX11_nameAt 53 = .ok (.bipush 109, 2) := by decide +kernel
theorem dX11_nameAt_55 : decode cX11_nameAt 55 = .ok (.if_icmp .ne 7, 3) := by decide +kernel
theorem dX11_nameAt_62 : decode cX11_nameAt 62 = .ok (.iconst (-1), 1) := by decide +kernel
theorem dX11_nameAt_63 : decode cX11_nameAt 63 = .ok (.ireturn, 1) := by decide +kernel
theorem dX11_nameAt_64 : decode cX11_nameAt 64 = .ok (.iload_n 1, 1) := by decide +kernel
theorem dX11_nameAt_65 : decode cX11_nameAt 65 = .ok (.bipush 108, 2) := by decide +kernel
theorem dX11_nameAt_67 : decode cX11_nameAt 67 = .ok (.if_icmp .ne 7, 3) := by decide +kernel
theorem dX11_nameAt_74 : decode cX11_nameAt 74 = .ok (.iload_n 1, 1) := by decide +kernel
theorem dX11_nameAt_75 : decode cX11_nameAt 75 = .ok (.bipush 100, 2) := by decide +kernel
theorem dX11_nameAt_77 : decode cX11_nameAt 77 = .ok (.if_icmp .ne 7, 3) := by decide +kernel
theorem dX11_nameAt_84 : decode cX11_nameAt 84 = .ok (.iconst (-1), 1) := by decide +kernel
theorem dX11_nameAt_85 : decode cX11_nameAt 85 = .ok (.ireturn, 1) := by decide +kernel
theorem dX11_nameAt_86 : decode cX11_nameAt 86 = .ok (.iload_n 1, 1) := by decide +kernel
theorem dX11_nameAt_87 : decode cX11_nameAt 87 = .ok (.bipush 107, 2) := by decide +kernel
theorem dX11_nameAt_89 : decode cX11_nameAt 89 = .ok (.if_icmp .ne 7, 3) := by decide +kernel
theorem dX11_nameAt_96 : decode cX11_nameAt 96 = .ok (.iload_n 1, 1) := by decide +kernel
theorem dX11_nameAt_97 : decode cX11_nameAt 97 = .ok (.bipush 115, 2) := by decide +kernel
theorem dX11_nameAt_99 : decode cX11_nameAt 99 = .ok (.if_icmp .ne 7, 3) := by decide +kernel
theorem dX11_nameAt_106 : decode cX11_nameAt 106 = .ok (.iload_n 1, 1) := by decide +kernel
theorem dX11_nameAt_107 : decode cX11_nameAt 107 = .ok (.bipush 103, 2) := by decide +kernel
theorem dX11_nameAt_109 : decode cX11_nameAt 109 = .ok (.if_icmp .ne 7, 3) := by decide +kernel
theorem dX11_nameAt_116 : decode cX11_nameAt 116 = .ok (.iconst (-1), 1) := by decide +kernel
theorem dX11_nameAt_117 : decode cX11_nameAt 117 = .ok (.ireturn, 1) := by decide +kernel
theorem dX11_needs_0 : decode cX11_needs 0 = .ok (.aload_n 0, 1) := by decide +kernel
theorem dX11_needs_1 : decode cX11_needs 1 = .ok (.aload_n 0, 1) := by decide +kernel
theorem dX11_needs_2 : decode cX11_needs 2 = .ok (.getfield 148, 3) := by decide +kernel
theorem dX11_needs_5 : decode cX11_needs 5 = .ok (.ifCond .ne 7, 3) := by decide +kernel
theorem dX11_needs_8 : decode cX11_needs 8 = .ok (.iload_n 1, 1) := by decide +kernel
theorem dX11_needs_9 : decode cX11_needs 9 = .ok (.ifCond .ne 7, 3) := by decide +kernel
theorem dX11_needs_12 : decode cX11_needs 12 = .ok (.iconst 1, 1) := by decide +kernel
theorem dX11_needs_13 : decode cX11_needs 13 = .ok (.goto 4, 3) := by decide +kernel
theorem dX11_needs_17 : decode cX11_needs 17 = .ok (.putfield 148, 3) := by decide +kernel
theorem dX11_needs_20 : decode cX11_needs 20 = .ok (.return_, 1) := by decide +kernel
theorem dX11_now_0 : decode cX11_now 0 = .ok (.aload_n 0, 1) := by decide +kernel
theorem dX11_now_1 : decode cX11_now 1 = .ok (.getfield 138, 3) := by decide +kernel
theorem dX11_now_4 : decode cX11_now 4 = .ok (.aload_n 0, 1) := by decide +kernel
theorem dX11_now_5 : decode cX11_now 5 = .ok (.getfield 142, 3) := by decide +kernel
theorem dX11_now_8 : decode cX11_now 8 = .ok (.if_icmp .ge 20, 3) := by decide +kernel
theorem dX11_now_28 : decode cX11_now 28 = .ok (.iconst (-1), 1) := by decide +kernel
theorem dX11_now_29 : decode cX11_now 29 = .ok (.ireturn, 1) := by decide +kernel
theorem dX11_one_0 : decode cX11_one 0 = .ok (.aload_n 0, 1) := by decide +kernel
theorem dX11_one_1 : decode cX11_one 1 = .ok (.invokevirtual 152, 3) := by decide +kernel
theorem dX11_one_4 : decode cX11_one 4 = .ok (.istore_n 1, 1) := by decide +kernel
theorem dX11_one_5 : decode cX11_one 5 = .ok (.aload_n 0, 1) := by decide +kernel
theorem dX11_one_6 : decode cX11_one 6 = .ok (.getfield 148, 3) := by decide +kernel
theorem dX11_one_9 : decode cX11_one 9 = .ok (.ifCond .eq 5, 3) := by decide +kernel
theorem dX11_one_14 : decode cX11_one 14 = .ok (.iload_n 1, 1) := by decide +kernel
theorem dX11_one_15 : decode cX11_one 15 = .ok (.bipush 48, 2) := by decide +kernel
theorem dX11_one_17 : decode cX11_one 17 = .ok (.bipush 57, 2) := by decide +kernel
theorem dX11_one_19 : decode cX11_one 19 = .ok (.invokestatic 47, 3) := by decide +kernel
theorem dX11_one_22 : decode cX11_one 22 = .ok (.ifCond .eq 57, 3) := by decide +kernel
theorem dX11_one_79 : decode cX11_one 79 = .ok (.aload_n 0, 1) := by decide +kernel
theorem dX11_one_80 : decode cX11_one 80 = .ok (.iload_n 1, 1) := by decide +kernel
theorem dX11_one_81 : decode cX11_one 81 = .ok (.invokevirtual 158, 3) := by decide +kernel
theorem dX11_one_84 : decode cX11_one 84 = .ok (.istore_n 2, 1) := by decide +kernel
theorem dX11_one_85 : decode cX11_one 85 = .ok (.iload_n 2, 1) := by decide +kernel
theorem dX11_one_86 : decode cX11_one 86 = .ok (.ifCond .lt 41, 3) := by decide +kernel
theorem dX11_one_127 : decode cX11_one 127 = .ok (.aload_n 0, 1) := by decide +kernel
theorem dX11_one_128 : decode cX11_one 128 = .ok (.iload_n 1, 1) := by decide +kernel
theorem dX11_one_129 : decode cX11_one 129 = .ok (.bipush 45, 2) := by decide +kernel
theorem dX11_one_131 : decode cX11_one 131 = .ok (.if_icmp .eq 15, 3) := by decide +kernel
theorem dX11_one_134 : decode cX11_one 134 = .ok (.iload_n 1, 1) := by decide +kernel
theorem dX11_one_135 : decode cX11_one 135 = .ok (.bipush 33, 2) := by decide +kernel
theorem dX11_one_137 : decode cX11_one 137 = .ok (.if_icmp .eq 9, 3) := by decide +kernel
theorem dX11_one_140 : decode cX11_one 140 = .ok (.iload_n 1, 1) := by decide +kernel
theorem dX11_one_141 : decode cX11_one 141 = .ok (.bipush 40, 2) := by decide +kernel
theorem dX11_one_143 : decode cX11_one 143 = .ok (.if_icmp .ne 15, 3) := by decide +kernel
theorem dX11_one_158 : decode cX11_one 158 = .ok (.iconst 0, 1) := by decide +kernel
theorem dX11_one_159 : decode cX11_one 159 = .ok (.invokevirtual 173, 3) := by decide +kernel
theorem dX11_one_162 : decode cX11_one 162 = .ok (.aload_n 0, 1) := by decide +kernel
theorem dX11_one_163 : decode cX11_one 163 = .ok (.getfield 148, 3) := by decide +kernel
theorem dX11_one_166 : decode cX11_one 166 = .ok (.ifCond .eq 5, 3) := by decide +kernel
theorem dX11_one_169 : decode cX11_one 169 = .ok (.iconst 0, 1) := by decide +kernel
theorem dX11_one_170 : decode cX11_one 170 = .ok (.ireturn, 1) := by decide +kernel
theorem dX11_priceOf_0 : decode cX11_priceOf 0 = .ok (.aload_n 0, 1) := by decide +kernel
theorem dX11_priceOf_1 : decode cX11_priceOf 1 = .ok (.iload_n 1, 1) := by decide +kernel
theorem dX11_priceOf_2 : decode cX11_priceOf 2 = .ok (.iload_n 2, 1) := by decide +kernel
theorem dX11_priceOf_3 : decode cX11_priceOf 3 = .ok (.invokevirtual 211, 3) := by decide +kernel
theorem dX11_priceOf_6 : decode cX11_priceOf 6 = .ok (.istore 6, 2) := by decide +kernel
theorem dX11_priceOf_8 : decode cX11_priceOf 8 = .ok (.iload 6, 2) := by decide +kernel
theorem dX11_priceOf_10 : decode cX11_priceOf 10 = .ok (.ifCond .lt 34, 3) := by decide +kernel
theorem dX11_priceOf_44 : decode cX11_priceOf 44 = .ok (.iload_n 1, 1) := by decide +kernel
theorem dX11_priceOf_45 : decode cX11_priceOf 45 = .ok (.ifCond .ne 10, 3) := by decide +kernel
theorem dX11_priceOf_48 : decode cX11_priceOf 48 = .ok (.iload_n 3, 1) := by decide +kernel
theorem dX11_priceOf_49 : decode cX11_priceOf 49 = .ok (.iload 5, 2) := by decide +kernel
theorem dX11_priceOf_51 : decode cX11_priceOf 51 = .ok (.imul, 1) := by decide +kernel
theorem dX11_priceOf_52 : decode cX11_priceOf 52 = .ok (.goto 20, 3) := by decide +kernel
theorem dX11_priceOf_55 : decode cX11_priceOf 55 = .ok (.iload_n 1, 1) := by decide +kernel
theorem dX11_priceOf_56 : decode cX11_priceOf 56 = .ok (.iconst 1, 1) := by decide +kernel
theorem dX11_priceOf_57 : decode cX11_priceOf 57 = .ok (.if_icmp .ne 10, 3) := by decide +kernel
theorem dX11_priceOf_60 : decode cX11_priceOf 60 = .ok (.bipush 70, 2) := by decide +kernel
theorem dX11_priceOf_62 : decode cX11_priceOf 62 = .ok (.iload_n 3, 1) := by decide +kernel
theorem dX11_priceOf_63 : decode cX11_priceOf 63 = .ok (.imul, 1) := by decide +kernel
theorem dX11_priceOf_64 : decode cX11_priceOf 64 = .ok (.goto 8, 3) := by decide +kernel
theorem dX11_priceOf_67 : decode cX11_priceOf 67 = .ok (.iload 4, 2) := by decide +kernel
theorem dX11_priceOf_69 : decode cX11_priceOf 69 = .ok (.iload 5, 2) := by decide +kernel
theorem dX11_priceOf_71 : decode cX11_priceOf 71 = .ok (.isub, 1) := by decide +kernel
theorem dX11_priceOf_72 : decode cX11_priceOf 72 = .ok (.istore 7, 2) := by decide +kernel
theorem dX11_priceOf_74 : decode cX11_priceOf 74 = .ok (.iload_n 1, 1) := by decide +kernel
theorem dX11_priceOf_75 : decode cX11_priceOf 75 = .ok (.iconst 2, 1) := by decide +kernel
theorem dX11_priceOf_76 : decode cX11_priceOf 76 = .ok (.if_icmp .ne 12, 3) := by decide +kernel
theorem dX11_priceOf_79 : decode cX11_priceOf 79 = .ok (.iload 7, 2) := by decide +kernel
theorem dX11_priceOf_81 : decode cX11_priceOf 81 = .ok (.ifCond .ge 7, 3) := by decide +kernel
theorem dX11_priceOf_84 : decode cX11_priceOf 84 = .ok (.iconst 0, 1) := by decide +kernel
theorem dX11_priceOf_85 : decode cX11_priceOf 85 = .ok (.goto 5, 3) := by decide +kernel
theorem dX11_priceOf_88 : decode cX11_priceOf 88 = .ok (.iload 7, 2) := by decide +kernel
theorem dX11_priceOf_90 : decode cX11_priceOf 90 = .ok (.ireturn, 1) := by decide +kernel
theorem dX11_product_0 : decode cX11_product 0 = .ok (.aload_n 0, 1) := by decide +kernel
theorem dX11_product_1 : decode cX11_product 1 = .ok (.invokevirtual 180, 3) := by decide +kernel
theorem dX11_product_4 : decode cX11_product 4 = .ok (.istore_n 1, 1) := by decide +kernel
theorem dX11_product_5 : decode cX11_product 5 = .ok (.aload_n 0, 1) := by decide +kernel
theorem dX11_product_6 : decode cX11_product 6 = .ok (.getfield 148, 3) := by decide +kernel
theorem dX11_product_9 : decode cX11_product 9 = .ok (.ifCond .ne 76, 3) := by decide +kernel
theorem dX11_product_85 : decode cX11_product 85 = .ok (.iload_n 1, 1) := by decide +kernel
theorem dX11_product_86 : decode cX11_product 86 = .ok (.ireturn, 1) := by decide +kernel
theorem dX11_rainNow_0 : decode cX11_rainNow 0 = .ok (.aload_n 0, 1) := by decide +kernel
theorem dX11_rainNow_1 : decode cX11_rainNow 1 = .ok (.getfield 9, 3) := by decide +kernel
theorem dX11_rainNow_4 : decode cX11_rainNow 4 = .ok (.bipush 7, 2) := by decide +kernel
theorem dX11_rainNow_6 : decode cX11_rainNow 6 = .ok (.aload_n 0, 1) := by decide +kernel
theorem dX11_rainNow_7 : decode cX11_rainNow 7 = .ok (.getfield 9, 3) := by decide +kernel
theorem dX11_rainNow_10 : decode cX11_rainNow 10 = .ok (.iconst 0, 1) := by decide +kernel
theorem dX11_rainNow_11 : decode cX11_rainNow 11 = .ok (.iaload, 1) := by decide +kernel
theorem dX11_rainNow_12 : decode cX11_rainNow 12 = .ok (.bipush 30, 2) := by decide +kernel
theorem dX11_rainNow_14 : decode cX11_rainNow 14 = .ok (.idiv, 1) := by decide +kernel
theorem dX11_rainNow_15 : decode cX11_rainNow 15 = .ok (.bipush 12, 2) := by decide +kernel
theorem dX11_rainNow_17 : decode cX11_rainNow 17 = .ok (.irem, 1) := by decide +kernel
theorem dX11_rainNow_18 : decode cX11_rainNow 18 = .ok (.iadd, 1) := by decide +kernel
theorem dX11_rainNow_19 : decode cX11_rainNow 19 = .ok (.iaload, 1) := by decide +kernel
theorem dX11_rainNow_20 : decode cX11_rainNow 20 = .ok (.ireturn, 1) := by decide +kernel
theorem dX11_setParty_0 : decode cX11_setParty 0 = .ok (.aload_n 0, 1) := by decide +kernel
theorem dX11_setParty_1 : decode cX11_setParty 1 = .ok (.getfield 9, 3) := by decide +kernel
theorem dX11_setParty_4 : decode cX11_setParty 4 = .ok (.sipush 459, 3) := by decide +kernel
theorem dX11_setParty_7 : decode cX11_setParty 7 = .ok (.bipush 9, 2) := by decide +kernel
theorem dX11_setParty_9 : decode cX11_setParty 9 = .ok (.iload_n 1, 1) := by decide +kernel
theorem dX11_setParty_10 : decode cX11_setParty 10 = .ok (.imul, 1) := by decide +kernel
theorem dX11_setParty_11 : decode cX11_setParty 11 = .ok (.iadd, 1) := by decide +kernel
theorem dX11_setParty_12 : decode cX11_setParty 12 = .ok (.iload_n 2, 1) := by decide +kernel
theorem dX11_setParty_13 : decode cX11_setParty 13 = .ok (.iadd, 1) := by decide +kernel
theorem dX11_setParty_14 : decode cX11_setParty 14 = .ok (.iload_n 3, 1) := by decide +kernel
theorem dX11_setParty_15 : decode cX11_setParty 15 = .ok (.iastore, 1) := by decide +kernel
theorem dX11_setParty_16 : decode cX11_setParty 16 = .ok (.return_, 1) := by decide +kernel
theorem dX11_setWork_0 : decode cX11_setWork 0 = .ok (.aload_n 0, 1) := by decide +kernel
theorem dX11_setWork_1 : decode cX11_setWork 1 = .ok (.getfield 9, 3) := by decide +kernel
theorem dX11_setWork_4 : decode cX11_setWork 4 = .ok (.bipush 99, 2) := by decide +kernel
theorem dX11_setWork_6 : decode cX11_setWork 6 = .ok (.bipush 6, 2) := by decide +kernel
theorem dX11_setWork_8 : decode cX11_setWork 8 = .ok (.iload_n 1, 1) := by decide +kernel
theorem dX11_setWork_9 : decode cX11_setWork 9 = .ok (.imul, 1) := by decide +kernel
theorem dX11_setWork_10 : decode cX11_setWork 10 = .ok (.iadd, 1) := by decide +kernel
theorem dX11_setWork_11 : decode cX11_setWork 11 = .ok (.iload_n 2, 1) := by decide +kernel
theorem dX11_setWork_12 : decode cX11_setWork 12 = .ok (.iadd, 1) := by decide +kernel
theorem dX11_setWork_13 : decode cX11_setWork 13 = .ok (.iload_n 3, 1) := by decide +kernel
theorem dX11_setWork_14 : decode cX11_setWork 14 = .ok (.iastore, 1) := by decide +kernel
theorem dX11_setWork_15 : decode cX11_setWork 15 = .ok (.return_, 1) := by decide +kernel
theorem dX11_sum_0 : decode cX11_sum 0 = .ok (.aload_n 0, 1) := by decide +kernel
theorem dX11_sum_1 : decode cX11_sum 1 = .ok (.invokevirtual 186, 3) := by decide +kernel
theorem dX11_sum_4 : decode cX11_sum 4 = .ok (.istore_n 1, 1) := by decide +kernel
theorem dX11_sum_5 : decode cX11_sum 5 = .ok (.aload_n 0, 1) := by decide +kernel
theorem dX11_sum_6 : decode cX11_sum 6 = .ok (.getfield 148, 3) := by decide +kernel
theorem dX11_sum_9 : decode cX11_sum 9 = .ok (.ifCond .ne 68, 3) := by decide +kernel
theorem dX11_sum_77 : decode cX11_sum 77 = .ok (.iload_n 1, 1) := by decide +kernel
theorem dX11_sum_78 : decode cX11_sum 78 = .ok (.ireturn, 1) := by decide +kernel
theorem dX11_takes_0 : decode cX11_takes 0 = .ok (.aload_n 0, 1) := by decide +kernel
theorem dX11_takes_1 : decode cX11_takes 1 = .ok (.getfield 148, 3) := by decide +kernel
theorem dX11_takes_4 : decode cX11_takes 4 = .ok (.ifCond .ne 15, 3) := by decide +kernel
theorem dX11_takes_19 : decode cX11_takes 19 = .ok (.iconst 0, 1) := by decide +kernel
theorem dX11_takes_20 : decode cX11_takes 20 = .ok (.istore_n 2, 1) := by decide +kernel
theorem dX11_takes_21 : decode cX11_takes 21 = .ok (.aload_n 0, 1) := by decide +kernel
theorem dX11_takes_22 : decode cX11_takes 22 = .ok (.dup, 1) := by decide +kernel
theorem dX11_takes_23 : decode cX11_takes 23 = .ok (.getfield 138, 3) := by decide +kernel
theorem dX11_takes_26 : decode cX11_takes 26 = .ok (.iload_n 2, 1) := by decide +kernel
theorem dX11_takes_27 : decode cX11_takes 27 = .ok (.ifCond .eq 7, 3) := by decide +kernel
theorem dX11_takes_34 : decode cX11_takes 34 = .ok (.iconst 0, 1) := by decide +kernel
theorem dX11_takes_35 : decode cX11_takes 35 = .ok (.iadd, 1) := by decide +kernel
theorem dX11_takes_36 : decode cX11_takes 36 = .ok (.putfield 138, 3) := by decide +kernel
theorem dX11_takes_39 : decode cX11_takes 39 = .ok (.iload_n 2, 1) := by decide +kernel
theorem dX11_takes_40 : decode cX11_takes 40 = .ok (.ireturn, 1) := by decide +kernel
theorem dX11_test_0 : decode cX11_test 0 = .ok (.aload_n 0, 1) := by decide +kernel
theorem dX11_test_1 : decode cX11_test 1 = .ok (.invokevirtual 189, 3) := by decide +kernel
theorem dX11_test_4 : decode cX11_test 4 = .ok (.istore_n 1, 1) := by decide +kernel
theorem dX11_test_5 : decode cX11_test 5 = .ok (.aload_n 0, 1) := by decide +kernel
theorem dX11_test_6 : decode cX11_test 6 = .ok (.invokevirtual 152, 3) := by decide +kernel
theorem dX11_test_9 : decode cX11_test 9 = .ok (.istore_n 2, 1) := by decide +kernel
theorem dX11_test_10 : decode cX11_test 10 = .ok (.aload_n 0, 1) := by decide +kernel
theorem dX11_test_11 : decode cX11_test 11 = .ok (.getfield 148, 3) := by decide +kernel
theorem dX11_test_14 : decode cX11_test 14 = .ok (.ifCond .ne 21, 3) := by decide +kernel
theorem dX11_test_35 : decode cX11_test 35 = .ok (.iload_n 1, 1) := by decide +kernel
theorem dX11_test_36 : decode cX11_test 36 = .ok (.ireturn, 1) := by decide +kernel
theorem dX11_wellsIn_0 : decode cX11_wellsIn 0 = .ok (.iconst 0, 1) := by decide +kernel
theorem dX11_wellsIn_1 : decode cX11_wellsIn 1 = .ok (.istore_n 2, 1) := by decide +kernel
theorem dX11_wellsIn_2 : decode cX11_wellsIn 2 = .ok (.iconst 0, 1) := by decide +kernel
theorem dX11_wellsIn_3 : decode cX11_wellsIn 3 = .ok (.istore_n 3, 1) := by decide +kernel
theorem dX11_wellsIn_4 : decode cX11_wellsIn 4 = .ok (.iload_n 3, 1) := by decide +kernel
theorem dX11_wellsIn_5 : decode cX11_wellsIn 5 = .ok (.aload_n 0, 1) := by decide +kernel
theorem dX11_wellsIn_6 : decode cX11_wellsIn 6 = .ok (.getfield 9, 3) := by decide +kernel
theorem dX11_wellsIn_9 : decode cX11_wellsIn 9 = .ok (.iconst 1, 1) := by decide +kernel
theorem dX11_wellsIn_10 : decode cX11_wellsIn 10 = .ok (.iaload, 1) := by decide +kernel
theorem dX11_wellsIn_11 : decode cX11_wellsIn 11 = .ok (.if_icmp .ge 51, 3) := by decide +kernel
theorem dX11_wellsIn_62 : decode cX11_wellsIn 62 = .ok (.iload_n 2, 1) := by decide +kernel
theorem dX11_wellsIn_63 : decode cX11_wellsIn 63 = .ok (.ireturn, 1) := by decide +kernel
theorem dX11_whole_0 : decode cX11_whole 0 = .ok (.aload_n 0, 1) := by decide +kernel
theorem dX11_whole_1 : decode cX11_whole 1 = .ok (.invokevirtual 195, 3) := by decide +kernel
theorem dX11_whole_4 : decode cX11_whole 4 = .ok (.istore_n 1, 1) := by decide +kernel
theorem dX11_whole_5 : decode cX11_whole 5 = .ok (.aload_n 0, 1) := by decide +kernel
theorem dX11_whole_6 : decode cX11_whole 6 = .ok (.bipush 124, 2) := by decide +kernel
theorem dX11_whole_8 : decode cX11_whole 8 = .ok (.invokevirtual 183, 3) := by decide +kernel
theorem dX11_whole_11 : decode cX11_whole 11 = .ok (.ifCond .eq 25, 3) := by decide +kernel
theorem dX11_whole_36 : decode cX11_whole 36 = .ok (.iload_n 1, 1) := by decide +kernel
theorem dX11_whole_37 : decode cX11_whole 37 = .ok (.ireturn, 1) := by decide +kernel
theorem dX11_wired_0 : decode cX11_wired 0 = .ok (.iconst 0, 1) := by decide +kernel
theorem dX11_wired_1 : decode cX11_wired 1 = .ok (.istore_n 1, 1) := by decide +kernel
theorem dX11_wired_2 : decode cX11_wired 2 = .ok (.iconst 0, 1) := by decide +kernel
theorem dX11_wired_3 : decode cX11_wired 3 = .ok (.istore_n 2, 1) := by decide +kernel
theorem dX11_wired_4 : decode cX11_wired 4 = .ok (.iload_n 2, 1) := by decide +kernel
theorem dX11_wired_5 : decode cX11_wired 5 = .ok (.bipush 40, 2) := by decide +kernel
theorem dX11_wired_7 : decode cX11_wired 7 = .ok (.if_icmp .ge 25, 3) := by decide +kernel
theorem dX11_wired_10 : decode cX11_wired 10 = .ok (.iload_n 1, 1) := by decide +kernel
theorem dX11_wired_11 : decode cX11_wired 11 = .ok (.aload_n 0, 1) := by decide +kernel
theorem dX11_wired_12 : decode cX11_wired 12 = .ok (.iload_n 2, 1) := by decide +kernel
theorem dX11_wired_13 : decode cX11_wired 13 = .ok (.invokevirtual 95, 3) := by decide +kernel
theorem dX11_wired_16 : decode cX11_wired 16 = .ok (.ifCond .eq 7, 3) := by decide +kernel
theorem dX11_wired_23 : decode cX11_wired 23 = .ok (.iconst 0, 1) := by decide +kernel
theorem dX11_wired_24 : decode cX11_wired 24 = .ok (.iadd, 1) := by decide +kernel
theorem dX11_wired_25 : decode cX11_wired 25 = .ok (.istore_n 1, 1) := by decide +kernel
theorem dX11_wired_26 : decode cX11_wired 26 = .ok (.iinc 2 1, 3) := by decide +kernel
theorem dX11_wired_29 : decode cX11_wired 29 = .ok (.goto (-25), 3) := by decide +kernel
theorem dX11_wired_32 : decode cX11_wired 32 = .ok (.iload_n 1, 1) := by decide +kernel
theorem dX11_wired_33 : decode cX11_wired 33 = .ok (.ireturn, 1) := by decide +kernel
set_option maxHeartbeats 4000000 in
set_option maxRecDepth 100000 in
theorem c_X11_in (l : Launch) (D : va_G) (cI : ClassId) (sz : Nat) (a : Int32) (b : Int32) (d : Int32) : Met l yX11_in (gW yX11_in cX11_in 3 (some .boolean)) ({ frames := 0, cells := 0, slots := 0, locals := 0 } : Room) (kPre D cI [.int a, .int b, .int d] [] sz) (va_Qi (fun (r : Int32) (u : Unit) => (r = 1 ∧ b.toInt ≤ a.toInt ∧ a.toInt ≤ d.toInt) ∨ (r = 0 ∧ (a.toInt < b.toInt ∨ d.toInt < a.toInt))) (fun u t => kWd D cI (va_A [] sz) [] t) (va_A [] sz)) 0 0 (va_A [] sz) := by
  refine kMetI (own := RX11) (by decide) rfl (Nat.le_of_ble_eq_true rfl) ?_
  intro p e s m args below meth c hx hb hT hown hname hml A Q hK hP hD hS hA hN hRet ls hl
  have hl : lv_has ls 3 [(0, .int a), (1, .int b), (2, .int d)] := hl
  have lo_a := k_lo a
  have hi_a := k_hi a
  have lo_b := k_lo b
  have hi_b := k_hi b
  have lo_d := k_lo d
  have hi_d := k_hi d
  refine lv_iload_n hx hb dX11_in_0 rfl (lv_at hl 0 rfl) ?_
  refine lv_iload_n hx hb dX11_in_1 rfl (lv_at hl 1 rfl) ?_
  refine b_icmp_lt hx hb rfl rfl (tgt := 14) dX11_in_2 (by decide) (fun c_1 => ?_) (fun c_1 => ?_)
  · refine lv_iconst (v := 0) hx hb dX11_in_14 (by decide) ?_
    exact hRet () [] (Or.inr (⟨rfl, (by omega)⟩)) hP hD (by decide) rfl hS rfl dX11_in_15
  · refine lv_iload_n hx hb dX11_in_5 rfl (lv_at hl 0 rfl) ?_
    refine lv_iload_n hx hb dX11_in_6 rfl (lv_at hl 2 rfl) ?_
    refine b_icmp_gt hx hb rfl rfl (tgt := 14) dX11_in_7 (by decide) (fun c_2 => ?_) (fun c_2 => ?_)
    · refine lv_iconst (v := 0) hx hb dX11_in_14 (by decide) ?_
      exact hRet () [] (Or.inr (⟨rfl, (by omega)⟩)) hP hD (by decide) rfl hS rfl dX11_in_15
    · refine lv_iconst (v := 1) hx hb dX11_in_10 (by decide) ?_
      refine lv_goto (tgt := 15) hx hb dX11_in_11 (by decide) ?_
      exact hRet () [] (Or.inl ⟨rfl, (by omega), (by omega)⟩) hP hD (by decide) rfl hS rfl dX11_in_15
set_option maxHeartbeats 4000000 in
set_option maxRecDepth 100000 in
theorem c_X11_isMile (l : Launch) (D : va_G) (cI : ClassId) (sz : Nat) (a : Int32) : Met l yX11_isMile (gW yX11_isMile cX11_isMile 1 (some .boolean)) ({ frames := 1, cells := 0, slots := 0, locals := 22 } : Room) (kPre D cI [.int a] [] sz) (va_Qi (fun (r : Int32) (u : Unit) => (r = 1 ∧ 0 ≤ a.toInt ∧ a.toInt ≤ 39) ∨ (r = 0 ∧ (a.toInt < 0 ∨ 39 < a.toInt))) (fun u t => kWd D cI (va_A [] sz) [] t) (va_A [] sz)) 0 0 (va_A [] sz) := by
  refine kMetI (own := RX11) (by decide) rfl (Nat.le_of_ble_eq_true rfl) ?_
  intro p e s m args below meth c hx hb hT hown hname hml A Q hK hP hD hS hA hN hRet ls hl
  have hl : lv_has ls 1 [(0, .int a)] := hl
  have lo_a := k_lo a
  have hi_a := k_hi a
  refine lv_iload_n hx hb dX11_isMile_0 rfl (lv_at hl 0 rfl) ?_
  refine lv_iconst (v := 0) hx hb dX11_isMile_1 (by decide) ?_
  refine lv_bipush (v := 39) hx hb dX11_isMile_2 (by decide) ?_
  refine kJi (wr := []) (va_runS (As := [.int a, .int 0, .int 39]) (rest := []) ⟨hx, hb, hml, hown, hT⟩ (c_X11_in l D cI s.heap.size a 0 39) (cwS 3 hT (gS_in mw_1238 mw_1236 mw_1237 mw_12) rfl rfl rfl (by decide +kernel) ⟨Nat.le_of_ble_eq_true rfl, Nat.le_of_ble_eq_true rfl⟩) (kStat hK hP hD hN [] rfl (by decide)) rfl rfl hl.1 rfl (lv_room (Nat.le_of_ble_eq_true rfl)) dX11_isMile_4 ⟨Nat.le_of_ble_eq_true rfl, Nat.le_of_ble_eq_true rfl⟩) hP hD hS hA [] [] rfl rfl (by decide) (by decide) (fun r_1 u_3 H locs w_2 hP hD hS => ?_)
  have hP : va_P D vwCl [] H := hP
  have hD : va_D A [] := hD
  rcases w_2 with ⟨hr_1, h_4, h_5⟩ | ⟨hr_1, h_6⟩
  · try simp only [zl_0, zl_39] at h_4
    have h_4 : 0 ≤ a.toInt := h_4
    try simp only [zl_0, zl_39] at h_5
    have h_5 : a.toInt ≤ 39 := h_5
    obtain rfl : r_1 = 1 := hr_1.trans (by decide)
    exact hRet () [] (Or.inl ⟨rfl, (by omega), (by omega)⟩) hP hD (by decide) rfl hS rfl dX11_isMile_7
  · try simp only [zl_0, zl_39] at h_6
    have h_6 : a.toInt < 0 ∨ 39 < a.toInt := h_6
    obtain rfl : r_1 = 0 := hr_1.trans (by decide)
    exact hRet () [] (Or.inr (⟨rfl, (by omega)⟩)) hP hD (by decide) rfl hS rfl dX11_isMile_7
set_option maxHeartbeats 4000000 in
set_option maxRecDepth 100000 in
theorem c_X11_isDay (l : Launch) (D : va_G) (cI : ClassId) (sz : Nat) (a : Int32) : Met l yX11_isDay (gW yX11_isDay cX11_isDay 1 (some .boolean)) ({ frames := 1, cells := 0, slots := 0, locals := 22 } : Room) (kPre D cI [.int a] [] sz) (va_Qi (fun (r : Int32) (u : Unit) => (r = 1 ∧ 0 ≤ a.toInt ∧ a.toInt ≤ 2000) ∨ (r = 0 ∧ (a.toInt < 0 ∨ 2000 < a.toInt))) (fun u t => kWd D cI (va_A [] sz) [] t) (va_A [] sz)) 0 0 (va_A [] sz) := by
  refine kMetI (own := RX11) (by decide) rfl (Nat.le_of_ble_eq_true rfl) ?_
  intro p e s m args below meth c hx hb hT hown hname hml A Q hK hP hD hS hA hN hRet ls hl
  have hl : lv_has ls 1 [(0, .int a)] := hl
  have lo_a := k_lo a
  have hi_a := k_hi a
  refine lv_iload_n hx hb dX11_isDay_0 rfl (lv_at hl 0 rfl) ?_
  refine lv_iconst (v := 0) hx hb dX11_isDay_1 (by decide) ?_
  refine lv_sipush (v := 2000) hx hb dX11_isDay_2 (by decide) ?_
  refine kJi (wr := []) (va_runS (As := [.int a, .int 0, .int 2000]) (rest := []) ⟨hx, hb, hml, hown, hT⟩ (c_X11_in l D cI s.heap.size a 0 2000) (cwS 3 hT (gS_in mw_1238 mw_1236 mw_1237 mw_12) rfl rfl rfl (by decide +kernel) ⟨Nat.le_of_ble_eq_true rfl, Nat.le_of_ble_eq_true rfl⟩) (kStat hK hP hD hN [] rfl (by decide)) rfl rfl hl.1 rfl (lv_room (Nat.le_of_ble_eq_true rfl)) dX11_isDay_5 ⟨Nat.le_of_ble_eq_true rfl, Nat.le_of_ble_eq_true rfl⟩) hP hD hS hA [] [] rfl rfl (by decide) (by decide) (fun r_1 u_3 H locs w_2 hP hD hS => ?_)
  have hP : va_P D vwCl [] H := hP
  have hD : va_D A [] := hD
  rcases w_2 with ⟨hr_1, h_4, h_5⟩ | ⟨hr_1, h_6⟩
  · try simp only [zl_0, zl_2000] at h_4
    have h_4 : 0 ≤ a.toInt := h_4
    try simp only [zl_0, zl_2000] at h_5
    have h_5 : a.toInt ≤ 2000 := h_5
    obtain rfl : r_1 = 1 := hr_1.trans (by decide)
    exact hRet () [] (Or.inl ⟨rfl, (by omega), (by omega)⟩) hP hD (by decide) rfl hS rfl dX11_isDay_8
  · try simp only [zl_0, zl_2000] at h_6
    have h_6 : a.toInt < 0 ∨ 2000 < a.toInt := h_6
    obtain rfl : r_1 = 0 := hr_1.trans (by decide)
    exact hRet () [] (Or.inr (⟨rfl, (by omega)⟩)) hP hD (by decide) rfl hS rfl dX11_isDay_8
set_option maxHeartbeats 4000000 in
set_option maxRecDepth 100000 in
theorem c_X11_isUse (l : Launch) (D : va_G) (cI : ClassId) (sz : Nat) (a : Int32) : Met l yX11_isUse (gW yX11_isUse cX11_isUse 1 (some .boolean)) ({ frames := 1, cells := 0, slots := 0, locals := 22 } : Room) (kPre D cI [.int a] [] sz) (va_Qi (fun (r : Int32) (u : Unit) => (r = 1 ∧ 0 ≤ a.toInt ∧ a.toInt ≤ 2) ∨ (r = 0 ∧ (a.toInt < 0 ∨ 2 < a.toInt))) (fun u t => kWd D cI (va_A [] sz) [] t) (va_A [] sz)) 0 0 (va_A [] sz) := by
  refine kMetI (own := RX11) (by decide) rfl (Nat.le_of_ble_eq_true rfl) ?_
  intro p e s m args below meth c hx hb hT hown hname hml A Q hK hP hD hS hA hN hRet ls hl
  have hl : lv_has ls 1 [(0, .int a)] := hl
  have lo_a := k_lo a
  have hi_a := k_hi a
  refine lv_iload_n hx hb dX11_isUse_0 rfl (lv_at hl 0 rfl) ?_
  refine lv_iconst (v := 0) hx hb dX11_isUse_1 (by decide) ?_
  refine lv_iconst (v := 2) hx hb dX11_isUse_2 (by decide) ?_
  refine kJi (wr := []) (va_runS (As := [.int a, .int 0, .int 2]) (rest := []) ⟨hx, hb, hml, hown, hT⟩ (c_X11_in l D cI s.heap.size a 0 2) (cwS 3 hT (gS_in mw_1238 mw_1236 mw_1237 mw_12) rfl rfl rfl (by decide +kernel) ⟨Nat.le_of_ble_eq_true rfl, Nat.le_of_ble_eq_true rfl⟩) (kStat hK hP hD hN [] rfl (by decide)) rfl rfl hl.1 rfl (lv_room (Nat.le_of_ble_eq_true rfl)) dX11_isUse_3 ⟨Nat.le_of_ble_eq_true rfl, Nat.le_of_ble_eq_true rfl⟩) hP hD hS hA [] [] rfl rfl (by decide) (by decide) (fun r_1 u_3 H locs w_2 hP hD hS => ?_)
  have hP : va_P D vwCl [] H := hP
  have hD : va_D A [] := hD
  rcases w_2 with ⟨hr_1, h_4, h_5⟩ | ⟨hr_1, h_6⟩
  · try simp only [zl_0, zl_2] at h_4
    have h_4 : 0 ≤ a.toInt := h_4
    try simp only [zl_0, zl_2] at h_5
    have h_5 : a.toInt ≤ 2 := h_5
    obtain rfl : r_1 = 1 := hr_1.trans (by decide)
    exact hRet () [] (Or.inl ⟨rfl, (by omega), (by omega)⟩) hP hD (by decide) rfl hS rfl dX11_isUse_6
  · try simp only [zl_0, zl_2] at h_6
    have h_6 : a.toInt < 0 ∨ 2 < a.toInt := h_6
    obtain rfl : r_1 = 0 := hr_1.trans (by decide)
    exact hRet () [] (Or.inr (⟨rfl, (by omega)⟩)) hP hD (by decide) rfl hS rfl dX11_isUse_6
set_option maxHeartbeats 4000000 in
set_option maxRecDepth 100000 in
theorem c_X11_isSheet (l : Launch) (D : va_G) (cI : ClassId) (sz : Nat) (a : Int32) : Met l yX11_isSheet (gW yX11_isSheet cX11_isSheet 1 (some .boolean)) ({ frames := 1, cells := 0, slots := 0, locals := 22 } : Room) (kPre D cI [.int a] [] sz) (va_Qi (fun (r : Int32) (u : Unit) => (r = 1 ∧ 0 ≤ a.toInt ∧ a.toInt ≤ 3) ∨ (r = 0 ∧ (a.toInt < 0 ∨ 3 < a.toInt))) (fun u t => kWd D cI (va_A [] sz) [] t) (va_A [] sz)) 0 0 (va_A [] sz) := by
  refine kMetI (own := RX11) (by decide) rfl (Nat.le_of_ble_eq_true rfl) ?_
  intro p e s m args below meth c hx hb hT hown hname hml A Q hK hP hD hS hA hN hRet ls hl
  have hl : lv_has ls 1 [(0, .int a)] := hl
  have lo_a := k_lo a
  have hi_a := k_hi a
  refine lv_iload_n hx hb dX11_isSheet_0 rfl (lv_at hl 0 rfl) ?_
  refine lv_iconst (v := 0) hx hb dX11_isSheet_1 (by decide) ?_
  refine lv_iconst (v := 3) hx hb dX11_isSheet_2 (by decide) ?_
  refine kJi (wr := []) (va_runS (As := [.int a, .int 0, .int 3]) (rest := []) ⟨hx, hb, hml, hown, hT⟩ (c_X11_in l D cI s.heap.size a 0 3) (cwS 3 hT (gS_in mw_1238 mw_1236 mw_1237 mw_12) rfl rfl rfl (by decide +kernel) ⟨Nat.le_of_ble_eq_true rfl, Nat.le_of_ble_eq_true rfl⟩) (kStat hK hP hD hN [] rfl (by decide)) rfl rfl hl.1 rfl (lv_room (Nat.le_of_ble_eq_true rfl)) dX11_isSheet_3 ⟨Nat.le_of_ble_eq_true rfl, Nat.le_of_ble_eq_true rfl⟩) hP hD hS hA [] [] rfl rfl (by decide) (by decide) (fun r_1 u_3 H locs w_2 hP hD hS => ?_)
  have hP : va_P D vwCl [] H := hP
  have hD : va_D A [] := hD
  rcases w_2 with ⟨hr_1, h_4, h_5⟩ | ⟨hr_1, h_6⟩
  · try simp only [zl_0, zl_3] at h_4
    have h_4 : 0 ≤ a.toInt := h_4
    try simp only [zl_0, zl_3] at h_5
    have h_5 : a.toInt ≤ 3 := h_5
    obtain rfl : r_1 = 1 := hr_1.trans (by decide)
    exact hRet () [] (Or.inl ⟨rfl, (by omega), (by omega)⟩) hP hD (by decide) rfl hS rfl dX11_isSheet_6
  · try simp only [zl_0, zl_3] at h_6
    have h_6 : a.toInt < 0 ∨ 3 < a.toInt := h_6
    obtain rfl : r_1 = 0 := hr_1.trans (by decide)
    exact hRet () [] (Or.inr (⟨rfl, (by omega)⟩)) hP hD (by decide) rfl hS rfl dX11_isSheet_6
set_option maxHeartbeats 4000000 in
set_option maxRecDepth 100000 in
theorem c_X11_finding (l : Launch) (D : va_G) (cI : ClassId) (h ys yk yt yf yb yz yn yc yp yw ye yx : Nat) (sz : Nat) (m3 : Int32) (m9 : Int32) (m12 : Int32) (m13 : Int32) (m14 : Int32) (m15 : Int32) (m16 : Int32) (m17 : Int32) (m18 : Int32) (m19 : Int32) (m20 : Int32) (m22 : Int32) (m23 : Int32) (ff : Nat → Int32) (a : Int32) (pre0 : -1000005 ≤ a.toInt) (pre1 : a.toInt ≤ -1000001) : Met l yX11_finding (gW yX11_finding cX11_finding 2 (some .int)) ({ frames := 0, cells := 0, slots := 0, locals := 0 } : Room) (kPre D cI [.ref h, .int a] [(h, .inr (11, [.ref ys, .ref yk, .ref yt, .int m3, .ref yf, .ref yb, .ref yz, .ref yn, .ref yc, .int m9, .ref yp, .ref yw, .int m12, .int m13, .int m14, .int m15, .int m16, .int m17, .int m18, .int m19, .int m20, .ref ye, .int m22, .int m23, .ref yx])), (yf, .inl (cI, 6, .inl ff))] sz) (va_Qi (fun (r : Int32) (u : Unit) => r = a) (fun u t => kWd D cI (va_A [(h, .inr (11, [.ref ys, .ref yk, .ref yt, .int m3, .ref yf, .ref yb, .ref yz, .ref yn, .ref yc, .int m9, .ref yp, .ref yw, .int m12, .int m13, .int m14, .int m15, .int m16, .int m17, .int m18, .int m19, .int m20, .ref ye, .int m22, .int m23, .ref yx])), (yf, .inl (cI, 6, .inl ff))] sz) [] t) (va_A [(h, .inr (11, [.ref ys, .ref yk, .ref yt, .int m3, .ref yf, .ref yb, .ref yz, .ref yn, .ref yc, .int m9, .ref yp, .ref yw, .int m12, .int m13, .int m14, .int m15, .int m16, .int m17, .int m18, .int m19, .int m20, .ref ye, .int m22, .int m23, .ref yx])), (yf, .inl (cI, 6, .inl ff))] sz)) 0 0 (va_A [(h, .inr (11, [.ref ys, .ref yk, .ref yt, .int m3, .ref yf, .ref yb, .ref yz, .ref yn, .ref yc, .int m9, .ref yp, .ref yw, .int m12, .int m13, .int m14, .int m15, .int m16, .int m17, .int m18, .int m19, .int m20, .ref ye, .int m22, .int m23, .ref yx])), (yf, .inl (cI, 6, .inl ff))] sz) := by
  refine kMetI (own := RX11) (by decide) rfl (Nat.le_of_ble_eq_true rfl) ?_
  intro p e s m args below meth c hx hb hT hown hname hml A Q hK hP hD hS hA hN hRet ls hl
  have hl : lv_has ls 2 [(0, .ref h), (1, .int a)] := hl
  have lo_a := k_lo a
  have hi_a := k_hi a
  have lo_m3 := k_lo m3
  have hi_m3 := k_hi m3
  have lo_m9 := k_lo m9
  have hi_m9 := k_hi m9
  have lo_m12 := k_lo m12
  have hi_m12 := k_hi m12
  have lo_m13 := k_lo m13
  have hi_m13 := k_hi m13
  have lo_m14 := k_lo m14
  have hi_m14 := k_hi m14
  have lo_m15 := k_lo m15
  have hi_m15 := k_hi m15
  have lo_m16 := k_lo m16
  have hi_m16 := k_hi m16
  have lo_m17 := k_lo m17
  have hi_m17 := k_hi m17
  have lo_m18 := k_lo m18
  have hi_m18 := k_hi m18
  have lo_m19 := k_lo m19
  have hi_m19 := k_hi m19
  have lo_m20 := k_lo m20
  have hi_m20 := k_hi m20
  have lo_m22 := k_lo m22
  have hi_m22 := k_hi m22
  have lo_m23 := k_lo m23
  have hi_m23 := k_hi m23
  refine lv_aload_n hx hb dX11_finding_0 rfl (lv_at hl 0 rfl) ?_
  refine va_get (D := D) (ci := 11) (v := .ref yf) (C := RX11) (T := TX11) (N := 25) hx hb hT giX11 hown hK hP 0 rfl rfl 4 (by decide) (hT (Cond.fieldLink RX11 19 "DesertWireModel" "found" "[I") mw_1160) (fun _ h9 => h9) rfl dX11_finding_1 ?_
  refine lv_ldc (v := (-1000000)) hx hb hown (hT _ mw_1244) dX11_finding_4 ?_
  refine lv_iload_n hx hb dX11_finding_6 rfl (lv_at hl 1 rfl) ?_
  refine lv_isub hx hb dX11_finding_7 ?_
  refine lv_topi (fun v_1 ev_1 => ?_)
  have tv_1 : v_1.toInt = (-1000000) - a.toInt := by rw [ev_1]; exact k_subv zl_m1000000 rfl (by omega) (by omega)
  refine lv_dup2_11 hx hb dX11_finding_8 rfl rfl ?_
  refine k_iald (v := (ff v_1.toNatClampNeg)) hx hb hK hP 1 0 rfl rfl (k_in (by omega) (by omega)) rfl dX11_finding_9 ?_
  refine lv_topi (fun v_2 ev_2 => ?_)
  have lo_v_2 := k_lo v_2
  have hi_v_2 := k_hi v_2
  have tv_2 : v_2.toInt = (ff v_1.toNatClampNeg).toInt := by rw [ev_2]
  refine lv_iconst (v := 1) hx hb dX11_finding_10 (by decide) ?_
  refine lv_iadd hx hb dX11_finding_11 ?_
  refine lv_topi (fun v_3 ev_3 => ?_)
  have lo_v_3 := k_lo v_3
  have hi_v_3 := k_hi v_3
  refine va_iast hx hb hK hP hD hS 1 0 rfl rfl (k_in (by omega) (by omega)) dX11_finding_12 (fun H locs hP hD hS => ?_)
  have hP : va_P D vwCl [(h, .inr (11, [.ref ys, .ref yk, .ref yt, .int m3, .ref yf, .ref yb, .ref yz, .ref yn, .ref yc, .int m9, .ref yp, .ref yw, .int m12, .int m13, .int m14, .int m15, .int m16, .int m17, .int m18, .int m19, .int m20, .ref ye, .int m22, .int m23, .ref yx])), (yf, .inl (cI, 6, .inl (upd ff v_1.toNatClampNeg v_3)))] H := hP
  have hD : va_D A [(h, .inr (11, [.ref ys, .ref yk, .ref yt, .int m3, .ref yf, .ref yb, .ref yz, .ref yn, .ref yc, .int m9, .ref yp, .ref yw, .int m12, .int m13, .int m14, .int m15, .int m16, .int m17, .int m18, .int m19, .int m20, .ref ye, .int m22, .int m23, .ref yx])), (yf, .inl (cI, 6, .inl (upd ff v_1.toNatClampNeg v_3)))] := hD
  obtain ⟨f_4, ef_4⟩ : ∃ g : Nat → Int32, g = upd ff v_1.toNatClampNeg v_3 := ⟨_, rfl⟩
  rw [← ef_4] at hP hD
  refine lv_iload_n hx hb dX11_finding_13 rfl (lv_at hl 1 rfl) ?_
  exact hRet () [] rfl hP hD (by decide) rfl hS rfl dX11_finding_14
set_option maxHeartbeats 4000000 in
set_option maxRecDepth 100000 in
theorem c_X11_isWork (l : Launch) (D : va_G) (cI : ClassId) (h ys yk yt yf yb yz yn yc yp yw ye yx : Nat) (sz : Nat) (m3 : Int32) (m9 : Int32) (m12 : Int32) (m13 : Int32) (m14 : Int32) (m15 : Int32) (m16 : Int32) (m17 : Int32) (m18 : Int32) (m19 : Int32) (m20 : Int32) (m22 : Int32) (m23 : Int32) (f : Nat → Int32) (a : Int32) (pre0 : f 1 = 0) : Met l yX11_isWork (gW yX11_isWork cX11_isWork 2 (some .boolean)) ({ frames := 1, cells := 0, slots := 0, locals := 22 } : Room) (kPre D cI [.ref h, .int a] [(h, .inr (11, [.ref ys, .ref yk, .ref yt, .int m3, .ref yf, .ref yb, .ref yz, .ref yn, .ref yc, .int m9, .ref yp, .ref yw, .int m12, .int m13, .int m14, .int m15, .int m16, .int m17, .int m18, .int m19, .int m20, .ref ye, .int m22, .int m23, .ref yx])), (ys, .inl (cI, 1201, .inl f))] sz) (va_Qi (fun (r : Int32) (u : Unit) => r = 0) (fun u t => kWd D cI (va_A [(h, .inr (11, [.ref ys, .ref yk, .ref yt, .int m3, .ref yf, .ref yb, .ref yz, .ref yn, .ref yc, .int m9, .ref yp, .ref yw, .int m12, .int m13, .int m14, .int m15, .int m16, .int m17, .int m18, .int m19, .int m20, .ref ye, .int m22, .int m23, .ref yx])), (ys, .inl (cI, 1201, .inl f))] sz) [(h, .inr (11, [.ref ys, .ref yk, .ref yt, .int m3, .ref yf, .ref yb, .ref yz, .ref yn, .ref yc, .int m9, .ref yp, .ref yw, .int m12, .int m13, .int m14, .int m15, .int m16, .int m17, .int m18, .int m19, .int m20, .ref ye, .int m22, .int m23, .ref yx])), (ys, .inl (cI, 1201, .inl f))] t) (va_A [(h, .inr (11, [.ref ys, .ref yk, .ref yt, .int m3, .ref yf, .ref yb, .ref yz, .ref yn, .ref yc, .int m9, .ref yp, .ref yw, .int m12, .int m13, .int m14, .int m15, .int m16, .int m17, .int m18, .int m19, .int m20, .ref ye, .int m22, .int m23, .ref yx])), (ys, .inl (cI, 1201, .inl f))] sz)) 0 0 (va_A [(h, .inr (11, [.ref ys, .ref yk, .ref yt, .int m3, .ref yf, .ref yb, .ref yz, .ref yn, .ref yc, .int m9, .ref yp, .ref yw, .int m12, .int m13, .int m14, .int m15, .int m16, .int m17, .int m18, .int m19, .int m20, .ref ye, .int m22, .int m23, .ref yx])), (ys, .inl (cI, 1201, .inl f))] sz) := by
  refine kMetI (own := RX11) (by decide) rfl (Nat.le_of_ble_eq_true rfl) ?_
  intro p e s m args below meth c hx hb hT hown hname hml A Q hK hP hD hS hA hN hRet ls hl
  have hl : lv_has ls 2 [(0, .ref h), (1, .int a)] := hl
  have lo_a := k_lo a
  have hi_a := k_hi a
  have lo_m3 := k_lo m3
  have hi_m3 := k_hi m3
  have lo_m9 := k_lo m9
  have hi_m9 := k_hi m9
  have lo_m12 := k_lo m12
  have hi_m12 := k_hi m12
  have lo_m13 := k_lo m13
  have hi_m13 := k_hi m13
  have lo_m14 := k_lo m14
  have hi_m14 := k_hi m14
  have lo_m15 := k_lo m15
  have hi_m15 := k_hi m15
  have lo_m16 := k_lo m16
  have hi_m16 := k_hi m16
  have lo_m17 := k_lo m17
  have hi_m17 := k_hi m17
  have lo_m18 := k_lo m18
  have hi_m18 := k_hi m18
  have lo_m19 := k_lo m19
  have hi_m19 := k_hi m19
  have lo_m20 := k_lo m20
  have hi_m20 := k_hi m20
  have lo_m22 := k_lo m22
  have hi_m22 := k_hi m22
  have lo_m23 := k_lo m23
  have hi_m23 := k_hi m23
  refine lv_iload_n hx hb dX11_isWork_0 rfl (lv_at hl 1 rfl) ?_
  refine lv_iconst (v := 0) hx hb dX11_isWork_1 (by decide) ?_
  refine lv_aload_n hx hb dX11_isWork_2 rfl (lv_at hl 0 rfl) ?_
  refine va_get (D := D) (ci := 11) (v := .ref ys) (C := RX11) (T := TX11) (N := 25) hx hb hT giX11 hown hK hP 0 rfl rfl 0 (by decide) (hT (Cond.fieldLink RX11 9 "DesertWireModel" "s" "[I") mw_1156) (fun _ h9 => h9) rfl dX11_isWork_3 ?_
  refine lv_iconst (v := 1) hx hb dX11_isWork_6 (by decide) ?_
  refine k_iald (v := 0) hx hb hK hP 1 0 rfl rfl (k_inl (by decide)) pre0 dX11_isWork_7 ?_
  refine lv_iconst (v := 1) hx hb dX11_isWork_8 (by decide) ?_
  refine k_isub (v := (-1)) hx hb dX11_isWork_9 (by decide) ?_
  refine kJi (wr := [(h, .inr (11, [.ref ys, .ref yk, .ref yt, .int m3, .ref yf, .ref yb, .ref yz, .ref yn, .ref yc, .int m9, .ref yp, .ref yw, .int m12, .int m13, .int m14, .int m15, .int m16, .int m17, .int m18, .int m19, .int m20, .ref ye, .int m22, .int m23, .ref yx])), (ys, .inl (cI, 1201, .inl f))]) (va_runS (As := [.int a, .int 0, .int (-1)]) (rest := []) ⟨hx, hb, hml, hown, hT⟩ (c_X11_in l D cI s.heap.size a 0 (-1)) (cwS 3 hT (gS_in mw_1238 mw_1236 mw_1237 mw_12) rfl rfl rfl (by decide +kernel) ⟨Nat.le_of_ble_eq_true rfl, Nat.le_of_ble_eq_true rfl⟩) (kStat hK hP hD hN [] rfl (by decide)) rfl rfl hl.1 rfl (lv_room (Nat.le_of_ble_eq_true rfl)) dX11_isWork_10 ⟨Nat.le_of_ble_eq_true rfl, Nat.le_of_ble_eq_true rfl⟩) hP hD hS hA [] [0, 1] rfl rfl (by decide) (by decide) (fun r_1 u_3 H locs w_2 hP hD hS => ?_)
  have hP : va_P D vwCl [(h, .inr (11, [.ref ys, .ref yk, .ref yt, .int m3, .ref yf, .ref yb, .ref yz, .ref yn, .ref yc, .int m9, .ref yp, .ref yw, .int m12, .int m13, .int m14, .int m15, .int m16, .int m17, .int m18, .int m19, .int m20, .ref ye, .int m22, .int m23, .ref yx])), (ys, .inl (cI, 1201, .inl f))] H := hP
  have hD : va_D A [(h, .inr (11, [.ref ys, .ref yk, .ref yt, .int m3, .ref yf, .ref yb, .ref yz, .ref yn, .ref yc, .int m9, .ref yp, .ref yw, .int m12, .int m13, .int m14, .int m15, .int m16, .int m17, .int m18, .int m19, .int m20, .ref ye, .int m22, .int m23, .ref yx])), (ys, .inl (cI, 1201, .inl f))] := hD
  rcases w_2 with ⟨hr_1, h_4, h_5⟩ | ⟨hr_1, h_6⟩
  · (try simp only [zl_m1, zl_0] at h_4 h_5); exfalso; omega
  · try simp only [zl_m1, zl_0] at h_6
    have h_6 : a.toInt < 0 ∨ (-1) < a.toInt := h_6
    obtain rfl : r_1 = 0 := hr_1.trans (by decide)
    exact hRet () [0, 1] rfl hP hD (by decide) rfl hS rfl dX11_isWork_13
set_option maxHeartbeats 4000000 in
set_option maxRecDepth 100000 in
theorem c_X11_isParty (l : Launch) (D : va_G) (cI : ClassId) (h ys yk yt yf yb yz yn yc yp yw ye yx : Nat) (sz : Nat) (m3 : Int32) (m9 : Int32) (m12 : Int32) (m13 : Int32) (m14 : Int32) (m15 : Int32) (m16 : Int32) (m17 : Int32) (m18 : Int32) (m19 : Int32) (m20 : Int32) (m22 : Int32) (m23 : Int32) (f : Nat → Int32) (a : Int32) (pre0 : f 2 = 0) : Met l yX11_isParty (gW yX11_isParty cX11_isParty 2 (some .boolean)) ({ frames := 1, cells := 0, slots := 0, locals := 22 } : Room) (kPre D cI [.ref h, .int a] [(h, .inr (11, [.ref ys, .ref yk, .ref yt, .int m3, .ref yf, .ref yb, .ref yz, .ref yn, .ref yc, .int m9, .ref yp, .ref yw, .int m12, .int m13, .int m14, .int m15, .int m16, .int m17, .int m18, .int m19, .int m20, .ref ye, .int m22, .int m23, .ref yx])), (ys, .inl (cI, 1201, .inl f))] sz) (va_Qi (fun (r : Int32) (u : Unit) => r = 0) (fun u t => kWd D cI (va_A [(h, .inr (11, [.ref ys, .ref yk, .ref yt, .int m3, .ref yf, .ref yb, .ref yz, .ref yn, .ref yc, .int m9, .ref yp, .ref yw, .int m12, .int m13, .int m14, .int m15, .int m16, .int m17, .int m18, .int m19, .int m20, .ref ye, .int m22, .int m23, .ref yx])), (ys, .inl (cI, 1201, .inl f))] sz) [(h, .inr (11, [.ref ys, .ref yk, .ref yt, .int m3, .ref yf, .ref yb, .ref yz, .ref yn, .ref yc, .int m9, .ref yp, .ref yw, .int m12, .int m13, .int m14, .int m15, .int m16, .int m17, .int m18, .int m19, .int m20, .ref ye, .int m22, .int m23, .ref yx])), (ys, .inl (cI, 1201, .inl f))] t) (va_A [(h, .inr (11, [.ref ys, .ref yk, .ref yt, .int m3, .ref yf, .ref yb, .ref yz, .ref yn, .ref yc, .int m9, .ref yp, .ref yw, .int m12, .int m13, .int m14, .int m15, .int m16, .int m17, .int m18, .int m19, .int m20, .ref ye, .int m22, .int m23, .ref yx])), (ys, .inl (cI, 1201, .inl f))] sz)) 0 0 (va_A [(h, .inr (11, [.ref ys, .ref yk, .ref yt, .int m3, .ref yf, .ref yb, .ref yz, .ref yn, .ref yc, .int m9, .ref yp, .ref yw, .int m12, .int m13, .int m14, .int m15, .int m16, .int m17, .int m18, .int m19, .int m20, .ref ye, .int m22, .int m23, .ref yx])), (ys, .inl (cI, 1201, .inl f))] sz) := by
  refine kMetI (own := RX11) (by decide) rfl (Nat.le_of_ble_eq_true rfl) ?_
  intro p e s m args below meth c hx hb hT hown hname hml A Q hK hP hD hS hA hN hRet ls hl
  have hl : lv_has ls 2 [(0, .ref h), (1, .int a)] := hl
  have lo_a := k_lo a
  have hi_a := k_hi a
  have lo_m3 := k_lo m3
  have hi_m3 := k_hi m3
  have lo_m9 := k_lo m9
  have hi_m9 := k_hi m9
  have lo_m12 := k_lo m12
  have hi_m12 := k_hi m12
  have lo_m13 := k_lo m13
  have hi_m13 := k_hi m13
  have lo_m14 := k_lo m14
  have hi_m14 := k_hi m14
  have lo_m15 := k_lo m15
  have hi_m15 := k_hi m15
  have lo_m16 := k_lo m16
  have hi_m16 := k_hi m16
  have lo_m17 := k_lo m17
  have hi_m17 := k_hi m17
  have lo_m18 := k_lo m18
  have hi_m18 := k_hi m18
  have lo_m19 := k_lo m19
  have hi_m19 := k_hi m19
  have lo_m20 := k_lo m20
  have hi_m20 := k_hi m20
  have lo_m22 := k_lo m22
  have hi_m22 := k_hi m22
  have lo_m23 := k_lo m23
  have hi_m23 := k_hi m23
  refine lv_iload_n hx hb dX11_isParty_0 rfl (lv_at hl 1 rfl) ?_
  refine lv_iconst (v := 0) hx hb dX11_isParty_1 (by decide) ?_
  refine lv_aload_n hx hb dX11_isParty_2 rfl (lv_at hl 0 rfl) ?_
  refine va_get (D := D) (ci := 11) (v := .ref ys) (C := RX11) (T := TX11) (N := 25) hx hb hT giX11 hown hK hP 0 rfl rfl 0 (by decide) (hT (Cond.fieldLink RX11 9 "DesertWireModel" "s" "[I") mw_1156) (fun _ h9 => h9) rfl dX11_isParty_3 ?_
  refine lv_iconst (v := 2) hx hb dX11_isParty_6 (by decide) ?_
  refine k_iald (v := 0) hx hb hK hP 1 0 rfl rfl (k_inl (by decide)) pre0 dX11_isParty_7 ?_
  refine lv_iconst (v := 1) hx hb dX11_isParty_8 (by decide) ?_
  refine k_isub (v := (-1)) hx hb dX11_isParty_9 (by decide) ?_
  refine kJi (wr := [(h, .inr (11, [.ref ys, .ref yk, .ref yt, .int m3, .ref yf, .ref yb, .ref yz, .ref yn, .ref yc, .int m9, .ref yp, .ref yw, .int m12, .int m13, .int m14, .int m15, .int m16, .int m17, .int m18, .int m19, .int m20, .ref ye, .int m22, .int m23, .ref yx])), (ys, .inl (cI, 1201, .inl f))]) (va_runS (As := [.int a, .int 0, .int (-1)]) (rest := []) ⟨hx, hb, hml, hown, hT⟩ (c_X11_in l D cI s.heap.size a 0 (-1)) (cwS 3 hT (gS_in mw_1238 mw_1236 mw_1237 mw_12) rfl rfl rfl (by decide +kernel) ⟨Nat.le_of_ble_eq_true rfl, Nat.le_of_ble_eq_true rfl⟩) (kStat hK hP hD hN [] rfl (by decide)) rfl rfl hl.1 rfl (lv_room (Nat.le_of_ble_eq_true rfl)) dX11_isParty_10 ⟨Nat.le_of_ble_eq_true rfl, Nat.le_of_ble_eq_true rfl⟩) hP hD hS hA [] [0, 1] rfl rfl (by decide) (by decide) (fun r_1 u_3 H locs w_2 hP hD hS => ?_)
  have hP : va_P D vwCl [(h, .inr (11, [.ref ys, .ref yk, .ref yt, .int m3, .ref yf, .ref yb, .ref yz, .ref yn, .ref yc, .int m9, .ref yp, .ref yw, .int m12, .int m13, .int m14, .int m15, .int m16, .int m17, .int m18, .int m19, .int m20, .ref ye, .int m22, .int m23, .ref yx])), (ys, .inl (cI, 1201, .inl f))] H := hP
  have hD : va_D A [(h, .inr (11, [.ref ys, .ref yk, .ref yt, .int m3, .ref yf, .ref yb, .ref yz, .ref yn, .ref yc, .int m9, .ref yp, .ref yw, .int m12, .int m13, .int m14, .int m15, .int m16, .int m17, .int m18, .int m19, .int m20, .ref ye, .int m22, .int m23, .ref yx])), (ys, .inl (cI, 1201, .inl f))] := hD
  rcases w_2 with ⟨hr_1, h_4, h_5⟩ | ⟨hr_1, h_6⟩
  · (try simp only [zl_m1, zl_0] at h_4 h_5); exfalso; omega
  · try simp only [zl_m1, zl_0] at h_6
    have h_6 : a.toInt < 0 ∨ (-1) < a.toInt := h_6
    obtain rfl : r_1 = 0 := hr_1.trans (by decide)
    exact hRet () [0, 1] rfl hP hD (by decide) rfl hS rfl dX11_isParty_13
set_option maxHeartbeats 4000000 in
set_option maxRecDepth 100000 in
theorem c_X11_setWork (l : Launch) (D : va_G) (cI : ClassId) (h ys yk yt yf yb yz yn yc yp yw ye yx : Nat) (sz : Nat) (m3 : Int32) (m9 : Int32) (m12 : Int32) (m13 : Int32) (m14 : Int32) (m15 : Int32) (m16 : Int32) (m17 : Int32) (m18 : Int32) (m19 : Int32) (m20 : Int32) (m22 : Int32) (m23 : Int32) (f : Nat → Int32) (a : Int32) (b : Int32) (v : Int32) (pre0 : a.toInt = 0) (pre1 : 0 ≤ b.toInt) (pre2 : b.toInt ≤ 5) : Met l yX11_setWork (gW yX11_setWork cX11_setWork 4 none) ({ frames := 0, cells := 0, slots := 0, locals := 0 } : Room) (kPre D cI [.ref h, .int a, .int b, .int v] [(h, .inr (11, [.ref ys, .ref yk, .ref yt, .int m3, .ref yf, .ref yb, .ref yz, .ref yn, .ref yc, .int m9, .ref yp, .ref yw, .int m12, .int m13, .int m14, .int m15, .int m16, .int m17, .int m18, .int m19, .int m20, .ref ye, .int m22, .int m23, .ref yx])), (ys, .inl (cI, 1201, .inl f))] sz) (va_Qv (fun (u : (Nat → Int32)) => True) (fun u t => kWd D cI (va_A [(h, .inr (11, [.ref ys, .ref yk, .ref yt, .int m3, .ref yf, .ref yb, .ref yz, .ref yn, .ref yc, .int m9, .ref yp, .ref yw, .int m12, .int m13, .int m14, .int m15, .int m16, .int m17, .int m18, .int m19, .int m20, .ref ye, .int m22, .int m23, .ref yx])), (ys, .inl (cI, 1201, .inl f))] sz) [(h, .inr (11, [.ref ys, .ref yk, .ref yt, .int m3, .ref yf, .ref yb, .ref yz, .ref yn, .ref yc, .int m9, .ref yp, .ref yw, .int m12, .int m13, .int m14, .int m15, .int m16, .int m17, .int m18, .int m19, .int m20, .ref ye, .int m22, .int m23, .ref yx])), (ys, .inl (cI, 1201, .inl u))] t) (va_A [(h, .inr (11, [.ref ys, .ref yk, .ref yt, .int m3, .ref yf, .ref yb, .ref yz, .ref yn, .ref yc, .int m9, .ref yp, .ref yw, .int m12, .int m13, .int m14, .int m15, .int m16, .int m17, .int m18, .int m19, .int m20, .ref ye, .int m22, .int m23, .ref yx])), (ys, .inl (cI, 1201, .inl f))] sz)) 0 0 (va_A [(h, .inr (11, [.ref ys, .ref yk, .ref yt, .int m3, .ref yf, .ref yb, .ref yz, .ref yn, .ref yc, .int m9, .ref yp, .ref yw, .int m12, .int m13, .int m14, .int m15, .int m16, .int m17, .int m18, .int m19, .int m20, .ref ye, .int m22, .int m23, .ref yx])), (ys, .inl (cI, 1201, .inl f))] sz) := by
  refine kMetV (own := RX11) (by decide) rfl (Nat.le_of_ble_eq_true rfl) ?_
  intro p e s m args below meth c hx hb hT hown hname hml A Q hK hP hD hS hA hN hRet ls hl
  have hl : lv_has ls 4 [(0, .ref h), (1, .int a), (2, .int b), (3, .int v)] := hl
  have lo_a := k_lo a
  have hi_a := k_hi a
  have lo_b := k_lo b
  have hi_b := k_hi b
  have lo_v := k_lo v
  have hi_v := k_hi v
  have lo_m3 := k_lo m3
  have hi_m3 := k_hi m3
  have lo_m9 := k_lo m9
  have hi_m9 := k_hi m9
  have lo_m12 := k_lo m12
  have hi_m12 := k_hi m12
  have lo_m13 := k_lo m13
  have hi_m13 := k_hi m13
  have lo_m14 := k_lo m14
  have hi_m14 := k_hi m14
  have lo_m15 := k_lo m15
  have hi_m15 := k_hi m15
  have lo_m16 := k_lo m16
  have hi_m16 := k_hi m16
  have lo_m17 := k_lo m17
  have hi_m17 := k_hi m17
  have lo_m18 := k_lo m18
  have hi_m18 := k_hi m18
  have lo_m19 := k_lo m19
  have hi_m19 := k_hi m19
  have lo_m20 := k_lo m20
  have hi_m20 := k_hi m20
  have lo_m22 := k_lo m22
  have hi_m22 := k_hi m22
  have lo_m23 := k_lo m23
  have hi_m23 := k_hi m23
  refine lv_aload_n hx hb dX11_setWork_0 rfl (lv_at hl 0 rfl) ?_
  refine va_get (D := D) (ci := 11) (v := .ref ys) (C := RX11) (T := TX11) (N := 25) hx hb hT giX11 hown hK hP 0 rfl rfl 0 (by decide) (hT (Cond.fieldLink RX11 9 "DesertWireModel" "s" "[I") mw_1156) (fun _ h9 => h9) rfl dX11_setWork_1 ?_
  refine lv_bipush (v := 99) hx hb dX11_setWork_4 (by decide) ?_
  refine lv_bipush (v := 6) hx hb dX11_setWork_6 (by decide) ?_
  refine lv_iload_n hx hb dX11_setWork_8 rfl (lv_at hl 1 rfl) ?_
  refine lv_imul hx hb dX11_setWork_9 ?_
  refine lv_topi (fun v_1 ev_1 => ?_)
  have tv_1 : v_1.toInt = 6 * a.toInt := by rw [ev_1]; exact k_mulv zl_6 rfl (by omega) (by omega)
  refine lv_iadd hx hb dX11_setWork_10 ?_
  refine lv_topi (fun v_2 ev_2 => ?_)
  have tv_2 : v_2.toInt = 99 + v_1.toInt := by rw [ev_2]; exact k_addv zl_99 rfl (by omega) (by omega)
  refine lv_iload_n hx hb dX11_setWork_11 rfl (lv_at hl 2 rfl) ?_
  refine lv_iadd hx hb dX11_setWork_12 ?_
  refine lv_topi (fun v_3 ev_3 => ?_)
  have tv_3 : v_3.toInt = v_2.toInt + b.toInt := by rw [ev_3]; exact k_addv rfl rfl (by omega) (by omega)
  refine lv_iload_n hx hb dX11_setWork_13 rfl (lv_at hl 3 rfl) ?_
  refine va_iast hx hb hK hP hD hS 1 0 rfl rfl (k_in (by omega) (by omega)) dX11_setWork_14 (fun H locs hP hD hS => ?_)
  have hP : va_P D vwCl [(h, .inr (11, [.ref ys, .ref yk, .ref yt, .int m3, .ref yf, .ref yb, .ref yz, .ref yn, .ref yc, .int m9, .ref yp, .ref yw, .int m12, .int m13, .int m14, .int m15, .int m16, .int m17, .int m18, .int m19, .int m20, .ref ye, .int m22, .int m23, .ref yx])), (ys, .inl (cI, 1201, .inl (upd f v_3.toNatClampNeg v)))] H := hP
  have hD : va_D A [(h, .inr (11, [.ref ys, .ref yk, .ref yt, .int m3, .ref yf, .ref yb, .ref yz, .ref yn, .ref yc, .int m9, .ref yp, .ref yw, .int m12, .int m13, .int m14, .int m15, .int m16, .int m17, .int m18, .int m19, .int m20, .ref ye, .int m22, .int m23, .ref yx])), (ys, .inl (cI, 1201, .inl (upd f v_3.toNatClampNeg v)))] := hD
  obtain ⟨f_4, ef_4⟩ : ∃ g : Nat → Int32, g = upd f v_3.toNatClampNeg v := ⟨_, rfl⟩
  rw [← ef_4] at hP hD
  exact hRet f_4 [0, 1] trivial hP hD (by decide) rfl hS dX11_setWork_15
set_option maxHeartbeats 4000000 in
set_option maxRecDepth 100000 in
theorem c_X11_setParty (l : Launch) (D : va_G) (cI : ClassId) (h ys yk yt yf yb yz yn yc yp yw ye yx : Nat) (sz : Nat) (m3 : Int32) (m9 : Int32) (m12 : Int32) (m13 : Int32) (m14 : Int32) (m15 : Int32) (m16 : Int32) (m17 : Int32) (m18 : Int32) (m19 : Int32) (m20 : Int32) (m22 : Int32) (m23 : Int32) (f : Nat → Int32) (a : Int32) (b : Int32) (v : Int32) (pre0 : a.toInt = 0) (pre1 : 0 ≤ b.toInt) (pre2 : b.toInt ≤ 8) : Met l yX11_setParty (gW yX11_setParty cX11_setParty 4 none) ({ frames := 0, cells := 0, slots := 0, locals := 0 } : Room) (kPre D cI [.ref h, .int a, .int b, .int v] [(h, .inr (11, [.ref ys, .ref yk, .ref yt, .int m3, .ref yf, .ref yb, .ref yz, .ref yn, .ref yc, .int m9, .ref yp, .ref yw, .int m12, .int m13, .int m14, .int m15, .int m16, .int m17, .int m18, .int m19, .int m20, .ref ye, .int m22, .int m23, .ref yx])), (ys, .inl (cI, 1201, .inl f))] sz) (va_Qv (fun (u : (Nat → Int32)) => True) (fun u t => kWd D cI (va_A [(h, .inr (11, [.ref ys, .ref yk, .ref yt, .int m3, .ref yf, .ref yb, .ref yz, .ref yn, .ref yc, .int m9, .ref yp, .ref yw, .int m12, .int m13, .int m14, .int m15, .int m16, .int m17, .int m18, .int m19, .int m20, .ref ye, .int m22, .int m23, .ref yx])), (ys, .inl (cI, 1201, .inl f))] sz) [(h, .inr (11, [.ref ys, .ref yk, .ref yt, .int m3, .ref yf, .ref yb, .ref yz, .ref yn, .ref yc, .int m9, .ref yp, .ref yw, .int m12, .int m13, .int m14, .int m15, .int m16, .int m17, .int m18, .int m19, .int m20, .ref ye, .int m22, .int m23, .ref yx])), (ys, .inl (cI, 1201, .inl u))] t) (va_A [(h, .inr (11, [.ref ys, .ref yk, .ref yt, .int m3, .ref yf, .ref yb, .ref yz, .ref yn, .ref yc, .int m9, .ref yp, .ref yw, .int m12, .int m13, .int m14, .int m15, .int m16, .int m17, .int m18, .int m19, .int m20, .ref ye, .int m22, .int m23, .ref yx])), (ys, .inl (cI, 1201, .inl f))] sz)) 0 0 (va_A [(h, .inr (11, [.ref ys, .ref yk, .ref yt, .int m3, .ref yf, .ref yb, .ref yz, .ref yn, .ref yc, .int m9, .ref yp, .ref yw, .int m12, .int m13, .int m14, .int m15, .int m16, .int m17, .int m18, .int m19, .int m20, .ref ye, .int m22, .int m23, .ref yx])), (ys, .inl (cI, 1201, .inl f))] sz) := by
  refine kMetV (own := RX11) (by decide) rfl (Nat.le_of_ble_eq_true rfl) ?_
  intro p e s m args below meth c hx hb hT hown hname hml A Q hK hP hD hS hA hN hRet ls hl
  have hl : lv_has ls 4 [(0, .ref h), (1, .int a), (2, .int b), (3, .int v)] := hl
  have lo_a := k_lo a
  have hi_a := k_hi a
  have lo_b := k_lo b
  have hi_b := k_hi b
  have lo_v := k_lo v
  have hi_v := k_hi v
  have lo_m3 := k_lo m3
  have hi_m3 := k_hi m3
  have lo_m9 := k_lo m9
  have hi_m9 := k_hi m9
  have lo_m12 := k_lo m12
  have hi_m12 := k_hi m12
  have lo_m13 := k_lo m13
  have hi_m13 := k_hi m13
  have lo_m14 := k_lo m14
  have hi_m14 := k_hi m14
  have lo_m15 := k_lo m15
  have hi_m15 := k_hi m15
  have lo_m16 := k_lo m16
  have hi_m16 := k_hi m16
  have lo_m17 := k_lo m17
  have hi_m17 := k_hi m17
  have lo_m18 := k_lo m18
  have hi_m18 := k_hi m18
  have lo_m19 := k_lo m19
  have hi_m19 := k_hi m19
  have lo_m20 := k_lo m20
  have hi_m20 := k_hi m20
  have lo_m22 := k_lo m22
  have hi_m22 := k_hi m22
  have lo_m23 := k_lo m23
  have hi_m23 := k_hi m23
  refine lv_aload_n hx hb dX11_setParty_0 rfl (lv_at hl 0 rfl) ?_
  refine va_get (D := D) (ci := 11) (v := .ref ys) (C := RX11) (T := TX11) (N := 25) hx hb hT giX11 hown hK hP 0 rfl rfl 0 (by decide) (hT (Cond.fieldLink RX11 9 "DesertWireModel" "s" "[I") mw_1156) (fun _ h9 => h9) rfl dX11_setParty_1 ?_
  refine lv_sipush (v := 459) hx hb dX11_setParty_4 (by decide) ?_
  refine lv_bipush (v := 9) hx hb dX11_setParty_7 (by decide) ?_
  refine lv_iload_n hx hb dX11_setParty_9 rfl (lv_at hl 1 rfl) ?_
  refine lv_imul hx hb dX11_setParty_10 ?_
  refine lv_topi (fun v_1 ev_1 => ?_)
  have tv_1 : v_1.toInt = 9 * a.toInt := by rw [ev_1]; exact k_mulv zl_9 rfl (by omega) (by omega)
  refine lv_iadd hx hb dX11_setParty_11 ?_
  refine lv_topi (fun v_2 ev_2 => ?_)
  have tv_2 : v_2.toInt = 459 + v_1.toInt := by rw [ev_2]; exact k_addv zl_459 rfl (by omega) (by omega)
  refine lv_iload_n hx hb dX11_setParty_12 rfl (lv_at hl 2 rfl) ?_
  refine lv_iadd hx hb dX11_setParty_13 ?_
  refine lv_topi (fun v_3 ev_3 => ?_)
  have tv_3 : v_3.toInt = v_2.toInt + b.toInt := by rw [ev_3]; exact k_addv rfl rfl (by omega) (by omega)
  refine lv_iload_n hx hb dX11_setParty_14 rfl (lv_at hl 3 rfl) ?_
  refine va_iast hx hb hK hP hD hS 1 0 rfl rfl (k_in (by omega) (by omega)) dX11_setParty_15 (fun H locs hP hD hS => ?_)
  have hP : va_P D vwCl [(h, .inr (11, [.ref ys, .ref yk, .ref yt, .int m3, .ref yf, .ref yb, .ref yz, .ref yn, .ref yc, .int m9, .ref yp, .ref yw, .int m12, .int m13, .int m14, .int m15, .int m16, .int m17, .int m18, .int m19, .int m20, .ref ye, .int m22, .int m23, .ref yx])), (ys, .inl (cI, 1201, .inl (upd f v_3.toNatClampNeg v)))] H := hP
  have hD : va_D A [(h, .inr (11, [.ref ys, .ref yk, .ref yt, .int m3, .ref yf, .ref yb, .ref yz, .ref yn, .ref yc, .int m9, .ref yp, .ref yw, .int m12, .int m13, .int m14, .int m15, .int m16, .int m17, .int m18, .int m19, .int m20, .ref ye, .int m22, .int m23, .ref yx])), (ys, .inl (cI, 1201, .inl (upd f v_3.toNatClampNeg v)))] := hD
  obtain ⟨f_4, ef_4⟩ : ∃ g : Nat → Int32, g = upd f v_3.toNatClampNeg v := ⟨_, rfl⟩
  rw [← ef_4] at hP hD
  exact hRet f_4 [0, 1] trivial hP hD (by decide) rfl hS dX11_setParty_16
set_option maxHeartbeats 4000000 in
set_option maxRecDepth 100000 in
theorem c_X11_comes (l : Launch) (D : va_G) (cI : ClassId) (h ys yk yt yf yb yz yn yc yp yw ye yx : Nat) (sz : Nat) (m3 : Int32) (m9 : Int32) (m12 : Int32) (m13 : Int32) (m14 : Int32) (m15 : Int32) (m16 : Int32) (m17 : Int32) (m18 : Int32) (m19 : Int32) (m20 : Int32) (m22 : Int32) (m23 : Int32) (f : Nat → Int32) (a : Int32) (b : Int32) (d : Int32) (g0 : Int32) (pre0 : f 1 = 0) : Met l yX11_comes (gW yX11_comes cX11_comes 6 (some .int)) ({ frames := 1, cells := 0, slots := 0, locals := 23 } : Room) (kPre D cI [.ref h, .int a, .int b, .int d, .int g0] [(h, .inr (11, [.ref ys, .ref yk, .ref yt, .int m3, .ref yf, .ref yb, .ref yz, .ref yn, .ref yc, .int m9, .ref yp, .ref yw, .int m12, .int m13, .int m14, .int m15, .int m16, .int m17, .int m18, .int m19, .int m20, .ref ye, .int m22, .int m23, .ref yx])), (ys, .inl (cI, 1201, .inl f))] sz) (va_Qi (fun (r : Int32) (u : Unit) => r = 0) (fun u t => kWd D cI (va_A [(h, .inr (11, [.ref ys, .ref yk, .ref yt, .int m3, .ref yf, .ref yb, .ref yz, .ref yn, .ref yc, .int m9, .ref yp, .ref yw, .int m12, .int m13, .int m14, .int m15, .int m16, .int m17, .int m18, .int m19, .int m20, .ref ye, .int m22, .int m23, .ref yx])), (ys, .inl (cI, 1201, .inl f))] sz) [] t) (va_A [(h, .inr (11, [.ref ys, .ref yk, .ref yt, .int m3, .ref yf, .ref yb, .ref yz, .ref yn, .ref yc, .int m9, .ref yp, .ref yw, .int m12, .int m13, .int m14, .int m15, .int m16, .int m17, .int m18, .int m19, .int m20, .ref ye, .int m22, .int m23, .ref yx])), (ys, .inl (cI, 1201, .inl f))] sz)) 0 0 (va_A [(h, .inr (11, [.ref ys, .ref yk, .ref yt, .int m3, .ref yf, .ref yb, .ref yz, .ref yn, .ref yc, .int m9, .ref yp, .ref yw, .int m12, .int m13, .int m14, .int m15, .int m16, .int m17, .int m18, .int m19, .int m20, .ref ye, .int m22, .int m23, .ref yx])), (ys, .inl (cI, 1201, .inl f))] sz) := by
  refine kMetI (own := RX11) (by decide) rfl (Nat.le_of_ble_eq_true rfl) ?_
  intro p e s m args below meth c hx hb hT hown hname hml A Q hK hP hD hS hA hN hRet ls hl
  have hl : lv_has ls 6 [(0, .ref h), (1, .int a), (2, .int b), (3, .int d), (4, .int g0)] := hl
  have lo_a := k_lo a
  have hi_a := k_hi a
  have lo_b := k_lo b
  have hi_b := k_hi b
  have lo_d := k_lo d
  have hi_d := k_hi d
  have lo_g0 := k_lo g0
  have hi_g0 := k_hi g0
  have lo_m3 := k_lo m3
  have hi_m3 := k_hi m3
  have lo_m9 := k_lo m9
  have hi_m9 := k_hi m9
  have lo_m12 := k_lo m12
  have hi_m12 := k_hi m12
  have lo_m13 := k_lo m13
  have hi_m13 := k_hi m13
  have lo_m14 := k_lo m14
  have hi_m14 := k_hi m14
  have lo_m15 := k_lo m15
  have hi_m15 := k_hi m15
  have lo_m16 := k_lo m16
  have hi_m16 := k_hi m16
  have lo_m17 := k_lo m17
  have hi_m17 := k_hi m17
  have lo_m18 := k_lo m18
  have hi_m18 := k_hi m18
  have lo_m19 := k_lo m19
  have hi_m19 := k_hi m19
  have lo_m20 := k_lo m20
  have hi_m20 := k_hi m20
  have lo_m22 := k_lo m22
  have hi_m22 := k_hi m22
  have lo_m23 := k_lo m23
  have hi_m23 := k_hi m23
  refine lv_aload_n hx hb dX11_comes_0 rfl (lv_at hl 0 rfl) ?_
  refine va_get (D := D) (ci := 11) (v := .ref ys) (C := RX11) (T := TX11) (N := 25) hx hb hT giX11 hown hK hP 0 rfl rfl 0 (by decide) (hT (Cond.fieldLink RX11 9 "DesertWireModel" "s" "[I") mw_1156) (fun _ h9 => h9) rfl dX11_comes_1 ?_
  refine lv_iconst (v := 1) hx hb dX11_comes_4 (by decide) ?_
  refine k_iald (v := 0) hx hb hK hP 1 0 rfl rfl (k_inl (by decide)) pre0 dX11_comes_5 ?_
  refine lv_istore (lv' := [(5, .int 0), (0, .ref h), (1, .int a), (2, .int b), (3, .int d), (4, .int g0)]) hx hb dX11_comes_6 hl (by decide) rfl (fun ls hl => ?_)
  refine lv_aload_n hx hb dX11_comes_8 rfl (lv_at hl 1 rfl) ?_
  refine va_get (D := D) (ci := 11) (v := .ref ys) (C := RX11) (T := TX11) (N := 25) hx hb hT giX11 hown hK hP 0 rfl rfl 0 (by decide) (hT (Cond.fieldLink RX11 9 "DesertWireModel" "s" "[I") mw_1156) (fun _ h9 => h9) rfl dX11_comes_9 ?_
  refine lv_iconst (v := 1) hx hb dX11_comes_12 (by decide) ?_
  refine lv_dup2_11 hx hb dX11_comes_13 rfl rfl ?_
  refine k_iald (v := 0) hx hb hK hP 1 0 rfl rfl (k_inl (by decide)) pre0 dX11_comes_14 ?_
  refine lv_iconst (v := 1) hx hb dX11_comes_15 (by decide) ?_
  refine k_iadd (v := 1) hx hb dX11_comes_16 (by decide) ?_
  refine va_iast hx hb hK hP hD hS 1 0 rfl rfl (k_inl (by decide)) dX11_comes_17 (fun H locs hP hD hS => ?_)
  have hP : va_P D vwCl [(h, .inr (11, [.ref ys, .ref yk, .ref yt, .int m3, .ref yf, .ref yb, .ref yz, .ref yn, .ref yc, .int m9, .ref yp, .ref yw, .int m12, .int m13, .int m14, .int m15, .int m16, .int m17, .int m18, .int m19, .int m20, .ref ye, .int m22, .int m23, .ref yx])), (ys, .inl (cI, 1201, .inl (upd f 1 1)))] H := hP
  have hD : va_D A [(h, .inr (11, [.ref ys, .ref yk, .ref yt, .int m3, .ref yf, .ref yb, .ref yz, .ref yn, .ref yc, .int m9, .ref yp, .ref yw, .int m12, .int m13, .int m14, .int m15, .int m16, .int m17, .int m18, .int m19, .int m20, .ref ye, .int m22, .int m23, .ref yx])), (ys, .inl (cI, 1201, .inl (upd f 1 1)))] := hD
  obtain ⟨f_1, ef_1⟩ : ∃ g : Nat → Int32, g = upd f 1 1 := ⟨_, rfl⟩
  rw [← ef_1] at hP hD
  refine lv_aload_n hx hb dX11_comes_18 rfl (lv_at hl 1 rfl) ?_
  refine lv_iload hx hb dX11_comes_19 (lv_at hl 0 rfl) ?_
  refine lv_iconst (v := 0) hx hb dX11_comes_21 (by decide) ?_
  refine lv_iload_n hx hb dX11_comes_22 rfl (lv_at hl 2 rfl) ?_
  refine kJv (wr := []) (va_runV (As := [.int 0, .int 0, .int a]) (rest := []) ⟨hx, hb, hml, hown, hT⟩ (c_X11_setWork l D cI h ys yk yt yf yb yz yn yc yp yw ye yx H.size m3 m9 m12 m13 m14 m15 m16 m17 m18 m19 m20 m22 m23 f_1 0 0 a (by first | omega | (simp only [zl_0] <;> omega) | decide | assumption | rfl) (by first | omega | (simp only [zl_0] <;> omega) | decide | assumption | rfl) (by first | omega | (simp only [zl_0] <;> omega) | decide | assumption | rfl)) (cwV 3 hT (gV_in mw_1264 mw_1261 mw_1263 mw_p3_10 mw_12) rfl rfl rfl (by decide +kernel) ⟨Nat.le_of_ble_eq_true rfl, Nat.le_of_ble_eq_true rfl⟩) (kRecv (own := "") (q0 := 0) (ci := 11) hK hP hD hN rfl rfl [0, 1] rfl (by decide)) rfl rfl hl.1 rfl (lv_room (Nat.le_of_ble_eq_true rfl)) dX11_comes_23 ⟨Nat.le_of_ble_eq_true rfl, Nat.le_of_ble_eq_true rfl⟩) hP hD hS hA [0, 1] [] rfl rfl (by decide) (by decide) (fun g_4 H locs w_3 hP hD hS => ?_)
  have hP : va_P D vwCl [(h, .inr (11, [.ref ys, .ref yk, .ref yt, .int m3, .ref yf, .ref yb, .ref yz, .ref yn, .ref yc, .int m9, .ref yp, .ref yw, .int m12, .int m13, .int m14, .int m15, .int m16, .int m17, .int m18, .int m19, .int m20, .ref ye, .int m22, .int m23, .ref yx])), (ys, .inl (cI, 1201, .inl g_4))] H := hP
  have hD : va_D A [(h, .inr (11, [.ref ys, .ref yk, .ref yt, .int m3, .ref yf, .ref yb, .ref yz, .ref yn, .ref yc, .int m9, .ref yp, .ref yw, .int m12, .int m13, .int m14, .int m15, .int m16, .int m17, .int m18, .int m19, .int m20, .ref ye, .int m22, .int m23, .ref yx])), (ys, .inl (cI, 1201, .inl g_4))] := hD
  refine lv_aload_n hx hb dX11_comes_26 rfl (lv_at hl 1 rfl) ?_
  refine lv_iload hx hb dX11_comes_27 (lv_at hl 0 rfl) ?_
  refine lv_iconst (v := 1) hx hb dX11_comes_29 (by decide) ?_
  refine lv_iload_n hx hb dX11_comes_30 rfl (lv_at hl 3 rfl) ?_
  refine kJv (wr := []) (va_runV (As := [.int 0, .int 1, .int b]) (rest := []) ⟨hx, hb, hml, hown, hT⟩ (c_X11_setWork l D cI h ys yk yt yf yb yz yn yc yp yw ye yx H.size m3 m9 m12 m13 m14 m15 m16 m17 m18 m19 m20 m22 m23 g_4 0 1 b (by first | omega | (simp only [zl_0, zl_1] <;> omega) | decide | assumption | rfl) (by first | omega | (simp only [zl_0, zl_1] <;> omega) | decide | assumption | rfl) (by first | omega | (simp only [zl_0, zl_1] <;> omega) | decide | assumption | rfl)) (cwV 3 hT (gV_in mw_1264 mw_1261 mw_1263 mw_p3_10 mw_12) rfl rfl rfl (by decide +kernel) ⟨Nat.le_of_ble_eq_true rfl, Nat.le_of_ble_eq_true rfl⟩) (kRecv (own := "") (q0 := 0) (ci := 11) hK hP hD hN rfl rfl [0, 1] rfl (by decide)) rfl rfl hl.1 rfl (lv_room (Nat.le_of_ble_eq_true rfl)) dX11_comes_31 ⟨Nat.le_of_ble_eq_true rfl, Nat.le_of_ble_eq_true rfl⟩) hP hD hS hA [0, 1] [] rfl rfl (by decide) (by decide) (fun g_7 H locs w_6 hP hD hS => ?_)
  have hP : va_P D vwCl [(h, .inr (11, [.ref ys, .ref yk, .ref yt, .int m3, .ref yf, .ref yb, .ref yz, .ref yn, .ref yc, .int m9, .ref yp, .ref yw, .int m12, .int m13, .int m14, .int m15, .int m16, .int m17, .int m18, .int m19, .int m20, .ref ye, .int m22, .int m23, .ref yx])), (ys, .inl (cI, 1201, .inl g_7))] H := hP
  have hD : va_D A [(h, .inr (11, [.ref ys, .ref yk, .ref yt, .int m3, .ref yf, .ref yb, .ref yz, .ref yn, .ref yc, .int m9, .ref yp, .ref yw, .int m12, .int m13, .int m14, .int m15, .int m16, .int m17, .int m18, .int m19, .int m20, .ref ye, .int m22, .int m23, .ref yx])), (ys, .inl (cI, 1201, .inl g_7))] := hD
  refine lv_aload_n hx hb dX11_comes_34 rfl (lv_at hl 1 rfl) ?_
  refine lv_iload hx hb dX11_comes_35 (lv_at hl 0 rfl) ?_
  refine lv_iconst (v := 2) hx hb dX11_comes_37 (by decide) ?_
  refine lv_iload_n hx hb dX11_comes_38 rfl (lv_at hl 4 rfl) ?_
  refine kJv (wr := []) (va_runV (As := [.int 0, .int 2, .int d]) (rest := []) ⟨hx, hb, hml, hown, hT⟩ (c_X11_setWork l D cI h ys yk yt yf yb yz yn yc yp yw ye yx H.size m3 m9 m12 m13 m14 m15 m16 m17 m18 m19 m20 m22 m23 g_7 0 2 d (by first | omega | (simp only [zl_0, zl_2] <;> omega) | decide | assumption | rfl) (by first | omega | (simp only [zl_0, zl_2] <;> omega) | decide | assumption | rfl) (by first | omega | (simp only [zl_0, zl_2] <;> omega) | decide | assumption | rfl)) (cwV 3 hT (gV_in mw_1264 mw_1261 mw_1263 mw_p3_10 mw_12) rfl rfl rfl (by decide +kernel) ⟨Nat.le_of_ble_eq_true rfl, Nat.le_of_ble_eq_true rfl⟩) (kRecv (own := "") (q0 := 0) (ci := 11) hK hP hD hN rfl rfl [0, 1] rfl (by decide)) rfl rfl hl.1 rfl (lv_room (Nat.le_of_ble_eq_true rfl)) dX11_comes_39 ⟨Nat.le_of_ble_eq_true rfl, Nat.le_of_ble_eq_true rfl⟩) hP hD hS hA [0, 1] [] rfl rfl (by decide) (by decide) (fun g_10 H locs w_9 hP hD hS => ?_)
  have hP : va_P D vwCl [(h, .inr (11, [.ref ys, .ref yk, .ref yt, .int m3, .ref yf, .ref yb, .ref yz, .ref yn, .ref yc, .int m9, .ref yp, .ref yw, .int m12, .int m13, .int m14, .int m15, .int m16, .int m17, .int m18, .int m19, .int m20, .ref ye, .int m22, .int m23, .ref yx])), (ys, .inl (cI, 1201, .inl g_10))] H := hP
  have hD : va_D A [(h, .inr (11, [.ref ys, .ref yk, .ref yt, .int m3, .ref yf, .ref yb, .ref yz, .ref yn, .ref yc, .int m9, .ref yp, .ref yw, .int m12, .int m13, .int m14, .int m15, .int m16, .int m17, .int m18, .int m19, .int m20, .ref ye, .int m22, .int m23, .ref yx])), (ys, .inl (cI, 1201, .inl g_10))] := hD
  refine lv_aload_n hx hb dX11_comes_42 rfl (lv_at hl 1 rfl) ?_
  refine lv_iload hx hb dX11_comes_43 (lv_at hl 0 rfl) ?_
  refine lv_iconst (v := 3) hx hb dX11_comes_45 (by decide) ?_
  refine lv_iload hx hb dX11_comes_46 (lv_at hl 5 rfl) ?_
  refine kJv (wr := []) (va_runV (As := [.int 0, .int 3, .int g0]) (rest := []) ⟨hx, hb, hml, hown, hT⟩ (c_X11_setWork l D cI h ys yk yt yf yb yz yn yc yp yw ye yx H.size m3 m9 m12 m13 m14 m15 m16 m17 m18 m19 m20 m22 m23 g_10 0 3 g0 (by first | omega | (simp only [zl_0, zl_3] <;> omega) | decide | assumption | rfl) (by first | omega | (simp only [zl_0, zl_3] <;> omega) | decide | assumption | rfl) (by first | omega | (simp only [zl_0, zl_3] <;> omega) | decide | assumption | rfl)) (cwV 3 hT (gV_in mw_1264 mw_1261 mw_1263 mw_p3_10 mw_12) rfl rfl rfl (by decide +kernel) ⟨Nat.le_of_ble_eq_true rfl, Nat.le_of_ble_eq_true rfl⟩) (kRecv (own := "") (q0 := 0) (ci := 11) hK hP hD hN rfl rfl [0, 1] rfl (by decide)) rfl rfl hl.1 rfl (lv_room (Nat.le_of_ble_eq_true rfl)) dX11_comes_48 ⟨Nat.le_of_ble_eq_true rfl, Nat.le_of_ble_eq_true rfl⟩) hP hD hS hA [0, 1] [] rfl rfl (by decide) (by decide) (fun g_13 H locs w_12 hP hD hS => ?_)
  have hP : va_P D vwCl [(h, .inr (11, [.ref ys, .ref yk, .ref yt, .int m3, .ref yf, .ref yb, .ref yz, .ref yn, .ref yc, .int m9, .ref yp, .ref yw, .int m12, .int m13, .int m14, .int m15, .int m16, .int m17, .int m18, .int m19, .int m20, .ref ye, .int m22, .int m23, .ref yx])), (ys, .inl (cI, 1201, .inl g_13))] H := hP
  have hD : va_D A [(h, .inr (11, [.ref ys, .ref yk, .ref yt, .int m3, .ref yf, .ref yb, .ref yz, .ref yn, .ref yc, .int m9, .ref yp, .ref yw, .int m12, .int m13, .int m14, .int m15, .int m16, .int m17, .int m18, .int m19, .int m20, .ref ye, .int m22, .int m23, .ref yx])), (ys, .inl (cI, 1201, .inl g_13))] := hD
  refine lv_aload_n hx hb dX11_comes_51 rfl (lv_at hl 1 rfl) ?_
  refine lv_iload hx hb dX11_comes_52 (lv_at hl 0 rfl) ?_
  refine lv_iconst (v := 4) hx hb dX11_comes_54 (by decide) ?_
  refine lv_iconst (v := 0) hx hb dX11_comes_55 (by decide) ?_
  refine kJv (wr := []) (va_runV (As := [.int 0, .int 4, .int 0]) (rest := []) ⟨hx, hb, hml, hown, hT⟩ (c_X11_setWork l D cI h ys yk yt yf yb yz yn yc yp yw ye yx H.size m3 m9 m12 m13 m14 m15 m16 m17 m18 m19 m20 m22 m23 g_13 0 4 0 (by first | omega | (simp only [zl_0, zl_4] <;> omega) | decide | assumption | rfl) (by first | omega | (simp only [zl_0, zl_4] <;> omega) | decide | assumption | rfl) (by first | omega | (simp only [zl_0, zl_4] <;> omega) | decide | assumption | rfl)) (cwV 3 hT (gV_in mw_1264 mw_1261 mw_1263 mw_p3_10 mw_12) rfl rfl rfl (by decide +kernel) ⟨Nat.le_of_ble_eq_true rfl, Nat.le_of_ble_eq_true rfl⟩) (kRecv (own := "") (q0 := 0) (ci := 11) hK hP hD hN rfl rfl [0, 1] rfl (by decide)) rfl rfl hl.1 rfl (lv_room (Nat.le_of_ble_eq_true rfl)) dX11_comes_56 ⟨Nat.le_of_ble_eq_true rfl, Nat.le_of_ble_eq_true rfl⟩) hP hD hS hA [0, 1] [] rfl rfl (by decide) (by decide) (fun g_16 H locs w_15 hP hD hS => ?_)
  have hP : va_P D vwCl [(h, .inr (11, [.ref ys, .ref yk, .ref yt, .int m3, .ref yf, .ref yb, .ref yz, .ref yn, .ref yc, .int m9, .ref yp, .ref yw, .int m12, .int m13, .int m14, .int m15, .int m16, .int m17, .int m18, .int m19, .int m20, .ref ye, .int m22, .int m23, .ref yx])), (ys, .inl (cI, 1201, .inl g_16))] H := hP
  have hD : va_D A [(h, .inr (11, [.ref ys, .ref yk, .ref yt, .int m3, .ref yf, .ref yb, .ref yz, .ref yn, .ref yc, .int m9, .ref yp, .ref yw, .int m12, .int m13, .int m14, .int m15, .int m16, .int m17, .int m18, .int m19, .int m20, .ref ye, .int m22, .int m23, .ref yx])), (ys, .inl (cI, 1201, .inl g_16))] := hD
  refine lv_aload_n hx hb dX11_comes_59 rfl (lv_at hl 1 rfl) ?_
  refine lv_iload hx hb dX11_comes_60 (lv_at hl 0 rfl) ?_
  refine lv_iconst (v := 5) hx hb dX11_comes_62 (by decide) ?_
  refine lv_iconst (v := 0) hx hb dX11_comes_63 (by decide) ?_
  refine kJv (wr := []) (va_runV (As := [.int 0, .int 5, .int 0]) (rest := []) ⟨hx, hb, hml, hown, hT⟩ (c_X11_setWork l D cI h ys yk yt yf yb yz yn yc yp yw ye yx H.size m3 m9 m12 m13 m14 m15 m16 m17 m18 m19 m20 m22 m23 g_16 0 5 0 (by first | omega | (simp only [zl_0, zl_5] <;> omega) | decide | assumption | rfl) (by first | omega | (simp only [zl_0, zl_5] <;> omega) | decide | assumption | rfl) (by first | omega | (simp only [zl_0, zl_5] <;> omega) | decide | assumption | rfl)) (cwV 3 hT (gV_in mw_1264 mw_1261 mw_1263 mw_p3_10 mw_12) rfl rfl rfl (by decide +kernel) ⟨Nat.le_of_ble_eq_true rfl, Nat.le_of_ble_eq_true rfl⟩) (kRecv (own := "") (q0 := 0) (ci := 11) hK hP hD hN rfl rfl [0, 1] rfl (by decide)) rfl rfl hl.1 rfl (lv_room (Nat.le_of_ble_eq_true rfl)) dX11_comes_64 ⟨Nat.le_of_ble_eq_true rfl, Nat.le_of_ble_eq_true rfl⟩) hP hD hS hA [0, 1] [] rfl rfl (by decide) (by decide) (fun g_19 H locs w_18 hP hD hS => ?_)
  have hP : va_P D vwCl [(h, .inr (11, [.ref ys, .ref yk, .ref yt, .int m3, .ref yf, .ref yb, .ref yz, .ref yn, .ref yc, .int m9, .ref yp, .ref yw, .int m12, .int m13, .int m14, .int m15, .int m16, .int m17, .int m18, .int m19, .int m20, .ref ye, .int m22, .int m23, .ref yx])), (ys, .inl (cI, 1201, .inl g_19))] H := hP
  have hD : va_D A [(h, .inr (11, [.ref ys, .ref yk, .ref yt, .int m3, .ref yf, .ref yb, .ref yz, .ref yn, .ref yc, .int m9, .ref yp, .ref yw, .int m12, .int m13, .int m14, .int m15, .int m16, .int m17, .int m18, .int m19, .int m20, .ref ye, .int m22, .int m23, .ref yx])), (ys, .inl (cI, 1201, .inl g_19))] := hD
  refine lv_iload hx hb dX11_comes_67 (lv_at hl 0 rfl) ?_
  exact hRet () [] rfl hP hD (by decide) rfl hS rfl dX11_comes_69
set_option maxHeartbeats 4000000 in
set_option maxRecDepth 100000 in
theorem c_X11_isWired (l : Launch) (D : va_G) (cI : ClassId) (h ys yk yt yf yb yz yn yc yp yw ye yx : Nat) (sz : Nat) (m3 : Int32) (m9 : Int32) (m12 : Int32) (m13 : Int32) (m14 : Int32) (m15 : Int32) (m16 : Int32) (m17 : Int32) (m18 : Int32) (m19 : Int32) (m20 : Int32) (m22 : Int32) (m23 : Int32) (f : Nat → Int32) (a : Int32) (pre0 : f 1 = 0) : Met l yX11_isWired (gW yX11_isWired cX11_isWired 4 (some .boolean)) ({ frames := 0, cells := 0, slots := 0, locals := 0 } : Room) (kPre D cI [.ref h, .int a] [(h, .inr (11, [.ref ys, .ref yk, .ref yt, .int m3, .ref yf, .ref yb, .ref yz, .ref yn, .ref yc, .int m9, .ref yp, .ref yw, .int m12, .int m13, .int m14, .int m15, .int m16, .int m17, .int m18, .int m19, .int m20, .ref ye, .int m22, .int m23, .ref yx])), (ys, .inl (cI, 1201, .inl f))] sz) (va_Qi (fun (r : Int32) (u : Unit) => r = 0) (fun u t => kWd D cI (va_A [(h, .inr (11, [.ref ys, .ref yk, .ref yt, .int m3, .ref yf, .ref yb, .ref yz, .ref yn, .ref yc, .int m9, .ref yp, .ref yw, .int m12, .int m13, .int m14, .int m15, .int m16, .int m17, .int m18, .int m19, .int m20, .ref ye, .int m22, .int m23, .ref yx])), (ys, .inl (cI, 1201, .inl f))] sz) [(h, .inr (11, [.ref ys, .ref yk, .ref yt, .int m3, .ref yf, .ref yb, .ref yz, .ref yn, .ref yc, .int m9, .ref yp, .ref yw, .int m12, .int m13, .int m14, .int m15, .int m16, .int m17, .int m18, .int m19, .int m20, .ref ye, .int m22, .int m23, .ref yx])), (ys, .inl (cI, 1201, .inl f))] t) (va_A [(h, .inr (11, [.ref ys, .ref yk, .ref yt, .int m3, .ref yf, .ref yb, .ref yz, .ref yn, .ref yc, .int m9, .ref yp, .ref yw, .int m12, .int m13, .int m14, .int m15, .int m16, .int m17, .int m18, .int m19, .int m20, .ref ye, .int m22, .int m23, .ref yx])), (ys, .inl (cI, 1201, .inl f))] sz)) 0 0 (va_A [(h, .inr (11, [.ref ys, .ref yk, .ref yt, .int m3, .ref yf, .ref yb, .ref yz, .ref yn, .ref yc, .int m9, .ref yp, .ref yw, .int m12, .int m13, .int m14, .int m15, .int m16, .int m17, .int m18, .int m19, .int m20, .ref ye, .int m22, .int m23, .ref yx])), (ys, .inl (cI, 1201, .inl f))] sz) := by
  refine kMetI (own := RX11) (by decide) rfl (Nat.le_of_ble_eq_true rfl) ?_
  intro p e s m args below meth c hx hb hT hown hname hml A Q hK hP hD hS hA hN hRet ls hl
  have hl : lv_has ls 4 [(0, .ref h), (1, .int a)] := hl
  have lo_a := k_lo a
  have hi_a := k_hi a
  have lo_m3 := k_lo m3
  have hi_m3 := k_hi m3
  have lo_m9 := k_lo m9
  have hi_m9 := k_hi m9
  have lo_m12 := k_lo m12
  have hi_m12 := k_hi m12
  have lo_m13 := k_lo m13
  have hi_m13 := k_hi m13
  have lo_m14 := k_lo m14
  have hi_m14 := k_hi m14
  have lo_m15 := k_lo m15
  have hi_m15 := k_hi m15
  have lo_m16 := k_lo m16
  have hi_m16 := k_hi m16
  have lo_m17 := k_lo m17
  have hi_m17 := k_hi m17
  have lo_m18 := k_lo m18
  have hi_m18 := k_hi m18
  have lo_m19 := k_lo m19
  have hi_m19 := k_hi m19
  have lo_m20 := k_lo m20
  have hi_m20 := k_hi m20
  have lo_m22 := k_lo m22
  have hi_m22 := k_hi m22
  have lo_m23 := k_lo m23
  have hi_m23 := k_hi m23
  refine lv_iconst (v := 0) hx hb dX11_isWired_0 (by decide) ?_
  refine lv_istore_n (lv' := [(2, .int 0), (0, .ref h), (1, .int a)]) hx hb dX11_isWired_1 rfl hl (by decide) rfl (fun ls hl => ?_)
  refine lv_iconst (v := 0) hx hb dX11_isWired_2 (by decide) ?_
  refine lv_istore_n (lv' := [(3, .int 0), (2, .int 0), (0, .ref h), (1, .int a)]) hx hb dX11_isWired_3 rfl hl (by decide) rfl (fun ls hl => ?_)
  refine lv_iload_n hx hb dX11_isWired_4 rfl (lv_at hl 0 rfl) ?_
  refine lv_aload_n hx hb dX11_isWired_5 rfl (lv_at hl 2 rfl) ?_
  refine va_get (D := D) (ci := 11) (v := .ref ys) (C := RX11) (T := TX11) (N := 25) hx hb hT giX11 hown hK hP 0 rfl rfl 0 (by decide) (hT (Cond.fieldLink RX11 9 "DesertWireModel" "s" "[I") mw_1156) (fun _ h9 => h9) rfl dX11_isWired_6 ?_
  refine lv_iconst (v := 1) hx hb dX11_isWired_9 (by decide) ?_
  refine k_iald (v := 0) hx hb hK hP 1 0 rfl rfl (k_inl (by decide)) pre0 dX11_isWired_10 ?_
  refine b_icmp_ge hx hb zl_0 zl_0 (tgt := 49) dX11_isWired_11 (by decide) (fun c_1 => ?_) (fun c_1 => by exfalso; omega)
  refine lv_iload_n hx hb dX11_isWired_49 rfl (lv_at hl 1 rfl) ?_
  exact hRet () [0, 1] rfl hP hD (by decide) rfl hS rfl dX11_isWired_50
set_option maxHeartbeats 4000000 in
set_option maxRecDepth 100000 in
theorem c_X11_wired (l : Launch) (D : va_G) (cI : ClassId) (h ys yk yt yf yb yz yn yc yp yw ye yx : Nat) (sz : Nat) (m3 : Int32) (m9 : Int32) (m12 : Int32) (m13 : Int32) (m14 : Int32) (m15 : Int32) (m16 : Int32) (m17 : Int32) (m18 : Int32) (m19 : Int32) (m20 : Int32) (m22 : Int32) (m23 : Int32) (f : Nat → Int32) (pre0 : f 1 = 0) : Met l yX11_wired (gW yX11_wired cX11_wired 3 (some .int)) ({ frames := 1, cells := 0, slots := 0, locals := 23 } : Room) (kPre D cI [.ref h] [(h, .inr (11, [.ref ys, .ref yk, .ref yt, .int m3, .ref yf, .ref yb, .ref yz, .ref yn, .ref yc, .int m9, .ref yp, .ref yw, .int m12, .int m13, .int m14, .int m15, .int m16, .int m17, .int m18, .int m19, .int m20, .ref ye, .int m22, .int m23, .ref yx])), (ys, .inl (cI, 1201, .inl f))] sz) (va_Qi (fun (r : Int32) (u : Unit) => r = 0) (fun u t => kWd D cI (va_A [(h, .inr (11, [.ref ys, .ref yk, .ref yt, .int m3, .ref yf, .ref yb, .ref yz, .ref yn, .ref yc, .int m9, .ref yp, .ref yw, .int m12, .int m13, .int m14, .int m15, .int m16, .int m17, .int m18, .int m19, .int m20, .ref ye, .int m22, .int m23, .ref yx])), (ys, .inl (cI, 1201, .inl f))] sz) [(h, .inr (11, [.ref ys, .ref yk, .ref yt, .int m3, .ref yf, .ref yb, .ref yz, .ref yn, .ref yc, .int m9, .ref yp, .ref yw, .int m12, .int m13, .int m14, .int m15, .int m16, .int m17, .int m18, .int m19, .int m20, .ref ye, .int m22, .int m23, .ref yx])), (ys, .inl (cI, 1201, .inl f))] t) (va_A [(h, .inr (11, [.ref ys, .ref yk, .ref yt, .int m3, .ref yf, .ref yb, .ref yz, .ref yn, .ref yc, .int m9, .ref yp, .ref yw, .int m12, .int m13, .int m14, .int m15, .int m16, .int m17, .int m18, .int m19, .int m20, .ref ye, .int m22, .int m23, .ref yx])), (ys, .inl (cI, 1201, .inl f))] sz)) 0 0 (va_A [(h, .inr (11, [.ref ys, .ref yk, .ref yt, .int m3, .ref yf, .ref yb, .ref yz, .ref yn, .ref yc, .int m9, .ref yp, .ref yw, .int m12, .int m13, .int m14, .int m15, .int m16, .int m17, .int m18, .int m19, .int m20, .ref ye, .int m22, .int m23, .ref yx])), (ys, .inl (cI, 1201, .inl f))] sz) := by
  refine kMetI (own := RX11) (by decide) rfl (Nat.le_of_ble_eq_true rfl) ?_
  intro p e s m args below meth c hx hb hT hown hname hml A Q hK hP hD hS hA hN hRet ls hl
  have hl : lv_has ls 3 [(0, .ref h)] := hl
  have lo_m3 := k_lo m3
  have hi_m3 := k_hi m3
  have lo_m9 := k_lo m9
  have hi_m9 := k_hi m9
  have lo_m12 := k_lo m12
  have hi_m12 := k_hi m12
  have lo_m13 := k_lo m13
  have hi_m13 := k_hi m13
  have lo_m14 := k_lo m14
  have hi_m14 := k_hi m14
  have lo_m15 := k_lo m15
  have hi_m15 := k_hi m15
  have lo_m16 := k_lo m16
  have hi_m16 := k_hi m16
  have lo_m17 := k_lo m17
  have hi_m17 := k_hi m17
  have lo_m18 := k_lo m18
  have hi_m18 := k_hi m18
  have lo_m19 := k_lo m19
  have hi_m19 := k_hi m19
  have lo_m20 := k_lo m20
  have hi_m20 := k_hi m20
  have lo_m22 := k_lo m22
  have hi_m22 := k_hi m22
  have lo_m23 := k_lo m23
  have hi_m23 := k_hi m23
  refine lv_iconst (v := 0) hx hb dX11_wired_0 (by decide) ?_
  refine lv_istore_n (lv' := [(1, .int 0), (0, .ref h)]) hx hb dX11_wired_1 rfl hl (by decide) rfl (fun ls hl => ?_)
  refine lv_iconst (v := 0) hx hb dX11_wired_2 (by decide) ?_
  refine lv_istore_n (lv' := [(2, .int 0), (1, .int 0), (0, .ref h)]) hx hb dX11_wired_3 rfl hl (by decide) rfl (fun ls hl => ?_)
  have hloop_4 : ∀ (fu_ : Nat) (i : Int32), 0 ≤ i.toInt → i.toInt ≤ 40 → (40 - i.toInt).toNat < fu_ → ∀ (ls : Array Slot) (H : Heap) (locs : List Loc), lv_has ls 3 [(2, .int i), (1, .int 0), (0, .ref h)] → va_P D vwCl [(h, .inr (11, [.ref ys, .ref yk, .ref yt, .int m3, .ref yf, .ref yb, .ref yz, .ref yn, .ref yc, .int m9, .ref yp, .ref yw, .int m12, .int m13, .int m14, .int m15, .int m16, .int m17, .int m18, .int m19, .int m20, .ref ye, .int m22, .int m23, .ref yx])), (ys, .inl (cI, 1201, .inl f))] H → va_D A [(h, .inr (11, [.ref ys, .ref yk, .ref yt, .int m3, .ref yf, .ref yb, .ref yz, .ref yn, .ref yc, .int m9, .ref yp, .ref yw, .int m12, .int m13, .int m14, .int m15, .int m16, .int m17, .int m18, .int m19, .int m20, .ref ye, .int m22, .int m23, .ref yx])), (ys, .inl (cI, 1201, .inl f))] → va_S A s.heap H locs → W p l e ({ frames := 1, cells := 0, slots := 0, locals := 23 } : Room) s m args below meth c H locs 0 0 Q (F0 m 4 ls []) := by
    intro fu_; induction fu_ with
    | zero => intro i i4_0 i4_1 hm; exact absurd hm (by omega)
    | succ fu_ ih4 =>
        intro i i4_0 i4_1 hm ls H locs hl hP hD hS
        have lo_i := k_lo i
        have hi_i := k_hi i
        refine lv_iload_n hx hb dX11_wired_4 rfl (lv_at hl 0 rfl) ?_
        refine lv_bipush (v := 40) hx hb dX11_wired_5 (by decide) ?_
        refine b_icmp_ge hx hb rfl zl_40 (tgt := 32) dX11_wired_7 (by decide) (fun c_1 => ?_) (fun c_1 => ?_)
        · refine lv_iload_n hx hb dX11_wired_32 rfl (lv_at hl 1 rfl) ?_
          exact hRet () [0, 1] rfl hP hD (by decide) rfl hS rfl dX11_wired_33
        · refine lv_iload_n hx hb dX11_wired_10 rfl (lv_at hl 1 rfl) ?_
          refine lv_aload_n hx hb dX11_wired_11 rfl (lv_at hl 2 rfl) ?_
          refine lv_iload_n hx hb dX11_wired_12 rfl (lv_at hl 0 rfl) ?_
          refine kJi (wr := []) (va_runV (As := [.int i]) (rest := [.int 0]) ⟨hx, hb, hml, hown, hT⟩ (c_X11_isWired l D cI h ys yk yt yf yb yz yn yc yp yw ye yx H.size m3 m9 m12 m13 m14 m15 m16 m17 m18 m19 m20 m22 m23 f i pre0) (cwV 1 hT (gV_in mw_1368 mw_1365 mw_1367 mw_p4_13 mw_12) rfl rfl rfl (by decide +kernel) ⟨Nat.le_of_ble_eq_true rfl, Nat.le_of_ble_eq_true rfl⟩) (kRecv (own := "") (q0 := 0) (ci := 11) hK hP hD hN rfl rfl [0, 1] rfl (by decide)) rfl rfl hl.1 rfl (lv_room (Nat.le_of_ble_eq_true rfl)) dX11_wired_13 ⟨Nat.le_of_ble_eq_true rfl, Nat.le_of_ble_eq_true rfl⟩) hP hD hS hA [0, 1] [] rfl rfl (by decide) (by decide) (fun r_2 u_4 H locs w_3 hP hD hS => ?_)
          have hP : va_P D vwCl [(h, .inr (11, [.ref ys, .ref yk, .ref yt, .int m3, .ref yf, .ref yb, .ref yz, .ref yn, .ref yc, .int m9, .ref yp, .ref yw, .int m12, .int m13, .int m14, .int m15, .int m16, .int m17, .int m18, .int m19, .int m20, .ref ye, .int m22, .int m23, .ref yx])), (ys, .inl (cI, 1201, .inl f))] H := hP
          have hD : va_D A [(h, .inr (11, [.ref ys, .ref yk, .ref yt, .int m3, .ref yf, .ref yb, .ref yz, .ref yn, .ref yc, .int m9, .ref yp, .ref yw, .int m12, .int m13, .int m14, .int m15, .int m16, .int m17, .int m18, .int m19, .int m20, .ref ye, .int m22, .int m23, .ref yx])), (ys, .inl (cI, 1201, .inl f))] := hD
          have hr_2 := w_3
          obtain rfl : r_2 = 0 := hr_2.trans (by decide)
          refine b_if_eq hx hb zl_0 (tgt := 23) dX11_wired_16 (by decide) (fun c_5 => ?_) (fun c_5 => by exfalso; omega)
          refine lv_iconst (v := 0) hx hb dX11_wired_23 (by decide) ?_
          refine k_iadd (v := 0) hx hb dX11_wired_24 (by decide) ?_
          refine lv_istore_n (lv' := [(1, .int 0), (2, .int i), (0, .ref h)]) hx hb dX11_wired_25 rfl hl (by decide) rfl (fun ls hl => ?_)
          obtain ⟨v_6, ev_6⟩ : ∃ y : Int32, y = i + 1 := ⟨_, rfl⟩
          have tv_6 : v_6.toInt = i.toInt + 1 := by rw [ev_6]; exact k_addv rfl zl_1 (by omega) (by omega)
          refine lv_iinc (v := v_6) (lv' := [(2, .int v_6), (1, .int 0), (0, .ref h)]) hx hb dX11_wired_26 hl (k := 1) rfl (by rw [ev_6]; rfl) (by decide) rfl (fun ls hl => ?_)
          refine lv_goto (tgt := 4) hx hb dX11_wired_29 (by decide) ?_
          exact ih4 v_6 (by first | omega | decide | assumption | rfl) (by first | omega | decide | assumption | rfl) (by omega) ls _ _ (lv_sub hl [0, 1, 2] rfl) (hP.sub [0, 1] rfl) (hD.sub [0, 1] (by decide) rfl) hS
  exact hloop_4 _ 0 (by first | omega | (simp only [zl_0] <;> omega) | decide | assumption | rfl) (by first | omega | (simp only [zl_0] <;> omega) | decide | assumption | rfl) (Nat.lt_succ_self _) ls _ _ (lv_sub hl [0, 1, 2] rfl) hP hD hS
set_option maxHeartbeats 4000000 in
set_option maxRecDepth 100000 in
theorem c_X11_areWired (l : Launch) (D : va_G) (cI : ClassId) (h ys yk yt yf yb yz yn yc yp yw ye yx : Nat) (sz : Nat) (m3 : Int32) (m9 : Int32) (m12 : Int32) (m13 : Int32) (m14 : Int32) (m15 : Int32) (m16 : Int32) (m17 : Int32) (m18 : Int32) (m19 : Int32) (m20 : Int32) (m22 : Int32) (m23 : Int32) (f : Nat → Int32) (a : Int32) (b : Int32) (pre0 : f 1 = 0) (pre1 : 0 ≤ a.toInt) (pre2 : a.toInt ≤ b.toInt) (pre3 : b.toInt ≤ 39) : Met l yX11_areWired (gW yX11_areWired cX11_areWired 5 (some .boolean)) ({ frames := 1, cells := 0, slots := 0, locals := 23 } : Room) (kPre D cI [.ref h, .int a, .int b] [(h, .inr (11, [.ref ys, .ref yk, .ref yt, .int m3, .ref yf, .ref yb, .ref yz, .ref yn, .ref yc, .int m9, .ref yp, .ref yw, .int m12, .int m13, .int m14, .int m15, .int m16, .int m17, .int m18, .int m19, .int m20, .ref ye, .int m22, .int m23, .ref yx])), (ys, .inl (cI, 1201, .inl f))] sz) (va_Qi (fun (r : Int32) (u : Unit) => r = 0) (fun u t => kWd D cI (va_A [(h, .inr (11, [.ref ys, .ref yk, .ref yt, .int m3, .ref yf, .ref yb, .ref yz, .ref yn, .ref yc, .int m9, .ref yp, .ref yw, .int m12, .int m13, .int m14, .int m15, .int m16, .int m17, .int m18, .int m19, .int m20, .ref ye, .int m22, .int m23, .ref yx])), (ys, .inl (cI, 1201, .inl f))] sz) [(h, .inr (11, [.ref ys, .ref yk, .ref yt, .int m3, .ref yf, .ref yb, .ref yz, .ref yn, .ref yc, .int m9, .ref yp, .ref yw, .int m12, .int m13, .int m14, .int m15, .int m16, .int m17, .int m18, .int m19, .int m20, .ref ye, .int m22, .int m23, .ref yx])), (ys, .inl (cI, 1201, .inl f))] t) (va_A [(h, .inr (11, [.ref ys, .ref yk, .ref yt, .int m3, .ref yf, .ref yb, .ref yz, .ref yn, .ref yc, .int m9, .ref yp, .ref yw, .int m12, .int m13, .int m14, .int m15, .int m16, .int m17, .int m18, .int m19, .int m20, .ref ye, .int m22, .int m23, .ref yx])), (ys, .inl (cI, 1201, .inl f))] sz)) 0 0 (va_A [(h, .inr (11, [.ref ys, .ref yk, .ref yt, .int m3, .ref yf, .ref yb, .ref yz, .ref yn, .ref yc, .int m9, .ref yp, .ref yw, .int m12, .int m13, .int m14, .int m15, .int m16, .int m17, .int m18, .int m19, .int m20, .ref ye, .int m22, .int m23, .ref yx])), (ys, .inl (cI, 1201, .inl f))] sz) := by
  refine kMetI (own := RX11) (by decide) rfl (Nat.le_of_ble_eq_true rfl) ?_
  intro p e s m args below meth c hx hb hT hown hname hml A Q hK hP hD hS hA hN hRet ls hl
  have hl : lv_has ls 5 [(0, .ref h), (1, .int a), (2, .int b)] := hl
  have lo_a := k_lo a
  have hi_a := k_hi a
  have lo_b := k_lo b
  have hi_b := k_hi b
  have lo_m3 := k_lo m3
  have hi_m3 := k_hi m3
  have lo_m9 := k_lo m9
  have hi_m9 := k_hi m9
  have lo_m12 := k_lo m12
  have hi_m12 := k_hi m12
  have lo_m13 := k_lo m13
  have hi_m13 := k_hi m13
  have lo_m14 := k_lo m14
  have hi_m14 := k_hi m14
  have lo_m15 := k_lo m15
  have hi_m15 := k_hi m15
  have lo_m16 := k_lo m16
  have hi_m16 := k_hi m16
  have lo_m17 := k_lo m17
  have hi_m17 := k_hi m17
  have lo_m18 := k_lo m18
  have hi_m18 := k_hi m18
  have lo_m19 := k_lo m19
  have hi_m19 := k_hi m19
  have lo_m20 := k_lo m20
  have hi_m20 := k_hi m20
  have lo_m22 := k_lo m22
  have hi_m22 := k_hi m22
  have lo_m23 := k_lo m23
  have hi_m23 := k_hi m23
  refine lv_iconst (v := 1) hx hb dX11_areWired_0 (by decide) ?_
  refine lv_istore_n (lv' := [(3, .int 1), (0, .ref h), (1, .int a), (2, .int b)]) hx hb dX11_areWired_1 rfl hl (by decide) rfl (fun ls hl => ?_)
  refine lv_iload_n hx hb dX11_areWired_2 rfl (lv_at hl 2 rfl) ?_
  refine lv_istore (lv' := [(4, .int a), (3, .int 1), (0, .ref h), (1, .int a), (2, .int b)]) hx hb dX11_areWired_3 hl (by decide) rfl (fun ls hl => ?_)
  have hloop_5 : ∀ (fu_ : Nat) (q : Int32) (i : Int32), a.toInt ≤ i.toInt → i.toInt ≤ b.toInt + 1 → (i.toInt = a.toInt ∨ q.toInt = 0) → (40 - i.toInt).toNat < fu_ → ∀ (ls : Array Slot) (H : Heap) (locs : List Loc), lv_has ls 5 [(4, .int i), (3, .int q), (0, .ref h), (1, .int a), (2, .int b)] → va_P D vwCl [(h, .inr (11, [.ref ys, .ref yk, .ref yt, .int m3, .ref yf, .ref yb, .ref yz, .ref yn, .ref yc, .int m9, .ref yp, .ref yw, .int m12, .int m13, .int m14, .int m15, .int m16, .int m17, .int m18, .int m19, .int m20, .ref ye, .int m22, .int m23, .ref yx])), (ys, .inl (cI, 1201, .inl f))] H → va_D A [(h, .inr (11, [.ref ys, .ref yk, .ref yt, .int m3, .ref yf, .ref yb, .ref yz, .ref yn, .ref yc, .int m9, .ref yp, .ref yw, .int m12, .int m13, .int m14, .int m15, .int m16, .int m17, .int m18, .int m19, .int m20, .ref ye, .int m22, .int m23, .ref yx])), (ys, .inl (cI, 1201, .inl f))] → va_S A s.heap H locs → W p l e ({ frames := 1, cells := 0, slots := 0, locals := 23 } : Room) s m args below meth c H locs 0 0 Q (F0 m 5 ls []) := by
    intro fu_; induction fu_ with
    | zero => intro q i i5_0 i5_1 i5_2 hm; exact absurd hm (by omega)
    | succ fu_ ih5 =>
        intro q i i5_0 i5_1 i5_2 hm ls H locs hl hP hD hS
        have lo_q := k_lo q
        have hi_q := k_hi q
        have lo_i := k_lo i
        have hi_i := k_hi i
        refine lv_iload hx hb dX11_areWired_5 (lv_at hl 0 rfl) ?_
        refine lv_iload_n hx hb dX11_areWired_7 rfl (lv_at hl 4 rfl) ?_
        refine b_icmp_gt hx hb rfl rfl (tgt := 36) dX11_areWired_8 (by decide) (fun c_1 => ?_) (fun c_1 => ?_)
        · refine lv_iload_n hx hb dX11_areWired_36 rfl (lv_at hl 1 rfl) ?_
          obtain rfl : q = 0 := k_inj (by rw [zl_0]; omega)
          exact hRet () [0, 1] rfl hP hD (by decide) rfl hS rfl dX11_areWired_37
        · refine lv_iload_n hx hb dX11_areWired_11 rfl (lv_at hl 1 rfl) ?_
          refine b_if_eq hx hb rfl (tgt := 28) dX11_areWired_12 (by decide) (fun c_2 => ?_) (fun c_2 => ?_)
          · refine lv_iconst (v := 0) hx hb dX11_areWired_28 (by decide) ?_
            refine lv_istore_n (lv' := [(3, .int 0), (4, .int i), (0, .ref h), (1, .int a), (2, .int b)]) hx hb dX11_areWired_29 rfl hl (by decide) rfl (fun ls hl => ?_)
            obtain ⟨v_3, ev_3⟩ : ∃ y : Int32, y = i + 1 := ⟨_, rfl⟩
            have tv_3 : v_3.toInt = i.toInt + 1 := by rw [ev_3]; exact k_addv rfl zl_1 (by omega) (by omega)
            refine lv_iinc (v := v_3) (lv' := [(4, .int v_3), (3, .int 0), (0, .ref h), (1, .int a), (2, .int b)]) hx hb dX11_areWired_30 hl (k := 1) rfl (by rw [ev_3]; rfl) (by decide) rfl (fun ls hl => ?_)
            refine lv_goto (tgt := 5) hx hb dX11_areWired_33 (by decide) ?_
            exact ih5 0 v_3 (by first | omega | (simp only [zl_0] <;> omega) | decide | assumption | rfl) (by first | omega | (simp only [zl_0] <;> omega) | decide | assumption | rfl) (by first | omega | (rw [zl_0]; omega)) (by omega) ls _ _ (lv_sub hl [0, 1, 2, 3, 4] rfl) (hP.sub [0, 1] rfl) (hD.sub [0, 1] (by decide) rfl) hS
          · refine lv_aload_n hx hb dX11_areWired_15 rfl (lv_at hl 2 rfl) ?_
            refine lv_iload hx hb dX11_areWired_16 (lv_at hl 0 rfl) ?_
            refine kJi (wr := []) (va_runV (As := [.int i]) (rest := []) ⟨hx, hb, hml, hown, hT⟩ (c_X11_isWired l D cI h ys yk yt yf yb yz yn yc yp yw ye yx H.size m3 m9 m12 m13 m14 m15 m16 m17 m18 m19 m20 m22 m23 f i pre0) (cwV 1 hT (gV_in mw_1368 mw_1365 mw_1367 mw_p4_13 mw_12) rfl rfl rfl (by decide +kernel) ⟨Nat.le_of_ble_eq_true rfl, Nat.le_of_ble_eq_true rfl⟩) (kRecv (own := "") (q0 := 0) (ci := 11) hK hP hD hN rfl rfl [0, 1] rfl (by decide)) rfl rfl hl.1 rfl (lv_room (Nat.le_of_ble_eq_true rfl)) dX11_areWired_18 ⟨Nat.le_of_ble_eq_true rfl, Nat.le_of_ble_eq_true rfl⟩) hP hD hS hA [0, 1] [] rfl rfl (by decide) (by decide) (fun r_4 u_6 H locs w_5 hP hD hS => ?_)
            have hP : va_P D vwCl [(h, .inr (11, [.ref ys, .ref yk, .ref yt, .int m3, .ref yf, .ref yb, .ref yz, .ref yn, .ref yc, .int m9, .ref yp, .ref yw, .int m12, .int m13, .int m14, .int m15, .int m16, .int m17, .int m18, .int m19, .int m20, .ref ye, .int m22, .int m23, .ref yx])), (ys, .inl (cI, 1201, .inl f))] H := hP
            have hD : va_D A [(h, .inr (11, [.ref ys, .ref yk, .ref yt, .int m3, .ref yf, .ref yb, .ref yz, .ref yn, .ref yc, .int m9, .ref yp, .ref yw, .int m12, .int m13, .int m14, .int m15, .int m16, .int m17, .int m18, .int m19, .int m20, .ref ye, .int m22, .int m23, .ref yx])), (ys, .inl (cI, 1201, .inl f))] := hD
            have hr_4 := w_5
            obtain rfl : r_4 = 0 := hr_4.trans (by decide)
            refine b_if_eq hx hb zl_0 (tgt := 28) dX11_areWired_21 (by decide) (fun c_7 => ?_) (fun c_7 => by exfalso; omega)
            refine lv_iconst (v := 0) hx hb dX11_areWired_28 (by decide) ?_
            refine lv_istore_n (lv' := [(3, .int 0), (4, .int i), (0, .ref h), (1, .int a), (2, .int b)]) hx hb dX11_areWired_29 rfl hl (by decide) rfl (fun ls hl => ?_)
            obtain ⟨v_8, ev_8⟩ : ∃ y : Int32, y = i + 1 := ⟨_, rfl⟩
            have tv_8 : v_8.toInt = i.toInt + 1 := by rw [ev_8]; exact k_addv rfl zl_1 (by omega) (by omega)
            refine lv_iinc (v := v_8) (lv' := [(4, .int v_8), (3, .int 0), (0, .ref h), (1, .int a), (2, .int b)]) hx hb dX11_areWired_30 hl (k := 1) rfl (by rw [ev_8]; rfl) (by decide) rfl (fun ls hl => ?_)
            refine lv_goto (tgt := 5) hx hb dX11_areWired_33 (by decide) ?_
            exact ih5 0 v_8 (by first | omega | (simp only [zl_0] <;> omega) | decide | assumption | rfl) (by first | omega | (simp only [zl_0] <;> omega) | decide | assumption | rfl) (by first | omega | (rw [zl_0]; omega)) (by omega) ls _ _ (lv_sub hl [0, 1, 2, 3, 4] rfl) (hP.sub [0, 1] rfl) (hD.sub [0, 1] (by decide) rfl) hS
  exact hloop_5 _ 1 a (by first | omega | (simp only [zl_1] <;> omega) | decide | assumption | rfl) (by first | omega | (simp only [zl_1] <;> omega) | decide | assumption | rfl) (by first | omega | (rw [zl_0]; omega)) (Nat.lt_succ_self _) ls _ _ (lv_sub hl [0, 1, 2, 3, 4] rfl) hP hD hS
set_option maxHeartbeats 4000000 in
set_option maxRecDepth 100000 in
theorem c_X11_leakOf (l : Launch) (D : va_G) (cI : ClassId) (h ys yk yt yf yb yz yn yc yp yw ye yx : Nat) (sz : Nat) (m3 : Int32) (m9 : Int32) (m12 : Int32) (m13 : Int32) (m14 : Int32) (m15 : Int32) (m16 : Int32) (m17 : Int32) (m18 : Int32) (m19 : Int32) (m20 : Int32) (m22 : Int32) (m23 : Int32) (f : Nat → Int32) (a : Int32) (pre0 : f 1 = 0) : Met l yX11_leakOf (gW yX11_leakOf cX11_leakOf 5 (some .int)) ({ frames := 0, cells := 0, slots := 0, locals := 0 } : Room) (kPre D cI [.ref h, .int a] [(h, .inr (11, [.ref ys, .ref yk, .ref yt, .int m3, .ref yf, .ref yb, .ref yz, .ref yn, .ref yc, .int m9, .ref yp, .ref yw, .int m12, .int m13, .int m14, .int m15, .int m16, .int m17, .int m18, .int m19, .int m20, .ref ye, .int m22, .int m23, .ref yx])), (ys, .inl (cI, 1201, .inl f))] sz) (va_Qi (fun (r : Int32) (u : Unit) => r = (-1)) (fun u t => kWd D cI (va_A [(h, .inr (11, [.ref ys, .ref yk, .ref yt, .int m3, .ref yf, .ref yb, .ref yz, .ref yn, .ref yc, .int m9, .ref yp, .ref yw, .int m12, .int m13, .int m14, .int m15, .int m16, .int m17, .int m18, .int m19, .int m20, .ref ye, .int m22, .int m23, .ref yx])), (ys, .inl (cI, 1201, .inl f))] sz) [(h, .inr (11, [.ref ys, .ref yk, .ref yt, .int m3, .ref yf, .ref yb, .ref yz, .ref yn, .ref yc, .int m9, .ref yp, .ref yw, .int m12, .int m13, .int m14, .int m15, .int m16, .int m17, .int m18, .int m19, .int m20, .ref ye, .int m22, .int m23, .ref yx])), (ys, .inl (cI, 1201, .inl f))] t) (va_A [(h, .inr (11, [.ref ys, .ref yk, .ref yt, .int m3, .ref yf, .ref yb, .ref yz, .ref yn, .ref yc, .int m9, .ref yp, .ref yw, .int m12, .int m13, .int m14, .int m15, .int m16, .int m17, .int m18, .int m19, .int m20, .ref ye, .int m22, .int m23, .ref yx])), (ys, .inl (cI, 1201, .inl f))] sz)) 0 0 (va_A [(h, .inr (11, [.ref ys, .ref yk, .ref yt, .int m3, .ref yf, .ref yb, .ref yz, .ref yn, .ref yc, .int m9, .ref yp, .ref yw, .int m12, .int m13, .int m14, .int m15, .int m16, .int m17, .int m18, .int m19, .int m20, .ref ye, .int m22, .int m23, .ref yx])), (ys, .inl (cI, 1201, .inl f))] sz) := by
  refine kMetI (own := RX11) (by decide) rfl (Nat.le_of_ble_eq_true rfl) ?_
  intro p e s m args below meth c hx hb hT hown hname hml A Q hK hP hD hS hA hN hRet ls hl
  have hl : lv_has ls 5 [(0, .ref h), (1, .int a)] := hl
  have lo_a := k_lo a
  have hi_a := k_hi a
  have lo_m3 := k_lo m3
  have hi_m3 := k_hi m3
  have lo_m9 := k_lo m9
  have hi_m9 := k_hi m9
  have lo_m12 := k_lo m12
  have hi_m12 := k_hi m12
  have lo_m13 := k_lo m13
  have hi_m13 := k_hi m13
  have lo_m14 := k_lo m14
  have hi_m14 := k_hi m14
  have lo_m15 := k_lo m15
  have hi_m15 := k_hi m15
  have lo_m16 := k_lo m16
  have hi_m16 := k_hi m16
  have lo_m17 := k_lo m17
  have hi_m17 := k_hi m17
  have lo_m18 := k_lo m18
  have hi_m18 := k_hi m18
  have lo_m19 := k_lo m19
  have hi_m19 := k_hi m19
  have lo_m20 := k_lo m20
  have hi_m20 := k_hi m20
  have lo_m22 := k_lo m22
  have hi_m22 := k_hi m22
  have lo_m23 := k_lo m23
  have hi_m23 := k_hi m23
  refine lv_iconst (v := (-1)) hx hb dX11_leakOf_0 (by decide) ?_
  refine lv_istore_n (lv' := [(2, .int (-1)), (0, .ref h), (1, .int a)]) hx hb dX11_leakOf_1 rfl hl (by decide) rfl (fun ls hl => ?_)
  refine lv_iconst (v := 0) hx hb dX11_leakOf_2 (by decide) ?_
  refine lv_istore_n (lv' := [(3, .int 0), (2, .int (-1)), (0, .ref h), (1, .int a)]) hx hb dX11_leakOf_3 rfl hl (by decide) rfl (fun ls hl => ?_)
  refine lv_iload_n hx hb dX11_leakOf_4 rfl (lv_at hl 0 rfl) ?_
  refine lv_aload_n hx hb dX11_leakOf_5 rfl (lv_at hl 2 rfl) ?_
  refine va_get (D := D) (ci := 11) (v := .ref ys) (C := RX11) (T := TX11) (N := 25) hx hb hT giX11 hown hK hP 0 rfl rfl 0 (by decide) (hT (Cond.fieldLink RX11 9 "DesertWireModel" "s" "[I") mw_1156) (fun _ h9 => h9) rfl dX11_leakOf_6 ?_
  refine lv_iconst (v := 1) hx hb dX11_leakOf_9 (by decide) ?_
  refine k_iald (v := 0) hx hb hK hP 1 0 rfl rfl (k_inl (by decide)) pre0 dX11_leakOf_10 ?_
  refine b_icmp_ge hx hb zl_0 zl_0 (tgt := 120) dX11_leakOf_11 (by decide) (fun c_1 => ?_) (fun c_1 => by exfalso; omega)
  refine lv_iload_n hx hb dX11_leakOf_120 rfl (lv_at hl 1 rfl) ?_
  exact hRet () [0, 1] rfl hP hD (by decide) rfl hS rfl dX11_leakOf_121
set_option maxHeartbeats 4000000 in
set_option maxRecDepth 100000 in
theorem c_X11_wellsIn (l : Launch) (D : va_G) (cI : ClassId) (h ys yk yt yf yb yz yn yc yp yw ye yx : Nat) (sz : Nat) (m3 : Int32) (m9 : Int32) (m12 : Int32) (m13 : Int32) (m14 : Int32) (m15 : Int32) (m16 : Int32) (m17 : Int32) (m18 : Int32) (m19 : Int32) (m20 : Int32) (m22 : Int32) (m23 : Int32) (f : Nat → Int32) (a : Int32) (pre0 : f 1 = 0) : Met l yX11_wellsIn (gW yX11_wellsIn cX11_wellsIn 4 (some .int)) ({ frames := 0, cells := 0, slots := 0, locals := 0 } : Room) (kPre D cI [.ref h, .int a] [(h, .inr (11, [.ref ys, .ref yk, .ref yt, .int m3, .ref yf, .ref yb, .ref yz, .ref yn, .ref yc, .int m9, .ref yp, .ref yw, .int m12, .int m13, .int m14, .int m15, .int m16, .int m17, .int m18, .int m19, .int m20, .ref ye, .int m22, .int m23, .ref yx])), (ys, .inl (cI, 1201, .inl f))] sz) (va_Qi (fun (r : Int32) (u : Unit) => r = 0) (fun u t => kWd D cI (va_A [(h, .inr (11, [.ref ys, .ref yk, .ref yt, .int m3, .ref yf, .ref yb, .ref yz, .ref yn, .ref yc, .int m9, .ref yp, .ref yw, .int m12, .int m13, .int m14, .int m15, .int m16, .int m17, .int m18, .int m19, .int m20, .ref ye, .int m22, .int m23, .ref yx])), (ys, .inl (cI, 1201, .inl f))] sz) [(h, .inr (11, [.ref ys, .ref yk, .ref yt, .int m3, .ref yf, .ref yb, .ref yz, .ref yn, .ref yc, .int m9, .ref yp, .ref yw, .int m12, .int m13, .int m14, .int m15, .int m16, .int m17, .int m18, .int m19, .int m20, .ref ye, .int m22, .int m23, .ref yx])), (ys, .inl (cI, 1201, .inl f))] t) (va_A [(h, .inr (11, [.ref ys, .ref yk, .ref yt, .int m3, .ref yf, .ref yb, .ref yz, .ref yn, .ref yc, .int m9, .ref yp, .ref yw, .int m12, .int m13, .int m14, .int m15, .int m16, .int m17, .int m18, .int m19, .int m20, .ref ye, .int m22, .int m23, .ref yx])), (ys, .inl (cI, 1201, .inl f))] sz)) 0 0 (va_A [(h, .inr (11, [.ref ys, .ref yk, .ref yt, .int m3, .ref yf, .ref yb, .ref yz, .ref yn, .ref yc, .int m9, .ref yp, .ref yw, .int m12, .int m13, .int m14, .int m15, .int m16, .int m17, .int m18, .int m19, .int m20, .ref ye, .int m22, .int m23, .ref yx])), (ys, .inl (cI, 1201, .inl f))] sz) := by
  refine kMetI (own := RX11) (by decide) rfl (Nat.le_of_ble_eq_true rfl) ?_
  intro p e s m args below meth c hx hb hT hown hname hml A Q hK hP hD hS hA hN hRet ls hl
  have hl : lv_has ls 4 [(0, .ref h), (1, .int a)] := hl
  have lo_a := k_lo a
  have hi_a := k_hi a
  have lo_m3 := k_lo m3
  have hi_m3 := k_hi m3
  have lo_m9 := k_lo m9
  have hi_m9 := k_hi m9
  have lo_m12 := k_lo m12
  have hi_m12 := k_hi m12
  have lo_m13 := k_lo m13
  have hi_m13 := k_hi m13
  have lo_m14 := k_lo m14
  have hi_m14 := k_hi m14
  have lo_m15 := k_lo m15
  have hi_m15 := k_hi m15
  have lo_m16 := k_lo m16
  have hi_m16 := k_hi m16
  have lo_m17 := k_lo m17
  have hi_m17 := k_hi m17
  have lo_m18 := k_lo m18
  have hi_m18 := k_hi m18
  have lo_m19 := k_lo m19
  have hi_m19 := k_hi m19
  have lo_m20 := k_lo m20
  have hi_m20 := k_hi m20
  have lo_m22 := k_lo m22
  have hi_m22 := k_hi m22
  have lo_m23 := k_lo m23
  have hi_m23 := k_hi m23
  refine lv_iconst (v := 0) hx hb dX11_wellsIn_0 (by decide) ?_
  refine lv_istore_n (lv' := [(2, .int 0), (0, .ref h), (1, .int a)]) hx hb dX11_wellsIn_1 rfl hl (by decide) rfl (fun ls hl => ?_)
  refine lv_iconst (v := 0) hx hb dX11_wellsIn_2 (by decide) ?_
  refine lv_istore_n (lv' := [(3, .int 0), (2, .int 0), (0, .ref h), (1, .int a)]) hx hb dX11_wellsIn_3 rfl hl (by decide) rfl (fun ls hl => ?_)
  refine lv_iload_n hx hb dX11_wellsIn_4 rfl (lv_at hl 0 rfl) ?_
  refine lv_aload_n hx hb dX11_wellsIn_5 rfl (lv_at hl 2 rfl) ?_
  refine va_get (D := D) (ci := 11) (v := .ref ys) (C := RX11) (T := TX11) (N := 25) hx hb hT giX11 hown hK hP 0 rfl rfl 0 (by decide) (hT (Cond.fieldLink RX11 9 "DesertWireModel" "s" "[I") mw_1156) (fun _ h9 => h9) rfl dX11_wellsIn_6 ?_
  refine lv_iconst (v := 1) hx hb dX11_wellsIn_9 (by decide) ?_
  refine k_iald (v := 0) hx hb hK hP 1 0 rfl rfl (k_inl (by decide)) pre0 dX11_wellsIn_10 ?_
  refine b_icmp_ge hx hb zl_0 zl_0 (tgt := 62) dX11_wellsIn_11 (by decide) (fun c_1 => ?_) (fun c_1 => by exfalso; omega)
  refine lv_iload_n hx hb dX11_wellsIn_62 rfl (lv_at hl 1 rfl) ?_
  exact hRet () [0, 1] rfl hP hD (by decide) rfl hS rfl dX11_wellsIn_63
set_option maxHeartbeats 4000000 in
set_option maxRecDepth 100000 in
theorem c_X11_rainNow (l : Launch) (D : va_G) (cI : ClassId) (h ys yk yt yf yb yz yn yc yp yw ye yx : Nat) (sz : Nat) (m3 : Int32) (m9 : Int32) (m12 : Int32) (m13 : Int32) (m14 : Int32) (m15 : Int32) (m16 : Int32) (m17 : Int32) (m18 : Int32) (m19 : Int32) (m20 : Int32) (m22 : Int32) (m23 : Int32) : Met l yX11_rainNow (gW yX11_rainNow cX11_rainNow 1 (some .int)) ({ frames := 0, cells := 0, slots := 0, locals := 0 } : Room) (kPre D cI [.ref h] [(h, .inr (11, [.ref ys, .ref yk, .ref yt, .int m3, .ref yf, .ref yb, .ref yz, .ref yn, .ref yc, .int m9, .ref yp, .ref yw, .int m12, .int m13, .int m14, .int m15, .int m16, .int m17, .int m18, .int m19, .int m20, .ref ye, .int m22, .int m23, .ref yx])), (ys, .inl (cI, 1201, .inl sI))] sz) (va_Qi (fun (r : Int32) (u : Unit) => r = 2) (fun u t => kWd D cI (va_A [(h, .inr (11, [.ref ys, .ref yk, .ref yt, .int m3, .ref yf, .ref yb, .ref yz, .ref yn, .ref yc, .int m9, .ref yp, .ref yw, .int m12, .int m13, .int m14, .int m15, .int m16, .int m17, .int m18, .int m19, .int m20, .ref ye, .int m22, .int m23, .ref yx])), (ys, .inl (cI, 1201, .inl sI))] sz) [(h, .inr (11, [.ref ys, .ref yk, .ref yt, .int m3, .ref yf, .ref yb, .ref yz, .ref yn, .ref yc, .int m9, .ref yp, .ref yw, .int m12, .int m13, .int m14, .int m15, .int m16, .int m17, .int m18, .int m19, .int m20, .ref ye, .int m22, .int m23, .ref yx])), (ys, .inl (cI, 1201, .inl sI))] t) (va_A [(h, .inr (11, [.ref ys, .ref yk, .ref yt, .int m3, .ref yf, .ref yb, .ref yz, .ref yn, .ref yc, .int m9, .ref yp, .ref yw, .int m12, .int m13, .int m14, .int m15, .int m16, .int m17, .int m18, .int m19, .int m20, .ref ye, .int m22, .int m23, .ref yx])), (ys, .inl (cI, 1201, .inl sI))] sz)) 0 0 (va_A [(h, .inr (11, [.ref ys, .ref yk, .ref yt, .int m3, .ref yf, .ref yb, .ref yz, .ref yn, .ref yc, .int m9, .ref yp, .ref yw, .int m12, .int m13, .int m14, .int m15, .int m16, .int m17, .int m18, .int m19, .int m20, .ref ye, .int m22, .int m23, .ref yx])), (ys, .inl (cI, 1201, .inl sI))] sz) := by
  refine kMetI (own := RX11) (by decide) rfl (Nat.le_of_ble_eq_true rfl) ?_
  intro p e s m args below meth c hx hb hT hown hname hml A Q hK hP hD hS hA hN hRet ls hl
  have hl : lv_has ls 1 [(0, .ref h)] := hl
  have lo_m3 := k_lo m3
  have hi_m3 := k_hi m3
  have lo_m9 := k_lo m9
  have hi_m9 := k_hi m9
  have lo_m12 := k_lo m12
  have hi_m12 := k_hi m12
  have lo_m13 := k_lo m13
  have hi_m13 := k_hi m13
  have lo_m14 := k_lo m14
  have hi_m14 := k_hi m14
  have lo_m15 := k_lo m15
  have hi_m15 := k_hi m15
  have lo_m16 := k_lo m16
  have hi_m16 := k_hi m16
  have lo_m17 := k_lo m17
  have hi_m17 := k_hi m17
  have lo_m18 := k_lo m18
  have hi_m18 := k_hi m18
  have lo_m19 := k_lo m19
  have hi_m19 := k_hi m19
  have lo_m20 := k_lo m20
  have hi_m20 := k_hi m20
  have lo_m22 := k_lo m22
  have hi_m22 := k_hi m22
  have lo_m23 := k_lo m23
  have hi_m23 := k_hi m23
  refine lv_aload_n hx hb dX11_rainNow_0 rfl (lv_at hl 0 rfl) ?_
  refine va_get (D := D) (ci := 11) (v := .ref ys) (C := RX11) (T := TX11) (N := 25) hx hb hT giX11 hown hK hP 0 rfl rfl 0 (by decide) (hT (Cond.fieldLink RX11 9 "DesertWireModel" "s" "[I") mw_1156) (fun _ h9 => h9) rfl dX11_rainNow_1 ?_
  refine lv_bipush (v := 7) hx hb dX11_rainNow_4 (by decide) ?_
  refine lv_aload_n hx hb dX11_rainNow_6 rfl (lv_at hl 0 rfl) ?_
  refine va_get (D := D) (ci := 11) (v := .ref ys) (C := RX11) (T := TX11) (N := 25) hx hb hT giX11 hown hK hP 0 rfl rfl 0 (by decide) (hT (Cond.fieldLink RX11 9 "DesertWireModel" "s" "[I") mw_1156) (fun _ h9 => h9) rfl dX11_rainNow_7 ?_
  refine lv_iconst (v := 0) hx hb dX11_rainNow_10 (by decide) ?_
  refine k_iald (v := 0) hx hb hK hP 1 0 rfl rfl (k_inl (by decide)) (by decide +kernel) dX11_rainNow_11 ?_
  refine lv_bipush (v := 30) hx hb dX11_rainNow_12 (by decide) ?_
  refine k_idiv (v := 0) hx hb dX11_rainNow_14 (by decide) (by decide) ?_
  refine lv_bipush (v := 12) hx hb dX11_rainNow_15 (by decide) ?_
  refine k_irem (v := 0) hx hb dX11_rainNow_17 (by decide) (by decide) ?_
  refine k_iadd (v := 7) hx hb dX11_rainNow_18 (by decide) ?_
  refine k_iald (v := 2) hx hb hK hP 1 0 rfl rfl (k_inl (by decide)) (by decide +kernel) dX11_rainNow_19 ?_
  exact hRet () [0, 1] rfl hP hD (by decide) rfl hS rfl dX11_rainNow_20
set_option maxHeartbeats 4000000 in
set_option maxRecDepth 100000 in
theorem c_X11_effort (l : Launch) (D : va_G) (cI : ClassId) (h ys yk yt yf yb yz yn yc yp yw ye yx : Nat) (sz : Nat) (m3 : Int32) (m9 : Int32) (m12 : Int32) (m13 : Int32) (m14 : Int32) (m15 : Int32) (m16 : Int32) (m17 : Int32) (m18 : Int32) (m19 : Int32) (m20 : Int32) (m22 : Int32) (m23 : Int32) (a : Int32) (b : Int32) (pre0 : 0 ≤ a.toInt) (pre1 : a.toInt ≤ 39) : Met l yX11_effort (gW yX11_effort cX11_effort 4 (some .int)) ({ frames := 0, cells := 0, slots := 0, locals := 0 } : Room) (kPre D cI [.ref h, .int a, .int b] [(h, .inr (11, [.ref ys, .ref yk, .ref yt, .int m3, .ref yf, .ref yb, .ref yz, .ref yn, .ref yc, .int m9, .ref yp, .ref yw, .int m12, .int m13, .int m14, .int m15, .int m16, .int m17, .int m18, .int m19, .int m20, .ref ye, .int m22, .int m23, .ref yx])), (ys, .inl (cI, 1201, .inl sI))] sz) (va_Qi (fun (r : Int32) (u : Unit) => r = 10) (fun u t => kWd D cI (va_A [(h, .inr (11, [.ref ys, .ref yk, .ref yt, .int m3, .ref yf, .ref yb, .ref yz, .ref yn, .ref yc, .int m9, .ref yp, .ref yw, .int m12, .int m13, .int m14, .int m15, .int m16, .int m17, .int m18, .int m19, .int m20, .ref ye, .int m22, .int m23, .ref yx])), (ys, .inl (cI, 1201, .inl sI))] sz) [(h, .inr (11, [.ref ys, .ref yk, .ref yt, .int m3, .ref yf, .ref yb, .ref yz, .ref yn, .ref yc, .int m9, .ref yp, .ref yw, .int m12, .int m13, .int m14, .int m15, .int m16, .int m17, .int m18, .int m19, .int m20, .ref ye, .int m22, .int m23, .ref yx])), (ys, .inl (cI, 1201, .inl sI))] t) (va_A [(h, .inr (11, [.ref ys, .ref yk, .ref yt, .int m3, .ref yf, .ref yb, .ref yz, .ref yn, .ref yc, .int m9, .ref yp, .ref yw, .int m12, .int m13, .int m14, .int m15, .int m16, .int m17, .int m18, .int m19, .int m20, .ref ye, .int m22, .int m23, .ref yx])), (ys, .inl (cI, 1201, .inl sI))] sz)) 0 0 (va_A [(h, .inr (11, [.ref ys, .ref yk, .ref yt, .int m3, .ref yf, .ref yb, .ref yz, .ref yn, .ref yc, .int m9, .ref yp, .ref yw, .int m12, .int m13, .int m14, .int m15, .int m16, .int m17, .int m18, .int m19, .int m20, .ref ye, .int m22, .int m23, .ref yx])), (ys, .inl (cI, 1201, .inl sI))] sz) := by
  refine kMetI (own := RX11) (by decide) rfl (Nat.le_of_ble_eq_true rfl) ?_
  intro p e s m args below meth c hx hb hT hown hname hml A Q hK hP hD hS hA hN hRet ls hl
  have hl : lv_has ls 4 [(0, .ref h), (1, .int a), (2, .int b)] := hl
  have lo_a := k_lo a
  have hi_a := k_hi a
  have lo_b := k_lo b
  have hi_b := k_hi b
  have lo_m3 := k_lo m3
  have hi_m3 := k_hi m3
  have lo_m9 := k_lo m9
  have hi_m9 := k_hi m9
  have lo_m12 := k_lo m12
  have hi_m12 := k_hi m12
  have lo_m13 := k_lo m13
  have hi_m13 := k_hi m13
  have lo_m14 := k_lo m14
  have hi_m14 := k_hi m14
  have lo_m15 := k_lo m15
  have hi_m15 := k_hi m15
  have lo_m16 := k_lo m16
  have hi_m16 := k_hi m16
  have lo_m17 := k_lo m17
  have hi_m17 := k_hi m17
  have lo_m18 := k_lo m18
  have hi_m18 := k_hi m18
  have lo_m19 := k_lo m19
  have hi_m19 := k_hi m19
  have lo_m20 := k_lo m20
  have hi_m20 := k_hi m20
  have lo_m22 := k_lo m22
  have hi_m22 := k_hi m22
  have lo_m23 := k_lo m23
  have hi_m23 := k_hi m23
  refine lv_aload_n hx hb dX11_effort_0 rfl (lv_at hl 0 rfl) ?_
  refine va_get (D := D) (ci := 11) (v := .ref ys) (C := RX11) (T := TX11) (N := 25) hx hb hT giX11 hown hK hP 0 rfl rfl 0 (by decide) (hT (Cond.fieldLink RX11 9 "DesertWireModel" "s" "[I") mw_1156) (fun _ h9 => h9) rfl dX11_effort_1 ?_
  refine lv_bipush (v := 19) hx hb dX11_effort_4 (by decide) ?_
  refine lv_iload_n hx hb dX11_effort_6 rfl (lv_at hl 1 rfl) ?_
  refine lv_iadd hx hb dX11_effort_7 ?_
  refine lv_topi (fun v_1 ev_1 => ?_)
  have tv_1 : v_1.toInt = 19 + a.toInt := by rw [ev_1]; exact k_addv zl_19 rfl (by omega) (by omega)
  refine k_iald (v := 0) hx hb hK hP 1 0 rfl rfl (k_in (by omega) (by omega)) (k_sI0 (by omega)) dX11_effort_8 ?_
  refine lv_istore_n (lv' := [(3, .int 0), (0, .ref h), (1, .int a), (2, .int b)]) hx hb dX11_effort_9 rfl hl (by decide) rfl (fun ls hl => ?_)
  refine lv_iload_n hx hb dX11_effort_10 rfl (lv_at hl 0 rfl) ?_
  refine b_if_ne hx hb zl_0 (tgt := 19) dX11_effort_11 (by decide) (fun c_2 => by exfalso; omega) (fun c_2 => ?_)
  refine lv_bipush (v := 10) hx hb dX11_effort_14 (by decide) ?_
  refine lv_goto (tgt := 36) hx hb dX11_effort_16 (by decide) ?_
  exact hRet () [0, 1] rfl hP hD (by decide) rfl hS rfl dX11_effort_36
set_option maxHeartbeats 4000000 in
set_option maxRecDepth 100000 in
theorem c_X11_now (l : Launch) (D : va_G) (cI : ClassId) (h ys yk yt yf yb yz yn yc yp yw ye yx : Nat) (sz : Nat) (m3 : Int32) (m9 : Int32) (m12 : Int32) (m15 : Int32) (m16 : Int32) (m17 : Int32) (m18 : Int32) (m19 : Int32) (m20 : Int32) (m22 : Int32) (m23 : Int32) : Met l yX11_now (gW yX11_now cX11_now 1 (some .int)) ({ frames := 0, cells := 0, slots := 0, locals := 0 } : Room) (kPre D cI [.ref h] [(h, .inr (11, [.ref ys, .ref yk, .ref yt, .int m3, .ref yf, .ref yb, .ref yz, .ref yn, .ref yc, .int m9, .ref yp, .ref yw, .int m12, .int 0, .int 0, .int m15, .int m16, .int m17, .int m18, .int m19, .int m20, .ref ye, .int m22, .int m23, .ref yx]))] sz) (va_Qi (fun (r : Int32) (u : Unit) => r = (-1)) (fun u t => kWd D cI (va_A [(h, .inr (11, [.ref ys, .ref yk, .ref yt, .int m3, .ref yf, .ref yb, .ref yz, .ref yn, .ref yc, .int m9, .ref yp, .ref yw, .int m12, .int 0, .int 0, .int m15, .int m16, .int m17, .int m18, .int m19, .int m20, .ref ye, .int m22, .int m23, .ref yx]))] sz) [(h, .inr (11, [.ref ys, .ref yk, .ref yt, .int m3, .ref yf, .ref yb, .ref yz, .ref yn, .ref yc, .int m9, .ref yp, .ref yw, .int m12, .int 0, .int 0, .int m15, .int m16, .int m17, .int m18, .int m19, .int m20, .ref ye, .int m22, .int m23, .ref yx]))] t) (va_A [(h, .inr (11, [.ref ys, .ref yk, .ref yt, .int m3, .ref yf, .ref yb, .ref yz, .ref yn, .ref yc, .int m9, .ref yp, .ref yw, .int m12, .int 0, .int 0, .int m15, .int m16, .int m17, .int m18, .int m19, .int m20, .ref ye, .int m22, .int m23, .ref yx]))] sz)) 0 0 (va_A [(h, .inr (11, [.ref ys, .ref yk, .ref yt, .int m3, .ref yf, .ref yb, .ref yz, .ref yn, .ref yc, .int m9, .ref yp, .ref yw, .int m12, .int 0, .int 0, .int m15, .int m16, .int m17, .int m18, .int m19, .int m20, .ref ye, .int m22, .int m23, .ref yx]))] sz) := by
  refine kMetI (own := RX11) (by decide) rfl (Nat.le_of_ble_eq_true rfl) ?_
  intro p e s m args below meth c hx hb hT hown hname hml A Q hK hP hD hS hA hN hRet ls hl
  have hl : lv_has ls 1 [(0, .ref h)] := hl
  have lo_m3 := k_lo m3
  have hi_m3 := k_hi m3
  have lo_m9 := k_lo m9
  have hi_m9 := k_hi m9
  have lo_m12 := k_lo m12
  have hi_m12 := k_hi m12
  have lo_m15 := k_lo m15
  have hi_m15 := k_hi m15
  have lo_m16 := k_lo m16
  have hi_m16 := k_hi m16
  have lo_m17 := k_lo m17
  have hi_m17 := k_hi m17
  have lo_m18 := k_lo m18
  have hi_m18 := k_hi m18
  have lo_m19 := k_lo m19
  have hi_m19 := k_hi m19
  have lo_m20 := k_lo m20
  have hi_m20 := k_hi m20
  have lo_m22 := k_lo m22
  have hi_m22 := k_hi m22
  have lo_m23 := k_lo m23
  have hi_m23 := k_hi m23
  refine lv_aload_n hx hb dX11_now_0 rfl (lv_at hl 0 rfl) ?_
  refine va_get (D := D) (ci := 11) (v := .int 0) (C := RX11) (T := TX11) (N := 25) hx hb hT giX11 hown hK hP 0 rfl rfl 13 (by decide) (hT (Cond.fieldLink RX11 138 "DesertWireModel" "here" "I") mw_1169) (fun _ h9 => h9) rfl dX11_now_1 ?_
  refine lv_aload_n hx hb dX11_now_4 rfl (lv_at hl 0 rfl) ?_
  refine va_get (D := D) (ci := 11) (v := .int 0) (C := RX11) (T := TX11) (N := 25) hx hb hT giX11 hown hK hP 0 rfl rfl 14 (by decide) (hT (Cond.fieldLink RX11 142 "DesertWireModel" "end" "I") mw_1170) (fun _ h9 => h9) rfl dX11_now_5 ?_
  refine b_icmp_ge hx hb zl_0 zl_0 (tgt := 28) dX11_now_8 (by decide) (fun c_1 => ?_) (fun c_1 => by exfalso; omega)
  refine lv_iconst (v := (-1)) hx hb dX11_now_28 (by decide) ?_
  exact hRet () [0] rfl hP hD (by decide) rfl hS rfl dX11_now_29
set_option maxHeartbeats 4000000 in
set_option maxRecDepth 100000 in
theorem c_X11_takes (l : Launch) (D : va_G) (cI : ClassId) (h ys yk yt yf yb yz yn yc yp yw ye yx : Nat) (sz : Nat) (m3 : Int32) (m9 : Int32) (m12 : Int32) (m16 : Int32) (m17 : Int32) (m18 : Int32) (m19 : Int32) (m20 : Int32) (m22 : Int32) (m23 : Int32) (a : Int32) : Met l yX11_takes (gW yX11_takes cX11_takes 3 (some .boolean)) ({ frames := 0, cells := 0, slots := 0, locals := 0 } : Room) (kPre D cI [.ref h, .int a] [(h, .inr (11, [.ref ys, .ref yk, .ref yt, .int m3, .ref yf, .ref yb, .ref yz, .ref yn, .ref yc, .int m9, .ref yp, .ref yw, .int m12, .int 0, .int 0, .int 1, .int m16, .int m17, .int m18, .int m19, .int m20, .ref ye, .int m22, .int m23, .ref yx]))] sz) (va_Qi (fun (r : Int32) (u : Unit) => r = 0) (fun u t => kWd D cI (va_A [(h, .inr (11, [.ref ys, .ref yk, .ref yt, .int m3, .ref yf, .ref yb, .ref yz, .ref yn, .ref yc, .int m9, .ref yp, .ref yw, .int m12, .int 0, .int 0, .int 1, .int m16, .int m17, .int m18, .int m19, .int m20, .ref ye, .int m22, .int m23, .ref yx]))] sz) [(h, .inr (11, [.ref ys, .ref yk, .ref yt, .int m3, .ref yf, .ref yb, .ref yz, .ref yn, .ref yc, .int m9, .ref yp, .ref yw, .int m12, .int 0, .int 0, .int 1, .int m16, .int m17, .int m18, .int m19, .int m20, .ref ye, .int m22, .int m23, .ref yx]))] t) (va_A [(h, .inr (11, [.ref ys, .ref yk, .ref yt, .int m3, .ref yf, .ref yb, .ref yz, .ref yn, .ref yc, .int m9, .ref yp, .ref yw, .int m12, .int 0, .int 0, .int 1, .int m16, .int m17, .int m18, .int m19, .int m20, .ref ye, .int m22, .int m23, .ref yx]))] sz)) 0 0 (va_A [(h, .inr (11, [.ref ys, .ref yk, .ref yt, .int m3, .ref yf, .ref yb, .ref yz, .ref yn, .ref yc, .int m9, .ref yp, .ref yw, .int m12, .int 0, .int 0, .int 1, .int m16, .int m17, .int m18, .int m19, .int m20, .ref ye, .int m22, .int m23, .ref yx]))] sz) := by
  refine kMetI (own := RX11) (by decide) rfl (Nat.le_of_ble_eq_true rfl) ?_
  intro p e s m args below meth c hx hb hT hown hname hml A Q hK hP hD hS hA hN hRet ls hl
  have hl : lv_has ls 3 [(0, .ref h), (1, .int a)] := hl
  have lo_a := k_lo a
  have hi_a := k_hi a
  have lo_m3 := k_lo m3
  have hi_m3 := k_hi m3
  have lo_m9 := k_lo m9
  have hi_m9 := k_hi m9
  have lo_m12 := k_lo m12
  have hi_m12 := k_hi m12
  have lo_m16 := k_lo m16
  have hi_m16 := k_hi m16
  have lo_m17 := k_lo m17
  have hi_m17 := k_hi m17
  have lo_m18 := k_lo m18
  have hi_m18 := k_hi m18
  have lo_m19 := k_lo m19
  have hi_m19 := k_hi m19
  have lo_m20 := k_lo m20
  have hi_m20 := k_hi m20
  have lo_m22 := k_lo m22
  have hi_m22 := k_hi m22
  have lo_m23 := k_lo m23
  have hi_m23 := k_hi m23
  refine lv_aload_n hx hb dX11_takes_0 rfl (lv_at hl 0 rfl) ?_
  refine va_get (D := D) (ci := 11) (v := .int 1) (C := RX11) (T := TX11) (N := 25) hx hb hT giX11 hown hK hP 0 rfl rfl 15 (by decide) (hT (Cond.fieldLink RX11 148 "DesertWireModel" "isWrong" "Z") mw_1171) (fun _ h9 => h9) rfl dX11_takes_1 ?_
  refine b_if_ne hx hb zl_1 (tgt := 19) dX11_takes_4 (by decide) (fun c_1 => ?_) (fun c_1 => by exfalso; omega)
  refine lv_iconst (v := 0) hx hb dX11_takes_19 (by decide) ?_
  refine lv_istore_n (lv' := [(2, .int 0), (0, .ref h), (1, .int a)]) hx hb dX11_takes_20 rfl hl (by decide) rfl (fun ls hl => ?_)
  refine lv_aload_n hx hb dX11_takes_21 rfl (lv_at hl 1 rfl) ?_
  refine lv_dup hx hb dX11_takes_22 rfl ?_
  refine va_get (D := D) (ci := 11) (v := .int 0) (C := RX11) (T := TX11) (N := 25) hx hb hT giX11 hown hK hP 0 rfl rfl 13 (by decide) (hT (Cond.fieldLink RX11 138 "DesertWireModel" "here" "I") mw_1169) (fun _ h9 => h9) rfl dX11_takes_23 ?_
  refine lv_iload_n hx hb dX11_takes_26 rfl (lv_at hl 0 rfl) ?_
  refine b_if_eq hx hb zl_0 (tgt := 34) dX11_takes_27 (by decide) (fun c_2 => ?_) (fun c_2 => by exfalso; omega)
  refine lv_iconst (v := 0) hx hb dX11_takes_34 (by decide) ?_
  refine k_iadd (v := 0) hx hb dX11_takes_35 (by decide) ?_
  refine va_put (D := D) (ci := 11) (v := .int 0) (ty := .int) (C := RX11) (T := TX11) (N := 25) hx hb hT giX11 tyX11 tyX11_ok nmX11 hown hK hP hD hS 0 rfl rfl 13 (by decide) (hT (Cond.fieldLink RX11 138 "DesertWireModel" "here" "I") mw_1169) (fun _ h9 => h9) rfl (by decide +kernel) rfl rfl (Nat.le_of_ble_eq_true rfl) dX11_takes_36 (fun H locs hP hD hS => ?_)
  have hP : va_P D vwCl [(h, .inr (11, [.ref ys, .ref yk, .ref yt, .int m3, .ref yf, .ref yb, .ref yz, .ref yn, .ref yc, .int m9, .ref yp, .ref yw, .int m12, .int 0, .int 0, .int 1, .int m16, .int m17, .int m18, .int m19, .int m20, .ref ye, .int m22, .int m23, .ref yx]))] H := hP
  have hD : va_D A [(h, .inr (11, [.ref ys, .ref yk, .ref yt, .int m3, .ref yf, .ref yb, .ref yz, .ref yn, .ref yc, .int m9, .ref yp, .ref yw, .int m12, .int 0, .int 0, .int 1, .int m16, .int m17, .int m18, .int m19, .int m20, .ref ye, .int m22, .int m23, .ref yx]))] := hD
  refine lv_iload_n hx hb dX11_takes_39 rfl (lv_at hl 0 rfl) ?_
  exact hRet () [0] rfl hP hD (by decide) rfl hS rfl dX11_takes_40
set_option maxHeartbeats 4000000 in
set_option maxRecDepth 100000 in
theorem c_X11_needs (l : Launch) (D : va_G) (cI : ClassId) (h ys yk yt yf yb yz yn yc yp yw ye yx : Nat) (sz : Nat) (m3 : Int32) (m9 : Int32) (m12 : Int32) (m15 : Int32) (m16 : Int32) (m17 : Int32) (m18 : Int32) (m19 : Int32) (m20 : Int32) (m22 : Int32) (m23 : Int32) (a : Int32) (pre0 : a.toInt = 0) : Met l yX11_needs (gW yX11_needs cX11_needs 2 none) ({ frames := 0, cells := 0, slots := 0, locals := 0 } : Room) (kPre D cI [.ref h, .int a] [(h, .inr (11, [.ref ys, .ref yk, .ref yt, .int m3, .ref yf, .ref yb, .ref yz, .ref yn, .ref yc, .int m9, .ref yp, .ref yw, .int m12, .int 0, .int 0, .int m15, .int m16, .int m17, .int m18, .int m19, .int m20, .ref ye, .int m22, .int m23, .ref yx]))] sz) (va_Qv (fun (u : Unit) => True) (fun u t => kWd D cI (va_A [(h, .inr (11, [.ref ys, .ref yk, .ref yt, .int m3, .ref yf, .ref yb, .ref yz, .ref yn, .ref yc, .int m9, .ref yp, .ref yw, .int m12, .int 0, .int 0, .int m15, .int m16, .int m17, .int m18, .int m19, .int m20, .ref ye, .int m22, .int m23, .ref yx]))] sz) [(h, .inr (11, [.ref ys, .ref yk, .ref yt, .int m3, .ref yf, .ref yb, .ref yz, .ref yn, .ref yc, .int m9, .ref yp, .ref yw, .int m12, .int 0, .int 0, .int 1, .int m16, .int m17, .int m18, .int m19, .int m20, .ref ye, .int m22, .int m23, .ref yx]))] t) (va_A [(h, .inr (11, [.ref ys, .ref yk, .ref yt, .int m3, .ref yf, .ref yb, .ref yz, .ref yn, .ref yc, .int m9, .ref yp, .ref yw, .int m12, .int 0, .int 0, .int m15, .int m16, .int m17, .int m18, .int m19, .int m20, .ref ye, .int m22, .int m23, .ref yx]))] sz)) 0 0 (va_A [(h, .inr (11, [.ref ys, .ref yk, .ref yt, .int m3, .ref yf, .ref yb, .ref yz, .ref yn, .ref yc, .int m9, .ref yp, .ref yw, .int m12, .int 0, .int 0, .int m15, .int m16, .int m17, .int m18, .int m19, .int m20, .ref ye, .int m22, .int m23, .ref yx]))] sz) := by
  refine kMetV (own := RX11) (by decide) rfl (Nat.le_of_ble_eq_true rfl) ?_
  intro p e s m args below meth c hx hb hT hown hname hml A Q hK hP hD hS hA hN hRet ls hl
  have hl : lv_has ls 2 [(0, .ref h), (1, .int a)] := hl
  have lo_a := k_lo a
  have hi_a := k_hi a
  have lo_m3 := k_lo m3
  have hi_m3 := k_hi m3
  have lo_m9 := k_lo m9
  have hi_m9 := k_hi m9
  have lo_m12 := k_lo m12
  have hi_m12 := k_hi m12
  have lo_m15 := k_lo m15
  have hi_m15 := k_hi m15
  have lo_m16 := k_lo m16
  have hi_m16 := k_hi m16
  have lo_m17 := k_lo m17
  have hi_m17 := k_hi m17
  have lo_m18 := k_lo m18
  have hi_m18 := k_hi m18
  have lo_m19 := k_lo m19
  have hi_m19 := k_hi m19
  have lo_m20 := k_lo m20
  have hi_m20 := k_hi m20
  have lo_m22 := k_lo m22
  have hi_m22 := k_hi m22
  have lo_m23 := k_lo m23
  have hi_m23 := k_hi m23
  refine lv_aload_n hx hb dX11_needs_0 rfl (lv_at hl 0 rfl) ?_
  refine lv_aload_n hx hb dX11_needs_1 rfl (lv_at hl 0 rfl) ?_
  refine va_get (D := D) (ci := 11) (v := .int m15) (C := RX11) (T := TX11) (N := 25) hx hb hT giX11 hown hK hP 0 rfl rfl 15 (by decide) (hT (Cond.fieldLink RX11 148 "DesertWireModel" "isWrong" "Z") mw_1171) (fun _ h9 => h9) rfl dX11_needs_2 ?_
  refine b_if_ne hx hb rfl (tgt := 12) dX11_needs_5 (by decide) (fun c_1 => ?_) (fun c_1 => ?_)
  · refine lv_iconst (v := 1) hx hb dX11_needs_12 (by decide) ?_
    refine lv_goto (tgt := 17) hx hb dX11_needs_13 (by decide) ?_
    refine va_put (D := D) (ci := 11) (v := .int 1) (ty := .boolean) (C := RX11) (T := TX11) (N := 25) hx hb hT giX11 tyX11 tyX11_ok nmX11 hown hK hP hD hS 0 rfl rfl 15 (by decide) (hT (Cond.fieldLink RX11 148 "DesertWireModel" "isWrong" "Z") mw_1171) (fun _ h9 => h9) rfl (by decide +kernel) rfl rfl (Nat.le_of_ble_eq_true rfl) dX11_needs_17 (fun H locs hP hD hS => ?_)
    have hP : va_P D vwCl [(h, .inr (11, [.ref ys, .ref yk, .ref yt, .int m3, .ref yf, .ref yb, .ref yz, .ref yn, .ref yc, .int m9, .ref yp, .ref yw, .int m12, .int 0, .int 0, .int 1, .int m16, .int m17, .int m18, .int m19, .int m20, .ref ye, .int m22, .int m23, .ref yx]))] H := hP
    have hD : va_D A [(h, .inr (11, [.ref ys, .ref yk, .ref yt, .int m3, .ref yf, .ref yb, .ref yz, .ref yn, .ref yc, .int m9, .ref yp, .ref yw, .int m12, .int 0, .int 0, .int 1, .int m16, .int m17, .int m18, .int m19, .int m20, .ref ye, .int m22, .int m23, .ref yx]))] := hD
    exact hRet () [0] trivial hP hD (by decide) rfl hS dX11_needs_20
  · refine lv_iload_n hx hb dX11_needs_8 rfl (lv_at hl 1 rfl) ?_
    refine b_if_ne hx hb rfl (tgt := 16) dX11_needs_9 (by decide) (fun c_2 => by exfalso; omega) (fun c_2 => ?_)
    refine lv_iconst (v := 1) hx hb dX11_needs_12 (by decide) ?_
    refine lv_goto (tgt := 17) hx hb dX11_needs_13 (by decide) ?_
    refine va_put (D := D) (ci := 11) (v := .int 1) (ty := .boolean) (C := RX11) (T := TX11) (N := 25) hx hb hT giX11 tyX11 tyX11_ok nmX11 hown hK hP hD hS 0 rfl rfl 15 (by decide) (hT (Cond.fieldLink RX11 148 "DesertWireModel" "isWrong" "Z") mw_1171) (fun _ h9 => h9) rfl (by decide +kernel) rfl rfl (Nat.le_of_ble_eq_true rfl) dX11_needs_17 (fun H locs hP hD hS => ?_)
    have hP : va_P D vwCl [(h, .inr (11, [.ref ys, .ref yk, .ref yt, .int m3, .ref yf, .ref yb, .ref yz, .ref yn, .ref yc, .int m9, .ref yp, .ref yw, .int m12, .int 0, .int 0, .int 1, .int m16, .int m17, .int m18, .int m19, .int m20, .ref ye, .int m22, .int m23, .ref yx]))] H := hP
    have hD : va_D A [(h, .inr (11, [.ref ys, .ref yk, .ref yt, .int m3, .ref yf, .ref yb, .ref yz, .ref yn, .ref yc, .int m9, .ref yp, .ref yw, .int m12, .int 0, .int 0, .int 1, .int m16, .int m17, .int m18, .int m19, .int m20, .ref ye, .int m22, .int m23, .ref yx]))] := hD
    exact hRet () [0] trivial hP hD (by decide) rfl hS dX11_needs_20
set_option maxHeartbeats 4000000 in
set_option maxRecDepth 100000 in
theorem c_X11_nameAt (l : Launch) (D : va_G) (cI : ClassId) (h ys yk yt yf yb yz yn yc yp yw ye yx : Nat) (sz : Nat) (m3 : Int32) (m9 : Int32) (m12 : Int32) (m15 : Int32) (m16 : Int32) (m17 : Int32) (m18 : Int32) (m19 : Int32) (m20 : Int32) (m22 : Int32) (m23 : Int32) (a : Int32) (pre0 : a.toInt = -1) : Met l yX11_nameAt (gW yX11_nameAt cX11_nameAt 2 (some .int)) ({ frames := 0, cells := 0, slots := 0, locals := 0 } : Room) (kPre D cI [.ref h, .int a] [(h, .inr (11, [.ref ys, .ref yk, .ref yt, .int m3, .ref yf, .ref yb, .ref yz, .ref yn, .ref yc, .int m9, .ref yp, .ref yw, .int m12, .int 0, .int 0, .int m15, .int m16, .int m17, .int m18, .int m19, .int m20, .ref ye, .int m22, .int m23, .ref yx]))] sz) (va_Qi (fun (r : Int32) (u : Unit) => r = (-1)) (fun u t => kWd D cI (va_A [(h, .inr (11, [.ref ys, .ref yk, .ref yt, .int m3, .ref yf, .ref yb, .ref yz, .ref yn, .ref yc, .int m9, .ref yp, .ref yw, .int m12, .int 0, .int 0, .int m15, .int m16, .int m17, .int m18, .int m19, .int m20, .ref ye, .int m22, .int m23, .ref yx]))] sz) [(h, .inr (11, [.ref ys, .ref yk, .ref yt, .int m3, .ref yf, .ref yb, .ref yz, .ref yn, .ref yc, .int m9, .ref yp, .ref yw, .int m12, .int 0, .int 0, .int m15, .int m16, .int m17, .int m18, .int m19, .int m20, .ref ye, .int m22, .int m23, .ref yx]))] t) (va_A [(h, .inr (11, [.ref ys, .ref yk, .ref yt, .int m3, .ref yf, .ref yb, .ref yz, .ref yn, .ref yc, .int m9, .ref yp, .ref yw, .int m12, .int 0, .int 0, .int m15, .int m16, .int m17, .int m18, .int m19, .int m20, .ref ye, .int m22, .int m23, .ref yx]))] sz)) 0 0 (va_A [(h, .inr (11, [.ref ys, .ref yk, .ref yt, .int m3, .ref yf, .ref yb, .ref yz, .ref yn, .ref yc, .int m9, .ref yp, .ref yw, .int m12, .int 0, .int 0, .int m15, .int m16, .int m17, .int m18, .int m19, .int m20, .ref ye, .int m22, .int m23, .ref yx]))] sz) := by
  refine kMetI (own := RX11) (by decide) rfl (Nat.le_of_ble_eq_true rfl) ?_
  intro p e s m args below meth c hx hb hT hown hname hml A Q hK hP hD hS hA hN hRet ls hl
  have hl : lv_has ls 2 [(0, .ref h), (1, .int a)] := hl
  have lo_a := k_lo a
  have hi_a := k_hi a
  have lo_m3 := k_lo m3
  have hi_m3 := k_hi m3
  have lo_m9 := k_lo m9
  have hi_m9 := k_hi m9
  have lo_m12 := k_lo m12
  have hi_m12 := k_hi m12
  have lo_m15 := k_lo m15
  have hi_m15 := k_hi m15
  have lo_m16 := k_lo m16
  have hi_m16 := k_hi m16
  have lo_m17 := k_lo m17
  have hi_m17 := k_hi m17
  have lo_m18 := k_lo m18
  have hi_m18 := k_hi m18
  have lo_m19 := k_lo m19
  have hi_m19 := k_hi m19
  have lo_m20 := k_lo m20
  have hi_m20 := k_hi m20
  have lo_m22 := k_lo m22
  have hi_m22 := k_hi m22
  have lo_m23 := k_lo m23
  have hi_m23 := k_hi m23
  refine lv_aload_n hx hb dX11_nameAt_0 rfl (lv_at hl 0 rfl) ?_
  refine va_get (D := D) (ci := 11) (v := .int m17) (C := RX11) (T := TX11) (N := 25) hx hb hT giX11 hown hK hP 0 rfl rfl 17 (by decide) (hT (Cond.fieldLink RX11 155 "DesertWireModel" "use" "I") mw_1173) (fun _ h9 => h9) rfl dX11_nameAt_1 ?_
  by_cases c_1 : m17.toInt = 0
  · refine lv_lookup (off := 28) (tgt := 32) hx hb dX11_nameAt_4 (by decide) (by rw [c_1]; decide) (by decide) ?_
    refine lv_iload_n hx hb dX11_nameAt_32 rfl (lv_at hl 1 rfl) ?_
    refine lv_bipush (v := 110) hx hb dX11_nameAt_33 (by decide) ?_
    refine b_icmp_ne hx hb rfl zl_110 (tgt := 42) dX11_nameAt_35 (by decide) (fun c_2 => ?_) (fun c_2 => by exfalso; omega)
    refine lv_iload_n hx hb dX11_nameAt_42 rfl (lv_at hl 1 rfl) ?_
    refine lv_bipush (v := 99) hx hb dX11_nameAt_43 (by decide) ?_
    refine b_icmp_ne hx hb rfl zl_99 (tgt := 52) dX11_nameAt_45 (by decide) (fun c_3 => ?_) (fun c_3 => by exfalso; omega)
    refine lv_iload_n hx hb dX11_nameAt_52 rfl (lv_at hl 1 rfl) ?_
    refine lv_bipush (v := 109) hx hb dX11_nameAt_53 (by decide) ?_
    refine b_icmp_ne hx hb rfl zl_109 (tgt := 62) dX11_nameAt_55 (by decide) (fun c_4 => ?_) (fun c_4 => by exfalso; omega)
    refine lv_iconst (v := (-1)) hx hb dX11_nameAt_62 (by decide) ?_
    exact hRet () [0] rfl hP hD (by decide) rfl hS rfl dX11_nameAt_63
  by_cases c_5 : m17.toInt = 1
  · refine lv_lookup (off := 60) (tgt := 64) hx hb dX11_nameAt_4 (by decide) (by rw [c_5]; decide) (by decide) ?_
    refine lv_iload_n hx hb dX11_nameAt_64 rfl (lv_at hl 1 rfl) ?_
    refine lv_bipush (v := 108) hx hb dX11_nameAt_65 (by decide) ?_
    refine b_icmp_ne hx hb rfl zl_108 (tgt := 74) dX11_nameAt_67 (by decide) (fun c_6 => ?_) (fun c_6 => by exfalso; omega)
    refine lv_iload_n hx hb dX11_nameAt_74 rfl (lv_at hl 1 rfl) ?_
    refine lv_bipush (v := 100) hx hb dX11_nameAt_75 (by decide) ?_
    refine b_icmp_ne hx hb rfl zl_100 (tgt := 84) dX11_nameAt_77 (by decide) (fun c_7 => ?_) (fun c_7 => by exfalso; omega)
    refine lv_iconst (v := (-1)) hx hb dX11_nameAt_84 (by decide) ?_
    exact hRet () [0] rfl hP hD (by decide) rfl hS rfl dX11_nameAt_85
  refine lv_lookup (off := 82) (tgt := 86) hx hb dX11_nameAt_4 (by decide) (k_osw2 (by omega) (by omega)) (by decide) ?_
  refine lv_iload_n hx hb dX11_nameAt_86 rfl (lv_at hl 1 rfl) ?_
  refine lv_bipush (v := 107) hx hb dX11_nameAt_87 (by decide) ?_
  refine b_icmp_ne hx hb rfl zl_107 (tgt := 96) dX11_nameAt_89 (by decide) (fun c_8 => ?_) (fun c_8 => by exfalso; omega)
  refine lv_iload_n hx hb dX11_nameAt_96 rfl (lv_at hl 1 rfl) ?_
  refine lv_bipush (v := 115) hx hb dX11_nameAt_97 (by decide) ?_
  refine b_icmp_ne hx hb rfl zl_115 (tgt := 106) dX11_nameAt_99 (by decide) (fun c_9 => ?_) (fun c_9 => by exfalso; omega)
  refine lv_iload_n hx hb dX11_nameAt_106 rfl (lv_at hl 1 rfl) ?_
  refine lv_bipush (v := 103) hx hb dX11_nameAt_107 (by decide) ?_
  refine b_icmp_ne hx hb rfl zl_103 (tgt := 116) dX11_nameAt_109 (by decide) (fun c_10 => ?_) (fun c_10 => by exfalso; omega)
  refine lv_iconst (v := (-1)) hx hb dX11_nameAt_116 (by decide) ?_
  exact hRet () [0] rfl hP hD (by decide) rfl hS rfl dX11_nameAt_117
set_option maxHeartbeats 4000000 in
set_option maxRecDepth 100000 in
theorem c_X11_one (l : Launch) (D : va_G) (cI : ClassId) (h ys yk yt yf yb yz yn yc yp yw ye yx : Nat) (sz : Nat) (m3 : Int32) (m9 : Int32) (m12 : Int32) (m16 : Int32) (m17 : Int32) (m18 : Int32) (m19 : Int32) (m20 : Int32) (m22 : Int32) (m23 : Int32) : Met l yX11_one (gW yX11_one cX11_one 4 (some .int)) ({ frames := 1, cells := 0, slots := 0, locals := 22 } : Room) (kPre D cI [.ref h] [(h, .inr (11, [.ref ys, .ref yk, .ref yt, .int m3, .ref yf, .ref yb, .ref yz, .ref yn, .ref yc, .int m9, .ref yp, .ref yw, .int m12, .int 0, .int 0, .int 0, .int m16, .int m17, .int m18, .int m19, .int m20, .ref ye, .int m22, .int m23, .ref yx]))] sz) (va_Qi (fun (r : Int32) (u : Unit) => r = 0) (fun u t => kWd D cI (va_A [(h, .inr (11, [.ref ys, .ref yk, .ref yt, .int m3, .ref yf, .ref yb, .ref yz, .ref yn, .ref yc, .int m9, .ref yp, .ref yw, .int m12, .int 0, .int 0, .int 0, .int m16, .int m17, .int m18, .int m19, .int m20, .ref ye, .int m22, .int m23, .ref yx]))] sz) [(h, .inr (11, [.ref ys, .ref yk, .ref yt, .int m3, .ref yf, .ref yb, .ref yz, .ref yn, .ref yc, .int m9, .ref yp, .ref yw, .int m12, .int 0, .int 0, .int 1, .int m16, .int m17, .int m18, .int m19, .int m20, .ref ye, .int m22, .int m23, .ref yx]))] t) (va_A [(h, .inr (11, [.ref ys, .ref yk, .ref yt, .int m3, .ref yf, .ref yb, .ref yz, .ref yn, .ref yc, .int m9, .ref yp, .ref yw, .int m12, .int 0, .int 0, .int 0, .int m16, .int m17, .int m18, .int m19, .int m20, .ref ye, .int m22, .int m23, .ref yx]))] sz)) 0 0 (va_A [(h, .inr (11, [.ref ys, .ref yk, .ref yt, .int m3, .ref yf, .ref yb, .ref yz, .ref yn, .ref yc, .int m9, .ref yp, .ref yw, .int m12, .int 0, .int 0, .int 0, .int m16, .int m17, .int m18, .int m19, .int m20, .ref ye, .int m22, .int m23, .ref yx]))] sz) := by
  refine kMetI (own := RX11) (by decide) rfl (Nat.le_of_ble_eq_true rfl) ?_
  intro p e s m args below meth c hx hb hT hown hname hml A Q hK hP hD hS hA hN hRet ls hl
  have hl : lv_has ls 4 [(0, .ref h)] := hl
  have lo_m3 := k_lo m3
  have hi_m3 := k_hi m3
  have lo_m9 := k_lo m9
  have hi_m9 := k_hi m9
  have lo_m12 := k_lo m12
  have hi_m12 := k_hi m12
  have lo_m16 := k_lo m16
  have hi_m16 := k_hi m16
  have lo_m17 := k_lo m17
  have hi_m17 := k_hi m17
  have lo_m18 := k_lo m18
  have hi_m18 := k_hi m18
  have lo_m19 := k_lo m19
  have hi_m19 := k_hi m19
  have lo_m20 := k_lo m20
  have hi_m20 := k_hi m20
  have lo_m22 := k_lo m22
  have hi_m22 := k_hi m22
  have lo_m23 := k_lo m23
  have hi_m23 := k_hi m23
  refine lv_aload_n hx hb dX11_one_0 rfl (lv_at hl 0 rfl) ?_
  refine kJi (wr := []) (va_runV (As := []) (rest := []) ⟨hx, hb, hml, hown, hT⟩ (c_X11_now l D cI h ys yk yt yf yb yz yn yc yp yw ye yx s.heap.size m3 m9 m12 0 m16 m17 m18 m19 m20 m22 m23) (cwV 0 hT (gV_in mw_1339 mw_1336 mw_1338 mw_p4_9 mw_12) rfl rfl rfl (by decide +kernel) ⟨Nat.le_of_ble_eq_true rfl, Nat.le_of_ble_eq_true rfl⟩) (kRecv (own := "") (q0 := 0) (ci := 11) hK hP hD hN rfl rfl [0] rfl (by decide)) rfl rfl hl.1 rfl (lv_room (Nat.le_of_ble_eq_true rfl)) dX11_one_1 ⟨Nat.le_of_ble_eq_true rfl, Nat.le_of_ble_eq_true rfl⟩) hP hD hS hA [0] [] rfl rfl (by decide) (by decide) (fun r_1 u_3 H locs w_2 hP hD hS => ?_)
  have hP : va_P D vwCl [(h, .inr (11, [.ref ys, .ref yk, .ref yt, .int m3, .ref yf, .ref yb, .ref yz, .ref yn, .ref yc, .int m9, .ref yp, .ref yw, .int m12, .int 0, .int 0, .int 0, .int m16, .int m17, .int m18, .int m19, .int m20, .ref ye, .int m22, .int m23, .ref yx]))] H := hP
  have hD : va_D A [(h, .inr (11, [.ref ys, .ref yk, .ref yt, .int m3, .ref yf, .ref yb, .ref yz, .ref yn, .ref yc, .int m9, .ref yp, .ref yw, .int m12, .int 0, .int 0, .int 0, .int m16, .int m17, .int m18, .int m19, .int m20, .ref ye, .int m22, .int m23, .ref yx]))] := hD
  have hr_1 := w_2
  obtain rfl : r_1 = (-1) := hr_1.trans (by decide)
  refine lv_istore_n (lv' := [(1, .int (-1)), (0, .ref h)]) hx hb dX11_one_4 rfl hl (by decide) rfl (fun ls hl => ?_)
  refine lv_aload_n hx hb dX11_one_5 rfl (lv_at hl 1 rfl) ?_
  refine va_get (D := D) (ci := 11) (v := .int 0) (C := RX11) (T := TX11) (N := 25) hx hb hT giX11 hown hK hP 0 rfl rfl 15 (by decide) (hT (Cond.fieldLink RX11 148 "DesertWireModel" "isWrong" "Z") mw_1171) (fun _ h9 => h9) rfl dX11_one_6 ?_
  refine b_if_eq hx hb zl_0 (tgt := 14) dX11_one_9 (by decide) (fun c_4 => ?_) (fun c_4 => by exfalso; omega)
  refine lv_iload_n hx hb dX11_one_14 rfl (lv_at hl 0 rfl) ?_
  refine lv_bipush (v := 48) hx hb dX11_one_15 (by decide) ?_
  refine lv_bipush (v := 57) hx hb dX11_one_17 (by decide) ?_
  refine kJi (wr := [(h, .inr (11, [.ref ys, .ref yk, .ref yt, .int m3, .ref yf, .ref yb, .ref yz, .ref yn, .ref yc, .int m9, .ref yp, .ref yw, .int m12, .int 0, .int 0, .int 0, .int m16, .int m17, .int m18, .int m19, .int m20, .ref ye, .int m22, .int m23, .ref yx]))]) (va_runS (As := [.int (-1), .int 48, .int 57]) (rest := []) ⟨hx, hb, hml, hown, hT⟩ (c_X11_in l D cI H.size (-1) 48 57) (cwS 3 hT (gS_in mw_1238 mw_1236 mw_1237 mw_12) rfl rfl rfl (by decide +kernel) ⟨Nat.le_of_ble_eq_true rfl, Nat.le_of_ble_eq_true rfl⟩) (kStat hK hP hD hN [] rfl (by decide)) rfl rfl hl.1 rfl (lv_room (Nat.le_of_ble_eq_true rfl)) dX11_one_19 ⟨Nat.le_of_ble_eq_true rfl, Nat.le_of_ble_eq_true rfl⟩) hP hD hS hA [] [0] rfl rfl (by decide) (by decide) (fun r_5 u_7 H locs w_6 hP hD hS => ?_)
  have hP : va_P D vwCl [(h, .inr (11, [.ref ys, .ref yk, .ref yt, .int m3, .ref yf, .ref yb, .ref yz, .ref yn, .ref yc, .int m9, .ref yp, .ref yw, .int m12, .int 0, .int 0, .int 0, .int m16, .int m17, .int m18, .int m19, .int m20, .ref ye, .int m22, .int m23, .ref yx]))] H := hP
  have hD : va_D A [(h, .inr (11, [.ref ys, .ref yk, .ref yt, .int m3, .ref yf, .ref yb, .ref yz, .ref yn, .ref yc, .int m9, .ref yp, .ref yw, .int m12, .int 0, .int 0, .int 0, .int m16, .int m17, .int m18, .int m19, .int m20, .ref ye, .int m22, .int m23, .ref yx]))] := hD
  rcases w_6 with ⟨hr_5, h_8, h_9⟩ | ⟨hr_5, h_10⟩
  · (try simp only [zl_m1, zl_48, zl_57] at h_8 h_9); exfalso; omega
  · try simp only [zl_m1, zl_48, zl_57] at h_10
    obtain rfl : r_5 = 0 := hr_5.trans (by decide)
    refine b_if_eq hx hb zl_0 (tgt := 79) dX11_one_22 (by decide) (fun c_11 => ?_) (fun c_11 => by exfalso; omega)
    refine lv_aload_n hx hb dX11_one_79 rfl (lv_at hl 1 rfl) ?_
    refine lv_iload_n hx hb dX11_one_80 rfl (lv_at hl 0 rfl) ?_
    refine kJi (wr := []) (va_runV (As := [.int (-1)]) (rest := []) ⟨hx, hb, hml, hown, hT⟩ (c_X11_nameAt l D cI h ys yk yt yf yb yz yn yc yp yw ye yx H.size m3 m9 m12 0 m16 m17 m18 m19 m20 m22 m23 (-1) (by first | omega | (simp only [zl_m1, zl_0] <;> omega) | decide | assumption | rfl)) (cwV 1 hT (gV_in mw_1343 mw_1340 mw_1342 mw_p4_10 mw_12) rfl rfl rfl (by decide +kernel) ⟨Nat.le_of_ble_eq_true rfl, Nat.le_of_ble_eq_true rfl⟩) (kRecv (own := "") (q0 := 0) (ci := 11) hK hP hD hN rfl rfl [0] rfl (by decide)) rfl rfl hl.1 rfl (lv_room (Nat.le_of_ble_eq_true rfl)) dX11_one_81 ⟨Nat.le_of_ble_eq_true rfl, Nat.le_of_ble_eq_true rfl⟩) hP hD hS hA [0] [] rfl rfl (by decide) (by decide) (fun r_12 u_14 H locs w_13 hP hD hS => ?_)
    have hP : va_P D vwCl [(h, .inr (11, [.ref ys, .ref yk, .ref yt, .int m3, .ref yf, .ref yb, .ref yz, .ref yn, .ref yc, .int m9, .ref yp, .ref yw, .int m12, .int 0, .int 0, .int 0, .int m16, .int m17, .int m18, .int m19, .int m20, .ref ye, .int m22, .int m23, .ref yx]))] H := hP
    have hD : va_D A [(h, .inr (11, [.ref ys, .ref yk, .ref yt, .int m3, .ref yf, .ref yb, .ref yz, .ref yn, .ref yc, .int m9, .ref yp, .ref yw, .int m12, .int 0, .int 0, .int 0, .int m16, .int m17, .int m18, .int m19, .int m20, .ref ye, .int m22, .int m23, .ref yx]))] := hD
    have hr_12 := w_13
    obtain rfl : r_12 = (-1) := hr_12.trans (by decide)
    refine lv_istore_n (lv' := [(2, .int (-1)), (1, .int (-1)), (0, .ref h)]) hx hb dX11_one_84 rfl hl (by decide) rfl (fun ls hl => ?_)
    refine lv_iload_n hx hb dX11_one_85 rfl (lv_at hl 0 rfl) ?_
    refine b_if_lt hx hb zl_m1 (tgt := 127) dX11_one_86 (by decide) (fun c_15 => ?_) (fun c_15 => by exfalso; omega)
    refine lv_aload_n hx hb dX11_one_127 rfl (lv_at hl 2 rfl) ?_
    refine lv_iload_n hx hb dX11_one_128 rfl (lv_at hl 1 rfl) ?_
    refine lv_bipush (v := 45) hx hb dX11_one_129 (by decide) ?_
    refine b_icmp_eq hx hb zl_m1 zl_45 (tgt := 146) dX11_one_131 (by decide) (fun c_16 => by exfalso; omega) (fun c_16 => ?_)
    refine lv_iload_n hx hb dX11_one_134 rfl (lv_at hl 1 rfl) ?_
    refine lv_bipush (v := 33) hx hb dX11_one_135 (by decide) ?_
    refine b_icmp_eq hx hb zl_m1 zl_33 (tgt := 146) dX11_one_137 (by decide) (fun c_17 => by exfalso; omega) (fun c_17 => ?_)
    refine lv_iload_n hx hb dX11_one_140 rfl (lv_at hl 1 rfl) ?_
    refine lv_bipush (v := 40) hx hb dX11_one_141 (by decide) ?_
    refine b_icmp_ne hx hb zl_m1 zl_40 (tgt := 158) dX11_one_143 (by decide) (fun c_18 => ?_) (fun c_18 => by exfalso; omega)
    refine lv_iconst (v := 0) hx hb dX11_one_158 (by decide) ?_
    refine kJv (wr := []) (va_runV (As := [.int 0]) (rest := []) ⟨hx, hb, hml, hown, hT⟩ (c_X11_needs l D cI h ys yk yt yf yb yz yn yc yp yw ye yx H.size m3 m9 m12 0 m16 m17 m18 m19 m20 m22 m23 0 (by first | omega | (simp only [zl_0] <;> omega) | decide | assumption | rfl)) (cwV 1 hT (gV_in mw_1347 mw_1344 mw_1346 mw_p4_11 mw_12) rfl rfl rfl (by decide +kernel) ⟨Nat.le_of_ble_eq_true rfl, Nat.le_of_ble_eq_true rfl⟩) (kRecv (own := "") (q0 := 0) (ci := 11) hK hP hD hN rfl rfl [0] rfl (by decide)) rfl rfl hl.1 rfl (lv_room (Nat.le_of_ble_eq_true rfl)) dX11_one_159 ⟨Nat.le_of_ble_eq_true rfl, Nat.le_of_ble_eq_true rfl⟩) hP hD hS hA [0] [] rfl rfl (by decide) (by decide) (fun u_21 H locs w_20 hP hD hS => ?_)
    have hP : va_P D vwCl [(h, .inr (11, [.ref ys, .ref yk, .ref yt, .int m3, .ref yf, .ref yb, .ref yz, .ref yn, .ref yc, .int m9, .ref yp, .ref yw, .int m12, .int 0, .int 0, .int 1, .int m16, .int m17, .int m18, .int m19, .int m20, .ref ye, .int m22, .int m23, .ref yx]))] H := hP
    have hD : va_D A [(h, .inr (11, [.ref ys, .ref yk, .ref yt, .int m3, .ref yf, .ref yb, .ref yz, .ref yn, .ref yc, .int m9, .ref yp, .ref yw, .int m12, .int 0, .int 0, .int 1, .int m16, .int m17, .int m18, .int m19, .int m20, .ref ye, .int m22, .int m23, .ref yx]))] := hD
    refine lv_aload_n hx hb dX11_one_162 rfl (lv_at hl 2 rfl) ?_
    refine va_get (D := D) (ci := 11) (v := .int 1) (C := RX11) (T := TX11) (N := 25) hx hb hT giX11 hown hK hP 0 rfl rfl 15 (by decide) (hT (Cond.fieldLink RX11 148 "DesertWireModel" "isWrong" "Z") mw_1171) (fun _ h9 => h9) rfl dX11_one_163 ?_
    refine b_if_eq hx hb zl_1 (tgt := 171) dX11_one_166 (by decide) (fun c_22 => by exfalso; omega) (fun c_22 => ?_)
    refine lv_iconst (v := 0) hx hb dX11_one_169 (by decide) ?_
    exact hRet () [0] rfl hP hD (by decide) rfl hS rfl dX11_one_170
set_option maxHeartbeats 4000000 in
set_option maxRecDepth 100000 in
theorem c_X11_product (l : Launch) (D : va_G) (cI : ClassId) (h ys yk yt yf yb yz yn yc yp yw ye yx : Nat) (sz : Nat) (m3 : Int32) (m9 : Int32) (m12 : Int32) (m16 : Int32) (m17 : Int32) (m18 : Int32) (m19 : Int32) (m20 : Int32) (m22 : Int32) (m23 : Int32) : Met l yX11_product (gW yX11_product cX11_product 4 (some .int)) ({ frames := 2, cells := 0, slots := 0, locals := 45 } : Room) (kPre D cI [.ref h] [(h, .inr (11, [.ref ys, .ref yk, .ref yt, .int m3, .ref yf, .ref yb, .ref yz, .ref yn, .ref yc, .int m9, .ref yp, .ref yw, .int m12, .int 0, .int 0, .int 0, .int m16, .int m17, .int m18, .int m19, .int m20, .ref ye, .int m22, .int m23, .ref yx]))] sz) (va_Qi (fun (r : Int32) (u : Unit) => r = 0) (fun u t => kWd D cI (va_A [(h, .inr (11, [.ref ys, .ref yk, .ref yt, .int m3, .ref yf, .ref yb, .ref yz, .ref yn, .ref yc, .int m9, .ref yp, .ref yw, .int m12, .int 0, .int 0, .int 0, .int m16, .int m17, .int m18, .int m19, .int m20, .ref ye, .int m22, .int m23, .ref yx]))] sz) [(h, .inr (11, [.ref ys, .ref yk, .ref yt, .int m3, .ref yf, .ref yb, .ref yz, .ref yn, .ref yc, .int m9, .ref yp, .ref yw, .int m12, .int 0, .int 0, .int 1, .int m16, .int m17, .int m18, .int m19, .int m20, .ref ye, .int m22, .int m23, .ref yx]))] t) (va_A [(h, .inr (11, [.ref ys, .ref yk, .ref yt, .int m3, .ref yf, .ref yb, .ref yz, .ref yn, .ref yc, .int m9, .ref yp, .ref yw, .int m12, .int 0, .int 0, .int 0, .int m16, .int m17, .int m18, .int m19, .int m20, .ref ye, .int m22, .int m23, .ref yx]))] sz)) 0 0 (va_A [(h, .inr (11, [.ref ys, .ref yk, .ref yt, .int m3, .ref yf, .ref yb, .ref yz, .ref yn, .ref yc, .int m9, .ref yp, .ref yw, .int m12, .int 0, .int 0, .int 0, .int m16, .int m17, .int m18, .int m19, .int m20, .ref ye, .int m22, .int m23, .ref yx]))] sz) := by
  refine kMetI (own := RX11) (by decide) rfl (Nat.le_of_ble_eq_true rfl) ?_
  intro p e s m args below meth c hx hb hT hown hname hml A Q hK hP hD hS hA hN hRet ls hl
  have hl : lv_has ls 4 [(0, .ref h)] := hl
  have lo_m3 := k_lo m3
  have hi_m3 := k_hi m3
  have lo_m9 := k_lo m9
  have hi_m9 := k_hi m9
  have lo_m12 := k_lo m12
  have hi_m12 := k_hi m12
  have lo_m16 := k_lo m16
  have hi_m16 := k_hi m16
  have lo_m17 := k_lo m17
  have hi_m17 := k_hi m17
  have lo_m18 := k_lo m18
  have hi_m18 := k_hi m18
  have lo_m19 := k_lo m19
  have hi_m19 := k_hi m19
  have lo_m20 := k_lo m20
  have hi_m20 := k_hi m20
  have lo_m22 := k_lo m22
  have hi_m22 := k_hi m22
  have lo_m23 := k_lo m23
  have hi_m23 := k_hi m23
  refine lv_aload_n hx hb dX11_product_0 rfl (lv_at hl 0 rfl) ?_
  refine kJi (wr := []) (va_runV (As := []) (rest := []) ⟨hx, hb, hml, hown, hT⟩ (c_X11_one l D cI h ys yk yt yf yb yz yn yc yp yw ye yx s.heap.size m3 m9 m12 m16 m17 m18 m19 m20 m22 m23) (cwV 0 hT (gV_in mw_1335 mw_1332 mw_1334 mw_p4_8 mw_12) rfl rfl rfl (by decide +kernel) ⟨Nat.le_of_ble_eq_true rfl, Nat.le_of_ble_eq_true rfl⟩) (kRecv (own := "") (q0 := 0) (ci := 11) hK hP hD hN rfl rfl [0] rfl (by decide)) rfl rfl hl.1 rfl (lv_room (Nat.le_of_ble_eq_true rfl)) dX11_product_1 ⟨Nat.le_of_ble_eq_true rfl, Nat.le_of_ble_eq_true rfl⟩) hP hD hS hA [0] [] rfl rfl (by decide) (by decide) (fun r_1 u_3 H locs w_2 hP hD hS => ?_)
  have hP : va_P D vwCl [(h, .inr (11, [.ref ys, .ref yk, .ref yt, .int m3, .ref yf, .ref yb, .ref yz, .ref yn, .ref yc, .int m9, .ref yp, .ref yw, .int m12, .int 0, .int 0, .int 1, .int m16, .int m17, .int m18, .int m19, .int m20, .ref ye, .int m22, .int m23, .ref yx]))] H := hP
  have hD : va_D A [(h, .inr (11, [.ref ys, .ref yk, .ref yt, .int m3, .ref yf, .ref yb, .ref yz, .ref yn, .ref yc, .int m9, .ref yp, .ref yw, .int m12, .int 0, .int 0, .int 1, .int m16, .int m17, .int m18, .int m19, .int m20, .ref ye, .int m22, .int m23, .ref yx]))] := hD
  have hr_1 := w_2
  obtain rfl : r_1 = 0 := hr_1.trans (by decide)
  refine lv_istore_n (lv' := [(1, .int 0), (0, .ref h)]) hx hb dX11_product_4 rfl hl (by decide) rfl (fun ls hl => ?_)
  refine lv_aload_n hx hb dX11_product_5 rfl (lv_at hl 1 rfl) ?_
  refine va_get (D := D) (ci := 11) (v := .int 1) (C := RX11) (T := TX11) (N := 25) hx hb hT giX11 hown hK hP 0 rfl rfl 15 (by decide) (hT (Cond.fieldLink RX11 148 "DesertWireModel" "isWrong" "Z") mw_1171) (fun _ h9 => h9) rfl dX11_product_6 ?_
  refine b_if_ne hx hb zl_1 (tgt := 85) dX11_product_9 (by decide) (fun c_4 => ?_) (fun c_4 => by exfalso; omega)
  refine lv_iload_n hx hb dX11_product_85 rfl (lv_at hl 0 rfl) ?_
  exact hRet () [0] rfl hP hD (by decide) rfl hS rfl dX11_product_86
set_option maxHeartbeats 4000000 in
set_option maxRecDepth 100000 in
theorem c_X11_sum (l : Launch) (D : va_G) (cI : ClassId) (h ys yk yt yf yb yz yn yc yp yw ye yx : Nat) (sz : Nat) (m3 : Int32) (m9 : Int32) (m12 : Int32) (m16 : Int32) (m17 : Int32) (m18 : Int32) (m19 : Int32) (m20 : Int32) (m22 : Int32) (m23 : Int32) : Met l yX11_sum (gW yX11_sum cX11_sum 4 (some .int)) ({ frames := 3, cells := 0, slots := 0, locals := 68 } : Room) (kPre D cI [.ref h] [(h, .inr (11, [.ref ys, .ref yk, .ref yt, .int m3, .ref yf, .ref yb, .ref yz, .ref yn, .ref yc, .int m9, .ref yp, .ref yw, .int m12, .int 0, .int 0, .int 0, .int m16, .int m17, .int m18, .int m19, .int m20, .ref ye, .int m22, .int m23, .ref yx]))] sz) (va_Qi (fun (r : Int32) (u : Unit) => r = 0) (fun u t => kWd D cI (va_A [(h, .inr (11, [.ref ys, .ref yk, .ref yt, .int m3, .ref yf, .ref yb, .ref yz, .ref yn, .ref yc, .int m9, .ref yp, .ref yw, .int m12, .int 0, .int 0, .int 0, .int m16, .int m17, .int m18, .int m19, .int m20, .ref ye, .int m22, .int m23, .ref yx]))] sz) [(h, .inr (11, [.ref ys, .ref yk, .ref yt, .int m3, .ref yf, .ref yb, .ref yz, .ref yn, .ref yc, .int m9, .ref yp, .ref yw, .int m12, .int 0, .int 0, .int 1, .int m16, .int m17, .int m18, .int m19, .int m20, .ref ye, .int m22, .int m23, .ref yx]))] t) (va_A [(h, .inr (11, [.ref ys, .ref yk, .ref yt, .int m3, .ref yf, .ref yb, .ref yz, .ref yn, .ref yc, .int m9, .ref yp, .ref yw, .int m12, .int 0, .int 0, .int 0, .int m16, .int m17, .int m18, .int m19, .int m20, .ref ye, .int m22, .int m23, .ref yx]))] sz)) 0 0 (va_A [(h, .inr (11, [.ref ys, .ref yk, .ref yt, .int m3, .ref yf, .ref yb, .ref yz, .ref yn, .ref yc, .int m9, .ref yp, .ref yw, .int m12, .int 0, .int 0, .int 0, .int m16, .int m17, .int m18, .int m19, .int m20, .ref ye, .int m22, .int m23, .ref yx]))] sz) := by
  refine kMetI (own := RX11) (by decide) rfl (Nat.le_of_ble_eq_true rfl) ?_
  intro p e s m args below meth c hx hb hT hown hname hml A Q hK hP hD hS hA hN hRet ls hl
  have hl : lv_has ls 4 [(0, .ref h)] := hl
  have lo_m3 := k_lo m3
  have hi_m3 := k_hi m3
  have lo_m9 := k_lo m9
  have hi_m9 := k_hi m9
  have lo_m12 := k_lo m12
  have hi_m12 := k_hi m12
  have lo_m16 := k_lo m16
  have hi_m16 := k_hi m16
  have lo_m17 := k_lo m17
  have hi_m17 := k_hi m17
  have lo_m18 := k_lo m18
  have hi_m18 := k_hi m18
  have lo_m19 := k_lo m19
  have hi_m19 := k_hi m19
  have lo_m20 := k_lo m20
  have hi_m20 := k_hi m20
  have lo_m22 := k_lo m22
  have hi_m22 := k_hi m22
  have lo_m23 := k_lo m23
  have hi_m23 := k_hi m23
  refine lv_aload_n hx hb dX11_sum_0 rfl (lv_at hl 0 rfl) ?_
  refine kJi (wr := []) (va_runV (As := []) (rest := []) ⟨hx, hb, hml, hown, hT⟩ (c_X11_product l D cI h ys yk yt yf yb yz yn yc yp yw ye yx s.heap.size m3 m9 m12 m16 m17 m18 m19 m20 m22 m23) (cwV 0 hT (gV_in mw_1331 mw_1328 mw_1330 mw_p4_7 mw_12) rfl rfl rfl (by decide +kernel) ⟨Nat.le_of_ble_eq_true rfl, Nat.le_of_ble_eq_true rfl⟩) (kRecv (own := "") (q0 := 0) (ci := 11) hK hP hD hN rfl rfl [0] rfl (by decide)) rfl rfl hl.1 rfl (lv_room (Nat.le_of_ble_eq_true rfl)) dX11_sum_1 ⟨Nat.le_of_ble_eq_true rfl, Nat.le_of_ble_eq_true rfl⟩) hP hD hS hA [0] [] rfl rfl (by decide) (by decide) (fun r_1 u_3 H locs w_2 hP hD hS => ?_)
  have hP : va_P D vwCl [(h, .inr (11, [.ref ys, .ref yk, .ref yt, .int m3, .ref yf, .ref yb, .ref yz, .ref yn, .ref yc, .int m9, .ref yp, .ref yw, .int m12, .int 0, .int 0, .int 1, .int m16, .int m17, .int m18, .int m19, .int m20, .ref ye, .int m22, .int m23, .ref yx]))] H := hP
  have hD : va_D A [(h, .inr (11, [.ref ys, .ref yk, .ref yt, .int m3, .ref yf, .ref yb, .ref yz, .ref yn, .ref yc, .int m9, .ref yp, .ref yw, .int m12, .int 0, .int 0, .int 1, .int m16, .int m17, .int m18, .int m19, .int m20, .ref ye, .int m22, .int m23, .ref yx]))] := hD
  have hr_1 := w_2
  obtain rfl : r_1 = 0 := hr_1.trans (by decide)
  refine lv_istore_n (lv' := [(1, .int 0), (0, .ref h)]) hx hb dX11_sum_4 rfl hl (by decide) rfl (fun ls hl => ?_)
  refine lv_aload_n hx hb dX11_sum_5 rfl (lv_at hl 1 rfl) ?_
  refine va_get (D := D) (ci := 11) (v := .int 1) (C := RX11) (T := TX11) (N := 25) hx hb hT giX11 hown hK hP 0 rfl rfl 15 (by decide) (hT (Cond.fieldLink RX11 148 "DesertWireModel" "isWrong" "Z") mw_1171) (fun _ h9 => h9) rfl dX11_sum_6 ?_
  refine b_if_ne hx hb zl_1 (tgt := 77) dX11_sum_9 (by decide) (fun c_4 => ?_) (fun c_4 => by exfalso; omega)
  refine lv_iload_n hx hb dX11_sum_77 rfl (lv_at hl 0 rfl) ?_
  exact hRet () [0] rfl hP hD (by decide) rfl hS rfl dX11_sum_78
set_option maxHeartbeats 4000000 in
set_option maxRecDepth 100000 in
theorem c_X11_test (l : Launch) (D : va_G) (cI : ClassId) (h ys yk yt yf yb yz yn yc yp yw ye yx : Nat) (sz : Nat) (m3 : Int32) (m9 : Int32) (m12 : Int32) (m16 : Int32) (m17 : Int32) (m18 : Int32) (m19 : Int32) (m20 : Int32) (m22 : Int32) (m23 : Int32) : Met l yX11_test (gW yX11_test cX11_test 4 (some .int)) ({ frames := 4, cells := 0, slots := 0, locals := 91 } : Room) (kPre D cI [.ref h] [(h, .inr (11, [.ref ys, .ref yk, .ref yt, .int m3, .ref yf, .ref yb, .ref yz, .ref yn, .ref yc, .int m9, .ref yp, .ref yw, .int m12, .int 0, .int 0, .int 0, .int m16, .int m17, .int m18, .int m19, .int m20, .ref ye, .int m22, .int m23, .ref yx]))] sz) (va_Qi (fun (r : Int32) (u : Unit) => r = 0) (fun u t => kWd D cI (va_A [(h, .inr (11, [.ref ys, .ref yk, .ref yt, .int m3, .ref yf, .ref yb, .ref yz, .ref yn, .ref yc, .int m9, .ref yp, .ref yw, .int m12, .int 0, .int 0, .int 0, .int m16, .int m17, .int m18, .int m19, .int m20, .ref ye, .int m22, .int m23, .ref yx]))] sz) [(h, .inr (11, [.ref ys, .ref yk, .ref yt, .int m3, .ref yf, .ref yb, .ref yz, .ref yn, .ref yc, .int m9, .ref yp, .ref yw, .int m12, .int 0, .int 0, .int 1, .int m16, .int m17, .int m18, .int m19, .int m20, .ref ye, .int m22, .int m23, .ref yx]))] t) (va_A [(h, .inr (11, [.ref ys, .ref yk, .ref yt, .int m3, .ref yf, .ref yb, .ref yz, .ref yn, .ref yc, .int m9, .ref yp, .ref yw, .int m12, .int 0, .int 0, .int 0, .int m16, .int m17, .int m18, .int m19, .int m20, .ref ye, .int m22, .int m23, .ref yx]))] sz)) 0 0 (va_A [(h, .inr (11, [.ref ys, .ref yk, .ref yt, .int m3, .ref yf, .ref yb, .ref yz, .ref yn, .ref yc, .int m9, .ref yp, .ref yw, .int m12, .int 0, .int 0, .int 0, .int m16, .int m17, .int m18, .int m19, .int m20, .ref ye, .int m22, .int m23, .ref yx]))] sz) := by
  refine kMetI (own := RX11) (by decide) rfl (Nat.le_of_ble_eq_true rfl) ?_
  intro p e s m args below meth c hx hb hT hown hname hml A Q hK hP hD hS hA hN hRet ls hl
  have hl : lv_has ls 4 [(0, .ref h)] := hl
  have lo_m3 := k_lo m3
  have hi_m3 := k_hi m3
  have lo_m9 := k_lo m9
  have hi_m9 := k_hi m9
  have lo_m12 := k_lo m12
  have hi_m12 := k_hi m12
  have lo_m16 := k_lo m16
  have hi_m16 := k_hi m16
  have lo_m17 := k_lo m17
  have hi_m17 := k_hi m17
  have lo_m18 := k_lo m18
  have hi_m18 := k_hi m18
  have lo_m19 := k_lo m19
  have hi_m19 := k_hi m19
  have lo_m20 := k_lo m20
  have hi_m20 := k_hi m20
  have lo_m22 := k_lo m22
  have hi_m22 := k_hi m22
  have lo_m23 := k_lo m23
  have hi_m23 := k_hi m23
  refine lv_aload_n hx hb dX11_test_0 rfl (lv_at hl 0 rfl) ?_
  refine kJi (wr := []) (va_runV (As := []) (rest := []) ⟨hx, hb, hml, hown, hT⟩ (c_X11_sum l D cI h ys yk yt yf yb yz yn yc yp yw ye yx s.heap.size m3 m9 m12 m16 m17 m18 m19 m20 m22 m23) (cwV 0 hT (gV_in mw_1327 mw_1324 mw_1326 mw_p4_6 mw_12) rfl rfl rfl (by decide +kernel) ⟨Nat.le_of_ble_eq_true rfl, Nat.le_of_ble_eq_true rfl⟩) (kRecv (own := "") (q0 := 0) (ci := 11) hK hP hD hN rfl rfl [0] rfl (by decide)) rfl rfl hl.1 rfl (lv_room (Nat.le_of_ble_eq_true rfl)) dX11_test_1 ⟨Nat.le_of_ble_eq_true rfl, Nat.le_of_ble_eq_true rfl⟩) hP hD hS hA [0] [] rfl rfl (by decide) (by decide) (fun r_1 u_3 H locs w_2 hP hD hS => ?_)
  have hP : va_P D vwCl [(h, .inr (11, [.ref ys, .ref yk, .ref yt, .int m3, .ref yf, .ref yb, .ref yz, .ref yn, .ref yc, .int m9, .ref yp, .ref yw, .int m12, .int 0, .int 0, .int 1, .int m16, .int m17, .int m18, .int m19, .int m20, .ref ye, .int m22, .int m23, .ref yx]))] H := hP
  have hD : va_D A [(h, .inr (11, [.ref ys, .ref yk, .ref yt, .int m3, .ref yf, .ref yb, .ref yz, .ref yn, .ref yc, .int m9, .ref yp, .ref yw, .int m12, .int 0, .int 0, .int 1, .int m16, .int m17, .int m18, .int m19, .int m20, .ref ye, .int m22, .int m23, .ref yx]))] := hD
  have hr_1 := w_2
  obtain rfl : r_1 = 0 := hr_1.trans (by decide)
  refine lv_istore_n (lv' := [(1, .int 0), (0, .ref h)]) hx hb dX11_test_4 rfl hl (by decide) rfl (fun ls hl => ?_)
  refine lv_aload_n hx hb dX11_test_5 rfl (lv_at hl 1 rfl) ?_
  refine kJi (wr := []) (va_runV (As := []) (rest := []) ⟨hx, hb, hml, hown, hT⟩ (c_X11_now l D cI h ys yk yt yf yb yz yn yc yp yw ye yx H.size m3 m9 m12 1 m16 m17 m18 m19 m20 m22 m23) (cwV 0 hT (gV_in mw_1339 mw_1336 mw_1338 mw_p4_9 mw_12) rfl rfl rfl (by decide +kernel) ⟨Nat.le_of_ble_eq_true rfl, Nat.le_of_ble_eq_true rfl⟩) (kRecv (own := "") (q0 := 0) (ci := 11) hK hP hD hN rfl rfl [0] rfl (by decide)) rfl rfl hl.1 rfl (lv_room (Nat.le_of_ble_eq_true rfl)) dX11_test_6 ⟨Nat.le_of_ble_eq_true rfl, Nat.le_of_ble_eq_true rfl⟩) hP hD hS hA [0] [] rfl rfl (by decide) (by decide) (fun r_4 u_6 H locs w_5 hP hD hS => ?_)
  have hP : va_P D vwCl [(h, .inr (11, [.ref ys, .ref yk, .ref yt, .int m3, .ref yf, .ref yb, .ref yz, .ref yn, .ref yc, .int m9, .ref yp, .ref yw, .int m12, .int 0, .int 0, .int 1, .int m16, .int m17, .int m18, .int m19, .int m20, .ref ye, .int m22, .int m23, .ref yx]))] H := hP
  have hD : va_D A [(h, .inr (11, [.ref ys, .ref yk, .ref yt, .int m3, .ref yf, .ref yb, .ref yz, .ref yn, .ref yc, .int m9, .ref yp, .ref yw, .int m12, .int 0, .int 0, .int 1, .int m16, .int m17, .int m18, .int m19, .int m20, .ref ye, .int m22, .int m23, .ref yx]))] := hD
  have hr_4 := w_5
  obtain rfl : r_4 = (-1) := hr_4.trans (by decide)
  refine lv_istore_n (lv' := [(2, .int (-1)), (1, .int 0), (0, .ref h)]) hx hb dX11_test_9 rfl hl (by decide) rfl (fun ls hl => ?_)
  refine lv_aload_n hx hb dX11_test_10 rfl (lv_at hl 2 rfl) ?_
  refine va_get (D := D) (ci := 11) (v := .int 1) (C := RX11) (T := TX11) (N := 25) hx hb hT giX11 hown hK hP 0 rfl rfl 15 (by decide) (hT (Cond.fieldLink RX11 148 "DesertWireModel" "isWrong" "Z") mw_1171) (fun _ h9 => h9) rfl dX11_test_11 ?_
  refine b_if_ne hx hb zl_1 (tgt := 35) dX11_test_14 (by decide) (fun c_7 => ?_) (fun c_7 => by exfalso; omega)
  refine lv_iload_n hx hb dX11_test_35 rfl (lv_at hl 1 rfl) ?_
  exact hRet () [0] rfl hP hD (by decide) rfl hS rfl dX11_test_36
set_option maxHeartbeats 4000000 in
set_option maxRecDepth 100000 in
theorem c_X11_both (l : Launch) (D : va_G) (cI : ClassId) (h ys yk yt yf yb yz yn yc yp yw ye yx : Nat) (sz : Nat) (m3 : Int32) (m9 : Int32) (m12 : Int32) (m16 : Int32) (m17 : Int32) (m18 : Int32) (m19 : Int32) (m20 : Int32) (m22 : Int32) (m23 : Int32) : Met l yX11_both (gW yX11_both cX11_both 3 (some .int)) ({ frames := 5, cells := 0, slots := 0, locals := 114 } : Room) (kPre D cI [.ref h] [(h, .inr (11, [.ref ys, .ref yk, .ref yt, .int m3, .ref yf, .ref yb, .ref yz, .ref yn, .ref yc, .int m9, .ref yp, .ref yw, .int m12, .int 0, .int 0, .int 0, .int m16, .int m17, .int m18, .int m19, .int m20, .ref ye, .int m22, .int m23, .ref yx]))] sz) (va_Qi (fun (r : Int32) (u : Unit) => r = 0) (fun u t => kWd D cI (va_A [(h, .inr (11, [.ref ys, .ref yk, .ref yt, .int m3, .ref yf, .ref yb, .ref yz, .ref yn, .ref yc, .int m9, .ref yp, .ref yw, .int m12, .int 0, .int 0, .int 0, .int m16, .int m17, .int m18, .int m19, .int m20, .ref ye, .int m22, .int m23, .ref yx]))] sz) [(h, .inr (11, [.ref ys, .ref yk, .ref yt, .int m3, .ref yf, .ref yb, .ref yz, .ref yn, .ref yc, .int m9, .ref yp, .ref yw, .int m12, .int 0, .int 0, .int 1, .int m16, .int m17, .int m18, .int m19, .int m20, .ref ye, .int m22, .int m23, .ref yx]))] t) (va_A [(h, .inr (11, [.ref ys, .ref yk, .ref yt, .int m3, .ref yf, .ref yb, .ref yz, .ref yn, .ref yc, .int m9, .ref yp, .ref yw, .int m12, .int 0, .int 0, .int 0, .int m16, .int m17, .int m18, .int m19, .int m20, .ref ye, .int m22, .int m23, .ref yx]))] sz)) 0 0 (va_A [(h, .inr (11, [.ref ys, .ref yk, .ref yt, .int m3, .ref yf, .ref yb, .ref yz, .ref yn, .ref yc, .int m9, .ref yp, .ref yw, .int m12, .int 0, .int 0, .int 0, .int m16, .int m17, .int m18, .int m19, .int m20, .ref ye, .int m22, .int m23, .ref yx]))] sz) := by
  refine kMetI (own := RX11) (by decide) rfl (Nat.le_of_ble_eq_true rfl) ?_
  intro p e s m args below meth c hx hb hT hown hname hml A Q hK hP hD hS hA hN hRet ls hl
  have hl : lv_has ls 3 [(0, .ref h)] := hl
  have lo_m3 := k_lo m3
  have hi_m3 := k_hi m3
  have lo_m9 := k_lo m9
  have hi_m9 := k_hi m9
  have lo_m12 := k_lo m12
  have hi_m12 := k_hi m12
  have lo_m16 := k_lo m16
  have hi_m16 := k_hi m16
  have lo_m17 := k_lo m17
  have hi_m17 := k_hi m17
  have lo_m18 := k_lo m18
  have hi_m18 := k_hi m18
  have lo_m19 := k_lo m19
  have hi_m19 := k_hi m19
  have lo_m20 := k_lo m20
  have hi_m20 := k_hi m20
  have lo_m22 := k_lo m22
  have hi_m22 := k_hi m22
  have lo_m23 := k_lo m23
  have hi_m23 := k_hi m23
  refine lv_aload_n hx hb dX11_both_0 rfl (lv_at hl 0 rfl) ?_
  refine kJi (wr := []) (va_runV (As := []) (rest := []) ⟨hx, hb, hml, hown, hT⟩ (c_X11_test l D cI h ys yk yt yf yb yz yn yc yp yw ye yx s.heap.size m3 m9 m12 m16 m17 m18 m19 m20 m22 m23) (cwV 0 hT (gV_in mw_1323 mw_1320 mw_1322 mw_p4_5 mw_12) rfl rfl rfl (by decide +kernel) ⟨Nat.le_of_ble_eq_true rfl, Nat.le_of_ble_eq_true rfl⟩) (kRecv (own := "") (q0 := 0) (ci := 11) hK hP hD hN rfl rfl [0] rfl (by decide)) rfl rfl hl.1 rfl (lv_room (Nat.le_of_ble_eq_true rfl)) dX11_both_1 ⟨Nat.le_of_ble_eq_true rfl, Nat.le_of_ble_eq_true rfl⟩) hP hD hS hA [0] [] rfl rfl (by decide) (by decide) (fun r_1 u_3 H locs w_2 hP hD hS => ?_)
  have hP : va_P D vwCl [(h, .inr (11, [.ref ys, .ref yk, .ref yt, .int m3, .ref yf, .ref yb, .ref yz, .ref yn, .ref yc, .int m9, .ref yp, .ref yw, .int m12, .int 0, .int 0, .int 1, .int m16, .int m17, .int m18, .int m19, .int m20, .ref ye, .int m22, .int m23, .ref yx]))] H := hP
  have hD : va_D A [(h, .inr (11, [.ref ys, .ref yk, .ref yt, .int m3, .ref yf, .ref yb, .ref yz, .ref yn, .ref yc, .int m9, .ref yp, .ref yw, .int m12, .int 0, .int 0, .int 1, .int m16, .int m17, .int m18, .int m19, .int m20, .ref ye, .int m22, .int m23, .ref yx]))] := hD
  have hr_1 := w_2
  obtain rfl : r_1 = 0 := hr_1.trans (by decide)
  refine lv_istore_n (lv' := [(1, .int 0), (0, .ref h)]) hx hb dX11_both_4 rfl hl (by decide) rfl (fun ls hl => ?_)
  refine lv_aload_n hx hb dX11_both_5 rfl (lv_at hl 1 rfl) ?_
  refine lv_bipush (v := 38) hx hb dX11_both_6 (by decide) ?_
  refine kJi (wr := []) (va_runV (As := [.int 38]) (rest := []) ⟨hx, hb, hml, hown, hT⟩ (c_X11_takes l D cI h ys yk yt yf yb yz yn yc yp yw ye yx H.size m3 m9 m12 m16 m17 m18 m19 m20 m22 m23 38) (cwV 1 hT (gV_in mw_1351 mw_1348 mw_1350 mw_p4_12 mw_12) rfl rfl rfl (by decide +kernel) ⟨Nat.le_of_ble_eq_true rfl, Nat.le_of_ble_eq_true rfl⟩) (kRecv (own := "") (q0 := 0) (ci := 11) hK hP hD hN rfl rfl [0] rfl (by decide)) rfl rfl hl.1 rfl (lv_room (Nat.le_of_ble_eq_true rfl)) dX11_both_8 ⟨Nat.le_of_ble_eq_true rfl, Nat.le_of_ble_eq_true rfl⟩) hP hD hS hA [0] [] rfl rfl (by decide) (by decide) (fun r_4 u_6 H locs w_5 hP hD hS => ?_)
  have hP : va_P D vwCl [(h, .inr (11, [.ref ys, .ref yk, .ref yt, .int m3, .ref yf, .ref yb, .ref yz, .ref yn, .ref yc, .int m9, .ref yp, .ref yw, .int m12, .int 0, .int 0, .int 1, .int m16, .int m17, .int m18, .int m19, .int m20, .ref ye, .int m22, .int m23, .ref yx]))] H := hP
  have hD : va_D A [(h, .inr (11, [.ref ys, .ref yk, .ref yt, .int m3, .ref yf, .ref yb, .ref yz, .ref yn, .ref yc, .int m9, .ref yp, .ref yw, .int m12, .int 0, .int 0, .int 1, .int m16, .int m17, .int m18, .int m19, .int m20, .ref ye, .int m22, .int m23, .ref yx]))] := hD
  have hr_4 := w_5
  obtain rfl : r_4 = 0 := hr_4.trans (by decide)
  refine b_if_eq hx hb zl_0 (tgt := 36) dX11_both_11 (by decide) (fun c_7 => ?_) (fun c_7 => by exfalso; omega)
  refine lv_iload_n hx hb dX11_both_36 rfl (lv_at hl 0 rfl) ?_
  exact hRet () [0] rfl hP hD (by decide) rfl hS rfl dX11_both_37
set_option maxHeartbeats 4000000 in
set_option maxRecDepth 100000 in
theorem c_X11_whole (l : Launch) (D : va_G) (cI : ClassId) (h ys yk yt yf yb yz yn yc yp yw ye yx : Nat) (sz : Nat) (m3 : Int32) (m9 : Int32) (m12 : Int32) (m16 : Int32) (m17 : Int32) (m18 : Int32) (m19 : Int32) (m20 : Int32) (m22 : Int32) (m23 : Int32) : Met l yX11_whole (gW yX11_whole cX11_whole 3 (some .int)) ({ frames := 6, cells := 0, slots := 0, locals := 136 } : Room) (kPre D cI [.ref h] [(h, .inr (11, [.ref ys, .ref yk, .ref yt, .int m3, .ref yf, .ref yb, .ref yz, .ref yn, .ref yc, .int m9, .ref yp, .ref yw, .int m12, .int 0, .int 0, .int 0, .int m16, .int m17, .int m18, .int m19, .int m20, .ref ye, .int m22, .int m23, .ref yx]))] sz) (va_Qi (fun (r : Int32) (u : Unit) => r = 0) (fun u t => kWd D cI (va_A [(h, .inr (11, [.ref ys, .ref yk, .ref yt, .int m3, .ref yf, .ref yb, .ref yz, .ref yn, .ref yc, .int m9, .ref yp, .ref yw, .int m12, .int 0, .int 0, .int 0, .int m16, .int m17, .int m18, .int m19, .int m20, .ref ye, .int m22, .int m23, .ref yx]))] sz) [(h, .inr (11, [.ref ys, .ref yk, .ref yt, .int m3, .ref yf, .ref yb, .ref yz, .ref yn, .ref yc, .int m9, .ref yp, .ref yw, .int m12, .int 0, .int 0, .int 1, .int m16, .int m17, .int m18, .int m19, .int m20, .ref ye, .int m22, .int m23, .ref yx]))] t) (va_A [(h, .inr (11, [.ref ys, .ref yk, .ref yt, .int m3, .ref yf, .ref yb, .ref yz, .ref yn, .ref yc, .int m9, .ref yp, .ref yw, .int m12, .int 0, .int 0, .int 0, .int m16, .int m17, .int m18, .int m19, .int m20, .ref ye, .int m22, .int m23, .ref yx]))] sz)) 0 0 (va_A [(h, .inr (11, [.ref ys, .ref yk, .ref yt, .int m3, .ref yf, .ref yb, .ref yz, .ref yn, .ref yc, .int m9, .ref yp, .ref yw, .int m12, .int 0, .int 0, .int 0, .int m16, .int m17, .int m18, .int m19, .int m20, .ref ye, .int m22, .int m23, .ref yx]))] sz) := by
  refine kMetI (own := RX11) (by decide) rfl (Nat.le_of_ble_eq_true rfl) ?_
  intro p e s m args below meth c hx hb hT hown hname hml A Q hK hP hD hS hA hN hRet ls hl
  have hl : lv_has ls 3 [(0, .ref h)] := hl
  have lo_m3 := k_lo m3
  have hi_m3 := k_hi m3
  have lo_m9 := k_lo m9
  have hi_m9 := k_hi m9
  have lo_m12 := k_lo m12
  have hi_m12 := k_hi m12
  have lo_m16 := k_lo m16
  have hi_m16 := k_hi m16
  have lo_m17 := k_lo m17
  have hi_m17 := k_hi m17
  have lo_m18 := k_lo m18
  have hi_m18 := k_hi m18
  have lo_m19 := k_lo m19
  have hi_m19 := k_hi m19
  have lo_m20 := k_lo m20
  have hi_m20 := k_hi m20
  have lo_m22 := k_lo m22
  have hi_m22 := k_hi m22
  have lo_m23 := k_lo m23
  have hi_m23 := k_hi m23
  refine lv_aload_n hx hb dX11_whole_0 rfl (lv_at hl 0 rfl) ?_
  refine kJi (wr := []) (va_runV (As := []) (rest := []) ⟨hx, hb, hml, hown, hT⟩ (c_X11_both l D cI h ys yk yt yf yb yz yn yc yp yw ye yx s.heap.size m3 m9 m12 m16 m17 m18 m19 m20 m22 m23) (cwV 0 hT (gV_in mw_1319 mw_1316 mw_1318 mw_p4_4 mw_12) rfl rfl rfl (by decide +kernel) ⟨Nat.le_of_ble_eq_true rfl, Nat.le_of_ble_eq_true rfl⟩) (kRecv (own := "") (q0 := 0) (ci := 11) hK hP hD hN rfl rfl [0] rfl (by decide)) rfl rfl hl.1 rfl (lv_room (Nat.le_of_ble_eq_true rfl)) dX11_whole_1 ⟨Nat.le_of_ble_eq_true rfl, Nat.le_of_ble_eq_true rfl⟩) hP hD hS hA [0] [] rfl rfl (by decide) (by decide) (fun r_1 u_3 H locs w_2 hP hD hS => ?_)
  have hP : va_P D vwCl [(h, .inr (11, [.ref ys, .ref yk, .ref yt, .int m3, .ref yf, .ref yb, .ref yz, .ref yn, .ref yc, .int m9, .ref yp, .ref yw, .int m12, .int 0, .int 0, .int 1, .int m16, .int m17, .int m18, .int m19, .int m20, .ref ye, .int m22, .int m23, .ref yx]))] H := hP
  have hD : va_D A [(h, .inr (11, [.ref ys, .ref yk, .ref yt, .int m3, .ref yf, .ref yb, .ref yz, .ref yn, .ref yc, .int m9, .ref yp, .ref yw, .int m12, .int 0, .int 0, .int 1, .int m16, .int m17, .int m18, .int m19, .int m20, .ref ye, .int m22, .int m23, .ref yx]))] := hD
  have hr_1 := w_2
  obtain rfl : r_1 = 0 := hr_1.trans (by decide)
  refine lv_istore_n (lv' := [(1, .int 0), (0, .ref h)]) hx hb dX11_whole_4 rfl hl (by decide) rfl (fun ls hl => ?_)
  refine lv_aload_n hx hb dX11_whole_5 rfl (lv_at hl 1 rfl) ?_
  refine lv_bipush (v := 124) hx hb dX11_whole_6 (by decide) ?_
  refine kJi (wr := []) (va_runV (As := [.int 124]) (rest := []) ⟨hx, hb, hml, hown, hT⟩ (c_X11_takes l D cI h ys yk yt yf yb yz yn yc yp yw ye yx H.size m3 m9 m12 m16 m17 m18 m19 m20 m22 m23 124) (cwV 1 hT (gV_in mw_1351 mw_1348 mw_1350 mw_p4_12 mw_12) rfl rfl rfl (by decide +kernel) ⟨Nat.le_of_ble_eq_true rfl, Nat.le_of_ble_eq_true rfl⟩) (kRecv (own := "") (q0 := 0) (ci := 11) hK hP hD hN rfl rfl [0] rfl (by decide)) rfl rfl hl.1 rfl (lv_room (Nat.le_of_ble_eq_true rfl)) dX11_whole_8 ⟨Nat.le_of_ble_eq_true rfl, Nat.le_of_ble_eq_true rfl⟩) hP hD hS hA [0] [] rfl rfl (by decide) (by decide) (fun r_4 u_6 H locs w_5 hP hD hS => ?_)
  have hP : va_P D vwCl [(h, .inr (11, [.ref ys, .ref yk, .ref yt, .int m3, .ref yf, .ref yb, .ref yz, .ref yn, .ref yc, .int m9, .ref yp, .ref yw, .int m12, .int 0, .int 0, .int 1, .int m16, .int m17, .int m18, .int m19, .int m20, .ref ye, .int m22, .int m23, .ref yx]))] H := hP
  have hD : va_D A [(h, .inr (11, [.ref ys, .ref yk, .ref yt, .int m3, .ref yf, .ref yb, .ref yz, .ref yn, .ref yc, .int m9, .ref yp, .ref yw, .int m12, .int 0, .int 0, .int 1, .int m16, .int m17, .int m18, .int m19, .int m20, .ref ye, .int m22, .int m23, .ref yx]))] := hD
  have hr_4 := w_5
  obtain rfl : r_4 = 0 := hr_4.trans (by decide)
  refine b_if_eq hx hb zl_0 (tgt := 36) dX11_whole_11 (by decide) (fun c_7 => ?_) (fun c_7 => by exfalso; omega)
  refine lv_iload_n hx hb dX11_whole_36 rfl (lv_at hl 0 rfl) ?_
  exact hRet () [0] rfl hP hD (by decide) rfl hS rfl dX11_whole_37
set_option maxHeartbeats 4000000 in
set_option maxRecDepth 100000 in
theorem c_X11_goesOver (l : Launch) (D : va_G) (cI : ClassId) (h ys yk yt yf yb yz yn yc yp yw ye yx : Nat) (sz : Nat) (m3 : Int32) (m9 : Int32) (m12 : Int32) (m13 : Int32) (m14 : Int32) (m15 : Int32) (m16 : Int32) (m17 : Int32) (m18 : Int32) (m19 : Int32) (m20 : Int32) (m22 : Int32) (m23 : Int32) (a1 : Int32) (a2 : Int32) (a3 : Int32) (a4 : Int32) (a5 : Int32) (a6 : Int32) (pre0 : a3 = 0) : Met l yX11_goesOver (gW yX11_goesOver cX11_goesOver 7 (some .int)) ({ frames := 7, cells := 0, slots := 0, locals := 158 } : Room) (kPre D cI [.ref h, .int a1, .int a2, .int 0, .int a4, .int a5, .int a6] [(h, .inr (11, [.ref ys, .ref yk, .ref yt, .int m3, .ref yf, .ref yb, .ref yz, .ref yn, .ref yc, .int m9, .ref yp, .ref yw, .int m12, .int m13, .int m14, .int m15, .int m16, .int m17, .int m18, .int m19, .int m20, .ref ye, .int m22, .int m23, .ref yx]))] sz) (va_Qi (fun (r : Int32) (u : Unit) => r = 0) (fun u t => kWd D cI (va_A [(h, .inr (11, [.ref ys, .ref yk, .ref yt, .int m3, .ref yf, .ref yb, .ref yz, .ref yn, .ref yc, .int m9, .ref yp, .ref yw, .int m12, .int m13, .int m14, .int m15, .int m16, .int m17, .int m18, .int m19, .int m20, .ref ye, .int m22, .int m23, .ref yx]))] sz) [(h, .inr (11, [.ref ys, .ref yk, .ref yt, .int m3, .ref yf, .ref yb, .ref yz, .ref yn, .ref yc, .int m9, .ref yp, .ref yw, .int a2, .int 0, .int 0, .int 1, .int 0, .int a1, .int a4, .int a5, .int a6, .ref ye, .int m22, .int m23, .ref yx]))] t) (va_A [(h, .inr (11, [.ref ys, .ref yk, .ref yt, .int m3, .ref yf, .ref yb, .ref yz, .ref yn, .ref yc, .int m9, .ref yp, .ref yw, .int m12, .int m13, .int m14, .int m15, .int m16, .int m17, .int m18, .int m19, .int m20, .ref ye, .int m22, .int m23, .ref yx]))] sz)) 0 0 (va_A [(h, .inr (11, [.ref ys, .ref yk, .ref yt, .int m3, .ref yf, .ref yb, .ref yz, .ref yn, .ref yc, .int m9, .ref yp, .ref yw, .int m12, .int m13, .int m14, .int m15, .int m16, .int m17, .int m18, .int m19, .int m20, .ref ye, .int m22, .int m23, .ref yx]))] sz) := by
  refine kMetI (own := RX11) (by decide) rfl (Nat.le_of_ble_eq_true rfl) ?_
  intro p e s m args below meth c hx hb hT hown hname hml A Q hK hP hD hS hA hN hRet ls hl
  subst pre0
  have hl : lv_has ls 7 [(0, .ref h), (1, .int a1), (2, .int a2), (3, .int 0), (4, .int a4), (5, .int a5), (6, .int a6)] := hl
  have lo_a1 := k_lo a1
  have hi_a1 := k_hi a1
  have lo_a2 := k_lo a2
  have hi_a2 := k_hi a2
  have lo_a4 := k_lo a4
  have hi_a4 := k_hi a4
  have lo_a5 := k_lo a5
  have hi_a5 := k_hi a5
  have lo_a6 := k_lo a6
  have hi_a6 := k_hi a6
  have lo_m3 := k_lo m3
  have hi_m3 := k_hi m3
  have lo_m9 := k_lo m9
  have hi_m9 := k_hi m9
  have lo_m12 := k_lo m12
  have hi_m12 := k_hi m12
  have lo_m13 := k_lo m13
  have hi_m13 := k_hi m13
  have lo_m14 := k_lo m14
  have hi_m14 := k_hi m14
  have lo_m15 := k_lo m15
  have hi_m15 := k_hi m15
  have lo_m16 := k_lo m16
  have hi_m16 := k_hi m16
  have lo_m17 := k_lo m17
  have hi_m17 := k_hi m17
  have lo_m18 := k_lo m18
  have hi_m18 := k_hi m18
  have lo_m19 := k_lo m19
  have hi_m19 := k_hi m19
  have lo_m20 := k_lo m20
  have hi_m20 := k_hi m20
  have lo_m22 := k_lo m22
  have hi_m22 := k_hi m22
  have lo_m23 := k_lo m23
  have hi_m23 := k_hi m23
  refine lv_aload_n hx hb dX11_goesOver_0 rfl (lv_at hl 0 rfl) ?_
  refine lv_iload_n hx hb dX11_goesOver_1 rfl (lv_at hl 1 rfl) ?_
  refine va_put (D := D) (ci := 11) (v := .int a1) (ty := .int) (C := RX11) (T := TX11) (N := 25) hx hb hT giX11 tyX11 tyX11_ok nmX11 hown hK hP hD hS 0 rfl rfl 17 (by decide) (hT (Cond.fieldLink RX11 155 "DesertWireModel" "use" "I") mw_1173) (fun _ h9 => h9) rfl (by decide +kernel) rfl rfl (Nat.le_of_ble_eq_true rfl) dX11_goesOver_2 (fun H locs hP hD hS => ?_)
  have hP : va_P D vwCl [(h, .inr (11, [.ref ys, .ref yk, .ref yt, .int m3, .ref yf, .ref yb, .ref yz, .ref yn, .ref yc, .int m9, .ref yp, .ref yw, .int m12, .int m13, .int m14, .int m15, .int m16, .int a1, .int m18, .int m19, .int m20, .ref ye, .int m22, .int m23, .ref yx]))] H := hP
  have hD : va_D A [(h, .inr (11, [.ref ys, .ref yk, .ref yt, .int m3, .ref yf, .ref yb, .ref yz, .ref yn, .ref yc, .int m9, .ref yp, .ref yw, .int m12, .int m13, .int m14, .int m15, .int m16, .int a1, .int m18, .int m19, .int m20, .ref ye, .int m22, .int m23, .ref yx]))] := hD
  refine lv_aload_n hx hb dX11_goesOver_5 rfl (lv_at hl 0 rfl) ?_
  refine lv_iload_n hx hb dX11_goesOver_6 rfl (lv_at hl 2 rfl) ?_
  refine va_put (D := D) (ci := 11) (v := .int a2) (ty := .int) (C := RX11) (T := TX11) (N := 25) hx hb hT giX11 tyX11 tyX11_ok nmX11 hown hK hP hD hS 0 rfl rfl 12 (by decide) (hT (Cond.fieldLink RX11 145 "DesertWireModel" "from" "I") mw_1168) (fun _ h9 => h9) rfl (by decide +kernel) rfl rfl (Nat.le_of_ble_eq_true rfl) dX11_goesOver_7 (fun H locs hP hD hS => ?_)
  have hP : va_P D vwCl [(h, .inr (11, [.ref ys, .ref yk, .ref yt, .int m3, .ref yf, .ref yb, .ref yz, .ref yn, .ref yc, .int m9, .ref yp, .ref yw, .int a2, .int m13, .int m14, .int m15, .int m16, .int a1, .int m18, .int m19, .int m20, .ref ye, .int m22, .int m23, .ref yx]))] H := hP
  have hD : va_D A [(h, .inr (11, [.ref ys, .ref yk, .ref yt, .int m3, .ref yf, .ref yb, .ref yz, .ref yn, .ref yc, .int m9, .ref yp, .ref yw, .int a2, .int m13, .int m14, .int m15, .int m16, .int a1, .int m18, .int m19, .int m20, .ref ye, .int m22, .int m23, .ref yx]))] := hD
  refine lv_aload_n hx hb dX11_goesOver_10 rfl (lv_at hl 0 rfl) ?_
  refine lv_iload_n hx hb dX11_goesOver_11 rfl (lv_at hl 3 rfl) ?_
  refine va_put (D := D) (ci := 11) (v := .int 0) (ty := .int) (C := RX11) (T := TX11) (N := 25) hx hb hT giX11 tyX11 tyX11_ok nmX11 hown hK hP hD hS 0 rfl rfl 14 (by decide) (hT (Cond.fieldLink RX11 142 "DesertWireModel" "end" "I") mw_1170) (fun _ h9 => h9) rfl (by decide +kernel) rfl rfl (Nat.le_of_ble_eq_true rfl) dX11_goesOver_12 (fun H locs hP hD hS => ?_)
  have hP : va_P D vwCl [(h, .inr (11, [.ref ys, .ref yk, .ref yt, .int m3, .ref yf, .ref yb, .ref yz, .ref yn, .ref yc, .int m9, .ref yp, .ref yw, .int a2, .int m13, .int 0, .int m15, .int m16, .int a1, .int m18, .int m19, .int m20, .ref ye, .int m22, .int m23, .ref yx]))] H := hP
  have hD : va_D A [(h, .inr (11, [.ref ys, .ref yk, .ref yt, .int m3, .ref yf, .ref yb, .ref yz, .ref yn, .ref yc, .int m9, .ref yp, .ref yw, .int a2, .int m13, .int 0, .int m15, .int m16, .int a1, .int m18, .int m19, .int m20, .ref ye, .int m22, .int m23, .ref yx]))] := hD
  refine lv_aload_n hx hb dX11_goesOver_15 rfl (lv_at hl 0 rfl) ?_
  refine lv_iconst (v := 0) hx hb dX11_goesOver_16 (by decide) ?_
  refine va_put (D := D) (ci := 11) (v := .int 0) (ty := .int) (C := RX11) (T := TX11) (N := 25) hx hb hT giX11 tyX11 tyX11_ok nmX11 hown hK hP hD hS 0 rfl rfl 13 (by decide) (hT (Cond.fieldLink RX11 138 "DesertWireModel" "here" "I") mw_1169) (fun _ h9 => h9) rfl (by decide +kernel) rfl rfl (Nat.le_of_ble_eq_true rfl) dX11_goesOver_17 (fun H locs hP hD hS => ?_)
  have hP : va_P D vwCl [(h, .inr (11, [.ref ys, .ref yk, .ref yt, .int m3, .ref yf, .ref yb, .ref yz, .ref yn, .ref yc, .int m9, .ref yp, .ref yw, .int a2, .int 0, .int 0, .int m15, .int m16, .int a1, .int m18, .int m19, .int m20, .ref ye, .int m22, .int m23, .ref yx]))] H := hP
  have hD : va_D A [(h, .inr (11, [.ref ys, .ref yk, .ref yt, .int m3, .ref yf, .ref yb, .ref yz, .ref yn, .ref yc, .int m9, .ref yp, .ref yw, .int a2, .int 0, .int 0, .int m15, .int m16, .int a1, .int m18, .int m19, .int m20, .ref ye, .int m22, .int m23, .ref yx]))] := hD
  refine lv_aload_n hx hb dX11_goesOver_20 rfl (lv_at hl 0 rfl) ?_
  refine lv_iconst (v := 0) hx hb dX11_goesOver_21 (by decide) ?_
  refine va_put (D := D) (ci := 11) (v := .int 0) (ty := .boolean) (C := RX11) (T := TX11) (N := 25) hx hb hT giX11 tyX11 tyX11_ok nmX11 hown hK hP hD hS 0 rfl rfl 15 (by decide) (hT (Cond.fieldLink RX11 148 "DesertWireModel" "isWrong" "Z") mw_1171) (fun _ h9 => h9) rfl (by decide +kernel) rfl rfl (Nat.le_of_ble_eq_true rfl) dX11_goesOver_22 (fun H locs hP hD hS => ?_)
  have hP : va_P D vwCl [(h, .inr (11, [.ref ys, .ref yk, .ref yt, .int m3, .ref yf, .ref yb, .ref yz, .ref yn, .ref yc, .int m9, .ref yp, .ref yw, .int a2, .int 0, .int 0, .int 0, .int m16, .int a1, .int m18, .int m19, .int m20, .ref ye, .int m22, .int m23, .ref yx]))] H := hP
  have hD : va_D A [(h, .inr (11, [.ref ys, .ref yk, .ref yt, .int m3, .ref yf, .ref yb, .ref yz, .ref yn, .ref yc, .int m9, .ref yp, .ref yw, .int a2, .int 0, .int 0, .int 0, .int m16, .int a1, .int m18, .int m19, .int m20, .ref ye, .int m22, .int m23, .ref yx]))] := hD
  refine lv_aload_n hx hb dX11_goesOver_25 rfl (lv_at hl 0 rfl) ?_
  refine lv_iconst (v := 0) hx hb dX11_goesOver_26 (by decide) ?_
  refine va_put (D := D) (ci := 11) (v := .int 0) (ty := .int) (C := RX11) (T := TX11) (N := 25) hx hb hT giX11 tyX11 tyX11_ok nmX11 hown hK hP hD hS 0 rfl rfl 16 (by decide) (hT (Cond.fieldLink RX11 170 "DesertWireModel" "open" "I") mw_1172) (fun _ h9 => h9) rfl (by decide +kernel) rfl rfl (Nat.le_of_ble_eq_true rfl) dX11_goesOver_27 (fun H locs hP hD hS => ?_)
  have hP : va_P D vwCl [(h, .inr (11, [.ref ys, .ref yk, .ref yt, .int m3, .ref yf, .ref yb, .ref yz, .ref yn, .ref yc, .int m9, .ref yp, .ref yw, .int a2, .int 0, .int 0, .int 0, .int 0, .int a1, .int m18, .int m19, .int m20, .ref ye, .int m22, .int m23, .ref yx]))] H := hP
  have hD : va_D A [(h, .inr (11, [.ref ys, .ref yk, .ref yt, .int m3, .ref yf, .ref yb, .ref yz, .ref yn, .ref yc, .int m9, .ref yp, .ref yw, .int a2, .int 0, .int 0, .int 0, .int 0, .int a1, .int m18, .int m19, .int m20, .ref ye, .int m22, .int m23, .ref yx]))] := hD
  refine lv_aload_n hx hb dX11_goesOver_30 rfl (lv_at hl 0 rfl) ?_
  refine lv_iload hx hb dX11_goesOver_31 (lv_at hl 4 rfl) ?_
  refine va_put (D := D) (ci := 11) (v := .int a4) (ty := .int) (C := RX11) (T := TX11) (N := 25) hx hb hT giX11 tyX11 tyX11_ok nmX11 hown hK hP hD hS 0 rfl rfl 18 (by decide) (hT (Cond.fieldLink RX11 161 "DesertWireModel" "nameA" "I") mw_1174) (fun _ h9 => h9) rfl (by decide +kernel) rfl rfl (Nat.le_of_ble_eq_true rfl) dX11_goesOver_33 (fun H locs hP hD hS => ?_)
  have hP : va_P D vwCl [(h, .inr (11, [.ref ys, .ref yk, .ref yt, .int m3, .ref yf, .ref yb, .ref yz, .ref yn, .ref yc, .int m9, .ref yp, .ref yw, .int a2, .int 0, .int 0, .int 0, .int 0, .int a1, .int a4, .int m19, .int m20, .ref ye, .int m22, .int m23, .ref yx]))] H := hP
  have hD : va_D A [(h, .inr (11, [.ref ys, .ref yk, .ref yt, .int m3, .ref yf, .ref yb, .ref yz, .ref yn, .ref yc, .int m9, .ref yp, .ref yw, .int a2, .int 0, .int 0, .int 0, .int 0, .int a1, .int a4, .int m19, .int m20, .ref ye, .int m22, .int m23, .ref yx]))] := hD
  refine lv_aload_n hx hb dX11_goesOver_36 rfl (lv_at hl 0 rfl) ?_
  refine lv_iload hx hb dX11_goesOver_37 (lv_at hl 5 rfl) ?_
  refine va_put (D := D) (ci := 11) (v := .int a5) (ty := .int) (C := RX11) (T := TX11) (N := 25) hx hb hT giX11 tyX11 tyX11_ok nmX11 hown hK hP hD hS 0 rfl rfl 19 (by decide) (hT (Cond.fieldLink RX11 164 "DesertWireModel" "nameB" "I") mw_1175) (fun _ h9 => h9) rfl (by decide +kernel) rfl rfl (Nat.le_of_ble_eq_true rfl) dX11_goesOver_39 (fun H locs hP hD hS => ?_)
  have hP : va_P D vwCl [(h, .inr (11, [.ref ys, .ref yk, .ref yt, .int m3, .ref yf, .ref yb, .ref yz, .ref yn, .ref yc, .int m9, .ref yp, .ref yw, .int a2, .int 0, .int 0, .int 0, .int 0, .int a1, .int a4, .int a5, .int m20, .ref ye, .int m22, .int m23, .ref yx]))] H := hP
  have hD : va_D A [(h, .inr (11, [.ref ys, .ref yk, .ref yt, .int m3, .ref yf, .ref yb, .ref yz, .ref yn, .ref yc, .int m9, .ref yp, .ref yw, .int a2, .int 0, .int 0, .int 0, .int 0, .int a1, .int a4, .int a5, .int m20, .ref ye, .int m22, .int m23, .ref yx]))] := hD
  refine lv_aload_n hx hb dX11_goesOver_42 rfl (lv_at hl 0 rfl) ?_
  refine lv_iload hx hb dX11_goesOver_43 (lv_at hl 6 rfl) ?_
  refine va_put (D := D) (ci := 11) (v := .int a6) (ty := .int) (C := RX11) (T := TX11) (N := 25) hx hb hT giX11 tyX11 tyX11_ok nmX11 hown hK hP hD hS 0 rfl rfl 20 (by decide) (hT (Cond.fieldLink RX11 167 "DesertWireModel" "nameC" "I") mw_1176) (fun _ h9 => h9) rfl (by decide +kernel) rfl rfl (Nat.le_of_ble_eq_true rfl) dX11_goesOver_45 (fun H locs hP hD hS => ?_)
  have hP : va_P D vwCl [(h, .inr (11, [.ref ys, .ref yk, .ref yt, .int m3, .ref yf, .ref yb, .ref yz, .ref yn, .ref yc, .int m9, .ref yp, .ref yw, .int a2, .int 0, .int 0, .int 0, .int 0, .int a1, .int a4, .int a5, .int a6, .ref ye, .int m22, .int m23, .ref yx]))] H := hP
  have hD : va_D A [(h, .inr (11, [.ref ys, .ref yk, .ref yt, .int m3, .ref yf, .ref yb, .ref yz, .ref yn, .ref yc, .int m9, .ref yp, .ref yw, .int a2, .int 0, .int 0, .int 0, .int 0, .int a1, .int a4, .int a5, .int a6, .ref ye, .int m22, .int m23, .ref yx]))] := hD
  refine lv_aload_n hx hb dX11_goesOver_48 rfl (lv_at hl 0 rfl) ?_
  refine kJi (wr := []) (va_runV (As := []) (rest := []) ⟨hx, hb, hml, hown, hT⟩ (c_X11_whole l D cI h ys yk yt yf yb yz yn yc yp yw ye yx H.size m3 m9 a2 0 a1 a4 a5 a6 m22 m23) (cwV 0 hT (gV_in mw_1315 mw_1312 mw_1314 mw_p4_3 mw_12) rfl rfl rfl (by decide +kernel) ⟨Nat.le_of_ble_eq_true rfl, Nat.le_of_ble_eq_true rfl⟩) (kRecv (own := "") (q0 := 0) (ci := 11) hK hP hD hN rfl rfl [0] rfl (by decide)) rfl rfl hl.1 rfl (lv_room (Nat.le_of_ble_eq_true rfl)) dX11_goesOver_49 ⟨Nat.le_of_ble_eq_true rfl, Nat.le_of_ble_eq_true rfl⟩) hP hD hS hA [0] [] rfl rfl (by decide) (by decide) (fun r_1 u_3 H locs w_2 hP hD hS => ?_)
  have hP : va_P D vwCl [(h, .inr (11, [.ref ys, .ref yk, .ref yt, .int m3, .ref yf, .ref yb, .ref yz, .ref yn, .ref yc, .int m9, .ref yp, .ref yw, .int a2, .int 0, .int 0, .int 1, .int 0, .int a1, .int a4, .int a5, .int a6, .ref ye, .int m22, .int m23, .ref yx]))] H := hP
  have hD : va_D A [(h, .inr (11, [.ref ys, .ref yk, .ref yt, .int m3, .ref yf, .ref yb, .ref yz, .ref yn, .ref yc, .int m9, .ref yp, .ref yw, .int a2, .int 0, .int 0, .int 1, .int 0, .int a1, .int a4, .int a5, .int a6, .ref ye, .int m22, .int m23, .ref yx]))] := hD
  have hr_1 := w_2
  obtain rfl : r_1 = 0 := hr_1.trans (by decide)
  exact hRet () [0] rfl hP hD (by decide) rfl hS rfl dX11_goesOver_52
set_option maxHeartbeats 4000000 in
set_option maxRecDepth 100000 in
theorem c_X11_inForce (l : Launch) (D : va_G) (cI : ClassId) (h ys yk yt yf yb yz yn yc yp yw ye yx : Nat) (sz : Nat) (m3 : Int32) (m9 : Int32) (m12 : Int32) (m13 : Int32) (m14 : Int32) (m15 : Int32) (m16 : Int32) (m17 : Int32) (m18 : Int32) (m19 : Int32) (m20 : Int32) (m22 : Int32) (m23 : Int32) (f : Nat → Int32) (a : Int32) (b : Int32) (pre0 : f 3 = 0) : Met l yX11_inForce (gW yX11_inForce cX11_inForce 5 (some .int)) ({ frames := 0, cells := 0, slots := 0, locals := 0 } : Room) (kPre D cI [.ref h, .int a, .int b] [(h, .inr (11, [.ref ys, .ref yk, .ref yt, .int m3, .ref yf, .ref yb, .ref yz, .ref yn, .ref yc, .int m9, .ref yp, .ref yw, .int m12, .int m13, .int m14, .int m15, .int m16, .int m17, .int m18, .int m19, .int m20, .ref ye, .int m22, .int m23, .ref yx])), (ys, .inl (cI, 1201, .inl f))] sz) (va_Qi (fun (r : Int32) (u : Unit) => r = (-1)) (fun u t => kWd D cI (va_A [(h, .inr (11, [.ref ys, .ref yk, .ref yt, .int m3, .ref yf, .ref yb, .ref yz, .ref yn, .ref yc, .int m9, .ref yp, .ref yw, .int m12, .int m13, .int m14, .int m15, .int m16, .int m17, .int m18, .int m19, .int m20, .ref ye, .int m22, .int m23, .ref yx])), (ys, .inl (cI, 1201, .inl f))] sz) [(h, .inr (11, [.ref ys, .ref yk, .ref yt, .int m3, .ref yf, .ref yb, .ref yz, .ref yn, .ref yc, .int m9, .ref yp, .ref yw, .int m12, .int m13, .int m14, .int m15, .int m16, .int m17, .int m18, .int m19, .int m20, .ref ye, .int m22, .int m23, .ref yx])), (ys, .inl (cI, 1201, .inl f))] t) (va_A [(h, .inr (11, [.ref ys, .ref yk, .ref yt, .int m3, .ref yf, .ref yb, .ref yz, .ref yn, .ref yc, .int m9, .ref yp, .ref yw, .int m12, .int m13, .int m14, .int m15, .int m16, .int m17, .int m18, .int m19, .int m20, .ref ye, .int m22, .int m23, .ref yx])), (ys, .inl (cI, 1201, .inl f))] sz)) 0 0 (va_A [(h, .inr (11, [.ref ys, .ref yk, .ref yt, .int m3, .ref yf, .ref yb, .ref yz, .ref yn, .ref yc, .int m9, .ref yp, .ref yw, .int m12, .int m13, .int m14, .int m15, .int m16, .int m17, .int m18, .int m19, .int m20, .ref ye, .int m22, .int m23, .ref yx])), (ys, .inl (cI, 1201, .inl f))] sz) := by
  refine kMetI (own := RX11) (by decide) rfl (Nat.le_of_ble_eq_true rfl) ?_
  intro p e s m args below meth c hx hb hT hown hname hml A Q hK hP hD hS hA hN hRet ls hl
  have hl : lv_has ls 5 [(0, .ref h), (1, .int a), (2, .int b)] := hl
  have lo_a := k_lo a
  have hi_a := k_hi a
  have lo_b := k_lo b
  have hi_b := k_hi b
  have lo_m3 := k_lo m3
  have hi_m3 := k_hi m3
  have lo_m9 := k_lo m9
  have hi_m9 := k_hi m9
  have lo_m12 := k_lo m12
  have hi_m12 := k_hi m12
  have lo_m13 := k_lo m13
  have hi_m13 := k_hi m13
  have lo_m14 := k_lo m14
  have hi_m14 := k_hi m14
  have lo_m15 := k_lo m15
  have hi_m15 := k_hi m15
  have lo_m16 := k_lo m16
  have hi_m16 := k_hi m16
  have lo_m17 := k_lo m17
  have hi_m17 := k_hi m17
  have lo_m18 := k_lo m18
  have hi_m18 := k_hi m18
  have lo_m19 := k_lo m19
  have hi_m19 := k_hi m19
  have lo_m20 := k_lo m20
  have hi_m20 := k_hi m20
  have lo_m22 := k_lo m22
  have hi_m22 := k_hi m22
  have lo_m23 := k_lo m23
  have hi_m23 := k_hi m23
  refine lv_iconst (v := (-1)) hx hb dX11_inForce_0 (by decide) ?_
  refine lv_istore_n (lv' := [(3, .int (-1)), (0, .ref h), (1, .int a), (2, .int b)]) hx hb dX11_inForce_1 rfl hl (by decide) rfl (fun ls hl => ?_)
  refine lv_iconst (v := 0) hx hb dX11_inForce_2 (by decide) ?_
  refine lv_istore (lv' := [(4, .int 0), (3, .int (-1)), (0, .ref h), (1, .int a), (2, .int b)]) hx hb dX11_inForce_3 hl (by decide) rfl (fun ls hl => ?_)
  refine lv_iload hx hb dX11_inForce_5 (lv_at hl 0 rfl) ?_
  refine lv_aload_n hx hb dX11_inForce_7 rfl (lv_at hl 2 rfl) ?_
  refine va_get (D := D) (ci := 11) (v := .ref ys) (C := RX11) (T := TX11) (N := 25) hx hb hT giX11 hown hK hP 0 rfl rfl 0 (by decide) (hT (Cond.fieldLink RX11 9 "DesertWireModel" "s" "[I") mw_1156) (fun _ h9 => h9) rfl dX11_inForce_8 ?_
  refine lv_iconst (v := 3) hx hb dX11_inForce_11 (by decide) ?_
  refine k_iald (v := 0) hx hb hK hP 1 0 rfl rfl (k_inl (by decide)) pre0 dX11_inForce_12 ?_
  refine b_icmp_ge hx hb zl_0 zl_0 (tgt := 51) dX11_inForce_13 (by decide) (fun c_1 => ?_) (fun c_1 => by exfalso; omega)
  refine lv_iload_n hx hb dX11_inForce_51 rfl (lv_at hl 1 rfl) ?_
  exact hRet () [0, 1] rfl hP hD (by decide) rfl hS rfl dX11_inForce_52
set_option maxHeartbeats 4000000 in
set_option maxRecDepth 100000 in
theorem c_X11_priceOf (l : Launch) (D : va_G) (cI : ClassId) (h ys yk yt yf yb yz yn yc yp yw ye yx : Nat) (sz : Nat) (m3 : Int32) (m9 : Int32) (m12 : Int32) (m13 : Int32) (m14 : Int32) (m15 : Int32) (m16 : Int32) (m17 : Int32) (m18 : Int32) (m19 : Int32) (m20 : Int32) (m22 : Int32) (m23 : Int32) (f : Nat → Int32) (a : Int32) (dd : Int32) (b : Int32) (d : Int32) (g : Int32) (pre0 : f 3 = 0) (pre1 : 0 ≤ a.toInt) (pre2 : a.toInt ≤ 2) : Met l yX11_priceOf (gW yX11_priceOf cX11_priceOf 8 (some .int)) ({ frames := 1, cells := 0, slots := 0, locals := 24 } : Room) (kPre D cI [.ref h, .int a, .int dd, .int b, .int d, .int g] [(h, .inr (11, [.ref ys, .ref yk, .ref yt, .int m3, .ref yf, .ref yb, .ref yz, .ref yn, .ref yc, .int m9, .ref yp, .ref yw, .int m12, .int m13, .int m14, .int m15, .int m16, .int m17, .int m18, .int m19, .int m20, .ref ye, .int m22, .int m23, .ref yx])), (ys, .inl (cI, 1201, .inl f))] sz) (va_Qi (fun (r : Int32) (u : Unit) => r = sp_val a b d g) (fun u t => kWd D cI (va_A [(h, .inr (11, [.ref ys, .ref yk, .ref yt, .int m3, .ref yf, .ref yb, .ref yz, .ref yn, .ref yc, .int m9, .ref yp, .ref yw, .int m12, .int m13, .int m14, .int m15, .int m16, .int m17, .int m18, .int m19, .int m20, .ref ye, .int m22, .int m23, .ref yx])), (ys, .inl (cI, 1201, .inl f))] sz) [(h, .inr (11, [.ref ys, .ref yk, .ref yt, .int m3, .ref yf, .ref yb, .ref yz, .ref yn, .ref yc, .int m9, .ref yp, .ref yw, .int m12, .int m13, .int m14, .int m15, .int m16, .int m17, .int m18, .int m19, .int m20, .ref ye, .int m22, .int m23, .ref yx])), (ys, .inl (cI, 1201, .inl f))] t) (va_A [(h, .inr (11, [.ref ys, .ref yk, .ref yt, .int m3, .ref yf, .ref yb, .ref yz, .ref yn, .ref yc, .int m9, .ref yp, .ref yw, .int m12, .int m13, .int m14, .int m15, .int m16, .int m17, .int m18, .int m19, .int m20, .ref ye, .int m22, .int m23, .ref yx])), (ys, .inl (cI, 1201, .inl f))] sz)) 0 0 (va_A [(h, .inr (11, [.ref ys, .ref yk, .ref yt, .int m3, .ref yf, .ref yb, .ref yz, .ref yn, .ref yc, .int m9, .ref yp, .ref yw, .int m12, .int m13, .int m14, .int m15, .int m16, .int m17, .int m18, .int m19, .int m20, .ref ye, .int m22, .int m23, .ref yx])), (ys, .inl (cI, 1201, .inl f))] sz) := by
  refine kMetI (own := RX11) (by decide) rfl (Nat.le_of_ble_eq_true rfl) ?_
  intro p e s m args below meth c hx hb hT hown hname hml A Q hK hP hD hS hA hN hRet ls hl
  have hl : lv_has ls 8 [(0, .ref h), (1, .int a), (2, .int dd), (3, .int b), (4, .int d), (5, .int g)] := hl
  have lo_a := k_lo a
  have hi_a := k_hi a
  have lo_dd := k_lo dd
  have hi_dd := k_hi dd
  have lo_b := k_lo b
  have hi_b := k_hi b
  have lo_d := k_lo d
  have hi_d := k_hi d
  have lo_g := k_lo g
  have hi_g := k_hi g
  have lo_m3 := k_lo m3
  have hi_m3 := k_hi m3
  have lo_m9 := k_lo m9
  have hi_m9 := k_hi m9
  have lo_m12 := k_lo m12
  have hi_m12 := k_hi m12
  have lo_m13 := k_lo m13
  have hi_m13 := k_hi m13
  have lo_m14 := k_lo m14
  have hi_m14 := k_hi m14
  have lo_m15 := k_lo m15
  have hi_m15 := k_hi m15
  have lo_m16 := k_lo m16
  have hi_m16 := k_hi m16
  have lo_m17 := k_lo m17
  have hi_m17 := k_hi m17
  have lo_m18 := k_lo m18
  have hi_m18 := k_hi m18
  have lo_m19 := k_lo m19
  have hi_m19 := k_hi m19
  have lo_m20 := k_lo m20
  have hi_m20 := k_hi m20
  have lo_m22 := k_lo m22
  have hi_m22 := k_hi m22
  have lo_m23 := k_lo m23
  have hi_m23 := k_hi m23
  refine lv_aload_n hx hb dX11_priceOf_0 rfl (lv_at hl 0 rfl) ?_
  refine lv_iload_n hx hb dX11_priceOf_1 rfl (lv_at hl 1 rfl) ?_
  refine lv_iload_n hx hb dX11_priceOf_2 rfl (lv_at hl 2 rfl) ?_
  refine kJi (wr := []) (va_runV (As := [.int a, .int dd]) (rest := []) ⟨hx, hb, hml, hown, hT⟩ (c_X11_inForce l D cI h ys yk yt yf yb yz yn yc yp yw ye yx s.heap.size m3 m9 m12 m13 m14 m15 m16 m17 m18 m19 m20 m22 m23 f a dd pre0) (cwV 2 hT (gV_in mw_1303 mw_1300 mw_1302 mw_p4_0 mw_12) rfl rfl rfl (by decide +kernel) ⟨Nat.le_of_ble_eq_true rfl, Nat.le_of_ble_eq_true rfl⟩) (kRecv (own := "") (q0 := 0) (ci := 11) hK hP hD hN rfl rfl [0, 1] rfl (by decide)) rfl rfl hl.1 rfl (lv_room (Nat.le_of_ble_eq_true rfl)) dX11_priceOf_3 ⟨Nat.le_of_ble_eq_true rfl, Nat.le_of_ble_eq_true rfl⟩) hP hD hS hA [0, 1] [] rfl rfl (by decide) (by decide) (fun r_1 u_3 H locs w_2 hP hD hS => ?_)
  have hP : va_P D vwCl [(h, .inr (11, [.ref ys, .ref yk, .ref yt, .int m3, .ref yf, .ref yb, .ref yz, .ref yn, .ref yc, .int m9, .ref yp, .ref yw, .int m12, .int m13, .int m14, .int m15, .int m16, .int m17, .int m18, .int m19, .int m20, .ref ye, .int m22, .int m23, .ref yx])), (ys, .inl (cI, 1201, .inl f))] H := hP
  have hD : va_D A [(h, .inr (11, [.ref ys, .ref yk, .ref yt, .int m3, .ref yf, .ref yb, .ref yz, .ref yn, .ref yc, .int m9, .ref yp, .ref yw, .int m12, .int m13, .int m14, .int m15, .int m16, .int m17, .int m18, .int m19, .int m20, .ref ye, .int m22, .int m23, .ref yx])), (ys, .inl (cI, 1201, .inl f))] := hD
  have hr_1 := w_2
  obtain rfl : r_1 = (-1) := hr_1.trans (by decide)
  refine lv_istore (lv' := [(6, .int (-1)), (0, .ref h), (1, .int a), (2, .int dd), (3, .int b), (4, .int d), (5, .int g)]) hx hb dX11_priceOf_6 hl (by decide) rfl (fun ls hl => ?_)
  refine lv_iload hx hb dX11_priceOf_8 (lv_at hl 0 rfl) ?_
  refine b_if_lt hx hb zl_m1 (tgt := 44) dX11_priceOf_10 (by decide) (fun c_4 => ?_) (fun c_4 => by exfalso; omega)
  refine lv_iload_n hx hb dX11_priceOf_44 rfl (lv_at hl 2 rfl) ?_
  refine b_if_ne hx hb rfl (tgt := 55) dX11_priceOf_45 (by decide) (fun c_5 => ?_) (fun c_5 => ?_)
  · refine lv_iload_n hx hb dX11_priceOf_55 rfl (lv_at hl 2 rfl) ?_
    refine lv_iconst (v := 1) hx hb dX11_priceOf_56 (by decide) ?_
    refine b_icmp_ne hx hb rfl zl_1 (tgt := 67) dX11_priceOf_57 (by decide) (fun c_6 => ?_) (fun c_6 => ?_)
    · refine lv_iload hx hb dX11_priceOf_67 (lv_at hl 5 rfl) ?_
      refine lv_iload hx hb dX11_priceOf_69 (lv_at hl 6 rfl) ?_
      refine lv_isub hx hb dX11_priceOf_71 ?_
      refine lv_topi (fun v_7 ev_7 => ?_)
      have lo_v_7 := k_lo v_7
      have hi_v_7 := k_hi v_7
      refine lv_istore (lv' := [(7, .int v_7), (6, .int (-1)), (0, .ref h), (1, .int a), (2, .int dd), (3, .int b), (4, .int d), (5, .int g)]) hx hb dX11_priceOf_72 hl (by decide) rfl (fun ls hl => ?_)
      refine lv_iload_n hx hb dX11_priceOf_74 rfl (lv_at hl 3 rfl) ?_
      refine lv_iconst (v := 2) hx hb dX11_priceOf_75 (by decide) ?_
      refine b_icmp_ne hx hb rfl zl_2 (tgt := 88) dX11_priceOf_76 (by decide) (fun c_8 => by exfalso; omega) (fun c_8 => ?_)
      refine lv_iload hx hb dX11_priceOf_79 (lv_at hl 0 rfl) ?_
      refine b_if_ge hx hb rfl (tgt := 88) dX11_priceOf_81 (by decide) (fun c_9 => ?_) (fun c_9 => ?_)
      · refine lv_iload hx hb dX11_priceOf_88 (lv_at hl 0 rfl) ?_
        exact hRet () [0, 1] (by unfold sp_val; first | (rw [if_pos (by omega)]; subst_vars; rfl) | (rw [if_neg (by omega), if_pos (by omega)]; subst_vars; rfl) | (rw [if_neg (by omega), if_neg (by omega)]; subst_vars; first | rfl | (exact k_mx (by omega)) | (exact k_mx0 (by omega)))) hP hD (by decide) rfl hS rfl dX11_priceOf_90
      · refine lv_iconst (v := 0) hx hb dX11_priceOf_84 (by decide) ?_
        refine lv_goto (tgt := 90) hx hb dX11_priceOf_85 (by decide) ?_
        exact hRet () [0, 1] (by unfold sp_val; first | (rw [if_pos (by omega)]; subst_vars; rfl) | (rw [if_neg (by omega), if_pos (by omega)]; subst_vars; rfl) | (rw [if_neg (by omega), if_neg (by omega)]; subst_vars; first | rfl | (exact k_mx (by omega)) | (exact k_mx0 (by omega)))) hP hD (by decide) rfl hS rfl dX11_priceOf_90
    · refine lv_bipush (v := 70) hx hb dX11_priceOf_60 (by decide) ?_
      refine lv_iload_n hx hb dX11_priceOf_62 rfl (lv_at hl 4 rfl) ?_
      refine lv_imul hx hb dX11_priceOf_63 ?_
      refine lv_topi (fun v_10 ev_10 => ?_)
      have lo_v_10 := k_lo v_10
      have hi_v_10 := k_hi v_10
      refine lv_goto (tgt := 72) hx hb dX11_priceOf_64 (by decide) ?_
      refine lv_istore (lv' := [(7, .int v_10), (6, .int (-1)), (0, .ref h), (1, .int a), (2, .int dd), (3, .int b), (4, .int d), (5, .int g)]) hx hb dX11_priceOf_72 hl (by decide) rfl (fun ls hl => ?_)
      refine lv_iload_n hx hb dX11_priceOf_74 rfl (lv_at hl 3 rfl) ?_
      refine lv_iconst (v := 2) hx hb dX11_priceOf_75 (by decide) ?_
      refine b_icmp_ne hx hb rfl zl_2 (tgt := 88) dX11_priceOf_76 (by decide) (fun c_11 => ?_) (fun c_11 => by exfalso; omega)
      refine lv_iload hx hb dX11_priceOf_88 (lv_at hl 0 rfl) ?_
      exact hRet () [0, 1] (by unfold sp_val; first | (rw [if_pos (by omega)]; subst_vars; rfl) | (rw [if_neg (by omega), if_pos (by omega)]; subst_vars; rfl) | (rw [if_neg (by omega), if_neg (by omega)]; subst_vars; first | rfl | (exact k_mx (by omega)) | (exact k_mx0 (by omega)))) hP hD (by decide) rfl hS rfl dX11_priceOf_90
  · refine lv_iload_n hx hb dX11_priceOf_48 rfl (lv_at hl 4 rfl) ?_
    refine lv_iload hx hb dX11_priceOf_49 (lv_at hl 6 rfl) ?_
    refine lv_imul hx hb dX11_priceOf_51 ?_
    refine lv_topi (fun v_12 ev_12 => ?_)
    have lo_v_12 := k_lo v_12
    have hi_v_12 := k_hi v_12
    refine lv_goto (tgt := 72) hx hb dX11_priceOf_52 (by decide) ?_
    refine lv_istore (lv' := [(7, .int v_12), (6, .int (-1)), (0, .ref h), (1, .int a), (2, .int dd), (3, .int b), (4, .int d), (5, .int g)]) hx hb dX11_priceOf_72 hl (by decide) rfl (fun ls hl => ?_)
    refine lv_iload_n hx hb dX11_priceOf_74 rfl (lv_at hl 3 rfl) ?_
    refine lv_iconst (v := 2) hx hb dX11_priceOf_75 (by decide) ?_
    refine b_icmp_ne hx hb rfl zl_2 (tgt := 88) dX11_priceOf_76 (by decide) (fun c_13 => ?_) (fun c_13 => by exfalso; omega)
    refine lv_iload hx hb dX11_priceOf_88 (lv_at hl 0 rfl) ?_
    exact hRet () [0, 1] (by unfold sp_val; first | (rw [if_pos (by omega)]; subst_vars; rfl) | (rw [if_neg (by omega), if_pos (by omega)]; subst_vars; rfl) | (rw [if_neg (by omega), if_neg (by omega)]; subst_vars; first | rfl | (exact k_mx (by omega)) | (exact k_mx0 (by omega)))) hP hD (by decide) rfl hS rfl dX11_priceOf_90
