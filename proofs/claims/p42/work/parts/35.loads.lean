

theorem dX10_areThings_0 : decode cX10_areThings 0 = .ok (.aload_n 0, 1) := by decide +kernel
theorem dX10_areThings_1 : decode cX10_areThings 1 = .ok (.getfield 70, 3) := by decide +kernel
theorem dX10_areThings_4 : decode cX10_areThings 4 = .ok (.iload_n 1, 1) := by decide +kernel
theorem dX10_areThings_5 : decode cX10_areThings 5 = .ok (.invokevirtual 179, 3) := by decide +kernel
theorem dX10_areThings_8 : decode cX10_areThings 8 = .ok (.istore_n 2, 1) := by decide +kernel
theorem dX10_areThings_9 : decode cX10_areThings 9 = .ok (.iload_n 2, 1) := by decide +kernel
theorem dX10_areThings_10 : decode cX10_areThings 10 = .ok (.iconst 3, 1) := by decide +kernel
theorem dX10_areThings_11 : decode cX10_areThings 11 = .ok (.if_icmp .lt 15, 3) := by decide +kernel
theorem dX10_areThings_14 : decode cX10_areThings 14 = .ok (.iload_n 2, 1) := by decide +kernel
theorem dX10_areThings_15 : decode cX10_areThings 15 = .ok (.bipush 24, 2) := by decide +kernel
theorem dX10_areThings_17 : decode cX10_areThings 17 = .ok (.if_icmp .gt 9, 3) := by decide +kernel
theorem dX10_areThings_20 : decode cX10_areThings 20 = .ok (.iload_n 2, 1) := by decide +kernel
theorem dX10_areThings_21 : decode cX10_areThings 21 = .ok (.iconst 3, 1) := by decide +kernel
theorem dX10_areThings_22 : decode cX10_areThings 22 = .ok (.irem, 1) := by decide +kernel
theorem dX10_areThings_23 : decode cX10_areThings 23 = .ok (.ifCond .eq 5, 3) := by decide +kernel
theorem dX10_areThings_26 : decode cX10_areThings 26 = .ok (.iconst 0, 1) := by decide +kernel
theorem dX10_areThings_27 : decode cX10_areThings 27 = .ok (.ireturn, 1) := by decide +kernel
theorem dX10_areThings_28 : decode cX10_areThings 28 = .ok (.iconst 0, 1) := by decide +kernel
theorem dX10_areThings_29 : decode cX10_areThings 29 = .ok (.istore_n 3, 1) := by decide +kernel
theorem dX10_areThings_30 : decode cX10_areThings 30 = .ok (.iload_n 3, 1) := by decide +kernel
theorem dX10_areThings_31 : decode cX10_areThings 31 = .ok (.iload_n 2, 1) := by decide +kernel
theorem dX10_areThings_32 : decode cX10_areThings 32 = .ok (.if_icmp .ge 77, 3) := by decide +kernel
theorem dX10_areThings_35 : decode cX10_areThings 35 = .ok (.aload_n 0, 1) := by decide +kernel
theorem dX10_areThings_36 : decode cX10_areThings 36 = .ok (.getfield 70, 3) := by decide +kernel
theorem dX10_areThings_39 : decode cX10_areThings 39 = .ok (.iload_n 1, 1) := by decide +kernel
theorem dX10_areThings_40 : decode cX10_areThings 40 = .ok (.iload_n 3, 1) := by decide +kernel
theorem dX10_areThings_41 : decode cX10_areThings 41 = .ok (.invokevirtual 190, 3) := by decide +kernel
theorem dX10_areThings_44 : decode cX10_areThings 44 = .ok (.iconst 1, 1) := by decide +kernel
theorem dX10_areThings_45 : decode cX10_areThings 45 = .ok (.bipush 40, 2) := by decide +kernel
theorem dX10_areThings_47 : decode cX10_areThings 47 = .ok (.invokestatic 314, 3) := by decide +kernel
theorem dX10_areThings_50 : decode cX10_areThings 50 = .ok (.istore 4, 2) := by decide +kernel
theorem dX10_areThings_52 : decode cX10_areThings 52 = .ok (.aload_n 0, 1) := by decide +kernel
theorem dX10_areThings_53 : decode cX10_areThings 53 = .ok (.getfield 70, 3) := by decide +kernel
theorem dX10_areThings_56 : decode cX10_areThings 56 = .ok (.iload_n 1, 1) := by decide +kernel
theorem dX10_areThings_57 : decode cX10_areThings 57 = .ok (.iload_n 3, 1) := by decide +kernel
theorem dX10_areThings_58 : decode cX10_areThings 58 = .ok (.iconst 1, 1) := by decide +kernel
theorem dX10_areThings_59 : decode cX10_areThings 59 = .ok (.iadd, 1) := by decide +kernel
theorem dX10_areThings_60 : decode cX10_areThings 60 = .ok (.invokevirtual 190, 3) := by decide +kernel
theorem dX10_areThings_63 : decode cX10_areThings 63 = .ok (.iconst 0, 1) := by decide +kernel
theorem dX10_areThings_64 : decode cX10_areThings 64 = .ok (.sipush 999, 3) := by decide +kernel
theorem dX10_areThings_67 : decode cX10_areThings 67 = .ok (.invokestatic 314, 3) := by decide +kernel
theorem dX10_areThings_70 : decode cX10_areThings 70 = .ok (.istore 5, 2) := by decide +kernel
theorem dX10_areThings_72 : decode cX10_areThings 72 = .ok (.iload 4, 2) := by decide +kernel
theorem dX10_areThings_74 : decode cX10_areThings 74 = .ok (.ifCond .eq 27, 3) := by decide +kernel
theorem dX10_areThings_77 : decode cX10_areThings 77 = .ok (.iload 5, 2) := by decide +kernel
theorem dX10_areThings_79 : decode cX10_areThings 79 = .ok (.ifCond .eq 22, 3) := by decide +kernel
theorem dX10_areThings_82 : decode cX10_areThings 82 = .ok (.aload_n 0, 1) := by decide +kernel
theorem dX10_areThings_83 : decode cX10_areThings 83 = .ok (.getfield 70, 3) := by decide +kernel
theorem dX10_areThings_86 : decode cX10_areThings 86 = .ok (.iload_n 1, 1) := by decide +kernel
theorem dX10_areThings_87 : decode cX10_areThings 87 = .ok (.iload_n 3, 1) := by decide +kernel
theorem dX10_areThings_88 : decode cX10_areThings 88 = .ok (.iconst 2, 1) := by decide +kernel
theorem dX10_areThings_89 : decode cX10_areThings 89 = .ok (.iadd, 1) := by decide +kernel
theorem dX10_areThings_90 : decode cX10_areThings 90 = .ok (.invokevirtual 190, 3) := by decide +kernel
theorem dX10_areThings_93 : decode cX10_areThings 93 = .ok (.iconst 1, 1) := by decide +kernel
theorem dX10_areThings_94 : decode cX10_areThings 94 = .ok (.iconst 3, 1) := by decide +kernel
theorem dX10_areThings_95 : decode cX10_areThings 95 = .ok (.invokestatic 314, 3) := by decide +kernel
theorem dX10_areThings_98 : decode cX10_areThings 98 = .ok (.ifCond .ne 5, 3) := by decide +kernel
theorem dX10_areThings_101 : decode cX10_areThings 101 = .ok (.iconst 0, 1) := by decide +kernel
theorem dX10_areThings_102 : decode cX10_areThings 102 = .ok (.ireturn, 1) := by decide +kernel
theorem dX10_areThings_103 : decode cX10_areThings 103 = .ok (.iinc 3 3, 3) := by decide +kernel
theorem dX10_areThings_106 : decode cX10_areThings 106 = .ok (.goto (-76), 3) := by decide +kernel
theorem dX10_areThings_109 : decode cX10_areThings 109 = .ok (.iconst 1, 1) := by decide +kernel
theorem dX10_areThings_110 : decode cX10_areThings 110 = .ok (.ireturn, 1) := by decide +kernel

theorem dX1_bestFrom_0 : decode cX1_bestFrom 0 = .ok (.iload_n 1, 1) := by decide +kernel
theorem dX1_bestFrom_1 : decode cX1_bestFrom 1 = .ok (.iconst 0, 1) := by decide +kernel
theorem dX1_bestFrom_2 : decode cX1_bestFrom 2 = .ok (.bipush 8, 2) := by decide +kernel
theorem dX1_bestFrom_4 : decode cX1_bestFrom 4 = .ok (.invokestatic 48, 3) := by decide +kernel
theorem dX1_bestFrom_7 : decode cX1_bestFrom 7 = .ok (.ifCond .eq 18, 3) := by decide +kernel
theorem dX1_bestFrom_10 : decode cX1_bestFrom 10 = .ok (.iload_n 2, 1) := by decide +kernel
theorem dX1_bestFrom_11 : decode cX1_bestFrom 11 = .ok (.iconst 0, 1) := by decide +kernel
theorem dX1_bestFrom_12 : decode cX1_bestFrom 12 = .ok (.sipush 600, 3) := by decide +kernel
theorem dX1_bestFrom_15 : decode cX1_bestFrom 15 = .ok (.invokestatic 48, 3) := by decide +kernel
theorem dX1_bestFrom_18 : decode cX1_bestFrom 18 = .ok (.ifCond .eq 7, 3) := by decide +kernel
theorem dX1_bestFrom_21 : decode cX1_bestFrom 21 = .ok (.iconst 1, 1) := by decide +kernel
theorem dX1_bestFrom_22 : decode cX1_bestFrom 22 = .ok (.goto 4, 3) := by decide +kernel
theorem dX1_bestFrom_25 : decode cX1_bestFrom 25 = .ok (.iconst 0, 1) := by decide +kernel
theorem dX1_bestFrom_26 : decode cX1_bestFrom 26 = .ok (.istore_n 3, 1) := by decide +kernel
theorem dX1_bestFrom_27 : decode cX1_bestFrom 27 = .ok (.iload_n 3, 1) := by decide +kernel
theorem dX1_bestFrom_28 : decode cX1_bestFrom 28 = .ok (.ifCond .eq 18, 3) := by decide +kernel
theorem dX1_bestFrom_31 : decode cX1_bestFrom 31 = .ok (.aload_n 0, 1) := by decide +kernel
theorem dX1_bestFrom_32 : decode cX1_bestFrom 32 = .ok (.getfield 9, 3) := by decide +kernel
theorem dX1_bestFrom_35 : decode cX1_bestFrom 35 = .ok (.iload_n 1, 1) := by decide +kernel
theorem dX1_bestFrom_36 : decode cX1_bestFrom 36 = .ok (.sipush 601, 3) := by decide +kernel
theorem dX1_bestFrom_39 : decode cX1_bestFrom 39 = .ok (.imul, 1) := by decide +kernel
theorem dX1_bestFrom_40 : decode cX1_bestFrom 40 = .ok (.iload_n 2, 1) := by decide +kernel
theorem dX1_bestFrom_41 : decode cX1_bestFrom 41 = .ok (.iadd, 1) := by decide +kernel
theorem dX1_bestFrom_42 : decode cX1_bestFrom 42 = .ok (.iaload, 1) := by decide +kernel
theorem dX1_bestFrom_43 : decode cX1_bestFrom 43 = .ok (.goto 4, 3) := by decide +kernel
theorem dX1_bestFrom_46 : decode cX1_bestFrom 46 = .ok (.iconst 0, 1) := by decide +kernel
theorem dX1_bestFrom_47 : decode cX1_bestFrom 47 = .ok (.ireturn, 1) := by decide +kernel

theorem dX1_takenOf_0 : decode cX1_takenOf 0 = .ok (.iload_n 1, 1) := by decide +kernel
theorem dX1_takenOf_1 : decode cX1_takenOf 1 = .ok (.ifCond .lt 18, 3) := by decide +kernel
theorem dX1_takenOf_4 : decode cX1_takenOf 4 = .ok (.iload_n 1, 1) := by decide +kernel
theorem dX1_takenOf_5 : decode cX1_takenOf 5 = .ok (.bipush 8, 2) := by decide +kernel
theorem dX1_takenOf_7 : decode cX1_takenOf 7 = .ok (.if_icmp .ge 12, 3) := by decide +kernel
theorem dX1_takenOf_10 : decode cX1_takenOf 10 = .ok (.aload_n 0, 1) := by decide +kernel
theorem dX1_takenOf_11 : decode cX1_takenOf 11 = .ok (.getfield 15, 3) := by decide +kernel
theorem dX1_takenOf_14 : decode cX1_takenOf 14 = .ok (.iload_n 1, 1) := by decide +kernel
theorem dX1_takenOf_15 : decode cX1_takenOf 15 = .ok (.iaload, 1) := by decide +kernel
theorem dX1_takenOf_16 : decode cX1_takenOf 16 = .ok (.goto 4, 3) := by decide +kernel
theorem dX1_takenOf_19 : decode cX1_takenOf 19 = .ok (.iconst 0, 1) := by decide +kernel
theorem dX1_takenOf_20 : decode cX1_takenOf 20 = .ok (.ireturn, 1) := by decide +kernel

theorem dX1_bestWith_0 : decode cX1_bestWith 0 = .ok (.aload_n 0, 1) := by decide +kernel
theorem dX1_bestWith_1 : decode cX1_bestWith 1 = .ok (.iload_n 1, 1) := by decide +kernel
theorem dX1_bestWith_2 : decode cX1_bestWith 2 = .ok (.iconst 1, 1) := by decide +kernel
theorem dX1_bestWith_3 : decode cX1_bestWith 3 = .ok (.iadd, 1) := by decide +kernel
theorem dX1_bestWith_4 : decode cX1_bestWith 4 = .ok (.iload_n 2, 1) := by decide +kernel
theorem dX1_bestWith_5 : decode cX1_bestWith 5 = .ok (.invokevirtual 52, 3) := by decide +kernel
theorem dX1_bestWith_8 : decode cX1_bestWith 8 = .ok (.istore 6, 2) := by decide +kernel
theorem dX1_bestWith_10 : decode cX1_bestWith 10 = .ok (.iconst 1, 1) := by decide +kernel
theorem dX1_bestWith_11 : decode cX1_bestWith 11 = .ok (.istore 7, 2) := by decide +kernel
theorem dX1_bestWith_13 : decode cX1_bestWith 13 = .ok (.iload 7, 2) := by decide +kernel
theorem dX1_bestWith_15 : decode cX1_bestWith 15 = .ok (.iload 5, 2) := by decide +kernel
theorem dX1_bestWith_17 : decode cX1_bestWith 17 = .ok (.if_icmp .gt 53, 3) := by decide +kernel
theorem dX1_bestWith_20 : decode cX1_bestWith 20 = .ok (.iload 7, 2) := by decide +kernel
theorem dX1_bestWith_22 : decode cX1_bestWith 22 = .ok (.iload_n 3, 1) := by decide +kernel
theorem dX1_bestWith_23 : decode cX1_bestWith 23 = .ok (.imul, 1) := by decide +kernel
theorem dX1_bestWith_24 : decode cX1_bestWith 24 = .ok (.iload_n 2, 1) := by decide +kernel
theorem dX1_bestWith_25 : decode cX1_bestWith 25 = .ok (.if_icmp .gt 45, 3) := by decide +kernel
theorem dX1_bestWith_28 : decode cX1_bestWith 28 = .ok (.iload 7, 2) := by decide +kernel
theorem dX1_bestWith_30 : decode cX1_bestWith 30 = .ok (.sipush 1024, 3) := by decide +kernel
theorem dX1_bestWith_33 : decode cX1_bestWith 33 = .ok (.iload 4, 2) := by decide +kernel
theorem dX1_bestWith_35 : decode cX1_bestWith 35 = .ok (.imul, 1) := by decide +kernel
theorem dX1_bestWith_36 : decode cX1_bestWith 36 = .ok (.iload_n 3, 1) := by decide +kernel
theorem dX1_bestWith_37 : decode cX1_bestWith 37 = .ok (.isub, 1) := by decide +kernel
theorem dX1_bestWith_38 : decode cX1_bestWith 38 = .ok (.imul, 1) := by decide +kernel
theorem dX1_bestWith_39 : decode cX1_bestWith 39 = .ok (.aload_n 0, 1) := by decide +kernel
theorem dX1_bestWith_40 : decode cX1_bestWith 40 = .ok (.iload_n 1, 1) := by decide +kernel
theorem dX1_bestWith_41 : decode cX1_bestWith 41 = .ok (.iconst 1, 1) := by decide +kernel
theorem dX1_bestWith_42 : decode cX1_bestWith 42 = .ok (.iadd, 1) := by decide +kernel
theorem dX1_bestWith_43 : decode cX1_bestWith 43 = .ok (.iload_n 2, 1) := by decide +kernel
theorem dX1_bestWith_44 : decode cX1_bestWith 44 = .ok (.iload 7, 2) := by decide +kernel
theorem dX1_bestWith_46 : decode cX1_bestWith 46 = .ok (.iload_n 3, 1) := by decide +kernel
theorem dX1_bestWith_47 : decode cX1_bestWith 47 = .ok (.imul, 1) := by decide +kernel
theorem dX1_bestWith_48 : decode cX1_bestWith 48 = .ok (.isub, 1) := by decide +kernel
theorem dX1_bestWith_49 : decode cX1_bestWith 49 = .ok (.invokevirtual 52, 3) := by decide +kernel
theorem dX1_bestWith_52 : decode cX1_bestWith 52 = .ok (.iadd, 1) := by decide +kernel
theorem dX1_bestWith_53 : decode cX1_bestWith 53 = .ok (.istore 8, 2) := by decide +kernel
theorem dX1_bestWith_55 : decode cX1_bestWith 55 = .ok (.iload 6, 2) := by decide +kernel
theorem dX1_bestWith_57 : decode cX1_bestWith 57 = .ok (.iload 8, 2) := by decide +kernel
theorem dX1_bestWith_59 : decode cX1_bestWith 59 = .ok (.invokestatic 55, 3) := by decide +kernel
theorem dX1_bestWith_62 : decode cX1_bestWith 62 = .ok (.istore 6, 2) := by decide +kernel
theorem dX1_bestWith_64 : decode cX1_bestWith 64 = .ok (.iinc 7 1, 3) := by decide +kernel
theorem dX1_bestWith_67 : decode cX1_bestWith 67 = .ok (.goto (-54), 3) := by decide +kernel
theorem dX1_bestWith_70 : decode cX1_bestWith 70 = .ok (.iload 6, 2) := by decide +kernel
theorem dX1_bestWith_72 : decode cX1_bestWith 72 = .ok (.ireturn, 1) := by decide +kernel

theorem dX1_isBest_0 : decode cX1_isBest 0 = .ok (.iload_n 3, 1) := by decide +kernel
theorem dX1_isBest_1 : decode cX1_isBest 1 = .ok (.iload 4, 2) := by decide +kernel
theorem dX1_isBest_3 : decode cX1_isBest 3 = .ok (.imul, 1) := by decide +kernel
theorem dX1_isBest_4 : decode cX1_isBest 4 = .ok (.iload_n 2, 1) := by decide +kernel
theorem dX1_isBest_5 : decode cX1_isBest 5 = .ok (.if_icmp .le 5, 3) := by decide +kernel
theorem dX1_isBest_8 : decode cX1_isBest 8 = .ok (.iconst 0, 1) := by decide +kernel
theorem dX1_isBest_9 : decode cX1_isBest 9 = .ok (.ireturn, 1) := by decide +kernel
theorem dX1_isBest_10 : decode cX1_isBest 10 = .ok (.iload_n 3, 1) := by decide +kernel
theorem dX1_isBest_11 : decode cX1_isBest 11 = .ok (.sipush 1024, 3) := by decide +kernel
theorem dX1_isBest_14 : decode cX1_isBest 14 = .ok (.iload 5, 2) := by decide +kernel
theorem dX1_isBest_16 : decode cX1_isBest 16 = .ok (.imul, 1) := by decide +kernel
theorem dX1_isBest_17 : decode cX1_isBest 17 = .ok (.iload 4, 2) := by decide +kernel
theorem dX1_isBest_19 : decode cX1_isBest 19 = .ok (.isub, 1) := by decide +kernel
theorem dX1_isBest_20 : decode cX1_isBest 20 = .ok (.imul, 1) := by decide +kernel
theorem dX1_isBest_21 : decode cX1_isBest 21 = .ok (.aload_n 0, 1) := by decide +kernel
theorem dX1_isBest_22 : decode cX1_isBest 22 = .ok (.iload_n 1, 1) := by decide +kernel
theorem dX1_isBest_23 : decode cX1_isBest 23 = .ok (.iconst 1, 1) := by decide +kernel
theorem dX1_isBest_24 : decode cX1_isBest 24 = .ok (.iadd, 1) := by decide +kernel
theorem dX1_isBest_25 : decode cX1_isBest 25 = .ok (.iload_n 2, 1) := by decide +kernel
theorem dX1_isBest_26 : decode cX1_isBest 26 = .ok (.iload_n 3, 1) := by decide +kernel
theorem dX1_isBest_27 : decode cX1_isBest 27 = .ok (.iload 4, 2) := by decide +kernel
theorem dX1_isBest_29 : decode cX1_isBest 29 = .ok (.imul, 1) := by decide +kernel
theorem dX1_isBest_30 : decode cX1_isBest 30 = .ok (.isub, 1) := by decide +kernel
theorem dX1_isBest_31 : decode cX1_isBest 31 = .ok (.invokevirtual 52, 3) := by decide +kernel
theorem dX1_isBest_34 : decode cX1_isBest 34 = .ok (.iadd, 1) := by decide +kernel
theorem dX1_isBest_35 : decode cX1_isBest 35 = .ok (.istore 6, 2) := by decide +kernel
theorem dX1_isBest_37 : decode cX1_isBest 37 = .ok (.iload 6, 2) := by decide +kernel
theorem dX1_isBest_39 : decode cX1_isBest 39 = .ok (.aload_n 0, 1) := by decide +kernel
theorem dX1_isBest_40 : decode cX1_isBest 40 = .ok (.iload_n 1, 1) := by decide +kernel
theorem dX1_isBest_41 : decode cX1_isBest 41 = .ok (.iload_n 2, 1) := by decide +kernel
theorem dX1_isBest_42 : decode cX1_isBest 42 = .ok (.invokevirtual 52, 3) := by decide +kernel
theorem dX1_isBest_45 : decode cX1_isBest 45 = .ok (.if_icmp .ne 7, 3) := by decide +kernel
theorem dX1_isBest_48 : decode cX1_isBest 48 = .ok (.iconst 1, 1) := by decide +kernel
theorem dX1_isBest_49 : decode cX1_isBest 49 = .ok (.goto 4, 3) := by decide +kernel
theorem dX1_isBest_52 : decode cX1_isBest 52 = .ok (.iconst 0, 1) := by decide +kernel
theorem dX1_isBest_53 : decode cX1_isBest 53 = .ok (.ireturn, 1) := by decide +kernel

theorem dX1_choose_0 : decode cX1_choose 0 = .ok (.iload 4, 2) := by decide +kernel
theorem dX1_choose_2 : decode cX1_choose 2 = .ok (.istore 5, 2) := by decide +kernel
theorem dX1_choose_4 : decode cX1_choose 4 = .ok (.aload_n 0, 1) := by decide +kernel
theorem dX1_choose_5 : decode cX1_choose 5 = .ok (.iconst 0, 1) := by decide +kernel
theorem dX1_choose_6 : decode cX1_choose 6 = .ok (.putfield 18, 3) := by decide +kernel
theorem dX1_choose_9 : decode cX1_choose 9 = .ok (.aload_n 0, 1) := by decide +kernel
theorem dX1_choose_10 : decode cX1_choose 10 = .ok (.iconst 0, 1) := by decide +kernel
theorem dX1_choose_11 : decode cX1_choose 11 = .ok (.putfield 22, 3) := by decide +kernel
theorem dX1_choose_14 : decode cX1_choose 14 = .ok (.iconst 0, 1) := by decide +kernel
theorem dX1_choose_15 : decode cX1_choose 15 = .ok (.istore 6, 2) := by decide +kernel
theorem dX1_choose_17 : decode cX1_choose 17 = .ok (.iload 6, 2) := by decide +kernel
theorem dX1_choose_19 : decode cX1_choose 19 = .ok (.iload_n 3, 1) := by decide +kernel
theorem dX1_choose_20 : decode cX1_choose 20 = .ok (.if_icmp .ge 128, 3) := by decide +kernel
theorem dX1_choose_23 : decode cX1_choose 23 = .ok (.iload 6, 2) := by decide +kernel
theorem dX1_choose_25 : decode cX1_choose 25 = .ok (.bipush 8, 2) := by decide +kernel
theorem dX1_choose_27 : decode cX1_choose 27 = .ok (.if_icmp .ge 121, 3) := by decide +kernel
theorem dX1_choose_30 : decode cX1_choose 30 = .ok (.aload_n 1, 1) := by decide +kernel
theorem dX1_choose_31 : decode cX1_choose 31 = .ok (.iload_n 2, 1) := by decide +kernel
theorem dX1_choose_32 : decode cX1_choose 32 = .ok (.iconst 3, 1) := by decide +kernel
theorem dX1_choose_33 : decode cX1_choose 33 = .ok (.iload 6, 2) := by decide +kernel
theorem dX1_choose_35 : decode cX1_choose 35 = .ok (.imul, 1) := by decide +kernel
theorem dX1_choose_36 : decode cX1_choose 36 = .ok (.invokevirtual 37, 3) := by decide +kernel
theorem dX1_choose_39 : decode cX1_choose 39 = .ok (.istore 7, 2) := by decide +kernel
theorem dX1_choose_41 : decode cX1_choose 41 = .ok (.aload_n 1, 1) := by decide +kernel
theorem dX1_choose_42 : decode cX1_choose 42 = .ok (.iload_n 2, 1) := by decide +kernel
theorem dX1_choose_43 : decode cX1_choose 43 = .ok (.iconst 3, 1) := by decide +kernel
theorem dX1_choose_44 : decode cX1_choose 44 = .ok (.iload 6, 2) := by decide +kernel
theorem dX1_choose_46 : decode cX1_choose 46 = .ok (.imul, 1) := by decide +kernel
theorem dX1_choose_47 : decode cX1_choose 47 = .ok (.iconst 1, 1) := by decide +kernel
theorem dX1_choose_48 : decode cX1_choose 48 = .ok (.iadd, 1) := by decide +kernel
theorem dX1_choose_49 : decode cX1_choose 49 = .ok (.invokevirtual 37, 3) := by decide +kernel
theorem dX1_choose_52 : decode cX1_choose 52 = .ok (.istore 8, 2) := by decide +kernel
theorem dX1_choose_54 : decode cX1_choose 54 = .ok (.aload_n 1, 1) := by decide +kernel
theorem dX1_choose_55 : decode cX1_choose 55 = .ok (.iload_n 2, 1) := by decide +kernel
theorem dX1_choose_56 : decode cX1_choose 56 = .ok (.iconst 3, 1) := by decide +kernel
theorem dX1_choose_57 : decode cX1_choose 57 = .ok (.iload 6, 2) := by decide +kernel
theorem dX1_choose_59 : decode cX1_choose 59 = .ok (.imul, 1) := by decide +kernel
theorem dX1_choose_60 : decode cX1_choose 60 = .ok (.iconst 2, 1) := by decide +kernel
theorem dX1_choose_61 : decode cX1_choose 61 = .ok (.iadd, 1) := by decide +kernel
theorem dX1_choose_62 : decode cX1_choose 62 = .ok (.invokevirtual 37, 3) := by decide +kernel
theorem dX1_choose_65 : decode cX1_choose 65 = .ok (.istore 9, 2) := by decide +kernel
theorem dX1_choose_67 : decode cX1_choose 67 = .ok (.iload 9, 2) := by decide +kernel
theorem dX1_choose_69 : decode cX1_choose 69 = .ok (.ifCond .le 26, 3) := by decide +kernel
theorem dX1_choose_72 : decode cX1_choose 72 = .ok (.aload_n 0, 1) := by decide +kernel
theorem dX1_choose_73 : decode cX1_choose 73 = .ok (.iload 6, 2) := by decide +kernel
theorem dX1_choose_75 : decode cX1_choose 75 = .ok (.iload 5, 2) := by decide +kernel
theorem dX1_choose_77 : decode cX1_choose 77 = .ok (.iload 9, 2) := by decide +kernel
theorem dX1_choose_79 : decode cX1_choose 79 = .ok (.iload 7, 2) := by decide +kernel
theorem dX1_choose_81 : decode cX1_choose 81 = .ok (.iload 8, 2) := by decide +kernel
theorem dX1_choose_83 : decode cX1_choose 83 = .ok (.invokevirtual 58, 3) := by decide +kernel
theorem dX1_choose_86 : decode cX1_choose 86 = .ok (.ifCond .ne 9, 3) := by decide +kernel
theorem dX1_choose_89 : decode cX1_choose 89 = .ok (.iinc 9 (-1), 3) := by decide +kernel
theorem dX1_choose_92 : decode cX1_choose 92 = .ok (.goto (-25), 3) := by decide +kernel
theorem dX1_choose_95 : decode cX1_choose 95 = .ok (.aload_n 0, 1) := by decide +kernel
theorem dX1_choose_96 : decode cX1_choose 96 = .ok (.getfield 15, 3) := by decide +kernel
theorem dX1_choose_99 : decode cX1_choose 99 = .ok (.iload 6, 2) := by decide +kernel
theorem dX1_choose_101 : decode cX1_choose 101 = .ok (.iload 9, 2) := by decide +kernel
theorem dX1_choose_103 : decode cX1_choose 103 = .ok (.iastore, 1) := by decide +kernel
theorem dX1_choose_104 : decode cX1_choose 104 = .ok (.iload 5, 2) := by decide +kernel
theorem dX1_choose_106 : decode cX1_choose 106 = .ok (.iload 9, 2) := by decide +kernel
theorem dX1_choose_108 : decode cX1_choose 108 = .ok (.iload 7, 2) := by decide +kernel
theorem dX1_choose_110 : decode cX1_choose 110 = .ok (.imul, 1) := by decide +kernel
theorem dX1_choose_111 : decode cX1_choose 111 = .ok (.isub, 1) := by decide +kernel
theorem dX1_choose_112 : decode cX1_choose 112 = .ok (.istore 5, 2) := by decide +kernel
theorem dX1_choose_114 : decode cX1_choose 114 = .ok (.aload_n 0, 1) := by decide +kernel
theorem dX1_choose_115 : decode cX1_choose 115 = .ok (.dup, 1) := by decide +kernel
theorem dX1_choose_116 : decode cX1_choose 116 = .ok (.getfield 22, 3) := by decide +kernel
theorem dX1_choose_119 : decode cX1_choose 119 = .ok (.iload 9, 2) := by decide +kernel
theorem dX1_choose_121 : decode cX1_choose 121 = .ok (.iload 7, 2) := by decide +kernel
theorem dX1_choose_123 : decode cX1_choose 123 = .ok (.imul, 1) := by decide +kernel
theorem dX1_choose_124 : decode cX1_choose 124 = .ok (.iadd, 1) := by decide +kernel
theorem dX1_choose_125 : decode cX1_choose 125 = .ok (.putfield 22, 3) := by decide +kernel
theorem dX1_choose_128 : decode cX1_choose 128 = .ok (.aload_n 0, 1) := by decide +kernel
theorem dX1_choose_129 : decode cX1_choose 129 = .ok (.dup, 1) := by decide +kernel
theorem dX1_choose_130 : decode cX1_choose 130 = .ok (.getfield 18, 3) := by decide +kernel
theorem dX1_choose_133 : decode cX1_choose 133 = .ok (.iload 9, 2) := by decide +kernel
theorem dX1_choose_135 : decode cX1_choose 135 = .ok (.iload 8, 2) := by decide +kernel
theorem dX1_choose_137 : decode cX1_choose 137 = .ok (.imul, 1) := by decide +kernel
theorem dX1_choose_138 : decode cX1_choose 138 = .ok (.iadd, 1) := by decide +kernel
theorem dX1_choose_139 : decode cX1_choose 139 = .ok (.putfield 18, 3) := by decide +kernel
theorem dX1_choose_142 : decode cX1_choose 142 = .ok (.iinc 6 1, 3) := by decide +kernel
theorem dX1_choose_145 : decode cX1_choose 145 = .ok (.goto (-128), 3) := by decide +kernel
theorem dX1_choose_148 : decode cX1_choose 148 = .ok (.return_, 1) := by decide +kernel

theorem dX1_pack_0 : decode cX1_pack 0 = .ok (.bipush 8, 2) := by decide +kernel
theorem dX1_pack_2 : decode cX1_pack 2 = .ok (.aload_n 1, 1) := by decide +kernel
theorem dX1_pack_3 : decode cX1_pack 3 = .ok (.iload_n 2, 1) := by decide +kernel
theorem dX1_pack_4 : decode cX1_pack 4 = .ok (.invokevirtual 25, 3) := by decide +kernel
theorem dX1_pack_7 : decode cX1_pack 7 = .ok (.iconst 3, 1) := by decide +kernel
theorem dX1_pack_8 : decode cX1_pack 8 = .ok (.idiv, 1) := by decide +kernel
theorem dX1_pack_9 : decode cX1_pack 9 = .ok (.invokestatic 31, 3) := by decide +kernel
theorem dX1_pack_12 : decode cX1_pack 12 = .ok (.istore 4, 2) := by decide +kernel
theorem dX1_pack_14 : decode cX1_pack 14 = .ok (.iconst 0, 1) := by decide +kernel
theorem dX1_pack_15 : decode cX1_pack 15 = .ok (.istore 5, 2) := by decide +kernel
theorem dX1_pack_17 : decode cX1_pack 17 = .ok (.iload 5, 2) := by decide +kernel
theorem dX1_pack_19 : decode cX1_pack 19 = .ok (.iload_n 3, 1) := by decide +kernel
theorem dX1_pack_20 : decode cX1_pack 20 = .ok (.if_icmp .gt 32, 3) := by decide +kernel
theorem dX1_pack_23 : decode cX1_pack 23 = .ok (.iload 5, 2) := by decide +kernel
theorem dX1_pack_25 : decode cX1_pack 25 = .ok (.sipush 601, 3) := by decide +kernel
theorem dX1_pack_28 : decode cX1_pack 28 = .ok (.if_icmp .ge 24, 3) := by decide +kernel
theorem dX1_pack_31 : decode cX1_pack 31 = .ok (.aload_n 0, 1) := by decide +kernel
theorem dX1_pack_32 : decode cX1_pack 32 = .ok (.getfield 9, 3) := by decide +kernel
theorem dX1_pack_35 : decode cX1_pack 35 = .ok (.iload 4, 2) := by decide +kernel
theorem dX1_pack_37 : decode cX1_pack 37 = .ok (.sipush 601, 3) := by decide +kernel
theorem dX1_pack_40 : decode cX1_pack 40 = .ok (.imul, 1) := by decide +kernel
theorem dX1_pack_41 : decode cX1_pack 41 = .ok (.iload 5, 2) := by decide +kernel
theorem dX1_pack_43 : decode cX1_pack 43 = .ok (.iadd, 1) := by decide +kernel
theorem dX1_pack_44 : decode cX1_pack 44 = .ok (.iconst 0, 1) := by decide +kernel
theorem dX1_pack_45 : decode cX1_pack 45 = .ok (.iastore, 1) := by decide +kernel
theorem dX1_pack_46 : decode cX1_pack 46 = .ok (.iinc 5 1, 3) := by decide +kernel
theorem dX1_pack_49 : decode cX1_pack 49 = .ok (.goto (-32), 3) := by decide +kernel
theorem dX1_pack_52 : decode cX1_pack 52 = .ok (.iload 4, 2) := by decide +kernel
theorem dX1_pack_54 : decode cX1_pack 54 = .ok (.iconst 1, 1) := by decide +kernel
theorem dX1_pack_55 : decode cX1_pack 55 = .ok (.isub, 1) := by decide +kernel
theorem dX1_pack_56 : decode cX1_pack 56 = .ok (.istore 5, 2) := by decide +kernel
theorem dX1_pack_58 : decode cX1_pack 58 = .ok (.iload 5, 2) := by decide +kernel
theorem dX1_pack_60 : decode cX1_pack 60 = .ok (.ifCond .lt 97, 3) := by decide +kernel
theorem dX1_pack_63 : decode cX1_pack 63 = .ok (.aload_n 1, 1) := by decide +kernel
theorem dX1_pack_64 : decode cX1_pack 64 = .ok (.iload_n 2, 1) := by decide +kernel
theorem dX1_pack_65 : decode cX1_pack 65 = .ok (.iconst 3, 1) := by decide +kernel
theorem dX1_pack_66 : decode cX1_pack 66 = .ok (.iload 5, 2) := by decide +kernel
theorem dX1_pack_68 : decode cX1_pack 68 = .ok (.imul, 1) := by decide +kernel
theorem dX1_pack_69 : decode cX1_pack 69 = .ok (.invokevirtual 37, 3) := by decide +kernel
theorem dX1_pack_72 : decode cX1_pack 72 = .ok (.istore 6, 2) := by decide +kernel
theorem dX1_pack_74 : decode cX1_pack 74 = .ok (.aload_n 1, 1) := by decide +kernel
theorem dX1_pack_75 : decode cX1_pack 75 = .ok (.iload_n 2, 1) := by decide +kernel
theorem dX1_pack_76 : decode cX1_pack 76 = .ok (.iconst 3, 1) := by decide +kernel
theorem dX1_pack_77 : decode cX1_pack 77 = .ok (.iload 5, 2) := by decide +kernel
theorem dX1_pack_79 : decode cX1_pack 79 = .ok (.imul, 1) := by decide +kernel
theorem dX1_pack_80 : decode cX1_pack 80 = .ok (.iconst 1, 1) := by decide +kernel
theorem dX1_pack_81 : decode cX1_pack 81 = .ok (.iadd, 1) := by decide +kernel
theorem dX1_pack_82 : decode cX1_pack 82 = .ok (.invokevirtual 37, 3) := by decide +kernel
theorem dX1_pack_85 : decode cX1_pack 85 = .ok (.istore 7, 2) := by decide +kernel
theorem dX1_pack_87 : decode cX1_pack 87 = .ok (.aload_n 1, 1) := by decide +kernel
theorem dX1_pack_88 : decode cX1_pack 88 = .ok (.iload_n 2, 1) := by decide +kernel
theorem dX1_pack_89 : decode cX1_pack 89 = .ok (.iconst 3, 1) := by decide +kernel
theorem dX1_pack_90 : decode cX1_pack 90 = .ok (.iload 5, 2) := by decide +kernel
theorem dX1_pack_92 : decode cX1_pack 92 = .ok (.imul, 1) := by decide +kernel
theorem dX1_pack_93 : decode cX1_pack 93 = .ok (.iconst 2, 1) := by decide +kernel
theorem dX1_pack_94 : decode cX1_pack 94 = .ok (.iadd, 1) := by decide +kernel
theorem dX1_pack_95 : decode cX1_pack 95 = .ok (.invokevirtual 37, 3) := by decide +kernel
theorem dX1_pack_98 : decode cX1_pack 98 = .ok (.istore 8, 2) := by decide +kernel
theorem dX1_pack_100 : decode cX1_pack 100 = .ok (.iconst 0, 1) := by decide +kernel
theorem dX1_pack_101 : decode cX1_pack 101 = .ok (.istore 9, 2) := by decide +kernel
theorem dX1_pack_103 : decode cX1_pack 103 = .ok (.iload 9, 2) := by decide +kernel
theorem dX1_pack_105 : decode cX1_pack 105 = .ok (.iload_n 3, 1) := by decide +kernel
theorem dX1_pack_106 : decode cX1_pack 106 = .ok (.if_icmp .gt 45, 3) := by decide +kernel
theorem dX1_pack_109 : decode cX1_pack 109 = .ok (.iload 9, 2) := by decide +kernel
theorem dX1_pack_111 : decode cX1_pack 111 = .ok (.sipush 601, 3) := by decide +kernel
theorem dX1_pack_114 : decode cX1_pack 114 = .ok (.if_icmp .ge 37, 3) := by decide +kernel
theorem dX1_pack_117 : decode cX1_pack 117 = .ok (.aload_n 0, 1) := by decide +kernel
theorem dX1_pack_118 : decode cX1_pack 118 = .ok (.getfield 9, 3) := by decide +kernel
theorem dX1_pack_121 : decode cX1_pack 121 = .ok (.iload 5, 2) := by decide +kernel
theorem dX1_pack_123 : decode cX1_pack 123 = .ok (.sipush 601, 3) := by decide +kernel
theorem dX1_pack_126 : decode cX1_pack 126 = .ok (.imul, 1) := by decide +kernel
theorem dX1_pack_127 : decode cX1_pack 127 = .ok (.iload 9, 2) := by decide +kernel
theorem dX1_pack_129 : decode cX1_pack 129 = .ok (.iadd, 1) := by decide +kernel
theorem dX1_pack_130 : decode cX1_pack 130 = .ok (.aload_n 0, 1) := by decide +kernel
theorem dX1_pack_131 : decode cX1_pack 131 = .ok (.iload 5, 2) := by decide +kernel
theorem dX1_pack_133 : decode cX1_pack 133 = .ok (.iload 9, 2) := by decide +kernel
theorem dX1_pack_135 : decode cX1_pack 135 = .ok (.iload 6, 2) := by decide +kernel
theorem dX1_pack_137 : decode cX1_pack 137 = .ok (.iload 7, 2) := by decide +kernel
theorem dX1_pack_139 : decode cX1_pack 139 = .ok (.iload 8, 2) := by decide +kernel
theorem dX1_pack_141 : decode cX1_pack 141 = .ok (.invokevirtual 40, 3) := by decide +kernel
theorem dX1_pack_144 : decode cX1_pack 144 = .ok (.iastore, 1) := by decide +kernel
theorem dX1_pack_145 : decode cX1_pack 145 = .ok (.iinc 9 1, 3) := by decide +kernel
theorem dX1_pack_148 : decode cX1_pack 148 = .ok (.goto (-45), 3) := by decide +kernel
theorem dX1_pack_151 : decode cX1_pack 151 = .ok (.iinc 5 (-1), 3) := by decide +kernel
theorem dX1_pack_154 : decode cX1_pack 154 = .ok (.goto (-96), 3) := by decide +kernel
theorem dX1_pack_157 : decode cX1_pack 157 = .ok (.aload_n 0, 1) := by decide +kernel
theorem dX1_pack_158 : decode cX1_pack 158 = .ok (.aload_n 1, 1) := by decide +kernel
theorem dX1_pack_159 : decode cX1_pack 159 = .ok (.iload_n 2, 1) := by decide +kernel
theorem dX1_pack_160 : decode cX1_pack 160 = .ok (.iload 4, 2) := by decide +kernel
theorem dX1_pack_162 : decode cX1_pack 162 = .ok (.iload_n 3, 1) := by decide +kernel
theorem dX1_pack_163 : decode cX1_pack 163 = .ok (.invokevirtual 44, 3) := by decide +kernel
theorem dX1_pack_166 : decode cX1_pack 166 = .ok (.return_, 1) := by decide +kernel

theorem dX10_load_0 : decode cX10_load 0 = .ok (.aload_n 0, 1) := by decide +kernel
theorem dX10_load_1 : decode cX10_load 1 = .ok (.getfield 12, 3) := by decide +kernel
theorem dX10_load_4 : decode cX10_load 4 = .ok (.getfield 193, 3) := by decide +kernel
theorem dX10_load_7 : decode cX10_load 7 = .ok (.iload_n 1, 1) := by decide +kernel
theorem dX10_load_8 : decode cX10_load 8 = .ok (.invokevirtual 207, 3) := by decide +kernel
theorem dX10_load_11 : decode cX10_load 11 = .ok (.ifCond .eq 16, 3) := by decide +kernel
theorem dX10_load_14 : decode cX10_load 14 = .ok (.iload_n 2, 1) := by decide +kernel
theorem dX10_load_15 : decode cX10_load 15 = .ok (.invokestatic 173, 3) := by decide +kernel
theorem dX10_load_18 : decode cX10_load 18 = .ok (.ifCond .eq 9, 3) := by decide +kernel
theorem dX10_load_21 : decode cX10_load 21 = .ok (.iload_n 3, 1) := by decide +kernel
theorem dX10_load_22 : decode cX10_load 22 = .ok (.bipush (-2), 2) := by decide +kernel
theorem dX10_load_24 : decode cX10_load 24 = .ok (.if_icmp .ge 9, 3) := by decide +kernel
theorem dX10_load_27 : decode cX10_load 27 = .ok (.aload_n 0, 1) := by decide +kernel
theorem dX10_load_28 : decode cX10_load 28 = .ok (.iconst 1, 1) := by decide +kernel
theorem dX10_load_29 : decode cX10_load 29 = .ok (.invokevirtual 82, 3) := by decide +kernel
theorem dX10_load_32 : decode cX10_load 32 = .ok (.ireturn, 1) := by decide +kernel
theorem dX10_load_33 : decode cX10_load 33 = .ok (.aload_n 0, 1) := by decide +kernel
theorem dX10_load_34 : decode cX10_load 34 = .ok (.getfield 70, 3) := by decide +kernel
theorem dX10_load_37 : decode cX10_load 37 = .ok (.iload_n 2, 1) := by decide +kernel
theorem dX10_load_38 : decode cX10_load 38 = .ok (.invokevirtual 176, 3) := by decide +kernel
theorem dX10_load_41 : decode cX10_load 41 = .ok (.ifCond .eq 9, 3) := by decide +kernel
theorem dX10_load_44 : decode cX10_load 44 = .ok (.aload_n 0, 1) := by decide +kernel
theorem dX10_load_45 : decode cX10_load 45 = .ok (.iconst 2, 1) := by decide +kernel
theorem dX10_load_46 : decode cX10_load 46 = .ok (.invokevirtual 82, 3) := by decide +kernel
theorem dX10_load_49 : decode cX10_load 49 = .ok (.ireturn, 1) := by decide +kernel
theorem dX10_load_50 : decode cX10_load 50 = .ok (.aload_n 0, 1) := by decide +kernel
theorem dX10_load_51 : decode cX10_load 51 = .ok (.iload_n 2, 1) := by decide +kernel
theorem dX10_load_52 : decode cX10_load 52 = .ok (.invokevirtual 298, 3) := by decide +kernel
theorem dX10_load_55 : decode cX10_load 55 = .ok (.ifCond .ne 9, 3) := by decide +kernel
theorem dX10_load_58 : decode cX10_load 58 = .ok (.aload_n 0, 1) := by decide +kernel
theorem dX10_load_59 : decode cX10_load 59 = .ok (.iconst 5, 1) := by decide +kernel
theorem dX10_load_60 : decode cX10_load 60 = .ok (.invokevirtual 82, 3) := by decide +kernel
theorem dX10_load_63 : decode cX10_load 63 = .ok (.ireturn, 1) := by decide +kernel
theorem dX10_load_64 : decode cX10_load 64 = .ok (.aload_n 0, 1) := by decide +kernel
theorem dX10_load_65 : decode cX10_load 65 = .ok (.getfield 70, 3) := by decide +kernel
theorem dX10_load_68 : decode cX10_load 68 = .ok (.iload_n 2, 1) := by decide +kernel
theorem dX10_load_69 : decode cX10_load 69 = .ok (.invokevirtual 179, 3) := by decide +kernel
theorem dX10_load_72 : decode cX10_load 72 = .ok (.iconst 3, 1) := by decide +kernel
theorem dX10_load_73 : decode cX10_load 73 = .ok (.idiv, 1) := by decide +kernel
theorem dX10_load_74 : decode cX10_load 74 = .ok (.istore 4, 2) := by decide +kernel
theorem dX10_load_76 : decode cX10_load 76 = .ok (.iload_n 3, 1) := by decide +kernel
theorem dX10_load_77 : decode cX10_load 77 = .ok (.iload 4, 2) := by decide +kernel
theorem dX10_load_79 : decode cX10_load 79 = .ok (.if_icmp .lt 9, 3) := by decide +kernel
theorem dX10_load_82 : decode cX10_load 82 = .ok (.aload_n 0, 1) := by decide +kernel
theorem dX10_load_83 : decode cX10_load 83 = .ok (.iconst 3, 1) := by decide +kernel
theorem dX10_load_84 : decode cX10_load 84 = .ok (.invokevirtual 82, 3) := by decide +kernel
theorem dX10_load_87 : decode cX10_load 87 = .ok (.ireturn, 1) := by decide +kernel
theorem dX10_load_88 : decode cX10_load 88 = .ok (.aload_n 0, 1) := by decide +kernel
theorem dX10_load_89 : decode cX10_load 89 = .ok (.getfield 49, 3) := by decide +kernel
theorem dX10_load_92 : decode cX10_load 92 = .ok (.aload_n 0, 1) := by decide +kernel
theorem dX10_load_93 : decode cX10_load 93 = .ok (.getfield 70, 3) := by decide +kernel
theorem dX10_load_96 : decode cX10_load 96 = .ok (.iload_n 2, 1) := by decide +kernel
theorem dX10_load_97 : decode cX10_load 97 = .ok (.bipush 12, 2) := by decide +kernel
theorem dX10_load_99 : decode cX10_load 99 = .ok (.aload_n 0, 1) := by decide +kernel
theorem dX10_load_100 : decode cX10_load 100 = .ok (.getfield 12, 3) := by decide +kernel
theorem dX10_load_103 : decode cX10_load 103 = .ok (.getfield 193, 3) := by decide +kernel
theorem dX10_load_106 : decode cX10_load 106 = .ok (.iload_n 1, 1) := by decide +kernel
theorem dX10_load_107 : decode cX10_load 107 = .ok (.iconst 3, 1) := by decide +kernel
theorem dX10_load_108 : decode cX10_load 108 = .ok (.invokevirtual 208, 3) := by decide +kernel
theorem dX10_load_111 : decode cX10_load 111 = .ok (.imul, 1) := by decide +kernel
theorem dX10_load_112 : decode cX10_load 112 = .ok (.invokevirtual 301, 3) := by decide +kernel
theorem dX10_load_115 : decode cX10_load 115 = .ok (.iload_n 3, 1) := by decide +kernel
theorem dX10_load_116 : decode cX10_load 116 = .ok (.iconst (-1), 1) := by decide +kernel
theorem dX10_load_117 : decode cX10_load 117 = .ok (.if_icmp .ne 13, 3) := by decide +kernel
theorem dX10_load_120 : decode cX10_load 120 = .ok (.aload_n 0, 1) := by decide +kernel
theorem dX10_load_121 : decode cX10_load 121 = .ok (.getfield 49, 3) := by decide +kernel
theorem dX10_load_124 : decode cX10_load 124 = .ok (.getfield 305, 3) := by decide +kernel
theorem dX10_load_127 : decode cX10_load 127 = .ok (.goto 27, 3) := by decide +kernel
theorem dX10_load_130 : decode cX10_load 130 = .ok (.iload_n 3, 1) := by decide +kernel
theorem dX10_load_131 : decode cX10_load 131 = .ok (.bipush (-2), 2) := by decide +kernel
theorem dX10_load_133 : decode cX10_load 133 = .ok (.if_icmp .ne 13, 3) := by decide +kernel
theorem dX10_load_136 : decode cX10_load 136 = .ok (.aload_n 0, 1) := by decide +kernel
theorem dX10_load_137 : decode cX10_load 137 = .ok (.getfield 49, 3) := by decide +kernel
theorem dX10_load_140 : decode cX10_load 140 = .ok (.getfield 308, 3) := by decide +kernel
theorem dX10_load_143 : decode cX10_load 143 = .ok (.goto 11, 3) := by decide +kernel
theorem dX10_load_146 : decode cX10_load 146 = .ok (.aload_n 0, 1) := by decide +kernel
theorem dX10_load_147 : decode cX10_load 147 = .ok (.getfield 49, 3) := by decide +kernel
theorem dX10_load_150 : decode cX10_load 150 = .ok (.iload_n 3, 1) := by decide +kernel
theorem dX10_load_151 : decode cX10_load 151 = .ok (.invokevirtual 311, 3) := by decide +kernel
theorem dX10_load_154 : decode cX10_load 154 = .ok (.ireturn, 1) := by decide +kernel

