theorem dX8_add_0 : decode cX8_add 0 = .ok (.aload_n 0, 1) := by decide +kernel
theorem dX8_add_1 : decode cX8_add 1 = .ok (.invokevirtual 49, 3) := by decide +kernel
theorem dX8_add_4 : decode cX8_add 4 = .ok (.ifCond .ne 5, 3) := by decide +kernel
theorem dX8_add_9 : decode cX8_add 9 = .ok (.aload_n 0, 1) := by decide +kernel
theorem dX8_add_10 : decode cX8_add 10 = .ok (.getfield 9, 3) := by decide +kernel
theorem dX8_add_13 : decode cX8_add 13 = .ok (.aload_n 0, 1) := by decide +kernel
theorem dX8_add_14 : decode cX8_add 14 = .ok (.getfield 39, 3) := by decide +kernel
theorem dX8_add_17 : decode cX8_add 17 = .ok (.iload_n 1, 1) := by decide +kernel
theorem dX8_add_18 : decode cX8_add 18 = .ok (.iastore, 1) := by decide +kernel
theorem dX8_add_19 : decode cX8_add 19 = .ok (.aload_n 0, 1) := by decide +kernel
theorem dX8_add_20 : decode cX8_add 20 = .ok (.getfield 15, 3) := by decide +kernel
theorem dX8_add_23 : decode cX8_add 23 = .ok (.aload_n 0, 1) := by decide +kernel
theorem dX8_add_24 : decode cX8_add 24 = .ok (.getfield 39, 3) := by decide +kernel
theorem dX8_add_27 : decode cX8_add 27 = .ok (.iload_n 2, 1) := by decide +kernel
theorem dX8_add_28 : decode cX8_add 28 = .ok (.iastore, 1) := by decide +kernel
theorem dX8_add_29 : decode cX8_add 29 = .ok (.aload_n 0, 1) := by decide +kernel
theorem dX8_add_30 : decode cX8_add 30 = .ok (.getfield 18, 3) := by decide +kernel
theorem dX8_add_33 : decode cX8_add 33 = .ok (.aload_n 0, 1) := by decide +kernel
theorem dX8_add_34 : decode cX8_add 34 = .ok (.getfield 39, 3) := by decide +kernel
theorem dX8_add_37 : decode cX8_add 37 = .ok (.iload_n 3, 1) := by decide +kernel
theorem dX8_add_38 : decode cX8_add 38 = .ok (.iastore, 1) := by decide +kernel
theorem dX8_add_39 : decode cX8_add 39 = .ok (.aload_n 0, 1) := by decide +kernel
theorem dX8_add_40 : decode cX8_add 40 = .ok (.getfield 21, 3) := by decide +kernel
theorem dX8_add_43 : decode cX8_add 43 = .ok (.aload_n 0, 1) := by decide +kernel
theorem dX8_add_44 : decode cX8_add 44 = .ok (.getfield 39, 3) := by decide +kernel
theorem dX8_add_47 : decode cX8_add 47 = .ok (.iload 4, 2) := by decide +kernel
theorem dX8_add_49 : decode cX8_add 49 = .ok (.iastore, 1) := by decide +kernel
theorem dX8_add_50 : decode cX8_add 50 = .ok (.aload_n 0, 1) := by decide +kernel
theorem dX8_add_51 : decode cX8_add 51 = .ok (.getfield 24, 3) := by decide +kernel
theorem dX8_add_54 : decode cX8_add 54 = .ok (.aload_n 0, 1) := by decide +kernel
theorem dX8_add_55 : decode cX8_add 55 = .ok (.getfield 39, 3) := by decide +kernel
theorem dX8_add_58 : decode cX8_add 58 = .ok (.iconst 0, 1) := by decide +kernel
theorem dX8_add_59 : decode cX8_add 59 = .ok (.iastore, 1) := by decide +kernel
theorem dX8_add_60 : decode cX8_add 60 = .ok (.aload_n 0, 1) := by decide +kernel
theorem dX8_add_61 : decode cX8_add 61 = .ok (.getfield 27, 3) := by decide +kernel
theorem dX8_add_64 : decode cX8_add 64 = .ok (.aload_n 0, 1) := by decide +kernel
theorem dX8_add_65 : decode cX8_add 65 = .ok (.getfield 39, 3) := by decide +kernel
theorem dX8_add_68 : decode cX8_add 68 = .ok (.iconst 0, 1) := by decide +kernel
theorem dX8_add_69 : decode cX8_add 69 = .ok (.iastore, 1) := by decide +kernel
theorem dX8_add_70 : decode cX8_add 70 = .ok (.aload_n 0, 1) := by decide +kernel
theorem dX8_add_71 : decode cX8_add 71 = .ok (.dup, 1) := by decide +kernel
theorem dX8_add_72 : decode cX8_add 72 = .ok (.getfield 39, 3) := by decide +kernel
theorem dX8_add_75 : decode cX8_add 75 = .ok (.iconst 1, 1) := by decide +kernel
theorem dX8_add_76 : decode cX8_add 76 = .ok (.iadd, 1) := by decide +kernel
theorem dX8_add_77 : decode cX8_add 77 = .ok (.putfield 39, 3) := by decide +kernel
theorem dX8_add_80 : decode cX8_add 80 = .ok (.aload_n 0, 1) := by decide +kernel
theorem dX8_add_81 : decode cX8_add 81 = .ok (.aload_n 0, 1) := by decide +kernel
theorem dX8_add_82 : decode cX8_add 82 = .ok (.getfield 39, 3) := by decide +kernel
theorem dX8_add_85 : decode cX8_add 85 = .ok (.iconst 1, 1) := by decide +kernel
theorem dX8_add_86 : decode cX8_add 86 = .ok (.isub, 1) := by decide +kernel
theorem dX8_add_87 : decode cX8_add 87 = .ok (.iconst 1, 1) := by decide +kernel
theorem dX8_add_88 : decode cX8_add 88 = .ok (.invokevirtual 53, 3) := by decide +kernel
theorem dX8_add_91 : decode cX8_add 91 = .ok (.aload_n 0, 1) := by decide +kernel
theorem dX8_add_92 : decode cX8_add 92 = .ok (.getfield 39, 3) := by decide +kernel
theorem dX8_add_95 : decode cX8_add 95 = .ok (.iconst 1, 1) := by decide +kernel
theorem dX8_add_96 : decode cX8_add 96 = .ok (.isub, 1) := by decide +kernel
theorem dX8_add_97 : decode cX8_add 97 = .ok (.ireturn, 1) := by decide +kernel
theorem dX8_copyFrom_0 : decode cX8_copyFrom 0 = .ok (.aload_n 1, 1) := by decide +kernel
theorem dX8_copyFrom_1 : decode cX8_copyFrom 1 = .ok (.getfield 9, 3) := by decide +kernel
theorem dX8_copyFrom_4 : decode cX8_copyFrom 4 = .ok (.iconst 0, 1) := by decide +kernel
theorem dX8_copyFrom_5 : decode cX8_copyFrom 5 = .ok (.aload_n 0, 1) := by decide +kernel
theorem dX8_copyFrom_6 : decode cX8_copyFrom 6 = .ok (.getfield 9, 3) := by decide +kernel
theorem dX8_copyFrom_9 : decode cX8_copyFrom 9 = .ok (.iconst 0, 1) := by decide +kernel
theorem dX8_copyFrom_10 : decode cX8_copyFrom 10 = .ok (.bipush 60, 2) := by decide +kernel
theorem dX8_copyFrom_12 : decode cX8_copyFrom 12 = .ok (.invokestatic 43, 3) := by decide +kernel
theorem dX8_copyFrom_15 : decode cX8_copyFrom 15 = .ok (.aload_n 1, 1) := by decide +kernel
theorem dX8_copyFrom_16 : decode cX8_copyFrom 16 = .ok (.getfield 15, 3) := by decide +kernel
theorem dX8_copyFrom_19 : decode cX8_copyFrom 19 = .ok (.iconst 0, 1) := by decide +kernel
theorem dX8_copyFrom_20 : decode cX8_copyFrom 20 = .ok (.aload_n 0, 1) := by decide +kernel
theorem dX8_copyFrom_21 : decode cX8_copyFrom 21 = .ok (.getfield 15, 3) := by decide +kernel
theorem dX8_copyFrom_24 : decode cX8_copyFrom 24 = .ok (.iconst 0, 1) := by decide +kernel
theorem dX8_copyFrom_25 : decode cX8_copyFrom 25 = .ok (.bipush 60, 2) := by decide +kernel
theorem dX8_copyFrom_27 : decode cX8_copyFrom 27 = .ok (.invokestatic 43, 3) := by decide +kernel
theorem dX8_copyFrom_30 : decode cX8_copyFrom 30 = .ok (.aload_n 1, 1) := by decide +kernel
theorem dX8_copyFrom_31 : decode cX8_copyFrom 31 = .ok (.getfield 18, 3) := by decide +kernel
theorem dX8_copyFrom_34 : decode cX8_copyFrom 34 = .ok (.iconst 0, 1) := by decide +kernel
theorem dX8_copyFrom_35 : decode cX8_copyFrom 35 = .ok (.aload_n 0, 1) := by decide +kernel
theorem dX8_copyFrom_36 : decode cX8_copyFrom 36 = .ok (.getfield 18, 3) := by decide +kernel
theorem dX8_copyFrom_39 : decode cX8_copyFrom 39 = .ok (.iconst 0, 1) := by decide +kernel
theorem dX8_copyFrom_40 : decode cX8_copyFrom 40 = .ok (.bipush 60, 2) := by decide +kernel
theorem dX8_copyFrom_42 : decode cX8_copyFrom 42 = .ok (.invokestatic 43, 3) := by decide +kernel
theorem dX8_copyFrom_45 : decode cX8_copyFrom 45 = .ok (.aload_n 1, 1) := by decide +kernel
theorem dX8_copyFrom_46 : decode cX8_copyFrom 46 = .ok (.getfield 21, 3) := by decide +kernel
theorem dX8_copyFrom_49 : decode cX8_copyFrom 49 = .ok (.iconst 0, 1) := by decide +kernel
theorem dX8_copyFrom_50 : decode cX8_copyFrom 50 = .ok (.aload_n 0, 1) := by decide +kernel
theorem dX8_copyFrom_51 : decode cX8_copyFrom 51 = .ok (.getfield 21, 3) := by decide +kernel
theorem dX8_copyFrom_54 : decode cX8_copyFrom 54 = .ok (.iconst 0, 1) := by decide +kernel
theorem dX8_copyFrom_55 : decode cX8_copyFrom 55 = .ok (.bipush 60, 2) := by decide +kernel
theorem dX8_copyFrom_57 : decode cX8_copyFrom 57 = .ok (.invokestatic 43, 3) := by decide +kernel
theorem dX8_copyFrom_60 : decode cX8_copyFrom 60 = .ok (.aload_n 1, 1) := by decide +kernel
theorem dX8_copyFrom_61 : decode cX8_copyFrom 61 = .ok (.getfield 24, 3) := by decide +kernel
theorem dX8_copyFrom_64 : decode cX8_copyFrom 64 = .ok (.iconst 0, 1) := by decide +kernel
theorem dX8_copyFrom_65 : decode cX8_copyFrom 65 = .ok (.aload_n 0, 1) := by decide +kernel
theorem dX8_copyFrom_66 : decode cX8_copyFrom 66 = .ok (.getfield 24, 3) := by decide +kernel
theorem dX8_copyFrom_69 : decode cX8_copyFrom 69 = .ok (.iconst 0, 1) := by decide +kernel
theorem dX8_copyFrom_70 : decode cX8_copyFrom 70 = .ok (.bipush 60, 2) := by decide +kernel
theorem dX8_copyFrom_72 : decode cX8_copyFrom 72 = .ok (.invokestatic 43, 3) := by decide +kernel
theorem dX8_copyFrom_75 : decode cX8_copyFrom 75 = .ok (.aload_n 1, 1) := by decide +kernel
theorem dX8_copyFrom_76 : decode cX8_copyFrom 76 = .ok (.getfield 27, 3) := by decide +kernel
theorem dX8_copyFrom_79 : decode cX8_copyFrom 79 = .ok (.iconst 0, 1) := by decide +kernel
theorem dX8_copyFrom_80 : decode cX8_copyFrom 80 = .ok (.aload_n 0, 1) := by decide +kernel
theorem dX8_copyFrom_81 : decode cX8_copyFrom 81 = .ok (.getfield 27, 3) := by decide +kernel
theorem dX8_copyFrom_84 : decode cX8_copyFrom 84 = .ok (.iconst 0, 1) := by decide +kernel
theorem dX8_copyFrom_85 : decode cX8_copyFrom 85 = .ok (.bipush 60, 2) := by decide +kernel
theorem dX8_copyFrom_87 : decode cX8_copyFrom 87 = .ok (.invokestatic 43, 3) := by decide +kernel
theorem dX8_copyFrom_90 : decode cX8_copyFrom 90 = .ok (.aload_n 1, 1) := by decide +kernel
theorem dX8_copyFrom_91 : decode cX8_copyFrom 91 = .ok (.getfield 30, 3) := by decide +kernel
theorem dX8_copyFrom_94 : decode cX8_copyFrom 94 = .ok (.iconst 0, 1) := by decide +kernel
theorem dX8_copyFrom_95 : decode cX8_copyFrom 95 = .ok (.aload_n 0, 1) := by decide +kernel
theorem dX8_copyFrom_96 : decode cX8_copyFrom 96 = .ok (.getfield 30, 3) := by decide +kernel
theorem dX8_copyFrom_99 : decode cX8_copyFrom 99 = .ok (.iconst 0, 1) := by decide +kernel
theorem dX8_copyFrom_100 : decode cX8_copyFrom 100 = .ok (.bipush 40, 2) := by decide +kernel
theorem dX8_copyFrom_102 : decode cX8_copyFrom 102 = .ok (.invokestatic 43, 3) := by decide +kernel
theorem dX8_copyFrom_105 : decode cX8_copyFrom 105 = .ok (.aload_n 1, 1) := by decide +kernel
theorem dX8_copyFrom_106 : decode cX8_copyFrom 106 = .ok (.getfield 33, 3) := by decide +kernel
theorem dX8_copyFrom_109 : decode cX8_copyFrom 109 = .ok (.iconst 0, 1) := by decide +kernel
theorem dX8_copyFrom_110 : decode cX8_copyFrom 110 = .ok (.aload_n 0, 1) := by decide +kernel
theorem dX8_copyFrom_111 : decode cX8_copyFrom 111 = .ok (.getfield 33, 3) := by decide +kernel
theorem dX8_copyFrom_114 : decode cX8_copyFrom 114 = .ok (.iconst 0, 1) := by decide +kernel
theorem dX8_copyFrom_115 : decode cX8_copyFrom 115 = .ok (.bipush 40, 2) := by decide +kernel
theorem dX8_copyFrom_117 : decode cX8_copyFrom 117 = .ok (.invokestatic 43, 3) := by decide +kernel
theorem dX8_copyFrom_120 : decode cX8_copyFrom 120 = .ok (.aload_n 1, 1) := by decide +kernel
theorem dX8_copyFrom_121 : decode cX8_copyFrom 121 = .ok (.getfield 36, 3) := by decide +kernel
theorem dX8_copyFrom_124 : decode cX8_copyFrom 124 = .ok (.iconst 0, 1) := by decide +kernel
theorem dX8_copyFrom_125 : decode cX8_copyFrom 125 = .ok (.aload_n 0, 1) := by decide +kernel
theorem dX8_copyFrom_126 : decode cX8_copyFrom 126 = .ok (.getfield 36, 3) := by decide +kernel
theorem dX8_copyFrom_129 : decode cX8_copyFrom 129 = .ok (.iconst 0, 1) := by decide +kernel
theorem dX8_copyFrom_130 : decode cX8_copyFrom 130 = .ok (.bipush 40, 2) := by decide +kernel
theorem dX8_copyFrom_132 : decode cX8_copyFrom 132 = .ok (.invokestatic 43, 3) := by decide +kernel
theorem dX8_copyFrom_135 : decode cX8_copyFrom 135 = .ok (.aload_n 0, 1) := by decide +kernel
theorem dX8_copyFrom_136 : decode cX8_copyFrom 136 = .ok (.aload_n 1, 1) := by decide +kernel
theorem dX8_copyFrom_137 : decode cX8_copyFrom 137 = .ok (.getfield 39, 3) := by decide +kernel
theorem dX8_copyFrom_140 : decode cX8_copyFrom 140 = .ok (.putfield 39, 3) := by decide +kernel
theorem dX8_copyFrom_143 : decode cX8_copyFrom 143 = .ok (.return_, 1) := by decide +kernel
theorem dX8_drinkIn_0 : decode cX8_drinkIn 0 = .ok (.iload_n 1, 1) := by decide +kernel
theorem dX8_drinkIn_1 : decode cX8_drinkIn 1 = .ok (.invokestatic 65, 3) := by decide +kernel
theorem dX8_drinkIn_4 : decode cX8_drinkIn 4 = .ok (.ifCond .eq 12, 3) := by decide +kernel
theorem dX8_drinkIn_7 : decode cX8_drinkIn 7 = .ok (.aload_n 0, 1) := by decide +kernel
theorem dX8_drinkIn_8 : decode cX8_drinkIn 8 = .ok (.getfield 33, 3) := by decide +kernel
theorem dX8_drinkIn_11 : decode cX8_drinkIn 11 = .ok (.iload_n 1, 1) := by decide +kernel
theorem dX8_drinkIn_12 : decode cX8_drinkIn 12 = .ok (.iaload, 1) := by decide +kernel
theorem dX8_drinkIn_13 : decode cX8_drinkIn 13 = .ok (.goto 4, 3) := by decide +kernel
theorem dX8_drinkIn_16 : decode cX8_drinkIn 16 = .ok (.iconst 0, 1) := by decide +kernel
theorem dX8_drinkIn_17 : decode cX8_drinkIn 17 = .ok (.ireturn, 1) := by decide +kernel
theorem dX8_fallen_0 : decode cX8_fallen 0 = .ok (.iconst 0, 1) := by decide +kernel
theorem dX8_fallen_1 : decode cX8_fallen 1 = .ok (.istore_n 1, 1) := by decide +kernel
theorem dX8_fallen_2 : decode cX8_fallen 2 = .ok (.iconst 0, 1) := by decide +kernel
theorem dX8_fallen_3 : decode cX8_fallen 3 = .ok (.istore_n 2, 1) := by decide +kernel
theorem dX8_fallen_4 : decode cX8_fallen 4 = .ok (.iload_n 2, 1) := by decide +kernel
theorem dX8_fallen_5 : decode cX8_fallen 5 = .ok (.aload_n 0, 1) := by decide +kernel
theorem dX8_fallen_6 : decode cX8_fallen 6 = .ok (.getfield 39, 3) := by decide +kernel
theorem dX8_fallen_9 : decode cX8_fallen 9 = .ok (.if_icmp .ge 24, 3) := by decide +kernel
theorem dX8_fallen_33 : decode cX8_fallen 33 = .ok (.iload_n 1, 1) := by decide +kernel
theorem dX8_fallen_34 : decode cX8_fallen 34 = .ok (.ireturn, 1) := by decide +kernel
theorem dX8_has_0 : decode cX8_has 0 = .ok (.iload_n 1, 1) := by decide +kernel
theorem dX8_has_1 : decode cX8_has 1 = .ok (.ifCond .lt 21, 3) := by decide +kernel
theorem dX8_has_4 : decode cX8_has 4 = .ok (.iload_n 1, 1) := by decide +kernel
theorem dX8_has_5 : decode cX8_has 5 = .ok (.aload_n 0, 1) := by decide +kernel
theorem dX8_has_6 : decode cX8_has 6 = .ok (.getfield 39, 3) := by decide +kernel
theorem dX8_has_9 : decode cX8_has 9 = .ok (.if_icmp .ge 13, 3) := by decide +kernel
theorem dX8_has_12 : decode cX8_has 12 = .ok (.iload_n 1, 1) := by decide +kernel
theorem dX8_has_13 : decode cX8_has 13 = .ok (.bipush 60, 2) := by decide +kernel
theorem dX8_has_15 : decode cX8_has 15 = .ok (.if_icmp .ge 7, 3) := by decide +kernel
theorem dX8_has_18 : decode cX8_has 18 = .ok (.iconst 1, 1) := by decide +kernel
theorem dX8_has_19 : decode cX8_has 19 = .ok (.goto 4, 3) := by decide +kernel
theorem dX8_has_22 : decode cX8_has 22 = .ok (.iconst 0, 1) := by decide +kernel
theorem dX8_has_23 : decode cX8_has 23 = .ok (.ireturn, 1) := by decide +kernel
theorem dX8_hasRoom_0 : decode cX8_hasRoom 0 = .ok (.aload_n 0, 1) := by decide +kernel
theorem dX8_hasRoom_1 : decode cX8_hasRoom 1 = .ok (.getfield 39, 3) := by decide +kernel
theorem dX8_hasRoom_4 : decode cX8_hasRoom 4 = .ok (.ifCond .lt 16, 3) := by decide +kernel
theorem dX8_hasRoom_7 : decode cX8_hasRoom 7 = .ok (.aload_n 0, 1) := by decide +kernel
theorem dX8_hasRoom_8 : decode cX8_hasRoom 8 = .ok (.getfield 39, 3) := by decide +kernel
theorem dX8_hasRoom_11 : decode cX8_hasRoom 11 = .ok (.bipush 60, 2) := by decide +kernel
theorem dX8_hasRoom_13 : decode cX8_hasRoom 13 = .ok (.if_icmp .ge 7, 3) := by decide +kernel
theorem dX8_hasRoom_16 : decode cX8_hasRoom 16 = .ok (.iconst 1, 1) := by decide +kernel
theorem dX8_hasRoom_17 : decode cX8_hasRoom 17 = .ok (.goto 4, 3) := by decide +kernel
theorem dX8_hasRoom_20 : decode cX8_hasRoom 20 = .ok (.iconst 0, 1) := by decide +kernel
theorem dX8_hasRoom_21 : decode cX8_hasRoom 21 = .ok (.ireturn, 1) := by decide +kernel
theorem dX8_isWired_0 : decode cX8_isWired 0 = .ok (.iload_n 1, 1) := by decide +kernel
theorem dX8_isWired_1 : decode cX8_isWired 1 = .ok (.invokestatic 65, 3) := by decide +kernel
theorem dX8_isWired_4 : decode cX8_isWired 4 = .ok (.ifCond .eq 16, 3) := by decide +kernel
theorem dX8_isWired_7 : decode cX8_isWired 7 = .ok (.aload_n 0, 1) := by decide +kernel
theorem dX8_isWired_8 : decode cX8_isWired 8 = .ok (.getfield 30, 3) := by decide +kernel
theorem dX8_isWired_11 : decode cX8_isWired 11 = .ok (.iload_n 1, 1) := by decide +kernel
theorem dX8_isWired_12 : decode cX8_isWired 12 = .ok (.iaload, 1) := by decide +kernel
theorem dX8_isWired_13 : decode cX8_isWired 13 = .ok (.ifCond .le 7, 3) := by decide +kernel
theorem dX8_isWired_20 : decode cX8_isWired 20 = .ok (.iconst 0, 1) := by decide +kernel
theorem dX8_isWired_21 : decode cX8_isWired 21 = .ok (.ireturn, 1) := by decide +kernel
theorem dX8_isWiredFrom_0 : decode cX8_isWiredFrom 0 = .ok (.iload_n 1, 1) := by decide +kernel
theorem dX8_isWiredFrom_1 : decode cX8_isWiredFrom 1 = .ok (.istore_n 3, 1) := by decide +kernel
theorem dX8_isWiredFrom_2 : decode cX8_isWiredFrom 2 = .ok (.iload_n 3, 1) := by decide +kernel
theorem dX8_isWiredFrom_3 : decode cX8_isWiredFrom 3 = .ok (.iload_n 2, 1) := by decide +kernel
theorem dX8_isWiredFrom_4 : decode cX8_isWiredFrom 4 = .ok (.if_icmp .gt 25, 3) := by decide +kernel
theorem dX8_isWiredFrom_7 : decode cX8_isWiredFrom 7 = .ok (.iload_n 3, 1) := by decide +kernel
theorem dX8_isWiredFrom_8 : decode cX8_isWiredFrom 8 = .ok (.bipush 40, 2) := by decide +kernel
theorem dX8_isWiredFrom_10 : decode cX8_isWiredFrom 10 = .ok (.if_icmp .ge 19, 3) := by decide +kernel
theorem dX8_isWiredFrom_13 : decode cX8_isWiredFrom 13 = .ok (.aload_n 0, 1) := by decide +kernel
theorem dX8_isWiredFrom_14 : decode cX8_isWiredFrom 14 = .ok (.iload_n 3, 1) := by decide +kernel
theorem dX8_isWiredFrom_15 : decode cX8_isWiredFrom 15 = .ok (.invokevirtual 71, 3) := by decide +kernel
theorem dX8_isWiredFrom_18 : decode cX8_isWiredFrom 18 = .ok (.ifCond .ne 5, 3) := by decide +kernel
theorem dX8_isWiredFrom_21 : decode cX8_isWiredFrom 21 = .ok (.iconst 0, 1) := by decide +kernel
theorem dX8_isWiredFrom_22 : decode cX8_isWiredFrom 22 = .ok (.ireturn, 1) := by decide +kernel
theorem dX8_mileOf_0 : decode cX8_mileOf 0 = .ok (.aload_n 0, 1) := by decide +kernel
theorem dX8_mileOf_1 : decode cX8_mileOf 1 = .ok (.iload_n 1, 1) := by decide +kernel
theorem dX8_mileOf_2 : decode cX8_mileOf 2 = .ok (.invokevirtual 57, 3) := by decide +kernel
theorem dX8_mileOf_5 : decode cX8_mileOf 5 = .ok (.ifCond .eq 12, 3) := by decide +kernel
theorem dX8_mileOf_8 : decode cX8_mileOf 8 = .ok (.aload_n 0, 1) := by decide +kernel
theorem dX8_mileOf_9 : decode cX8_mileOf 9 = .ok (.getfield 15, 3) := by decide +kernel
theorem dX8_mileOf_12 : decode cX8_mileOf 12 = .ok (.iload_n 1, 1) := by decide +kernel
theorem dX8_mileOf_13 : decode cX8_mileOf 13 = .ok (.iaload, 1) := by decide +kernel
theorem dX8_mileOf_14 : decode cX8_mileOf 14 = .ok (.goto 4, 3) := by decide +kernel
theorem dX8_mileOf_18 : decode cX8_mileOf 18 = .ok (.ireturn, 1) := by decide +kernel
theorem dX8_stations_0 : decode cX8_stations 0 = .ok (.iconst 0, 1) := by decide +kernel
theorem dX8_stations_1 : decode cX8_stations 1 = .ok (.istore_n 1, 1) := by decide +kernel
theorem dX8_stations_2 : decode cX8_stations 2 = .ok (.iconst 0, 1) := by decide +kernel
theorem dX8_stations_3 : decode cX8_stations 3 = .ok (.istore_n 2, 1) := by decide +kernel
theorem dX8_stations_4 : decode cX8_stations 4 = .ok (.iload_n 2, 1) := by decide +kernel
theorem dX8_stations_5 : decode cX8_stations 5 = .ok (.aload_n 0, 1) := by decide +kernel
theorem dX8_stations_6 : decode cX8_stations 6 = .ok (.getfield 39, 3) := by decide +kernel
theorem dX8_stations_9 : decode cX8_stations 9 = .ok (.if_icmp .ge 37, 3) := by decide +kernel
theorem dX8_stations_46 : decode cX8_stations 46 = .ok (.iload_n 1, 1) := by decide +kernel
theorem dX8_stations_47 : decode cX8_stations 47 = .ok (.ireturn, 1) := by decide +kernel
theorem dX8_storedFood_0 : decode cX8_storedFood 0 = .ok (.iconst 0, 1) := by decide +kernel
theorem dX8_storedFood_1 : decode cX8_storedFood 1 = .ok (.istore_n 1, 1) := by decide +kernel
theorem dX8_storedFood_2 : decode cX8_storedFood 2 = .ok (.iconst 0, 1) := by decide +kernel
theorem dX8_storedFood_3 : decode cX8_storedFood 3 = .ok (.istore_n 2, 1) := by decide +kernel
theorem dX8_storedFood_4 : decode cX8_storedFood 4 = .ok (.iload_n 2, 1) := by decide +kernel
theorem dX8_storedFood_5 : decode cX8_storedFood 5 = .ok (.aload_n 0, 1) := by decide +kernel
theorem dX8_storedFood_6 : decode cX8_storedFood 6 = .ok (.getfield 39, 3) := by decide +kernel
theorem dX8_storedFood_9 : decode cX8_storedFood 9 = .ok (.if_icmp .ge 43, 3) := by decide +kernel
theorem dX8_storedFood_52 : decode cX8_storedFood 52 = .ok (.iload_n 1, 1) := by decide +kernel
theorem dX8_storedFood_53 : decode cX8_storedFood 53 = .ok (.ireturn, 1) := by decide +kernel
theorem dX8_tally_0 : decode cX8_tally 0 = .ok (.aload_n 0, 1) := by decide +kernel
theorem dX8_tally_1 : decode cX8_tally 1 = .ok (.iload_n 1, 1) := by decide +kernel
theorem dX8_tally_2 : decode cX8_tally 2 = .ok (.invokevirtual 61, 3) := by decide +kernel
theorem dX8_tally_5 : decode cX8_tally 5 = .ok (.istore_n 3, 1) := by decide +kernel
theorem dX8_tally_6 : decode cX8_tally 6 = .ok (.aload_n 0, 1) := by decide +kernel
theorem dX8_tally_7 : decode cX8_tally 7 = .ok (.iload_n 1, 1) := by decide +kernel
theorem dX8_tally_8 : decode cX8_tally 8 = .ok (.invokevirtual 57, 3) := by decide +kernel
theorem dX8_tally_11 : decode cX8_tally 11 = .ok (.ifCond .eq 10, 3) := by decide +kernel
theorem dX8_tally_14 : decode cX8_tally 14 = .ok (.iload_n 3, 1) := by decide +kernel
theorem dX8_tally_15 : decode cX8_tally 15 = .ok (.invokestatic 65, 3) := by decide +kernel
theorem dX8_tally_18 : decode cX8_tally 18 = .ok (.ifCond .ne 4, 3) := by decide +kernel
theorem dX8_tally_22 : decode cX8_tally 22 = .ok (.aload_n 0, 1) := by decide +kernel
theorem dX8_tally_23 : decode cX8_tally 23 = .ok (.getfield 9, 3) := by decide +kernel
theorem dX8_tally_26 : decode cX8_tally 26 = .ok (.iload_n 1, 1) := by decide +kernel
theorem dX8_tally_27 : decode cX8_tally 27 = .ok (.iaload, 1) := by decide +kernel
theorem dX8_tally_28 : decode cX8_tally 28 = .ok (.istore 4, 2) := by decide +kernel
theorem dX8_tally_30 : decode cX8_tally 30 = .ok (.iload 4, 2) := by decide +kernel
theorem dX8_tally_32 : decode cX8_tally 32 = .ok (.invokestatic 68, 3) := by decide +kernel
theorem dX8_tally_35 : decode cX8_tally 35 = .ok (.ifCond .eq 16, 3) := by decide +kernel
theorem dX8_tally_38 : decode cX8_tally 38 = .ok (.aload_n 0, 1) := by decide +kernel
theorem dX8_tally_39 : decode cX8_tally 39 = .ok (.getfield 30, 3) := by decide +kernel
theorem dX8_tally_42 : decode cX8_tally 42 = .ok (.iload_n 3, 1) := by decide +kernel
theorem dX8_tally_43 : decode cX8_tally 43 = .ok (.dup2, 1) := by decide +kernel
theorem dX8_tally_44 : decode cX8_tally 44 = .ok (.iaload, 1) := by decide +kernel
theorem dX8_tally_45 : decode cX8_tally 45 = .ok (.iload_n 2, 1) := by decide +kernel
theorem dX8_tally_46 : decode cX8_tally 46 = .ok (.iadd, 1) := by decide +kernel
theorem dX8_tally_47 : decode cX8_tally 47 = .ok (.iastore, 1) := by decide +kernel
theorem dX8_tally_48 : decode cX8_tally 48 = .ok (.goto 45, 3) := by decide +kernel
theorem dX8_tally_51 : decode cX8_tally 51 = .ok (.iload 4, 2) := by decide +kernel
theorem dX8_tally_53 : decode cX8_tally 53 = .ok (.iconst 4, 1) := by decide +kernel
theorem dX8_tally_54 : decode cX8_tally 54 = .ok (.if_icmp .ne 23, 3) := by decide +kernel
theorem dX8_tally_57 : decode cX8_tally 57 = .ok (.aload_n 0, 1) := by decide +kernel
theorem dX8_tally_58 : decode cX8_tally 58 = .ok (.getfield 33, 3) := by decide +kernel
theorem dX8_tally_61 : decode cX8_tally 61 = .ok (.iload_n 3, 1) := by decide +kernel
theorem dX8_tally_62 : decode cX8_tally 62 = .ok (.dup2, 1) := by decide +kernel
theorem dX8_tally_63 : decode cX8_tally 63 = .ok (.iaload, 1) := by decide +kernel
theorem dX8_tally_64 : decode cX8_tally 64 = .ok (.iload_n 2, 1) := by decide +kernel
theorem dX8_tally_65 : decode cX8_tally 65 = .ok (.aload_n 0, 1) := by decide +kernel
theorem dX8_tally_66 : decode cX8_tally 66 = .ok (.getfield 18, 3) := by decide +kernel
theorem dX8_tally_69 : decode cX8_tally 69 = .ok (.iload_n 1, 1) := by decide +kernel
theorem dX8_tally_70 : decode cX8_tally 70 = .ok (.iaload, 1) := by decide +kernel
theorem dX8_tally_71 : decode cX8_tally 71 = .ok (.imul, 1) := by decide +kernel
theorem dX8_tally_72 : decode cX8_tally 72 = .ok (.iadd, 1) := by decide +kernel
theorem dX8_tally_73 : decode cX8_tally 73 = .ok (.iastore, 1) := by decide +kernel
theorem dX8_tally_74 : decode cX8_tally 74 = .ok (.goto 19, 3) := by decide +kernel
theorem dX8_tally_77 : decode cX8_tally 77 = .ok (.iload 4, 2) := by decide +kernel
theorem dX8_tally_79 : decode cX8_tally 79 = .ok (.iconst 5, 1) := by decide +kernel
theorem dX8_tally_80 : decode cX8_tally 80 = .ok (.if_icmp .ne 13, 3) := by decide +kernel
theorem dX8_tally_83 : decode cX8_tally 83 = .ok (.aload_n 0, 1) := by decide +kernel
theorem dX8_tally_84 : decode cX8_tally 84 = .ok (.getfield 36, 3) := by decide +kernel
theorem dX8_tally_87 : decode cX8_tally 87 = .ok (.iload_n 3, 1) := by decide +kernel
theorem dX8_tally_88 : decode cX8_tally 88 = .ok (.dup2, 1) := by decide +kernel
theorem dX8_tally_89 : decode cX8_tally 89 = .ok (.iaload, 1) := by decide +kernel
theorem dX8_tally_90 : decode cX8_tally 90 = .ok (.iload_n 2, 1) := by decide +kernel
theorem dX8_tally_91 : decode cX8_tally 91 = .ok (.iadd, 1) := by decide +kernel
theorem dX8_tally_92 : decode cX8_tally 92 = .ok (.iastore, 1) := by decide +kernel
theorem dX8_tally_93 : decode cX8_tally 93 = .ok (.return_, 1) := by decide +kernel
theorem dX8_wiredMiles_0 : decode cX8_wiredMiles 0 = .ok (.iconst 0, 1) := by decide +kernel
theorem dX8_wiredMiles_1 : decode cX8_wiredMiles 1 = .ok (.istore_n 1, 1) := by decide +kernel
theorem dX8_wiredMiles_2 : decode cX8_wiredMiles 2 = .ok (.iconst 0, 1) := by decide +kernel
theorem dX8_wiredMiles_3 : decode cX8_wiredMiles 3 = .ok (.istore_n 2, 1) := by decide +kernel
theorem dX8_wiredMiles_4 : decode cX8_wiredMiles 4 = .ok (.iload_n 2, 1) := by decide +kernel
theorem dX8_wiredMiles_5 : decode cX8_wiredMiles 5 = .ok (.bipush 40, 2) := by decide +kernel
theorem dX8_wiredMiles_7 : decode cX8_wiredMiles 7 = .ok (.if_icmp .ge 21, 3) := by decide +kernel
theorem dX8_wiredMiles_10 : decode cX8_wiredMiles 10 = .ok (.aload_n 0, 1) := by decide +kernel
theorem dX8_wiredMiles_11 : decode cX8_wiredMiles 11 = .ok (.getfield 30, 3) := by decide +kernel
theorem dX8_wiredMiles_14 : decode cX8_wiredMiles 14 = .ok (.iload_n 2, 1) := by decide +kernel
theorem dX8_wiredMiles_15 : decode cX8_wiredMiles 15 = .ok (.iaload, 1) := by decide +kernel
theorem dX8_wiredMiles_16 : decode cX8_wiredMiles 16 = .ok (.ifCond .le 6, 3) := by decide +kernel
theorem dX8_wiredMiles_22 : decode cX8_wiredMiles 22 = .ok (.iinc 2 1, 3) := by decide +kernel
theorem dX8_wiredMiles_25 : decode cX8_wiredMiles 25 = .ok (.goto (-21), 3) := by decide +kernel
theorem dX8_wiredMiles_28 : decode cX8_wiredMiles 28 = .ok (.iload_n 1, 1) := by decide +kernel
theorem dX8_wiredMiles_29 : decode cX8_wiredMiles 29 = .ok (.ireturn, 1) := by decide +kernel
set_option maxHeartbeats 4000000 in
set_option maxRecDepth 100000 in
theorem c_X8_has (l : Launch) (D : va_G) (cI : ClassId) (h k0 k1 k2 k3 k4 k5 k6 k7 k8 : Nat) (sz : Nat) (n : Int32) (a : Int32) : Met l yX8_has (gW yX8_has cX8_has 2 (some .boolean)) ({ frames := 0, cells := 0, slots := 0, locals := 0 } : Room) (kPre D cI [.ref h, .int a] [(h, .inr (8, [.ref k0, .ref k1, .ref k2, .ref k3, .ref k4, .ref k5, .ref k6, .ref k7, .ref k8, .int n]))] sz) (va_Qi (fun (r : Int32) (u : Unit) => (r = 1 ∧ 0 ≤ a.toInt ∧ a.toInt < n.toInt ∧ a.toInt < 60) ∨ (r = 0 ∧ (a.toInt < 0 ∨ n.toInt ≤ a.toInt ∨ 60 ≤ a.toInt))) (fun u t => kWd D cI (va_A [(h, .inr (8, [.ref k0, .ref k1, .ref k2, .ref k3, .ref k4, .ref k5, .ref k6, .ref k7, .ref k8, .int n]))] sz) [(h, .inr (8, [.ref k0, .ref k1, .ref k2, .ref k3, .ref k4, .ref k5, .ref k6, .ref k7, .ref k8, .int n]))] t) (va_A [(h, .inr (8, [.ref k0, .ref k1, .ref k2, .ref k3, .ref k4, .ref k5, .ref k6, .ref k7, .ref k8, .int n]))] sz)) 0 0 (va_A [(h, .inr (8, [.ref k0, .ref k1, .ref k2, .ref k3, .ref k4, .ref k5, .ref k6, .ref k7, .ref k8, .int n]))] sz) := by
  refine kMetI (own := RX8) (by decide) rfl (Nat.le_of_ble_eq_true rfl) ?_
  intro p e s m args below meth c hx hb hT hown hname hml A Q hK hP hD hS hA hN hRet ls hl
  have hl : lv_has ls 2 [(0, .ref h), (1, .int a)] := hl
  have lo_a := k_lo a
  have hi_a := k_hi a
  have lo_n := k_lo n
  have hi_n := k_hi n
  refine lv_iload_n hx hb dX8_has_0 rfl (lv_at hl 1 rfl) ?_
  refine b_if_lt hx hb rfl (tgt := 22) dX8_has_1 (by decide) (fun c_1 => ?_) (fun c_1 => ?_)
  · refine lv_iconst (v := 0) hx hb dX8_has_22 (by decide) ?_
    exact hRet () [0] (Or.inr (⟨rfl, (by omega)⟩)) hP hD (by decide) rfl hS rfl dX8_has_23
  · refine lv_iload_n hx hb dX8_has_4 rfl (lv_at hl 1 rfl) ?_
    refine lv_aload_n hx hb dX8_has_5 rfl (lv_at hl 0 rfl) ?_
    refine va_get (D := D) (ci := 8) (v := .int n) (C := RX8) (T := TX8) (N := 10) hx hb hT giX8 hown hK hP 0 rfl rfl 9 (by decide) (hT (Cond.fieldLink RX8 39 "DesertWire$Works" "number" "I") mw_49) (fun _ h9 => h9) rfl dX8_has_6 ?_
    refine b_icmp_ge hx hb rfl rfl (tgt := 22) dX8_has_9 (by decide) (fun c_2 => ?_) (fun c_2 => ?_)
    · refine lv_iconst (v := 0) hx hb dX8_has_22 (by decide) ?_
      exact hRet () [0] (Or.inr (⟨rfl, (by omega)⟩)) hP hD (by decide) rfl hS rfl dX8_has_23
    · refine lv_iload_n hx hb dX8_has_12 rfl (lv_at hl 1 rfl) ?_
      refine lv_bipush (v := 60) hx hb dX8_has_13 (by decide) ?_
      refine b_icmp_ge hx hb rfl zl_60 (tgt := 22) dX8_has_15 (by decide) (fun c_3 => ?_) (fun c_3 => ?_)
      · refine lv_iconst (v := 0) hx hb dX8_has_22 (by decide) ?_
        exact hRet () [0] (Or.inr (⟨rfl, (by omega)⟩)) hP hD (by decide) rfl hS rfl dX8_has_23
      · refine lv_iconst (v := 1) hx hb dX8_has_18 (by decide) ?_
        refine lv_goto (tgt := 23) hx hb dX8_has_19 (by decide) ?_
        exact hRet () [0] (Or.inl ⟨rfl, (by omega), (by omega), (by omega)⟩) hP hD (by decide) rfl hS rfl dX8_has_23
set_option maxHeartbeats 4000000 in
set_option maxRecDepth 100000 in
theorem c_X8_hasRoom (l : Launch) (D : va_G) (cI : ClassId) (h k0 k1 k2 k3 k4 k5 k6 k7 k8 : Nat) (sz : Nat) (n : Int32) : Met l yX8_hasRoom (gW yX8_hasRoom cX8_hasRoom 1 (some .boolean)) ({ frames := 0, cells := 0, slots := 0, locals := 0 } : Room) (kPre D cI [.ref h] [(h, .inr (8, [.ref k0, .ref k1, .ref k2, .ref k3, .ref k4, .ref k5, .ref k6, .ref k7, .ref k8, .int n]))] sz) (va_Qi (fun (r : Int32) (u : Unit) => (r = 1 ∧ 0 ≤ n.toInt ∧ n.toInt < 60) ∨ (r = 0 ∧ (n.toInt < 0 ∨ 60 ≤ n.toInt))) (fun u t => kWd D cI (va_A [(h, .inr (8, [.ref k0, .ref k1, .ref k2, .ref k3, .ref k4, .ref k5, .ref k6, .ref k7, .ref k8, .int n]))] sz) [(h, .inr (8, [.ref k0, .ref k1, .ref k2, .ref k3, .ref k4, .ref k5, .ref k6, .ref k7, .ref k8, .int n]))] t) (va_A [(h, .inr (8, [.ref k0, .ref k1, .ref k2, .ref k3, .ref k4, .ref k5, .ref k6, .ref k7, .ref k8, .int n]))] sz)) 0 0 (va_A [(h, .inr (8, [.ref k0, .ref k1, .ref k2, .ref k3, .ref k4, .ref k5, .ref k6, .ref k7, .ref k8, .int n]))] sz) := by
  refine kMetI (own := RX8) (by decide) rfl (Nat.le_of_ble_eq_true rfl) ?_
  intro p e s m args below meth c hx hb hT hown hname hml A Q hK hP hD hS hA hN hRet ls hl
  have hl : lv_has ls 1 [(0, .ref h)] := hl
  have lo_n := k_lo n
  have hi_n := k_hi n
  refine lv_aload_n hx hb dX8_hasRoom_0 rfl (lv_at hl 0 rfl) ?_
  refine va_get (D := D) (ci := 8) (v := .int n) (C := RX8) (T := TX8) (N := 10) hx hb hT giX8 hown hK hP 0 rfl rfl 9 (by decide) (hT (Cond.fieldLink RX8 39 "DesertWire$Works" "number" "I") mw_49) (fun _ h9 => h9) rfl dX8_hasRoom_1 ?_
  refine b_if_lt hx hb rfl (tgt := 20) dX8_hasRoom_4 (by decide) (fun c_1 => ?_) (fun c_1 => ?_)
  · refine lv_iconst (v := 0) hx hb dX8_hasRoom_20 (by decide) ?_
    exact hRet () [0] (Or.inr (⟨rfl, (by omega)⟩)) hP hD (by decide) rfl hS rfl dX8_hasRoom_21
  · refine lv_aload_n hx hb dX8_hasRoom_7 rfl (lv_at hl 0 rfl) ?_
    refine va_get (D := D) (ci := 8) (v := .int n) (C := RX8) (T := TX8) (N := 10) hx hb hT giX8 hown hK hP 0 rfl rfl 9 (by decide) (hT (Cond.fieldLink RX8 39 "DesertWire$Works" "number" "I") mw_49) (fun _ h9 => h9) rfl dX8_hasRoom_8 ?_
    refine lv_bipush (v := 60) hx hb dX8_hasRoom_11 (by decide) ?_
    refine b_icmp_ge hx hb rfl zl_60 (tgt := 20) dX8_hasRoom_13 (by decide) (fun c_2 => ?_) (fun c_2 => ?_)
    · refine lv_iconst (v := 0) hx hb dX8_hasRoom_20 (by decide) ?_
      exact hRet () [0] (Or.inr (⟨rfl, (by omega)⟩)) hP hD (by decide) rfl hS rfl dX8_hasRoom_21
    · refine lv_iconst (v := 1) hx hb dX8_hasRoom_16 (by decide) ?_
      refine lv_goto (tgt := 21) hx hb dX8_hasRoom_17 (by decide) ?_
      exact hRet () [0] (Or.inl ⟨rfl, (by omega), (by omega)⟩) hP hD (by decide) rfl hS rfl dX8_hasRoom_21
set_option maxHeartbeats 4000000 in
set_option maxRecDepth 100000 in
theorem c_X8_mileOf (l : Launch) (D : va_G) (cI : ClassId) (h k0 k1 k2 k3 k4 k5 k6 k7 k8 : Nat) (sz : Nat) (n : Int32) (fm : Nat → Int32) (mi : Int32) (a : Int32) (pre0 : a = 0) (pre1 : fm 0 = mi) (pre2 : 1 ≤ n.toInt) : Met l yX8_mileOf (gW yX8_mileOf cX8_mileOf 2 (some .int)) ({ frames := 1, cells := 0, slots := 0, locals := 21 } : Room) (kPre D cI [.ref h, .int 0] [(h, .inr (8, [.ref k0, .ref k1, .ref k2, .ref k3, .ref k4, .ref k5, .ref k6, .ref k7, .ref k8, .int n])), (k1, .inl (cI, 60, .inl fm))] sz) (va_Qi (fun (r : Int32) (u : Unit) => r = mi) (fun u t => kWd D cI (va_A [(h, .inr (8, [.ref k0, .ref k1, .ref k2, .ref k3, .ref k4, .ref k5, .ref k6, .ref k7, .ref k8, .int n])), (k1, .inl (cI, 60, .inl fm))] sz) [(h, .inr (8, [.ref k0, .ref k1, .ref k2, .ref k3, .ref k4, .ref k5, .ref k6, .ref k7, .ref k8, .int n])), (k1, .inl (cI, 60, .inl fm))] t) (va_A [(h, .inr (8, [.ref k0, .ref k1, .ref k2, .ref k3, .ref k4, .ref k5, .ref k6, .ref k7, .ref k8, .int n])), (k1, .inl (cI, 60, .inl fm))] sz)) 0 0 (va_A [(h, .inr (8, [.ref k0, .ref k1, .ref k2, .ref k3, .ref k4, .ref k5, .ref k6, .ref k7, .ref k8, .int n])), (k1, .inl (cI, 60, .inl fm))] sz) := by
  refine kMetI (own := RX8) (by decide) rfl (Nat.le_of_ble_eq_true rfl) ?_
  intro p e s m args below meth c hx hb hT hown hname hml A Q hK hP hD hS hA hN hRet ls hl
  subst pre0
  have hl : lv_has ls 2 [(0, .ref h), (1, .int 0)] := hl
  have lo_n := k_lo n
  have hi_n := k_hi n
  have lo_mi := k_lo mi
  have hi_mi := k_hi mi
  refine lv_aload_n hx hb dX8_mileOf_0 rfl (lv_at hl 0 rfl) ?_
  refine lv_iload_n hx hb dX8_mileOf_1 rfl (lv_at hl 1 rfl) ?_
  refine kJi (wr := [(k1, .inl (cI, 60, .inl fm))]) (va_runV (As := [.int 0]) (rest := []) ⟨hx, hb, hml, hown, hT⟩ (c_X8_has l D cI h k0 k1 k2 k3 k4 k5 k6 k7 k8 s.heap.size n 0) (cwV 1 hT (gV_in mw_371 mw_368 mw_369 mw_370 mw_3) rfl rfl rfl (by decide +kernel) ⟨Nat.le_of_ble_eq_true rfl, Nat.le_of_ble_eq_true rfl⟩) (kRecv (own := "") (q0 := 0) (ci := 8) hK hP hD hN rfl rfl [0] rfl (by decide)) rfl rfl hl.1 rfl (lv_room (Nat.le_of_ble_eq_true rfl)) dX8_mileOf_2 ⟨Nat.le_of_ble_eq_true rfl, Nat.le_of_ble_eq_true rfl⟩) hP hD hS hA [0] [1] rfl rfl (by decide) (by decide) (fun r_1 u_3 H locs w_2 hP hD hS => ?_)
  have hP : va_P D vwCl [(k1, .inl (cI, 60, .inl fm)), (h, .inr (8, [.ref k0, .ref k1, .ref k2, .ref k3, .ref k4, .ref k5, .ref k6, .ref k7, .ref k8, .int n]))] H := hP
  have hD : va_D A [(k1, .inl (cI, 60, .inl fm)), (h, .inr (8, [.ref k0, .ref k1, .ref k2, .ref k3, .ref k4, .ref k5, .ref k6, .ref k7, .ref k8, .int n]))] := hD
  rcases w_2 with ⟨hr_1, h_4, h_5, h_6⟩ | ⟨hr_1, h_7⟩
  · try simp only [zl_0] at h_4
    try simp only [zl_0] at h_5
    have h_5 : 0 < n.toInt := h_5
    try simp only [zl_0] at h_6
    obtain rfl : r_1 = 1 := hr_1.trans (by decide)
    refine b_if_eq hx hb zl_1 (tgt := 17) dX8_mileOf_5 (by decide) (fun c_8 => by exfalso; omega) (fun c_8 => ?_)
    refine lv_aload_n hx hb dX8_mileOf_8 rfl (lv_at hl 0 rfl) ?_
    refine va_get (D := D) (ci := 8) (v := .ref k1) (C := RX8) (T := TX8) (N := 10) hx hb hT giX8 hown hK hP 1 rfl rfl 1 (by decide) (hT (Cond.fieldLink RX8 15 "DesertWire$Works" "miles" "[I") mw_41) (fun _ h9 => h9) rfl dX8_mileOf_9 ?_
    refine lv_iload_n hx hb dX8_mileOf_12 rfl (lv_at hl 1 rfl) ?_
    refine k_iald (v := mi) hx hb hK hP 0 0 rfl rfl (k_inl (by decide)) pre1 dX8_mileOf_13 ?_
    refine lv_goto (tgt := 18) hx hb dX8_mileOf_14 (by decide) ?_
    exact hRet () [1, 0] rfl hP hD (by decide) rfl hS rfl dX8_mileOf_18
  · (try simp only [zl_0] at h_7); exfalso; omega
set_option maxHeartbeats 4000000 in
set_option maxRecDepth 100000 in
theorem c_X8_tally (l : Launch) (D : va_G) (cI : ClassId) (h k0 k1 k2 k3 k4 k5 k6 k7 k8 : Nat) (sz : Nat) (n : Int32) (g0 : Nat → Int32) (g1 : Nat → Int32) (g2 : Nat → Int32) (g6 : Nat → Int32) (g7 : Nat → Int32) (g8 : Nat → Int32) (mi : Int32) (a : Int32) (sg : Int32) (pre0 : a = 0) (pre1 : g1 0 = mi) (pre2 : 1 ≤ n.toInt) (pre3 : 0 ≤ mi.toInt) (pre4 : mi.toInt ≤ 39) : Met l yX8_tally (gW yX8_tally cX8_tally 5 none) ({ frames := 2, cells := 0, slots := 0, locals := 42 } : Room) (kPre D cI [.ref h, .int 0, .int sg] [(h, .inr (8, [.ref k0, .ref k1, .ref k2, .ref k3, .ref k4, .ref k5, .ref k6, .ref k7, .ref k8, .int n])), (k0, .inl (cI, 60, .inl g0)), (k1, .inl (cI, 60, .inl g1)), (k2, .inl (cI, 60, .inl g2)), (k6, .inl (cI, 40, .inl g6)), (k7, .inl (cI, 40, .inl g7)), (k8, .inl (cI, 40, .inl g8))] sz) (va_Qv (fun (u : Unit) => True) (fun u t => kWd D cI (va_A [(h, .inr (8, [.ref k0, .ref k1, .ref k2, .ref k3, .ref k4, .ref k5, .ref k6, .ref k7, .ref k8, .int n])), (k0, .inl (cI, 60, .inl g0)), (k1, .inl (cI, 60, .inl g1)), (k2, .inl (cI, 60, .inl g2)), (k6, .inl (cI, 40, .inl g6)), (k7, .inl (cI, 40, .inl g7)), (k8, .inl (cI, 40, .inl g8))] sz) [(h, .inr (8, [.ref k0, .ref k1, .ref k2, .ref k3, .ref k4, .ref k5, .ref k6, .ref k7, .ref k8, .int n]))] t) (va_A [(h, .inr (8, [.ref k0, .ref k1, .ref k2, .ref k3, .ref k4, .ref k5, .ref k6, .ref k7, .ref k8, .int n])), (k0, .inl (cI, 60, .inl g0)), (k1, .inl (cI, 60, .inl g1)), (k2, .inl (cI, 60, .inl g2)), (k6, .inl (cI, 40, .inl g6)), (k7, .inl (cI, 40, .inl g7)), (k8, .inl (cI, 40, .inl g8))] sz)) 0 0 (va_A [(h, .inr (8, [.ref k0, .ref k1, .ref k2, .ref k3, .ref k4, .ref k5, .ref k6, .ref k7, .ref k8, .int n])), (k0, .inl (cI, 60, .inl g0)), (k1, .inl (cI, 60, .inl g1)), (k2, .inl (cI, 60, .inl g2)), (k6, .inl (cI, 40, .inl g6)), (k7, .inl (cI, 40, .inl g7)), (k8, .inl (cI, 40, .inl g8))] sz) := by
  refine kMetV (own := RX8) (by decide) rfl (Nat.le_of_ble_eq_true rfl) ?_
  intro p e s m args below meth c hx hb hT hown hname hml A Q hK hP hD hS hA hN hRet ls hl
  subst pre0
  have hl : lv_has ls 5 [(0, .ref h), (1, .int 0), (2, .int sg)] := hl
  have lo_sg := k_lo sg
  have hi_sg := k_hi sg
  have lo_n := k_lo n
  have hi_n := k_hi n
  have lo_mi := k_lo mi
  have hi_mi := k_hi mi
  refine lv_aload_n hx hb dX8_tally_0 rfl (lv_at hl 0 rfl) ?_
  refine lv_iload_n hx hb dX8_tally_1 rfl (lv_at hl 1 rfl) ?_
  refine kJi (wr := [(k0, .inl (cI, 60, .inl g0)), (k2, .inl (cI, 60, .inl g2)), (k6, .inl (cI, 40, .inl g6)), (k7, .inl (cI, 40, .inl g7)), (k8, .inl (cI, 40, .inl g8))]) (va_runV (As := [.int 0]) (rest := []) ⟨hx, hb, hml, hown, hT⟩ (c_X8_mileOf l D cI h k0 k1 k2 k3 k4 k5 k6 k7 k8 s.heap.size n g1 mi 0 (by first | omega | (simp only [zl_0] <;> omega) | decide | assumption | rfl) pre1 (by first | omega | (simp only [zl_0] <;> omega) | decide | assumption | rfl)) (cwV 1 hT (gV_in mw_367 mw_364 mw_365 mw_366 mw_3) rfl rfl rfl (by decide +kernel) ⟨Nat.le_of_ble_eq_true rfl, Nat.le_of_ble_eq_true rfl⟩) (kRecv (own := "") (q0 := 0) (ci := 8) hK hP hD hN rfl rfl [0, 2] rfl (by decide)) rfl rfl hl.1 rfl (lv_room (Nat.le_of_ble_eq_true rfl)) dX8_tally_2 ⟨Nat.le_of_ble_eq_true rfl, Nat.le_of_ble_eq_true rfl⟩) hP hD hS hA [0, 2] [1, 3, 4, 5, 6] rfl rfl (by decide) (by decide) (fun r_1 u_3 H locs w_2 hP hD hS => ?_)
  have hP : va_P D vwCl [(k0, .inl (cI, 60, .inl g0)), (k2, .inl (cI, 60, .inl g2)), (k6, .inl (cI, 40, .inl g6)), (k7, .inl (cI, 40, .inl g7)), (k8, .inl (cI, 40, .inl g8)), (h, .inr (8, [.ref k0, .ref k1, .ref k2, .ref k3, .ref k4, .ref k5, .ref k6, .ref k7, .ref k8, .int n])), (k1, .inl (cI, 60, .inl g1))] H := hP
  have hD : va_D A [(k0, .inl (cI, 60, .inl g0)), (k2, .inl (cI, 60, .inl g2)), (k6, .inl (cI, 40, .inl g6)), (k7, .inl (cI, 40, .inl g7)), (k8, .inl (cI, 40, .inl g8)), (h, .inr (8, [.ref k0, .ref k1, .ref k2, .ref k3, .ref k4, .ref k5, .ref k6, .ref k7, .ref k8, .int n])), (k1, .inl (cI, 60, .inl g1))] := hD
  have hr_1 := w_2
  have hr_1 : r_1 = mi := hr_1
  subst r_1
  refine lv_istore_n (lv' := [(3, .int mi), (0, .ref h), (1, .int 0), (2, .int sg)]) hx hb dX8_tally_5 rfl hl (by decide) rfl (fun ls hl => ?_)
  refine lv_aload_n hx hb dX8_tally_6 rfl (lv_at hl 1 rfl) ?_
  refine lv_iload_n hx hb dX8_tally_7 rfl (lv_at hl 2 rfl) ?_
  refine kJi (wr := [(k0, .inl (cI, 60, .inl g0)), (k2, .inl (cI, 60, .inl g2)), (k6, .inl (cI, 40, .inl g6)), (k7, .inl (cI, 40, .inl g7)), (k8, .inl (cI, 40, .inl g8)), (k1, .inl (cI, 60, .inl g1))]) (va_runV (As := [.int 0]) (rest := []) ⟨hx, hb, hml, hown, hT⟩ (c_X8_has l D cI h k0 k1 k2 k3 k4 k5 k6 k7 k8 H.size n 0) (cwV 1 hT (gV_in mw_371 mw_368 mw_369 mw_370 mw_3) rfl rfl rfl (by decide +kernel) ⟨Nat.le_of_ble_eq_true rfl, Nat.le_of_ble_eq_true rfl⟩) (kRecv (own := "") (q0 := 5) (ci := 8) hK hP hD hN rfl rfl [5] rfl (by decide)) rfl rfl hl.1 rfl (lv_room (Nat.le_of_ble_eq_true rfl)) dX8_tally_8 ⟨Nat.le_of_ble_eq_true rfl, Nat.le_of_ble_eq_true rfl⟩) hP hD hS hA [5] [0, 1, 2, 3, 4, 6] rfl rfl (by decide) (by decide) (fun r_4 u_6 H locs w_5 hP hD hS => ?_)
  have hP : va_P D vwCl [(k0, .inl (cI, 60, .inl g0)), (k2, .inl (cI, 60, .inl g2)), (k6, .inl (cI, 40, .inl g6)), (k7, .inl (cI, 40, .inl g7)), (k8, .inl (cI, 40, .inl g8)), (k1, .inl (cI, 60, .inl g1)), (h, .inr (8, [.ref k0, .ref k1, .ref k2, .ref k3, .ref k4, .ref k5, .ref k6, .ref k7, .ref k8, .int n]))] H := hP
  have hD : va_D A [(k0, .inl (cI, 60, .inl g0)), (k2, .inl (cI, 60, .inl g2)), (k6, .inl (cI, 40, .inl g6)), (k7, .inl (cI, 40, .inl g7)), (k8, .inl (cI, 40, .inl g8)), (k1, .inl (cI, 60, .inl g1)), (h, .inr (8, [.ref k0, .ref k1, .ref k2, .ref k3, .ref k4, .ref k5, .ref k6, .ref k7, .ref k8, .int n]))] := hD
  rcases w_5 with ⟨hr_4, h_7, h_8, h_9⟩ | ⟨hr_4, h_10⟩
  · try simp only [zl_0] at h_7
    try simp only [zl_0] at h_8
    have h_8 : 0 < n.toInt := h_8
    try simp only [zl_0] at h_9
    obtain rfl : r_4 = 1 := hr_4.trans (by decide)
    refine b_if_eq hx hb zl_1 (tgt := 21) dX8_tally_11 (by decide) (fun c_11 => by exfalso; omega) (fun c_11 => ?_)
    refine lv_iload_n hx hb dX8_tally_14 rfl (lv_at hl 0 rfl) ?_
    refine kJi (wr := [(k0, .inl (cI, 60, .inl g0)), (k2, .inl (cI, 60, .inl g2)), (k6, .inl (cI, 40, .inl g6)), (k7, .inl (cI, 40, .inl g7)), (k8, .inl (cI, 40, .inl g8)), (k1, .inl (cI, 60, .inl g1)), (h, .inr (8, [.ref k0, .ref k1, .ref k2, .ref k3, .ref k4, .ref k5, .ref k6, .ref k7, .ref k8, .int n]))]) (va_runSN (As := [.int mi]) (rest := []) ⟨hx, hb, hml, hown, hT⟩ (c_X10_isMile l D cI H.size mi) ⟨va_cnB 1 hT (gW_in mw_346) rfl rfl rfl (hN _ mw_372) (hT _ mw_1) (by decide +kernel) ⟨Nat.le_of_ble_eq_true rfl, Nat.le_of_ble_eq_true rfl⟩, hT _ mw_345, trivial⟩ (kStat hK hP hD hN [] rfl (by decide)) rfl rfl hl.1 rfl (lv_room (Nat.le_of_ble_eq_true rfl)) dX8_tally_15 ⟨Nat.le_of_ble_eq_true rfl, Nat.le_of_ble_eq_true rfl⟩) hP hD hS hA [] [0, 1, 2, 3, 4, 5, 6] rfl rfl (by decide) (by decide) (fun r_12 u_14 H locs w_13 hP hD hS => ?_)
    have hP : va_P D vwCl [(k0, .inl (cI, 60, .inl g0)), (k2, .inl (cI, 60, .inl g2)), (k6, .inl (cI, 40, .inl g6)), (k7, .inl (cI, 40, .inl g7)), (k8, .inl (cI, 40, .inl g8)), (k1, .inl (cI, 60, .inl g1)), (h, .inr (8, [.ref k0, .ref k1, .ref k2, .ref k3, .ref k4, .ref k5, .ref k6, .ref k7, .ref k8, .int n]))] H := hP
    have hD : va_D A [(k0, .inl (cI, 60, .inl g0)), (k2, .inl (cI, 60, .inl g2)), (k6, .inl (cI, 40, .inl g6)), (k7, .inl (cI, 40, .inl g7)), (k8, .inl (cI, 40, .inl g8)), (k1, .inl (cI, 60, .inl g1)), (h, .inr (8, [.ref k0, .ref k1, .ref k2, .ref k3, .ref k4, .ref k5, .ref k6, .ref k7, .ref k8, .int n]))] := hD
    rcases w_13 with ⟨hr_12, h_15, h_16⟩ | ⟨hr_12, h_17⟩
    · have h_15 : 0 ≤ mi.toInt := h_15
      have h_16 : mi.toInt ≤ 39 := h_16
      obtain rfl : r_12 = 1 := hr_12.trans (by decide)
      refine b_if_ne hx hb zl_1 (tgt := 22) dX8_tally_18 (by decide) (fun c_18 => ?_) (fun c_18 => by exfalso; omega)
      refine lv_aload_n hx hb dX8_tally_22 rfl (lv_at hl 1 rfl) ?_
      refine va_get (D := D) (ci := 8) (v := .ref k0) (C := RX8) (T := TX8) (N := 10) hx hb hT giX8 hown hK hP 6 rfl rfl 0 (by decide) (hT (Cond.fieldLink RX8 9 "DesertWire$Works" "kinds" "[I") mw_40) (fun _ h9 => h9) rfl dX8_tally_23 ?_
      refine lv_iload_n hx hb dX8_tally_26 rfl (lv_at hl 2 rfl) ?_
      refine k_iald (v := (g0 0)) hx hb hK hP 0 0 rfl rfl (k_inl (by decide)) rfl dX8_tally_27 ?_
      refine lv_topi (fun v_19 ev_19 => ?_)
      have lo_v_19 := k_lo v_19
      have hi_v_19 := k_hi v_19
      have tv_19 : v_19.toInt = (g0 0).toInt := by rw [ev_19]
      refine lv_istore (lv' := [(4, .int v_19), (3, .int mi), (0, .ref h), (1, .int 0), (2, .int sg)]) hx hb dX8_tally_28 hl (by decide) rfl (fun ls hl => ?_)
      refine lv_iload hx hb dX8_tally_30 (lv_at hl 0 rfl) ?_
      refine kJi (wr := [(k0, .inl (cI, 60, .inl g0)), (k2, .inl (cI, 60, .inl g2)), (k6, .inl (cI, 40, .inl g6)), (k7, .inl (cI, 40, .inl g7)), (k8, .inl (cI, 40, .inl g8)), (k1, .inl (cI, 60, .inl g1)), (h, .inr (8, [.ref k0, .ref k1, .ref k2, .ref k3, .ref k4, .ref k5, .ref k6, .ref k7, .ref k8, .int n]))]) (va_runSN (As := [.int v_19]) (rest := []) ⟨hx, hb, hml, hown, hT⟩ (c_X10_isPole l D cI H.size v_19) ⟨va_cnB 1 hT (gW_in mw_375) rfl rfl rfl (hN _ mw_373) (hT _ mw_1) (by decide +kernel) ⟨Nat.le_of_ble_eq_true rfl, Nat.le_of_ble_eq_true rfl⟩, hT _ mw_374, trivial⟩ (kStat hK hP hD hN [] rfl (by decide)) rfl rfl hl.1 rfl (lv_room (Nat.le_of_ble_eq_true rfl)) dX8_tally_32 ⟨Nat.le_of_ble_eq_true rfl, Nat.le_of_ble_eq_true rfl⟩) hP hD hS hA [] [0, 1, 2, 3, 4, 5, 6] rfl rfl (by decide) (by decide) (fun r_20 u_22 H locs w_21 hP hD hS => ?_)
      have hP : va_P D vwCl [(k0, .inl (cI, 60, .inl g0)), (k2, .inl (cI, 60, .inl g2)), (k6, .inl (cI, 40, .inl g6)), (k7, .inl (cI, 40, .inl g7)), (k8, .inl (cI, 40, .inl g8)), (k1, .inl (cI, 60, .inl g1)), (h, .inr (8, [.ref k0, .ref k1, .ref k2, .ref k3, .ref k4, .ref k5, .ref k6, .ref k7, .ref k8, .int n]))] H := hP
      have hD : va_D A [(k0, .inl (cI, 60, .inl g0)), (k2, .inl (cI, 60, .inl g2)), (k6, .inl (cI, 40, .inl g6)), (k7, .inl (cI, 40, .inl g7)), (k8, .inl (cI, 40, .inl g8)), (k1, .inl (cI, 60, .inl g1)), (h, .inr (8, [.ref k0, .ref k1, .ref k2, .ref k3, .ref k4, .ref k5, .ref k6, .ref k7, .ref k8, .int n]))] := hD
      rcases w_21 with ⟨hr_20, h_23, h_24⟩ | ⟨hr_20, h_25⟩
      · have h_23 : 1 ≤ v_19.toInt := h_23
        have h_24 : v_19.toInt ≤ 3 := h_24
        obtain rfl : r_20 = 1 := hr_20.trans (by decide)
        refine b_if_eq hx hb zl_1 (tgt := 51) dX8_tally_35 (by decide) (fun c_26 => by exfalso; omega) (fun c_26 => ?_)
        refine lv_aload_n hx hb dX8_tally_38 rfl (lv_at hl 2 rfl) ?_
        refine va_get (D := D) (ci := 8) (v := .ref k6) (C := RX8) (T := TX8) (N := 10) hx hb hT giX8 hown hK hP 6 rfl rfl 6 (by decide) (hT (Cond.fieldLink RX8 30 "DesertWire$Works" "poles" "[I") mw_46) (fun _ h9 => h9) rfl dX8_tally_39 ?_
        refine lv_iload_n hx hb dX8_tally_42 rfl (lv_at hl 1 rfl) ?_
        refine lv_dup2_11 hx hb dX8_tally_43 rfl rfl ?_
        refine k_iald (v := (g6 mi.toNatClampNeg)) hx hb hK hP 2 0 rfl rfl (k_in (by omega) (by omega)) rfl dX8_tally_44 ?_
        refine lv_topi (fun v_27 ev_27 => ?_)
        have lo_v_27 := k_lo v_27
        have hi_v_27 := k_hi v_27
        have tv_27 : v_27.toInt = (g6 mi.toNatClampNeg).toInt := by rw [ev_27]
        refine lv_iload_n hx hb dX8_tally_45 rfl (lv_at hl 4 rfl) ?_
        refine lv_iadd hx hb dX8_tally_46 ?_
        refine lv_topi (fun v_28 ev_28 => ?_)
        have lo_v_28 := k_lo v_28
        have hi_v_28 := k_hi v_28
        refine va_iast hx hb hK hP hD hS 2 0 rfl rfl (k_in (by omega) (by omega)) dX8_tally_47 (fun H locs hP hD hS => ?_)
        have hP : va_P D vwCl [(k0, .inl (cI, 60, .inl g0)), (k2, .inl (cI, 60, .inl g2)), (k6, .inl (cI, 40, .inl (upd g6 mi.toNatClampNeg v_28))), (k7, .inl (cI, 40, .inl g7)), (k8, .inl (cI, 40, .inl g8)), (k1, .inl (cI, 60, .inl g1)), (h, .inr (8, [.ref k0, .ref k1, .ref k2, .ref k3, .ref k4, .ref k5, .ref k6, .ref k7, .ref k8, .int n]))] H := hP
        have hD : va_D A [(k0, .inl (cI, 60, .inl g0)), (k2, .inl (cI, 60, .inl g2)), (k6, .inl (cI, 40, .inl (upd g6 mi.toNatClampNeg v_28))), (k7, .inl (cI, 40, .inl g7)), (k8, .inl (cI, 40, .inl g8)), (k1, .inl (cI, 60, .inl g1)), (h, .inr (8, [.ref k0, .ref k1, .ref k2, .ref k3, .ref k4, .ref k5, .ref k6, .ref k7, .ref k8, .int n]))] := hD
        obtain ⟨f_29, ef_29⟩ : ∃ g : Nat → Int32, g = upd g6 mi.toNatClampNeg v_28 := ⟨_, rfl⟩
        rw [← ef_29] at hP hD
        refine lv_goto (tgt := 93) hx hb dX8_tally_48 (by decide) ?_
        exact hRet () [6] trivial hP hD (by decide) rfl hS dX8_tally_93
      · have h_25 : v_19.toInt < 1 ∨ 3 < v_19.toInt := h_25
        obtain rfl : r_20 = 0 := hr_20.trans (by decide)
        refine b_if_eq hx hb zl_0 (tgt := 51) dX8_tally_35 (by decide) (fun c_30 => ?_) (fun c_30 => by exfalso; omega)
        refine lv_iload hx hb dX8_tally_51 (lv_at hl 0 rfl) ?_
        refine lv_iconst (v := 4) hx hb dX8_tally_53 (by decide) ?_
        refine b_icmp_ne hx hb rfl zl_4 (tgt := 77) dX8_tally_54 (by decide) (fun c_31 => ?_) (fun c_31 => ?_)
        · refine lv_iload hx hb dX8_tally_77 (lv_at hl 0 rfl) ?_
          refine lv_iconst (v := 5) hx hb dX8_tally_79 (by decide) ?_
          refine b_icmp_ne hx hb rfl zl_5 (tgt := 93) dX8_tally_80 (by decide) (fun c_32 => ?_) (fun c_32 => ?_)
          · exact hRet () [6] trivial hP hD (by decide) rfl hS dX8_tally_93
          · refine lv_aload_n hx hb dX8_tally_83 rfl (lv_at hl 2 rfl) ?_
            refine va_get (D := D) (ci := 8) (v := .ref k8) (C := RX8) (T := TX8) (N := 10) hx hb hT giX8 hown hK hP 6 rfl rfl 8 (by decide) (hT (Cond.fieldLink RX8 36 "DesertWire$Works" "depots" "[I") mw_48) (fun _ h9 => h9) rfl dX8_tally_84 ?_
            refine lv_iload_n hx hb dX8_tally_87 rfl (lv_at hl 1 rfl) ?_
            refine lv_dup2_11 hx hb dX8_tally_88 rfl rfl ?_
            refine k_iald (v := (g8 mi.toNatClampNeg)) hx hb hK hP 4 0 rfl rfl (k_in (by omega) (by omega)) rfl dX8_tally_89 ?_
            refine lv_topi (fun v_33 ev_33 => ?_)
            have lo_v_33 := k_lo v_33
            have hi_v_33 := k_hi v_33
            have tv_33 : v_33.toInt = (g8 mi.toNatClampNeg).toInt := by rw [ev_33]
            refine lv_iload_n hx hb dX8_tally_90 rfl (lv_at hl 4 rfl) ?_
            refine lv_iadd hx hb dX8_tally_91 ?_
            refine lv_topi (fun v_34 ev_34 => ?_)
            have lo_v_34 := k_lo v_34
            have hi_v_34 := k_hi v_34
            refine va_iast hx hb hK hP hD hS 4 0 rfl rfl (k_in (by omega) (by omega)) dX8_tally_92 (fun H locs hP hD hS => ?_)
            have hP : va_P D vwCl [(k0, .inl (cI, 60, .inl g0)), (k2, .inl (cI, 60, .inl g2)), (k6, .inl (cI, 40, .inl g6)), (k7, .inl (cI, 40, .inl g7)), (k8, .inl (cI, 40, .inl (upd g8 mi.toNatClampNeg v_34))), (k1, .inl (cI, 60, .inl g1)), (h, .inr (8, [.ref k0, .ref k1, .ref k2, .ref k3, .ref k4, .ref k5, .ref k6, .ref k7, .ref k8, .int n]))] H := hP
            have hD : va_D A [(k0, .inl (cI, 60, .inl g0)), (k2, .inl (cI, 60, .inl g2)), (k6, .inl (cI, 40, .inl g6)), (k7, .inl (cI, 40, .inl g7)), (k8, .inl (cI, 40, .inl (upd g8 mi.toNatClampNeg v_34))), (k1, .inl (cI, 60, .inl g1)), (h, .inr (8, [.ref k0, .ref k1, .ref k2, .ref k3, .ref k4, .ref k5, .ref k6, .ref k7, .ref k8, .int n]))] := hD
            obtain ⟨f_35, ef_35⟩ : ∃ g : Nat → Int32, g = upd g8 mi.toNatClampNeg v_34 := ⟨_, rfl⟩
            rw [← ef_35] at hP hD
            exact hRet () [6] trivial hP hD (by decide) rfl hS dX8_tally_93
        · refine lv_aload_n hx hb dX8_tally_57 rfl (lv_at hl 2 rfl) ?_
          refine va_get (D := D) (ci := 8) (v := .ref k7) (C := RX8) (T := TX8) (N := 10) hx hb hT giX8 hown hK hP 6 rfl rfl 7 (by decide) (hT (Cond.fieldLink RX8 33 "DesertWire$Works" "drinks" "[I") mw_47) (fun _ h9 => h9) rfl dX8_tally_58 ?_
          refine lv_iload_n hx hb dX8_tally_61 rfl (lv_at hl 1 rfl) ?_
          refine lv_dup2_11 hx hb dX8_tally_62 rfl rfl ?_
          refine k_iald (v := (g7 mi.toNatClampNeg)) hx hb hK hP 3 0 rfl rfl (k_in (by omega) (by omega)) rfl dX8_tally_63 ?_
          refine lv_topi (fun v_36 ev_36 => ?_)
          have lo_v_36 := k_lo v_36
          have hi_v_36 := k_hi v_36
          have tv_36 : v_36.toInt = (g7 mi.toNatClampNeg).toInt := by rw [ev_36]
          refine lv_iload_n hx hb dX8_tally_64 rfl (lv_at hl 4 rfl) ?_
          refine lv_aload_n hx hb dX8_tally_65 rfl (lv_at hl 2 rfl) ?_
          refine va_get (D := D) (ci := 8) (v := .ref k2) (C := RX8) (T := TX8) (N := 10) hx hb hT giX8 hown hK hP 6 rfl rfl 2 (by decide) (hT (Cond.fieldLink RX8 18 "DesertWire$Works" "sizes" "[I") mw_42) (fun _ h9 => h9) rfl dX8_tally_66 ?_
          refine lv_iload_n hx hb dX8_tally_69 rfl (lv_at hl 3 rfl) ?_
          refine k_iald (v := (g2 0)) hx hb hK hP 1 0 rfl rfl (k_inl (by decide)) rfl dX8_tally_70 ?_
          refine lv_topi (fun v_37 ev_37 => ?_)
          have lo_v_37 := k_lo v_37
          have hi_v_37 := k_hi v_37
          have tv_37 : v_37.toInt = (g2 0).toInt := by rw [ev_37]
          refine lv_imul hx hb dX8_tally_71 ?_
          refine lv_topi (fun v_38 ev_38 => ?_)
          have lo_v_38 := k_lo v_38
          have hi_v_38 := k_hi v_38
          refine lv_iadd hx hb dX8_tally_72 ?_
          refine lv_topi (fun v_39 ev_39 => ?_)
          have lo_v_39 := k_lo v_39
          have hi_v_39 := k_hi v_39
          refine va_iast hx hb hK hP hD hS 3 0 rfl rfl (k_in (by omega) (by omega)) dX8_tally_73 (fun H locs hP hD hS => ?_)
          have hP : va_P D vwCl [(k0, .inl (cI, 60, .inl g0)), (k2, .inl (cI, 60, .inl g2)), (k6, .inl (cI, 40, .inl g6)), (k7, .inl (cI, 40, .inl (upd g7 mi.toNatClampNeg v_39))), (k8, .inl (cI, 40, .inl g8)), (k1, .inl (cI, 60, .inl g1)), (h, .inr (8, [.ref k0, .ref k1, .ref k2, .ref k3, .ref k4, .ref k5, .ref k6, .ref k7, .ref k8, .int n]))] H := hP
          have hD : va_D A [(k0, .inl (cI, 60, .inl g0)), (k2, .inl (cI, 60, .inl g2)), (k6, .inl (cI, 40, .inl g6)), (k7, .inl (cI, 40, .inl (upd g7 mi.toNatClampNeg v_39))), (k8, .inl (cI, 40, .inl g8)), (k1, .inl (cI, 60, .inl g1)), (h, .inr (8, [.ref k0, .ref k1, .ref k2, .ref k3, .ref k4, .ref k5, .ref k6, .ref k7, .ref k8, .int n]))] := hD
          obtain ⟨f_40, ef_40⟩ : ∃ g : Nat → Int32, g = upd g7 mi.toNatClampNeg v_39 := ⟨_, rfl⟩
          rw [← ef_40] at hP hD
          refine lv_goto (tgt := 93) hx hb dX8_tally_74 (by decide) ?_
          exact hRet () [6] trivial hP hD (by decide) rfl hS dX8_tally_93
    · exfalso; omega
  · (try simp only [zl_0] at h_10); exfalso; omega
set_option maxHeartbeats 4000000 in
set_option maxRecDepth 100000 in
theorem c_X8_add (l : Launch) (D : va_G) (cI : ClassId) (h k0 k1 k2 k3 k4 k5 k6 k7 k8 : Nat) (sz : Nat) (g0 : Nat → Int32) (g1 : Nat → Int32) (g2 : Nat → Int32) (g3 : Nat → Int32) (g4 : Nat → Int32) (g5 : Nat → Int32) (g6 : Nat → Int32) (g7 : Nat → Int32) (g8 : Nat → Int32) (kd : Int32) (mi : Int32) (sz_ : Int32) (si : Int32) (pre0 : 0 ≤ mi.toInt) (pre1 : mi.toInt ≤ 39) : Met l yX8_add (gW yX8_add cX8_add 5 (some .int)) ({ frames := 3, cells := 0, slots := 0, locals := 66 } : Room) (kPre D cI [.ref h, .int kd, .int mi, .int sz_, .int si] [(h, .inr (8, [.ref k0, .ref k1, .ref k2, .ref k3, .ref k4, .ref k5, .ref k6, .ref k7, .ref k8, .int 0])), (k0, .inl (cI, 60, .inl g0)), (k1, .inl (cI, 60, .inl g1)), (k2, .inl (cI, 60, .inl g2)), (k3, .inl (cI, 60, .inl g3)), (k4, .inl (cI, 60, .inl g4)), (k5, .inl (cI, 60, .inl g5)), (k6, .inl (cI, 40, .inl g6)), (k7, .inl (cI, 40, .inl g7)), (k8, .inl (cI, 40, .inl g8))] sz) (va_Qi (fun (r : Int32) (u : Unit) => r = 0) (fun u t => kWd D cI (va_A [(h, .inr (8, [.ref k0, .ref k1, .ref k2, .ref k3, .ref k4, .ref k5, .ref k6, .ref k7, .ref k8, .int 0])), (k0, .inl (cI, 60, .inl g0)), (k1, .inl (cI, 60, .inl g1)), (k2, .inl (cI, 60, .inl g2)), (k3, .inl (cI, 60, .inl g3)), (k4, .inl (cI, 60, .inl g4)), (k5, .inl (cI, 60, .inl g5)), (k6, .inl (cI, 40, .inl g6)), (k7, .inl (cI, 40, .inl g7)), (k8, .inl (cI, 40, .inl g8))] sz) [] t) (va_A [(h, .inr (8, [.ref k0, .ref k1, .ref k2, .ref k3, .ref k4, .ref k5, .ref k6, .ref k7, .ref k8, .int 0])), (k0, .inl (cI, 60, .inl g0)), (k1, .inl (cI, 60, .inl g1)), (k2, .inl (cI, 60, .inl g2)), (k3, .inl (cI, 60, .inl g3)), (k4, .inl (cI, 60, .inl g4)), (k5, .inl (cI, 60, .inl g5)), (k6, .inl (cI, 40, .inl g6)), (k7, .inl (cI, 40, .inl g7)), (k8, .inl (cI, 40, .inl g8))] sz)) 0 0 (va_A [(h, .inr (8, [.ref k0, .ref k1, .ref k2, .ref k3, .ref k4, .ref k5, .ref k6, .ref k7, .ref k8, .int 0])), (k0, .inl (cI, 60, .inl g0)), (k1, .inl (cI, 60, .inl g1)), (k2, .inl (cI, 60, .inl g2)), (k3, .inl (cI, 60, .inl g3)), (k4, .inl (cI, 60, .inl g4)), (k5, .inl (cI, 60, .inl g5)), (k6, .inl (cI, 40, .inl g6)), (k7, .inl (cI, 40, .inl g7)), (k8, .inl (cI, 40, .inl g8))] sz) := by
  refine kMetI (own := RX8) (by decide) rfl (Nat.le_of_ble_eq_true rfl) ?_
  intro p e s m args below meth c hx hb hT hown hname hml A Q hK hP hD hS hA hN hRet ls hl
  have hl : lv_has ls 5 [(0, .ref h), (1, .int kd), (2, .int mi), (3, .int sz_), (4, .int si)] := hl
  have lo_kd := k_lo kd
  have hi_kd := k_hi kd
  have lo_mi := k_lo mi
  have hi_mi := k_hi mi
  have lo_sz_ := k_lo sz_
  have hi_sz_ := k_hi sz_
  have lo_si := k_lo si
  have hi_si := k_hi si
  refine lv_aload_n hx hb dX8_add_0 rfl (lv_at hl 0 rfl) ?_
  refine kJi (wr := [(k0, .inl (cI, 60, .inl g0)), (k1, .inl (cI, 60, .inl g1)), (k2, .inl (cI, 60, .inl g2)), (k3, .inl (cI, 60, .inl g3)), (k4, .inl (cI, 60, .inl g4)), (k5, .inl (cI, 60, .inl g5)), (k6, .inl (cI, 40, .inl g6)), (k7, .inl (cI, 40, .inl g7)), (k8, .inl (cI, 40, .inl g8))]) (va_runV (As := []) (rest := []) ⟨hx, hb, hml, hown, hT⟩ (c_X8_hasRoom l D cI h k0 k1 k2 k3 k4 k5 k6 k7 k8 s.heap.size 0) (cwV 0 hT (gV_in mw_354 mw_359 mw_352 mw_353 mw_3) rfl rfl rfl (by decide +kernel) ⟨Nat.le_of_ble_eq_true rfl, Nat.le_of_ble_eq_true rfl⟩) (kRecv (own := "") (q0 := 0) (ci := 8) hK hP hD hN rfl rfl [0] rfl (by decide)) rfl rfl hl.1 rfl (lv_room (Nat.le_of_ble_eq_true rfl)) dX8_add_1 ⟨Nat.le_of_ble_eq_true rfl, Nat.le_of_ble_eq_true rfl⟩) hP hD hS hA [0] [1, 2, 3, 4, 5, 6, 7, 8, 9] rfl rfl (by decide) (by decide) (fun r_1 u_3 H locs w_2 hP hD hS => ?_)
  have hP : va_P D vwCl [(k0, .inl (cI, 60, .inl g0)), (k1, .inl (cI, 60, .inl g1)), (k2, .inl (cI, 60, .inl g2)), (k3, .inl (cI, 60, .inl g3)), (k4, .inl (cI, 60, .inl g4)), (k5, .inl (cI, 60, .inl g5)), (k6, .inl (cI, 40, .inl g6)), (k7, .inl (cI, 40, .inl g7)), (k8, .inl (cI, 40, .inl g8)), (h, .inr (8, [.ref k0, .ref k1, .ref k2, .ref k3, .ref k4, .ref k5, .ref k6, .ref k7, .ref k8, .int 0]))] H := hP
  have hD : va_D A [(k0, .inl (cI, 60, .inl g0)), (k1, .inl (cI, 60, .inl g1)), (k2, .inl (cI, 60, .inl g2)), (k3, .inl (cI, 60, .inl g3)), (k4, .inl (cI, 60, .inl g4)), (k5, .inl (cI, 60, .inl g5)), (k6, .inl (cI, 40, .inl g6)), (k7, .inl (cI, 40, .inl g7)), (k8, .inl (cI, 40, .inl g8)), (h, .inr (8, [.ref k0, .ref k1, .ref k2, .ref k3, .ref k4, .ref k5, .ref k6, .ref k7, .ref k8, .int 0]))] := hD
  rcases w_2 with ⟨hr_1, h_4, h_5⟩ | ⟨hr_1, h_6⟩
  · try simp only [zl_0] at h_4
    try simp only [zl_0] at h_5
    obtain rfl : r_1 = 1 := hr_1.trans (by decide)
    refine b_if_ne hx hb zl_1 (tgt := 9) dX8_add_4 (by decide) (fun c_7 => ?_) (fun c_7 => by exfalso; omega)
    refine lv_aload_n hx hb dX8_add_9 rfl (lv_at hl 0 rfl) ?_
    refine va_get (D := D) (ci := 8) (v := .ref k0) (C := RX8) (T := TX8) (N := 10) hx hb hT giX8 hown hK hP 9 rfl rfl 0 (by decide) (hT (Cond.fieldLink RX8 9 "DesertWire$Works" "kinds" "[I") mw_40) (fun _ h9 => h9) rfl dX8_add_10 ?_
    refine lv_aload_n hx hb dX8_add_13 rfl (lv_at hl 0 rfl) ?_
    refine va_get (D := D) (ci := 8) (v := .int 0) (C := RX8) (T := TX8) (N := 10) hx hb hT giX8 hown hK hP 9 rfl rfl 9 (by decide) (hT (Cond.fieldLink RX8 39 "DesertWire$Works" "number" "I") mw_49) (fun _ h9 => h9) rfl dX8_add_14 ?_
    refine lv_iload_n hx hb dX8_add_17 rfl (lv_at hl 1 rfl) ?_
    refine va_iast hx hb hK hP hD hS 0 0 rfl rfl (k_inl (by decide)) dX8_add_18 (fun H locs hP hD hS => ?_)
    have hP : va_P D vwCl [(k0, .inl (cI, 60, .inl (upd g0 0 kd))), (k1, .inl (cI, 60, .inl g1)), (k2, .inl (cI, 60, .inl g2)), (k3, .inl (cI, 60, .inl g3)), (k4, .inl (cI, 60, .inl g4)), (k5, .inl (cI, 60, .inl g5)), (k6, .inl (cI, 40, .inl g6)), (k7, .inl (cI, 40, .inl g7)), (k8, .inl (cI, 40, .inl g8)), (h, .inr (8, [.ref k0, .ref k1, .ref k2, .ref k3, .ref k4, .ref k5, .ref k6, .ref k7, .ref k8, .int 0]))] H := hP
    have hD : va_D A [(k0, .inl (cI, 60, .inl (upd g0 0 kd))), (k1, .inl (cI, 60, .inl g1)), (k2, .inl (cI, 60, .inl g2)), (k3, .inl (cI, 60, .inl g3)), (k4, .inl (cI, 60, .inl g4)), (k5, .inl (cI, 60, .inl g5)), (k6, .inl (cI, 40, .inl g6)), (k7, .inl (cI, 40, .inl g7)), (k8, .inl (cI, 40, .inl g8)), (h, .inr (8, [.ref k0, .ref k1, .ref k2, .ref k3, .ref k4, .ref k5, .ref k6, .ref k7, .ref k8, .int 0]))] := hD
    obtain ⟨f_8, ef_8⟩ : ∃ g : Nat → Int32, g = upd g0 0 kd := ⟨_, rfl⟩
    rw [← ef_8] at hP hD
    refine lv_aload_n hx hb dX8_add_19 rfl (lv_at hl 0 rfl) ?_
    refine va_get (D := D) (ci := 8) (v := .ref k1) (C := RX8) (T := TX8) (N := 10) hx hb hT giX8 hown hK hP 9 rfl rfl 1 (by decide) (hT (Cond.fieldLink RX8 15 "DesertWire$Works" "miles" "[I") mw_41) (fun _ h9 => h9) rfl dX8_add_20 ?_
    refine lv_aload_n hx hb dX8_add_23 rfl (lv_at hl 0 rfl) ?_
    refine va_get (D := D) (ci := 8) (v := .int 0) (C := RX8) (T := TX8) (N := 10) hx hb hT giX8 hown hK hP 9 rfl rfl 9 (by decide) (hT (Cond.fieldLink RX8 39 "DesertWire$Works" "number" "I") mw_49) (fun _ h9 => h9) rfl dX8_add_24 ?_
    refine lv_iload_n hx hb dX8_add_27 rfl (lv_at hl 2 rfl) ?_
    refine va_iast hx hb hK hP hD hS 1 0 rfl rfl (k_inl (by decide)) dX8_add_28 (fun H locs hP hD hS => ?_)
    have hP : va_P D vwCl [(k0, .inl (cI, 60, .inl f_8)), (k1, .inl (cI, 60, .inl (upd g1 0 mi))), (k2, .inl (cI, 60, .inl g2)), (k3, .inl (cI, 60, .inl g3)), (k4, .inl (cI, 60, .inl g4)), (k5, .inl (cI, 60, .inl g5)), (k6, .inl (cI, 40, .inl g6)), (k7, .inl (cI, 40, .inl g7)), (k8, .inl (cI, 40, .inl g8)), (h, .inr (8, [.ref k0, .ref k1, .ref k2, .ref k3, .ref k4, .ref k5, .ref k6, .ref k7, .ref k8, .int 0]))] H := hP
    have hD : va_D A [(k0, .inl (cI, 60, .inl f_8)), (k1, .inl (cI, 60, .inl (upd g1 0 mi))), (k2, .inl (cI, 60, .inl g2)), (k3, .inl (cI, 60, .inl g3)), (k4, .inl (cI, 60, .inl g4)), (k5, .inl (cI, 60, .inl g5)), (k6, .inl (cI, 40, .inl g6)), (k7, .inl (cI, 40, .inl g7)), (k8, .inl (cI, 40, .inl g8)), (h, .inr (8, [.ref k0, .ref k1, .ref k2, .ref k3, .ref k4, .ref k5, .ref k6, .ref k7, .ref k8, .int 0]))] := hD
    obtain ⟨f_9, ef_9⟩ : ∃ g : Nat → Int32, g = upd g1 0 mi := ⟨_, rfl⟩
    rw [← ef_9] at hP hD
    refine lv_aload_n hx hb dX8_add_29 rfl (lv_at hl 0 rfl) ?_
    refine va_get (D := D) (ci := 8) (v := .ref k2) (C := RX8) (T := TX8) (N := 10) hx hb hT giX8 hown hK hP 9 rfl rfl 2 (by decide) (hT (Cond.fieldLink RX8 18 "DesertWire$Works" "sizes" "[I") mw_42) (fun _ h9 => h9) rfl dX8_add_30 ?_
    refine lv_aload_n hx hb dX8_add_33 rfl (lv_at hl 0 rfl) ?_
    refine va_get (D := D) (ci := 8) (v := .int 0) (C := RX8) (T := TX8) (N := 10) hx hb hT giX8 hown hK hP 9 rfl rfl 9 (by decide) (hT (Cond.fieldLink RX8 39 "DesertWire$Works" "number" "I") mw_49) (fun _ h9 => h9) rfl dX8_add_34 ?_
    refine lv_iload_n hx hb dX8_add_37 rfl (lv_at hl 3 rfl) ?_
    refine va_iast hx hb hK hP hD hS 2 0 rfl rfl (k_inl (by decide)) dX8_add_38 (fun H locs hP hD hS => ?_)
    have hP : va_P D vwCl [(k0, .inl (cI, 60, .inl f_8)), (k1, .inl (cI, 60, .inl f_9)), (k2, .inl (cI, 60, .inl (upd g2 0 sz_))), (k3, .inl (cI, 60, .inl g3)), (k4, .inl (cI, 60, .inl g4)), (k5, .inl (cI, 60, .inl g5)), (k6, .inl (cI, 40, .inl g6)), (k7, .inl (cI, 40, .inl g7)), (k8, .inl (cI, 40, .inl g8)), (h, .inr (8, [.ref k0, .ref k1, .ref k2, .ref k3, .ref k4, .ref k5, .ref k6, .ref k7, .ref k8, .int 0]))] H := hP
    have hD : va_D A [(k0, .inl (cI, 60, .inl f_8)), (k1, .inl (cI, 60, .inl f_9)), (k2, .inl (cI, 60, .inl (upd g2 0 sz_))), (k3, .inl (cI, 60, .inl g3)), (k4, .inl (cI, 60, .inl g4)), (k5, .inl (cI, 60, .inl g5)), (k6, .inl (cI, 40, .inl g6)), (k7, .inl (cI, 40, .inl g7)), (k8, .inl (cI, 40, .inl g8)), (h, .inr (8, [.ref k0, .ref k1, .ref k2, .ref k3, .ref k4, .ref k5, .ref k6, .ref k7, .ref k8, .int 0]))] := hD
    obtain ⟨f_10, ef_10⟩ : ∃ g : Nat → Int32, g = upd g2 0 sz_ := ⟨_, rfl⟩
    rw [← ef_10] at hP hD
    refine lv_aload_n hx hb dX8_add_39 rfl (lv_at hl 0 rfl) ?_
    refine va_get (D := D) (ci := 8) (v := .ref k3) (C := RX8) (T := TX8) (N := 10) hx hb hT giX8 hown hK hP 9 rfl rfl 3 (by decide) (hT (Cond.fieldLink RX8 21 "DesertWire$Works" "sinces" "[I") mw_43) (fun _ h9 => h9) rfl dX8_add_40 ?_
    refine lv_aload_n hx hb dX8_add_43 rfl (lv_at hl 0 rfl) ?_
    refine va_get (D := D) (ci := 8) (v := .int 0) (C := RX8) (T := TX8) (N := 10) hx hb hT giX8 hown hK hP 9 rfl rfl 9 (by decide) (hT (Cond.fieldLink RX8 39 "DesertWire$Works" "number" "I") mw_49) (fun _ h9 => h9) rfl dX8_add_44 ?_
    refine lv_iload hx hb dX8_add_47 (lv_at hl 4 rfl) ?_
    refine va_iast hx hb hK hP hD hS 3 0 rfl rfl (k_inl (by decide)) dX8_add_49 (fun H locs hP hD hS => ?_)
    have hP : va_P D vwCl [(k0, .inl (cI, 60, .inl f_8)), (k1, .inl (cI, 60, .inl f_9)), (k2, .inl (cI, 60, .inl f_10)), (k3, .inl (cI, 60, .inl (upd g3 0 si))), (k4, .inl (cI, 60, .inl g4)), (k5, .inl (cI, 60, .inl g5)), (k6, .inl (cI, 40, .inl g6)), (k7, .inl (cI, 40, .inl g7)), (k8, .inl (cI, 40, .inl g8)), (h, .inr (8, [.ref k0, .ref k1, .ref k2, .ref k3, .ref k4, .ref k5, .ref k6, .ref k7, .ref k8, .int 0]))] H := hP
    have hD : va_D A [(k0, .inl (cI, 60, .inl f_8)), (k1, .inl (cI, 60, .inl f_9)), (k2, .inl (cI, 60, .inl f_10)), (k3, .inl (cI, 60, .inl (upd g3 0 si))), (k4, .inl (cI, 60, .inl g4)), (k5, .inl (cI, 60, .inl g5)), (k6, .inl (cI, 40, .inl g6)), (k7, .inl (cI, 40, .inl g7)), (k8, .inl (cI, 40, .inl g8)), (h, .inr (8, [.ref k0, .ref k1, .ref k2, .ref k3, .ref k4, .ref k5, .ref k6, .ref k7, .ref k8, .int 0]))] := hD
    obtain ⟨f_11, ef_11⟩ : ∃ g : Nat → Int32, g = upd g3 0 si := ⟨_, rfl⟩
    rw [← ef_11] at hP hD
    refine lv_aload_n hx hb dX8_add_50 rfl (lv_at hl 0 rfl) ?_
    refine va_get (D := D) (ci := 8) (v := .ref k4) (C := RX8) (T := TX8) (N := 10) hx hb hT giX8 hown hK hP 9 rfl rfl 4 (by decide) (hT (Cond.fieldLink RX8 24 "DesertWire$Works" "foods" "[I") mw_44) (fun _ h9 => h9) rfl dX8_add_51 ?_
    refine lv_aload_n hx hb dX8_add_54 rfl (lv_at hl 0 rfl) ?_
    refine va_get (D := D) (ci := 8) (v := .int 0) (C := RX8) (T := TX8) (N := 10) hx hb hT giX8 hown hK hP 9 rfl rfl 9 (by decide) (hT (Cond.fieldLink RX8 39 "DesertWire$Works" "number" "I") mw_49) (fun _ h9 => h9) rfl dX8_add_55 ?_
    refine lv_iconst (v := 0) hx hb dX8_add_58 (by decide) ?_
    refine va_iast hx hb hK hP hD hS 4 0 rfl rfl (k_inl (by decide)) dX8_add_59 (fun H locs hP hD hS => ?_)
    have hP : va_P D vwCl [(k0, .inl (cI, 60, .inl f_8)), (k1, .inl (cI, 60, .inl f_9)), (k2, .inl (cI, 60, .inl f_10)), (k3, .inl (cI, 60, .inl f_11)), (k4, .inl (cI, 60, .inl (upd g4 0 0))), (k5, .inl (cI, 60, .inl g5)), (k6, .inl (cI, 40, .inl g6)), (k7, .inl (cI, 40, .inl g7)), (k8, .inl (cI, 40, .inl g8)), (h, .inr (8, [.ref k0, .ref k1, .ref k2, .ref k3, .ref k4, .ref k5, .ref k6, .ref k7, .ref k8, .int 0]))] H := hP
    have hD : va_D A [(k0, .inl (cI, 60, .inl f_8)), (k1, .inl (cI, 60, .inl f_9)), (k2, .inl (cI, 60, .inl f_10)), (k3, .inl (cI, 60, .inl f_11)), (k4, .inl (cI, 60, .inl (upd g4 0 0))), (k5, .inl (cI, 60, .inl g5)), (k6, .inl (cI, 40, .inl g6)), (k7, .inl (cI, 40, .inl g7)), (k8, .inl (cI, 40, .inl g8)), (h, .inr (8, [.ref k0, .ref k1, .ref k2, .ref k3, .ref k4, .ref k5, .ref k6, .ref k7, .ref k8, .int 0]))] := hD
    obtain ⟨f_12, ef_12⟩ : ∃ g : Nat → Int32, g = upd g4 0 0 := ⟨_, rfl⟩
    rw [← ef_12] at hP hD
    refine lv_aload_n hx hb dX8_add_60 rfl (lv_at hl 0 rfl) ?_
    refine va_get (D := D) (ci := 8) (v := .ref k5) (C := RX8) (T := TX8) (N := 10) hx hb hT giX8 hown hK hP 9 rfl rfl 5 (by decide) (hT (Cond.fieldLink RX8 27 "DesertWire$Works" "downs" "[I") mw_45) (fun _ h9 => h9) rfl dX8_add_61 ?_
    refine lv_aload_n hx hb dX8_add_64 rfl (lv_at hl 0 rfl) ?_
    refine va_get (D := D) (ci := 8) (v := .int 0) (C := RX8) (T := TX8) (N := 10) hx hb hT giX8 hown hK hP 9 rfl rfl 9 (by decide) (hT (Cond.fieldLink RX8 39 "DesertWire$Works" "number" "I") mw_49) (fun _ h9 => h9) rfl dX8_add_65 ?_
    refine lv_iconst (v := 0) hx hb dX8_add_68 (by decide) ?_
    refine va_iast hx hb hK hP hD hS 5 0 rfl rfl (k_inl (by decide)) dX8_add_69 (fun H locs hP hD hS => ?_)
    have hP : va_P D vwCl [(k0, .inl (cI, 60, .inl f_8)), (k1, .inl (cI, 60, .inl f_9)), (k2, .inl (cI, 60, .inl f_10)), (k3, .inl (cI, 60, .inl f_11)), (k4, .inl (cI, 60, .inl f_12)), (k5, .inl (cI, 60, .inl (upd g5 0 0))), (k6, .inl (cI, 40, .inl g6)), (k7, .inl (cI, 40, .inl g7)), (k8, .inl (cI, 40, .inl g8)), (h, .inr (8, [.ref k0, .ref k1, .ref k2, .ref k3, .ref k4, .ref k5, .ref k6, .ref k7, .ref k8, .int 0]))] H := hP
    have hD : va_D A [(k0, .inl (cI, 60, .inl f_8)), (k1, .inl (cI, 60, .inl f_9)), (k2, .inl (cI, 60, .inl f_10)), (k3, .inl (cI, 60, .inl f_11)), (k4, .inl (cI, 60, .inl f_12)), (k5, .inl (cI, 60, .inl (upd g5 0 0))), (k6, .inl (cI, 40, .inl g6)), (k7, .inl (cI, 40, .inl g7)), (k8, .inl (cI, 40, .inl g8)), (h, .inr (8, [.ref k0, .ref k1, .ref k2, .ref k3, .ref k4, .ref k5, .ref k6, .ref k7, .ref k8, .int 0]))] := hD
    obtain ⟨f_13, ef_13⟩ : ∃ g : Nat → Int32, g = upd g5 0 0 := ⟨_, rfl⟩
    rw [← ef_13] at hP hD
    refine lv_aload_n hx hb dX8_add_70 rfl (lv_at hl 0 rfl) ?_
    refine lv_dup hx hb dX8_add_71 rfl ?_
    refine va_get (D := D) (ci := 8) (v := .int 0) (C := RX8) (T := TX8) (N := 10) hx hb hT giX8 hown hK hP 9 rfl rfl 9 (by decide) (hT (Cond.fieldLink RX8 39 "DesertWire$Works" "number" "I") mw_49) (fun _ h9 => h9) rfl dX8_add_72 ?_
    refine lv_iconst (v := 1) hx hb dX8_add_75 (by decide) ?_
    refine k_iadd (v := 1) hx hb dX8_add_76 (by decide) ?_
    refine va_put (D := D) (ci := 8) (v := .int 1) (ty := .int) (C := RX8) (T := TX8) (N := 10) hx hb hT giX8 tyX8 tyX8_ok nmX8 hown hK hP hD hS 9 rfl rfl 9 (by decide) (hT (Cond.fieldLink RX8 39 "DesertWire$Works" "number" "I") mw_49) (fun _ h9 => h9) rfl (by decide +kernel) rfl rfl (Nat.le_of_ble_eq_true rfl) dX8_add_77 (fun H locs hP hD hS => ?_)
    have hP : va_P D vwCl [(k0, .inl (cI, 60, .inl f_8)), (k1, .inl (cI, 60, .inl f_9)), (k2, .inl (cI, 60, .inl f_10)), (k3, .inl (cI, 60, .inl f_11)), (k4, .inl (cI, 60, .inl f_12)), (k5, .inl (cI, 60, .inl f_13)), (k6, .inl (cI, 40, .inl g6)), (k7, .inl (cI, 40, .inl g7)), (k8, .inl (cI, 40, .inl g8)), (h, .inr (8, [.ref k0, .ref k1, .ref k2, .ref k3, .ref k4, .ref k5, .ref k6, .ref k7, .ref k8, .int 1]))] H := hP
    have hD : va_D A [(k0, .inl (cI, 60, .inl f_8)), (k1, .inl (cI, 60, .inl f_9)), (k2, .inl (cI, 60, .inl f_10)), (k3, .inl (cI, 60, .inl f_11)), (k4, .inl (cI, 60, .inl f_12)), (k5, .inl (cI, 60, .inl f_13)), (k6, .inl (cI, 40, .inl g6)), (k7, .inl (cI, 40, .inl g7)), (k8, .inl (cI, 40, .inl g8)), (h, .inr (8, [.ref k0, .ref k1, .ref k2, .ref k3, .ref k4, .ref k5, .ref k6, .ref k7, .ref k8, .int 1]))] := hD
    refine lv_aload_n hx hb dX8_add_80 rfl (lv_at hl 0 rfl) ?_
    refine lv_aload_n hx hb dX8_add_81 rfl (lv_at hl 0 rfl) ?_
    refine va_get (D := D) (ci := 8) (v := .int 1) (C := RX8) (T := TX8) (N := 10) hx hb hT giX8 hown hK hP 9 rfl rfl 9 (by decide) (hT (Cond.fieldLink RX8 39 "DesertWire$Works" "number" "I") mw_49) (fun _ h9 => h9) rfl dX8_add_82 ?_
    refine lv_iconst (v := 1) hx hb dX8_add_85 (by decide) ?_
    refine k_isub (v := 0) hx hb dX8_add_86 (by decide) ?_
    refine lv_iconst (v := 1) hx hb dX8_add_87 (by decide) ?_
    refine kJv (wr := [(k3, .inl (cI, 60, .inl f_11)), (k4, .inl (cI, 60, .inl f_12)), (k5, .inl (cI, 60, .inl f_13))]) (va_runV (As := [.int 0, .int 1]) (rest := []) ⟨hx, hb, hml, hown, hT⟩ (c_X8_tally l D cI h k0 k1 k2 k3 k4 k5 k6 k7 k8 H.size 1 f_8 f_9 f_10 g6 g7 g8 mi 0 1 (by first | omega | (simp only [zl_0, zl_1] <;> omega) | decide | assumption | rfl) (by rw [ef_9]; rfl) (by first | omega | (simp only [zl_0, zl_1] <;> omega) | decide | assumption | rfl) (by first | omega | (simp only [zl_0, zl_1] <;> omega) | decide | assumption | rfl) (by first | omega | (simp only [zl_0, zl_1] <;> omega) | decide | assumption | rfl)) (cwV 2 hT (gV_in mw_363 mw_360 mw_362 mw_p1_1 mw_3) rfl rfl rfl (by decide +kernel) ⟨Nat.le_of_ble_eq_true rfl, Nat.le_of_ble_eq_true rfl⟩) (kRecv (own := "") (q0 := 9) (ci := 8) hK hP hD hN rfl rfl [9, 0, 1, 2, 6, 7, 8] rfl (by decide)) rfl rfl hl.1 rfl (lv_room (Nat.le_of_ble_eq_true rfl)) dX8_add_88 ⟨Nat.le_of_ble_eq_true rfl, Nat.le_of_ble_eq_true rfl⟩) hP hD hS hA [9, 0, 1, 2, 6, 7, 8] [3, 4, 5] rfl rfl (by decide) (by decide) (fun u_16 H locs w_15 hP hD hS => ?_)
    have hP : va_P D vwCl [(k3, .inl (cI, 60, .inl f_11)), (k4, .inl (cI, 60, .inl f_12)), (k5, .inl (cI, 60, .inl f_13)), (h, .inr (8, [.ref k0, .ref k1, .ref k2, .ref k3, .ref k4, .ref k5, .ref k6, .ref k7, .ref k8, .int 1]))] H := hP
    have hD : va_D A [(k3, .inl (cI, 60, .inl f_11)), (k4, .inl (cI, 60, .inl f_12)), (k5, .inl (cI, 60, .inl f_13)), (h, .inr (8, [.ref k0, .ref k1, .ref k2, .ref k3, .ref k4, .ref k5, .ref k6, .ref k7, .ref k8, .int 1]))] := hD
    refine lv_aload_n hx hb dX8_add_91 rfl (lv_at hl 0 rfl) ?_
    refine va_get (D := D) (ci := 8) (v := .int 1) (C := RX8) (T := TX8) (N := 10) hx hb hT giX8 hown hK hP 3 rfl rfl 9 (by decide) (hT (Cond.fieldLink RX8 39 "DesertWire$Works" "number" "I") mw_49) (fun _ h9 => h9) rfl dX8_add_92 ?_
    refine lv_iconst (v := 1) hx hb dX8_add_95 (by decide) ?_
    refine k_isub (v := 0) hx hb dX8_add_96 (by decide) ?_
    exact hRet () [] rfl hP hD (by decide) rfl hS rfl dX8_add_97
  · (try simp only [zl_0] at h_6); exfalso; omega
set_option maxHeartbeats 4000000 in
set_option maxRecDepth 100000 in
theorem c_X8_isWired (l : Launch) (D : va_G) (cI : ClassId) (h k0 k1 k2 k3 k4 k5 k6 k7 k8 : Nat) (sz : Nat) (n : Int32) (a : Int32) : Met l yX8_isWired (gW yX8_isWired cX8_isWired 2 (some .boolean)) ({ frames := 1, cells := 0, slots := 0, locals := 20 } : Room) (kPre D cI [.ref h, .int a] [(h, .inr (8, [.ref k0, .ref k1, .ref k2, .ref k3, .ref k4, .ref k5, .ref k6, .ref k7, .ref k8, .int n])), (k6, .inl (cI, 40, .inl (fun _ => (0 : Int32))))] sz) (va_Qi (fun (r : Int32) (u : Unit) => r = 0) (fun u t => kWd D cI (va_A [(h, .inr (8, [.ref k0, .ref k1, .ref k2, .ref k3, .ref k4, .ref k5, .ref k6, .ref k7, .ref k8, .int n])), (k6, .inl (cI, 40, .inl (fun _ => (0 : Int32))))] sz) [(h, .inr (8, [.ref k0, .ref k1, .ref k2, .ref k3, .ref k4, .ref k5, .ref k6, .ref k7, .ref k8, .int n])), (k6, .inl (cI, 40, .inl (fun _ => (0 : Int32))))] t) (va_A [(h, .inr (8, [.ref k0, .ref k1, .ref k2, .ref k3, .ref k4, .ref k5, .ref k6, .ref k7, .ref k8, .int n])), (k6, .inl (cI, 40, .inl (fun _ => (0 : Int32))))] sz)) 0 0 (va_A [(h, .inr (8, [.ref k0, .ref k1, .ref k2, .ref k3, .ref k4, .ref k5, .ref k6, .ref k7, .ref k8, .int n])), (k6, .inl (cI, 40, .inl (fun _ => (0 : Int32))))] sz) := by
  refine kMetI (own := RX8) (by decide) rfl (Nat.le_of_ble_eq_true rfl) ?_
  intro p e s m args below meth c hx hb hT hown hname hml A Q hK hP hD hS hA hN hRet ls hl
  have hl : lv_has ls 2 [(0, .ref h), (1, .int a)] := hl
  have lo_a := k_lo a
  have hi_a := k_hi a
  have lo_n := k_lo n
  have hi_n := k_hi n
  refine lv_iload_n hx hb dX8_isWired_0 rfl (lv_at hl 1 rfl) ?_
  refine kJi (wr := [(h, .inr (8, [.ref k0, .ref k1, .ref k2, .ref k3, .ref k4, .ref k5, .ref k6, .ref k7, .ref k8, .int n])), (k6, .inl (cI, 40, .inl (fun _ => (0 : Int32))))]) (va_runSN (As := [.int a]) (rest := []) ⟨hx, hb, hml, hown, hT⟩ (c_X10_isMile l D cI s.heap.size a) ⟨va_cnB 1 hT (gW_in mw_346) rfl rfl rfl (hN _ mw_372) (hT _ mw_1) (by decide +kernel) ⟨Nat.le_of_ble_eq_true rfl, Nat.le_of_ble_eq_true rfl⟩, hT _ mw_345, trivial⟩ (kStat hK hP hD hN [] rfl (by decide)) rfl rfl hl.1 rfl (lv_room (Nat.le_of_ble_eq_true rfl)) dX8_isWired_1 ⟨Nat.le_of_ble_eq_true rfl, Nat.le_of_ble_eq_true rfl⟩) hP hD hS hA [] [0, 1] rfl rfl (by decide) (by decide) (fun r_1 u_3 H locs w_2 hP hD hS => ?_)
  have hP : va_P D vwCl [(h, .inr (8, [.ref k0, .ref k1, .ref k2, .ref k3, .ref k4, .ref k5, .ref k6, .ref k7, .ref k8, .int n])), (k6, .inl (cI, 40, .inl (fun _ => (0 : Int32))))] H := hP
  have hD : va_D A [(h, .inr (8, [.ref k0, .ref k1, .ref k2, .ref k3, .ref k4, .ref k5, .ref k6, .ref k7, .ref k8, .int n])), (k6, .inl (cI, 40, .inl (fun _ => (0 : Int32))))] := hD
  rcases w_2 with ⟨hr_1, h_4, h_5⟩ | ⟨hr_1, h_6⟩
  · have h_4 : 0 ≤ a.toInt := h_4
    have h_5 : a.toInt ≤ 39 := h_5
    obtain rfl : r_1 = 1 := hr_1.trans (by decide)
    refine b_if_eq hx hb zl_1 (tgt := 20) dX8_isWired_4 (by decide) (fun c_7 => by exfalso; omega) (fun c_7 => ?_)
    refine lv_aload_n hx hb dX8_isWired_7 rfl (lv_at hl 0 rfl) ?_
    refine va_get (D := D) (ci := 8) (v := .ref k6) (C := RX8) (T := TX8) (N := 10) hx hb hT giX8 hown hK hP 0 rfl rfl 6 (by decide) (hT (Cond.fieldLink RX8 30 "DesertWire$Works" "poles" "[I") mw_46) (fun _ h9 => h9) rfl dX8_isWired_8 ?_
    refine lv_iload_n hx hb dX8_isWired_11 rfl (lv_at hl 1 rfl) ?_
    refine k_iald (v := 0) hx hb hK hP 1 0 rfl rfl (k_in (by omega) (by omega)) rfl dX8_isWired_12 ?_
    refine b_if_le hx hb zl_0 (tgt := 20) dX8_isWired_13 (by decide) (fun c_8 => ?_) (fun c_8 => by exfalso; omega)
    refine lv_iconst (v := 0) hx hb dX8_isWired_20 (by decide) ?_
    exact hRet () [0, 1] rfl hP hD (by decide) rfl hS rfl dX8_isWired_21
  · have h_6 : a.toInt < 0 ∨ 39 < a.toInt := h_6
    obtain rfl : r_1 = 0 := hr_1.trans (by decide)
    refine b_if_eq hx hb zl_0 (tgt := 20) dX8_isWired_4 (by decide) (fun c_9 => ?_) (fun c_9 => by exfalso; omega)
    refine lv_iconst (v := 0) hx hb dX8_isWired_20 (by decide) ?_
    exact hRet () [0, 1] rfl hP hD (by decide) rfl hS rfl dX8_isWired_21
set_option maxHeartbeats 4000000 in
set_option maxRecDepth 100000 in
theorem c_X8_isWiredFrom (l : Launch) (D : va_G) (cI : ClassId) (h k0 k1 k2 k3 k4 k5 k6 k7 k8 : Nat) (sz : Nat) (n : Int32) (a : Int32) (b : Int32) (pre0 : 0 ≤ a.toInt) (pre1 : a.toInt ≤ b.toInt) (pre2 : b.toInt ≤ 39) : Met l yX8_isWiredFrom (gW yX8_isWiredFrom cX8_isWiredFrom 4 (some .boolean)) ({ frames := 2, cells := 0, slots := 0, locals := 41 } : Room) (kPre D cI [.ref h, .int a, .int b] [(h, .inr (8, [.ref k0, .ref k1, .ref k2, .ref k3, .ref k4, .ref k5, .ref k6, .ref k7, .ref k8, .int n])), (k6, .inl (cI, 40, .inl (fun _ => (0 : Int32))))] sz) (va_Qi (fun (r : Int32) (u : Unit) => r = 0) (fun u t => kWd D cI (va_A [(h, .inr (8, [.ref k0, .ref k1, .ref k2, .ref k3, .ref k4, .ref k5, .ref k6, .ref k7, .ref k8, .int n])), (k6, .inl (cI, 40, .inl (fun _ => (0 : Int32))))] sz) [(h, .inr (8, [.ref k0, .ref k1, .ref k2, .ref k3, .ref k4, .ref k5, .ref k6, .ref k7, .ref k8, .int n])), (k6, .inl (cI, 40, .inl (fun _ => (0 : Int32))))] t) (va_A [(h, .inr (8, [.ref k0, .ref k1, .ref k2, .ref k3, .ref k4, .ref k5, .ref k6, .ref k7, .ref k8, .int n])), (k6, .inl (cI, 40, .inl (fun _ => (0 : Int32))))] sz)) 0 0 (va_A [(h, .inr (8, [.ref k0, .ref k1, .ref k2, .ref k3, .ref k4, .ref k5, .ref k6, .ref k7, .ref k8, .int n])), (k6, .inl (cI, 40, .inl (fun _ => (0 : Int32))))] sz) := by
  refine kMetI (own := RX8) (by decide) rfl (Nat.le_of_ble_eq_true rfl) ?_
  intro p e s m args below meth c hx hb hT hown hname hml A Q hK hP hD hS hA hN hRet ls hl
  have hl : lv_has ls 4 [(0, .ref h), (1, .int a), (2, .int b)] := hl
  have lo_a := k_lo a
  have hi_a := k_hi a
  have lo_b := k_lo b
  have hi_b := k_hi b
  have lo_n := k_lo n
  have hi_n := k_hi n
  refine lv_iload_n hx hb dX8_isWiredFrom_0 rfl (lv_at hl 1 rfl) ?_
  refine lv_istore_n (lv' := [(3, .int a), (0, .ref h), (1, .int a), (2, .int b)]) hx hb dX8_isWiredFrom_1 rfl hl (by decide) rfl (fun ls hl => ?_)
  refine lv_iload_n hx hb dX8_isWiredFrom_2 rfl (lv_at hl 0 rfl) ?_
  refine lv_iload_n hx hb dX8_isWiredFrom_3 rfl (lv_at hl 3 rfl) ?_
  refine b_icmp_gt hx hb rfl rfl (tgt := 29) dX8_isWiredFrom_4 (by decide) (fun c_1 => by exfalso; omega) (fun c_1 => ?_)
  refine lv_iload_n hx hb dX8_isWiredFrom_7 rfl (lv_at hl 0 rfl) ?_
  refine lv_bipush (v := 40) hx hb dX8_isWiredFrom_8 (by decide) ?_
  refine b_icmp_ge hx hb rfl zl_40 (tgt := 29) dX8_isWiredFrom_10 (by decide) (fun c_2 => by exfalso; omega) (fun c_2 => ?_)
  refine lv_aload_n hx hb dX8_isWiredFrom_13 rfl (lv_at hl 1 rfl) ?_
  refine lv_iload_n hx hb dX8_isWiredFrom_14 rfl (lv_at hl 0 rfl) ?_
  refine kJi (wr := []) (va_runV (As := [.int a]) (rest := []) ⟨hx, hb, hml, hown, hT⟩ (c_X8_isWired l D cI h k0 k1 k2 k3 k4 k5 k6 k7 k8 s.heap.size n a) (cwV 1 hT (gV_in mw_624 mw_1038 mw_622 mw_623 mw_3) rfl rfl rfl (by decide +kernel) ⟨Nat.le_of_ble_eq_true rfl, Nat.le_of_ble_eq_true rfl⟩) (kRecv (own := "") (q0 := 0) (ci := 8) hK hP hD hN rfl rfl [0, 1] rfl (by decide)) rfl rfl hl.1 rfl (lv_room (Nat.le_of_ble_eq_true rfl)) dX8_isWiredFrom_15 ⟨Nat.le_of_ble_eq_true rfl, Nat.le_of_ble_eq_true rfl⟩) hP hD hS hA [0, 1] [] rfl rfl (by decide) (by decide) (fun r_3 u_5 H locs w_4 hP hD hS => ?_)
  have hP : va_P D vwCl [(h, .inr (8, [.ref k0, .ref k1, .ref k2, .ref k3, .ref k4, .ref k5, .ref k6, .ref k7, .ref k8, .int n])), (k6, .inl (cI, 40, .inl (fun _ => (0 : Int32))))] H := hP
  have hD : va_D A [(h, .inr (8, [.ref k0, .ref k1, .ref k2, .ref k3, .ref k4, .ref k5, .ref k6, .ref k7, .ref k8, .int n])), (k6, .inl (cI, 40, .inl (fun _ => (0 : Int32))))] := hD
  have hr_3 := w_4
  obtain rfl : r_3 = 0 := hr_3.trans (by decide)
  refine b_if_ne hx hb zl_0 (tgt := 23) dX8_isWiredFrom_18 (by decide) (fun c_6 => by exfalso; omega) (fun c_6 => ?_)
  refine lv_iconst (v := 0) hx hb dX8_isWiredFrom_21 (by decide) ?_
  exact hRet () [0, 1] rfl hP hD (by decide) rfl hS rfl dX8_isWiredFrom_22
set_option maxHeartbeats 4000000 in
set_option maxRecDepth 100000 in
theorem c_X8_wiredMiles (l : Launch) (D : va_G) (cI : ClassId) (h k0 k1 k2 k3 k4 k5 k6 k7 k8 : Nat) (sz : Nat) (n : Int32) : Met l yX8_wiredMiles (gW yX8_wiredMiles cX8_wiredMiles 3 (some .int)) ({ frames := 0, cells := 0, slots := 0, locals := 0 } : Room) (kPre D cI [.ref h] [(h, .inr (8, [.ref k0, .ref k1, .ref k2, .ref k3, .ref k4, .ref k5, .ref k6, .ref k7, .ref k8, .int n])), (k6, .inl (cI, 40, .inl (fun _ => (0 : Int32))))] sz) (va_Qi (fun (r : Int32) (u : Unit) => r = 0) (fun u t => kWd D cI (va_A [(h, .inr (8, [.ref k0, .ref k1, .ref k2, .ref k3, .ref k4, .ref k5, .ref k6, .ref k7, .ref k8, .int n])), (k6, .inl (cI, 40, .inl (fun _ => (0 : Int32))))] sz) [(h, .inr (8, [.ref k0, .ref k1, .ref k2, .ref k3, .ref k4, .ref k5, .ref k6, .ref k7, .ref k8, .int n])), (k6, .inl (cI, 40, .inl (fun _ => (0 : Int32))))] t) (va_A [(h, .inr (8, [.ref k0, .ref k1, .ref k2, .ref k3, .ref k4, .ref k5, .ref k6, .ref k7, .ref k8, .int n])), (k6, .inl (cI, 40, .inl (fun _ => (0 : Int32))))] sz)) 0 0 (va_A [(h, .inr (8, [.ref k0, .ref k1, .ref k2, .ref k3, .ref k4, .ref k5, .ref k6, .ref k7, .ref k8, .int n])), (k6, .inl (cI, 40, .inl (fun _ => (0 : Int32))))] sz) := by
  refine kMetI (own := RX8) (by decide) rfl (Nat.le_of_ble_eq_true rfl) ?_
  intro p e s m args below meth c hx hb hT hown hname hml A Q hK hP hD hS hA hN hRet ls hl
  have hl : lv_has ls 3 [(0, .ref h)] := hl
  have lo_n := k_lo n
  have hi_n := k_hi n
  refine lv_iconst (v := 0) hx hb dX8_wiredMiles_0 (by decide) ?_
  refine lv_istore_n (lv' := [(1, .int 0), (0, .ref h)]) hx hb dX8_wiredMiles_1 rfl hl (by decide) rfl (fun ls hl => ?_)
  refine lv_iconst (v := 0) hx hb dX8_wiredMiles_2 (by decide) ?_
  refine lv_istore_n (lv' := [(2, .int 0), (1, .int 0), (0, .ref h)]) hx hb dX8_wiredMiles_3 rfl hl (by decide) rfl (fun ls hl => ?_)
  have hloop_4 : ∀ (fu_ : Nat) (i : Int32), 0 ≤ i.toInt → i.toInt ≤ 40 → (40 - i.toInt).toNat < fu_ → ∀ (ls : Array Slot) (H : Heap) (locs : List Loc), lv_has ls 3 [(2, .int i), (1, .int 0), (0, .ref h)] → va_P D vwCl [(h, .inr (8, [.ref k0, .ref k1, .ref k2, .ref k3, .ref k4, .ref k5, .ref k6, .ref k7, .ref k8, .int n])), (k6, .inl (cI, 40, .inl (fun _ => (0 : Int32))))] H → va_D A [(h, .inr (8, [.ref k0, .ref k1, .ref k2, .ref k3, .ref k4, .ref k5, .ref k6, .ref k7, .ref k8, .int n])), (k6, .inl (cI, 40, .inl (fun _ => (0 : Int32))))] → va_S A s.heap H locs → W p l e ({ frames := 0, cells := 0, slots := 0, locals := 0 } : Room) s m args below meth c H locs 0 0 Q (F0 m 4 ls []) := by
    intro fu_; induction fu_ with
    | zero => intro i i4_0 i4_1 hm; exact absurd hm (by omega)
    | succ fu_ ih4 =>
        intro i i4_0 i4_1 hm ls H locs hl hP hD hS
        have lo_i := k_lo i
        have hi_i := k_hi i
        refine lv_iload_n hx hb dX8_wiredMiles_4 rfl (lv_at hl 0 rfl) ?_
        refine lv_bipush (v := 40) hx hb dX8_wiredMiles_5 (by decide) ?_
        refine b_icmp_ge hx hb rfl zl_40 (tgt := 28) dX8_wiredMiles_7 (by decide) (fun c_1 => ?_) (fun c_1 => ?_)
        · refine lv_iload_n hx hb dX8_wiredMiles_28 rfl (lv_at hl 1 rfl) ?_
          exact hRet () [0, 1] rfl hP hD (by decide) rfl hS rfl dX8_wiredMiles_29
        · refine lv_aload_n hx hb dX8_wiredMiles_10 rfl (lv_at hl 2 rfl) ?_
          refine va_get (D := D) (ci := 8) (v := .ref k6) (C := RX8) (T := TX8) (N := 10) hx hb hT giX8 hown hK hP 0 rfl rfl 6 (by decide) (hT (Cond.fieldLink RX8 30 "DesertWire$Works" "poles" "[I") mw_46) (fun _ h9 => h9) rfl dX8_wiredMiles_11 ?_
          refine lv_iload_n hx hb dX8_wiredMiles_14 rfl (lv_at hl 0 rfl) ?_
          refine k_iald (v := 0) hx hb hK hP 1 0 rfl rfl (k_in (by omega) (by omega)) rfl dX8_wiredMiles_15 ?_
          refine b_if_le hx hb zl_0 (tgt := 22) dX8_wiredMiles_16 (by decide) (fun c_2 => ?_) (fun c_2 => by exfalso; omega)
          obtain ⟨v_3, ev_3⟩ : ∃ y : Int32, y = i + 1 := ⟨_, rfl⟩
          have tv_3 : v_3.toInt = i.toInt + 1 := by rw [ev_3]; exact k_addv rfl zl_1 (by omega) (by omega)
          refine lv_iinc (v := v_3) (lv' := [(2, .int v_3), (1, .int 0), (0, .ref h)]) hx hb dX8_wiredMiles_22 hl (k := 0) rfl (by rw [ev_3]; rfl) (by decide) rfl (fun ls hl => ?_)
          refine lv_goto (tgt := 4) hx hb dX8_wiredMiles_25 (by decide) ?_
          exact ih4 v_3 (by first | omega | decide | assumption | rfl) (by first | omega | decide | assumption | rfl) (by omega) ls _ _ (lv_sub hl [0, 1, 2] rfl) (hP.sub [0, 1] rfl) (hD.sub [0, 1] (by decide) rfl) hS
  exact hloop_4 _ 0 (by first | omega | (simp only [zl_0] <;> omega) | decide | assumption | rfl) (by first | omega | (simp only [zl_0] <;> omega) | decide | assumption | rfl) (Nat.lt_succ_self _) ls _ _ (lv_sub hl [0, 1, 2] rfl) hP hD hS
set_option maxHeartbeats 4000000 in
set_option maxRecDepth 100000 in
theorem c_X8_drinkIn (l : Launch) (D : va_G) (cI : ClassId) (h k0 k1 k2 k3 k4 k5 k6 k7 k8 : Nat) (sz : Nat) (n : Int32) (a : Int32) : Met l yX8_drinkIn (gW yX8_drinkIn cX8_drinkIn 2 (some .int)) ({ frames := 1, cells := 0, slots := 0, locals := 20 } : Room) (kPre D cI [.ref h, .int a] [(h, .inr (8, [.ref k0, .ref k1, .ref k2, .ref k3, .ref k4, .ref k5, .ref k6, .ref k7, .ref k8, .int n])), (k7, .inl (cI, 40, .inl (fun _ => (0 : Int32))))] sz) (va_Qi (fun (r : Int32) (u : Unit) => r = 0) (fun u t => kWd D cI (va_A [(h, .inr (8, [.ref k0, .ref k1, .ref k2, .ref k3, .ref k4, .ref k5, .ref k6, .ref k7, .ref k8, .int n])), (k7, .inl (cI, 40, .inl (fun _ => (0 : Int32))))] sz) [(h, .inr (8, [.ref k0, .ref k1, .ref k2, .ref k3, .ref k4, .ref k5, .ref k6, .ref k7, .ref k8, .int n])), (k7, .inl (cI, 40, .inl (fun _ => (0 : Int32))))] t) (va_A [(h, .inr (8, [.ref k0, .ref k1, .ref k2, .ref k3, .ref k4, .ref k5, .ref k6, .ref k7, .ref k8, .int n])), (k7, .inl (cI, 40, .inl (fun _ => (0 : Int32))))] sz)) 0 0 (va_A [(h, .inr (8, [.ref k0, .ref k1, .ref k2, .ref k3, .ref k4, .ref k5, .ref k6, .ref k7, .ref k8, .int n])), (k7, .inl (cI, 40, .inl (fun _ => (0 : Int32))))] sz) := by
  refine kMetI (own := RX8) (by decide) rfl (Nat.le_of_ble_eq_true rfl) ?_
  intro p e s m args below meth c hx hb hT hown hname hml A Q hK hP hD hS hA hN hRet ls hl
  have hl : lv_has ls 2 [(0, .ref h), (1, .int a)] := hl
  have lo_a := k_lo a
  have hi_a := k_hi a
  have lo_n := k_lo n
  have hi_n := k_hi n
  refine lv_iload_n hx hb dX8_drinkIn_0 rfl (lv_at hl 1 rfl) ?_
  refine kJi (wr := [(h, .inr (8, [.ref k0, .ref k1, .ref k2, .ref k3, .ref k4, .ref k5, .ref k6, .ref k7, .ref k8, .int n])), (k7, .inl (cI, 40, .inl (fun _ => (0 : Int32))))]) (va_runSN (As := [.int a]) (rest := []) ⟨hx, hb, hml, hown, hT⟩ (c_X10_isMile l D cI s.heap.size a) ⟨va_cnB 1 hT (gW_in mw_346) rfl rfl rfl (hN _ mw_372) (hT _ mw_1) (by decide +kernel) ⟨Nat.le_of_ble_eq_true rfl, Nat.le_of_ble_eq_true rfl⟩, hT _ mw_345, trivial⟩ (kStat hK hP hD hN [] rfl (by decide)) rfl rfl hl.1 rfl (lv_room (Nat.le_of_ble_eq_true rfl)) dX8_drinkIn_1 ⟨Nat.le_of_ble_eq_true rfl, Nat.le_of_ble_eq_true rfl⟩) hP hD hS hA [] [0, 1] rfl rfl (by decide) (by decide) (fun r_1 u_3 H locs w_2 hP hD hS => ?_)
  have hP : va_P D vwCl [(h, .inr (8, [.ref k0, .ref k1, .ref k2, .ref k3, .ref k4, .ref k5, .ref k6, .ref k7, .ref k8, .int n])), (k7, .inl (cI, 40, .inl (fun _ => (0 : Int32))))] H := hP
  have hD : va_D A [(h, .inr (8, [.ref k0, .ref k1, .ref k2, .ref k3, .ref k4, .ref k5, .ref k6, .ref k7, .ref k8, .int n])), (k7, .inl (cI, 40, .inl (fun _ => (0 : Int32))))] := hD
  rcases w_2 with ⟨hr_1, h_4, h_5⟩ | ⟨hr_1, h_6⟩
  · have h_4 : 0 ≤ a.toInt := h_4
    have h_5 : a.toInt ≤ 39 := h_5
    obtain rfl : r_1 = 1 := hr_1.trans (by decide)
    refine b_if_eq hx hb zl_1 (tgt := 16) dX8_drinkIn_4 (by decide) (fun c_7 => by exfalso; omega) (fun c_7 => ?_)
    refine lv_aload_n hx hb dX8_drinkIn_7 rfl (lv_at hl 0 rfl) ?_
    refine va_get (D := D) (ci := 8) (v := .ref k7) (C := RX8) (T := TX8) (N := 10) hx hb hT giX8 hown hK hP 0 rfl rfl 7 (by decide) (hT (Cond.fieldLink RX8 33 "DesertWire$Works" "drinks" "[I") mw_47) (fun _ h9 => h9) rfl dX8_drinkIn_8 ?_
    refine lv_iload_n hx hb dX8_drinkIn_11 rfl (lv_at hl 1 rfl) ?_
    refine k_iald (v := 0) hx hb hK hP 1 0 rfl rfl (k_in (by omega) (by omega)) rfl dX8_drinkIn_12 ?_
    refine lv_goto (tgt := 17) hx hb dX8_drinkIn_13 (by decide) ?_
    exact hRet () [0, 1] rfl hP hD (by decide) rfl hS rfl dX8_drinkIn_17
  · have h_6 : a.toInt < 0 ∨ 39 < a.toInt := h_6
    obtain rfl : r_1 = 0 := hr_1.trans (by decide)
    refine b_if_eq hx hb zl_0 (tgt := 16) dX8_drinkIn_4 (by decide) (fun c_8 => ?_) (fun c_8 => by exfalso; omega)
    refine lv_iconst (v := 0) hx hb dX8_drinkIn_16 (by decide) ?_
    exact hRet () [0, 1] rfl hP hD (by decide) rfl hS rfl dX8_drinkIn_17
set_option maxHeartbeats 4000000 in
set_option maxRecDepth 100000 in
theorem c_X8_fallen (l : Launch) (D : va_G) (cI : ClassId) (h k0 k1 k2 k3 k4 k5 k6 k7 k8 : Nat) (sz : Nat) : Met l yX8_fallen (gW yX8_fallen cX8_fallen 3 (some .int)) ({ frames := 0, cells := 0, slots := 0, locals := 0 } : Room) (kPre D cI [.ref h] [(h, .inr (8, [.ref k0, .ref k1, .ref k2, .ref k3, .ref k4, .ref k5, .ref k6, .ref k7, .ref k8, .int 0]))] sz) (va_Qi (fun (r : Int32) (u : Unit) => r = 0) (fun u t => kWd D cI (va_A [(h, .inr (8, [.ref k0, .ref k1, .ref k2, .ref k3, .ref k4, .ref k5, .ref k6, .ref k7, .ref k8, .int 0]))] sz) [(h, .inr (8, [.ref k0, .ref k1, .ref k2, .ref k3, .ref k4, .ref k5, .ref k6, .ref k7, .ref k8, .int 0]))] t) (va_A [(h, .inr (8, [.ref k0, .ref k1, .ref k2, .ref k3, .ref k4, .ref k5, .ref k6, .ref k7, .ref k8, .int 0]))] sz)) 0 0 (va_A [(h, .inr (8, [.ref k0, .ref k1, .ref k2, .ref k3, .ref k4, .ref k5, .ref k6, .ref k7, .ref k8, .int 0]))] sz) := by
  refine kMetI (own := RX8) (by decide) rfl (Nat.le_of_ble_eq_true rfl) ?_
  intro p e s m args below meth c hx hb hT hown hname hml A Q hK hP hD hS hA hN hRet ls hl
  have hl : lv_has ls 3 [(0, .ref h)] := hl
  refine lv_iconst (v := 0) hx hb dX8_fallen_0 (by decide) ?_
  refine lv_istore_n (lv' := [(1, .int 0), (0, .ref h)]) hx hb dX8_fallen_1 rfl hl (by decide) rfl (fun ls hl => ?_)
  refine lv_iconst (v := 0) hx hb dX8_fallen_2 (by decide) ?_
  refine lv_istore_n (lv' := [(2, .int 0), (1, .int 0), (0, .ref h)]) hx hb dX8_fallen_3 rfl hl (by decide) rfl (fun ls hl => ?_)
  refine lv_iload_n hx hb dX8_fallen_4 rfl (lv_at hl 0 rfl) ?_
  refine lv_aload_n hx hb dX8_fallen_5 rfl (lv_at hl 2 rfl) ?_
  refine va_get (D := D) (ci := 8) (v := .int 0) (C := RX8) (T := TX8) (N := 10) hx hb hT giX8 hown hK hP 0 rfl rfl 9 (by decide) (hT (Cond.fieldLink RX8 39 "DesertWire$Works" "number" "I") mw_49) (fun _ h9 => h9) rfl dX8_fallen_6 ?_
  refine b_icmp_ge hx hb zl_0 zl_0 (tgt := 33) dX8_fallen_9 (by decide) (fun c_1 => ?_) (fun c_1 => by exfalso; omega)
  refine lv_iload_n hx hb dX8_fallen_33 rfl (lv_at hl 1 rfl) ?_
  exact hRet () [0] rfl hP hD (by decide) rfl hS rfl dX8_fallen_34
set_option maxHeartbeats 4000000 in
set_option maxRecDepth 100000 in
theorem c_X8_stations (l : Launch) (D : va_G) (cI : ClassId) (h k0 k1 k2 k3 k4 k5 k6 k7 k8 : Nat) (sz : Nat) : Met l yX8_stations (gW yX8_stations cX8_stations 3 (some .int)) ({ frames := 0, cells := 0, slots := 0, locals := 0 } : Room) (kPre D cI [.ref h] [(h, .inr (8, [.ref k0, .ref k1, .ref k2, .ref k3, .ref k4, .ref k5, .ref k6, .ref k7, .ref k8, .int 0]))] sz) (va_Qi (fun (r : Int32) (u : Unit) => r = 0) (fun u t => kWd D cI (va_A [(h, .inr (8, [.ref k0, .ref k1, .ref k2, .ref k3, .ref k4, .ref k5, .ref k6, .ref k7, .ref k8, .int 0]))] sz) [(h, .inr (8, [.ref k0, .ref k1, .ref k2, .ref k3, .ref k4, .ref k5, .ref k6, .ref k7, .ref k8, .int 0]))] t) (va_A [(h, .inr (8, [.ref k0, .ref k1, .ref k2, .ref k3, .ref k4, .ref k5, .ref k6, .ref k7, .ref k8, .int 0]))] sz)) 0 0 (va_A [(h, .inr (8, [.ref k0, .ref k1, .ref k2, .ref k3, .ref k4, .ref k5, .ref k6, .ref k7, .ref k8, .int 0]))] sz) := by
  refine kMetI (own := RX8) (by decide) rfl (Nat.le_of_ble_eq_true rfl) ?_
  intro p e s m args below meth c hx hb hT hown hname hml A Q hK hP hD hS hA hN hRet ls hl
  have hl : lv_has ls 3 [(0, .ref h)] := hl
  refine lv_iconst (v := 0) hx hb dX8_stations_0 (by decide) ?_
  refine lv_istore_n (lv' := [(1, .int 0), (0, .ref h)]) hx hb dX8_stations_1 rfl hl (by decide) rfl (fun ls hl => ?_)
  refine lv_iconst (v := 0) hx hb dX8_stations_2 (by decide) ?_
  refine lv_istore_n (lv' := [(2, .int 0), (1, .int 0), (0, .ref h)]) hx hb dX8_stations_3 rfl hl (by decide) rfl (fun ls hl => ?_)
  refine lv_iload_n hx hb dX8_stations_4 rfl (lv_at hl 0 rfl) ?_
  refine lv_aload_n hx hb dX8_stations_5 rfl (lv_at hl 2 rfl) ?_
  refine va_get (D := D) (ci := 8) (v := .int 0) (C := RX8) (T := TX8) (N := 10) hx hb hT giX8 hown hK hP 0 rfl rfl 9 (by decide) (hT (Cond.fieldLink RX8 39 "DesertWire$Works" "number" "I") mw_49) (fun _ h9 => h9) rfl dX8_stations_6 ?_
  refine b_icmp_ge hx hb zl_0 zl_0 (tgt := 46) dX8_stations_9 (by decide) (fun c_1 => ?_) (fun c_1 => by exfalso; omega)
  refine lv_iload_n hx hb dX8_stations_46 rfl (lv_at hl 1 rfl) ?_
  exact hRet () [0] rfl hP hD (by decide) rfl hS rfl dX8_stations_47
set_option maxHeartbeats 4000000 in
set_option maxRecDepth 100000 in
theorem c_X8_storedFood (l : Launch) (D : va_G) (cI : ClassId) (h k0 k1 k2 k3 k4 k5 k6 k7 k8 : Nat) (sz : Nat) : Met l yX8_storedFood (gW yX8_storedFood cX8_storedFood 3 (some .int)) ({ frames := 0, cells := 0, slots := 0, locals := 0 } : Room) (kPre D cI [.ref h] [(h, .inr (8, [.ref k0, .ref k1, .ref k2, .ref k3, .ref k4, .ref k5, .ref k6, .ref k7, .ref k8, .int 0]))] sz) (va_Qi (fun (r : Int32) (u : Unit) => r = 0) (fun u t => kWd D cI (va_A [(h, .inr (8, [.ref k0, .ref k1, .ref k2, .ref k3, .ref k4, .ref k5, .ref k6, .ref k7, .ref k8, .int 0]))] sz) [(h, .inr (8, [.ref k0, .ref k1, .ref k2, .ref k3, .ref k4, .ref k5, .ref k6, .ref k7, .ref k8, .int 0]))] t) (va_A [(h, .inr (8, [.ref k0, .ref k1, .ref k2, .ref k3, .ref k4, .ref k5, .ref k6, .ref k7, .ref k8, .int 0]))] sz)) 0 0 (va_A [(h, .inr (8, [.ref k0, .ref k1, .ref k2, .ref k3, .ref k4, .ref k5, .ref k6, .ref k7, .ref k8, .int 0]))] sz) := by
  refine kMetI (own := RX8) (by decide) rfl (Nat.le_of_ble_eq_true rfl) ?_
  intro p e s m args below meth c hx hb hT hown hname hml A Q hK hP hD hS hA hN hRet ls hl
  have hl : lv_has ls 3 [(0, .ref h)] := hl
  refine lv_iconst (v := 0) hx hb dX8_storedFood_0 (by decide) ?_
  refine lv_istore_n (lv' := [(1, .int 0), (0, .ref h)]) hx hb dX8_storedFood_1 rfl hl (by decide) rfl (fun ls hl => ?_)
  refine lv_iconst (v := 0) hx hb dX8_storedFood_2 (by decide) ?_
  refine lv_istore_n (lv' := [(2, .int 0), (1, .int 0), (0, .ref h)]) hx hb dX8_storedFood_3 rfl hl (by decide) rfl (fun ls hl => ?_)
  refine lv_iload_n hx hb dX8_storedFood_4 rfl (lv_at hl 0 rfl) ?_
  refine lv_aload_n hx hb dX8_storedFood_5 rfl (lv_at hl 2 rfl) ?_
  refine va_get (D := D) (ci := 8) (v := .int 0) (C := RX8) (T := TX8) (N := 10) hx hb hT giX8 hown hK hP 0 rfl rfl 9 (by decide) (hT (Cond.fieldLink RX8 39 "DesertWire$Works" "number" "I") mw_49) (fun _ h9 => h9) rfl dX8_storedFood_6 ?_
  refine b_icmp_ge hx hb zl_0 zl_0 (tgt := 52) dX8_storedFood_9 (by decide) (fun c_1 => ?_) (fun c_1 => by exfalso; omega)
  refine lv_iload_n hx hb dX8_storedFood_52 rfl (lv_at hl 1 rfl) ?_
  exact hRet () [0] rfl hP hD (by decide) rfl hS rfl dX8_storedFood_53
set_option maxHeartbeats 4000000 in
set_option maxRecDepth 100000 in
theorem c_X8_copyFrom (l : Launch) (D : va_G) (cI : ClassId) (h k0 k1 k2 k3 k4 k5 k6 k7 k8 o j0 j1 j2 j3 j4 j5 j6 j7 j8 : Nat) (sz : Nat) (n : Int32) (n2 : Int32) (f0 : Nat → Int32) (f1 : Nat → Int32) (f2 : Nat → Int32) (f3 : Nat → Int32) (f4 : Nat → Int32) (f5 : Nat → Int32) (f6 : Nat → Int32) (f7 : Nat → Int32) (f8 : Nat → Int32) (g0 : Nat → Int32) (g1 : Nat → Int32) (g2 : Nat → Int32) (g3 : Nat → Int32) (g4 : Nat → Int32) (g5 : Nat → Int32) (g6 : Nat → Int32) (g7 : Nat → Int32) (g8 : Nat → Int32) : Met l yX8_copyFrom (gW yX8_copyFrom cX8_copyFrom 2 none) ({ frames := 1, cells := 0, slots := 0, locals := 64 } : Room) (kPre D cI [.ref h, .ref o] [(h, .inr (8, [.ref k0, .ref k1, .ref k2, .ref k3, .ref k4, .ref k5, .ref k6, .ref k7, .ref k8, .int n])), (o, .inr (8, [.ref j0, .ref j1, .ref j2, .ref j3, .ref j4, .ref j5, .ref j6, .ref j7, .ref j8, .int n2])), (k0, .inl (cI, 60, .inl f0)), (k1, .inl (cI, 60, .inl f1)), (k2, .inl (cI, 60, .inl f2)), (k3, .inl (cI, 60, .inl f3)), (k4, .inl (cI, 60, .inl f4)), (k5, .inl (cI, 60, .inl f5)), (k6, .inl (cI, 40, .inl f6)), (k7, .inl (cI, 40, .inl f7)), (k8, .inl (cI, 40, .inl f8)), (j0, .inl (cI, 60, .inl g0)), (j1, .inl (cI, 60, .inl g1)), (j2, .inl (cI, 60, .inl g2)), (j3, .inl (cI, 60, .inl g3)), (j4, .inl (cI, 60, .inl g4)), (j5, .inl (cI, 60, .inl g5)), (j6, .inl (cI, 40, .inl g6)), (j7, .inl (cI, 40, .inl g7)), (j8, .inl (cI, 40, .inl g8))] sz) (va_Qv (fun (u : Unit) => True) (fun u t => kWd D cI (va_A [(h, .inr (8, [.ref k0, .ref k1, .ref k2, .ref k3, .ref k4, .ref k5, .ref k6, .ref k7, .ref k8, .int n])), (o, .inr (8, [.ref j0, .ref j1, .ref j2, .ref j3, .ref j4, .ref j5, .ref j6, .ref j7, .ref j8, .int n2])), (k0, .inl (cI, 60, .inl f0)), (k1, .inl (cI, 60, .inl f1)), (k2, .inl (cI, 60, .inl f2)), (k3, .inl (cI, 60, .inl f3)), (k4, .inl (cI, 60, .inl f4)), (k5, .inl (cI, 60, .inl f5)), (k6, .inl (cI, 40, .inl f6)), (k7, .inl (cI, 40, .inl f7)), (k8, .inl (cI, 40, .inl f8)), (j0, .inl (cI, 60, .inl g0)), (j1, .inl (cI, 60, .inl g1)), (j2, .inl (cI, 60, .inl g2)), (j3, .inl (cI, 60, .inl g3)), (j4, .inl (cI, 60, .inl g4)), (j5, .inl (cI, 60, .inl g5)), (j6, .inl (cI, 40, .inl g6)), (j7, .inl (cI, 40, .inl g7)), (j8, .inl (cI, 40, .inl g8))] sz) [(h, .inr (8, [.ref k0, .ref k1, .ref k2, .ref k3, .ref k4, .ref k5, .ref k6, .ref k7, .ref k8, .int n2])), (o, .inr (8, [.ref j0, .ref j1, .ref j2, .ref j3, .ref j4, .ref j5, .ref j6, .ref j7, .ref j8, .int n2])), (k0, .inl (cI, 60, .inl g0)), (k1, .inl (cI, 60, .inl g1)), (k2, .inl (cI, 60, .inl g2)), (k3, .inl (cI, 60, .inl g3)), (k4, .inl (cI, 60, .inl g4)), (k5, .inl (cI, 60, .inl g5)), (k6, .inl (cI, 40, .inl g6)), (k7, .inl (cI, 40, .inl g7)), (k8, .inl (cI, 40, .inl g8)), (j0, .inl (cI, 60, .inl g0)), (j1, .inl (cI, 60, .inl g1)), (j2, .inl (cI, 60, .inl g2)), (j3, .inl (cI, 60, .inl g3)), (j4, .inl (cI, 60, .inl g4)), (j5, .inl (cI, 60, .inl g5)), (j6, .inl (cI, 40, .inl g6)), (j7, .inl (cI, 40, .inl g7)), (j8, .inl (cI, 40, .inl g8))] t) (va_A [(h, .inr (8, [.ref k0, .ref k1, .ref k2, .ref k3, .ref k4, .ref k5, .ref k6, .ref k7, .ref k8, .int n])), (o, .inr (8, [.ref j0, .ref j1, .ref j2, .ref j3, .ref j4, .ref j5, .ref j6, .ref j7, .ref j8, .int n2])), (k0, .inl (cI, 60, .inl f0)), (k1, .inl (cI, 60, .inl f1)), (k2, .inl (cI, 60, .inl f2)), (k3, .inl (cI, 60, .inl f3)), (k4, .inl (cI, 60, .inl f4)), (k5, .inl (cI, 60, .inl f5)), (k6, .inl (cI, 40, .inl f6)), (k7, .inl (cI, 40, .inl f7)), (k8, .inl (cI, 40, .inl f8)), (j0, .inl (cI, 60, .inl g0)), (j1, .inl (cI, 60, .inl g1)), (j2, .inl (cI, 60, .inl g2)), (j3, .inl (cI, 60, .inl g3)), (j4, .inl (cI, 60, .inl g4)), (j5, .inl (cI, 60, .inl g5)), (j6, .inl (cI, 40, .inl g6)), (j7, .inl (cI, 40, .inl g7)), (j8, .inl (cI, 40, .inl g8))] sz)) 0 0 (va_A [(h, .inr (8, [.ref k0, .ref k1, .ref k2, .ref k3, .ref k4, .ref k5, .ref k6, .ref k7, .ref k8, .int n])), (o, .inr (8, [.ref j0, .ref j1, .ref j2, .ref j3, .ref j4, .ref j5, .ref j6, .ref j7, .ref j8, .int n2])), (k0, .inl (cI, 60, .inl f0)), (k1, .inl (cI, 60, .inl f1)), (k2, .inl (cI, 60, .inl f2)), (k3, .inl (cI, 60, .inl f3)), (k4, .inl (cI, 60, .inl f4)), (k5, .inl (cI, 60, .inl f5)), (k6, .inl (cI, 40, .inl f6)), (k7, .inl (cI, 40, .inl f7)), (k8, .inl (cI, 40, .inl f8)), (j0, .inl (cI, 60, .inl g0)), (j1, .inl (cI, 60, .inl g1)), (j2, .inl (cI, 60, .inl g2)), (j3, .inl (cI, 60, .inl g3)), (j4, .inl (cI, 60, .inl g4)), (j5, .inl (cI, 60, .inl g5)), (j6, .inl (cI, 40, .inl g6)), (j7, .inl (cI, 40, .inl g7)), (j8, .inl (cI, 40, .inl g8))] sz) := by
  refine kMetV (own := RX8) (by decide) rfl (Nat.le_of_ble_eq_true rfl) ?_
  intro p e s m args below meth c hx hb hT hown hname hml A Q hK hP hD hS hA hN hRet ls hl
  have hl : lv_has ls 2 [(0, .ref h), (1, .ref o)] := hl
  have lo_n := k_lo n
  have hi_n := k_hi n
  have lo_n2 := k_lo n2
  have hi_n2 := k_hi n2
  refine lv_aload_n hx hb dX8_copyFrom_0 rfl (lv_at hl 1 rfl) ?_
  refine va_get (D := D) (ci := 8) (v := .ref j0) (C := RX8) (T := TX8) (N := 10) hx hb hT giX8 hown hK hP 1 rfl rfl 0 (by decide) (hT (Cond.fieldLink RX8 9 "DesertWire$Works" "kinds" "[I") mw_40) (fun _ h9 => h9) rfl dX8_copyFrom_1 ?_
  refine lv_iconst (v := 0) hx hb dX8_copyFrom_4 (by decide) ?_
  refine lv_aload_n hx hb dX8_copyFrom_5 rfl (lv_at hl 0 rfl) ?_
  refine va_get (D := D) (ci := 8) (v := .ref k0) (C := RX8) (T := TX8) (N := 10) hx hb hT giX8 hown hK hP 0 rfl rfl 0 (by decide) (hT (Cond.fieldLink RX8 9 "DesertWire$Works" "kinds" "[I") mw_40) (fun _ h9 => h9) rfl dX8_copyFrom_6 ?_
  refine lv_iconst (v := 0) hx hb dX8_copyFrom_9 (by decide) ?_
  refine lv_bipush (v := 60) hx hb dX8_copyFrom_10 (by decide) ?_
  refine k_copy (c0 := cI) (c1 := cI) hx hb (hml.trans hl.1.symm) hown (hT _ mw_1020) (hT _ mw_865) (hT _ mw_864) (hT _ mw_19) hK hP hD hS 11 2 rfl rfl (by decide) (by decide) (Nat.le_of_ble_eq_true rfl) (by decide +kernel) dX8_copyFrom_12 (fun H locs hP hD hS => ?_)
  have hP : va_P D vwCl [(h, .inr (8, [.ref k0, .ref k1, .ref k2, .ref k3, .ref k4, .ref k5, .ref k6, .ref k7, .ref k8, .int n])), (o, .inr (8, [.ref j0, .ref j1, .ref j2, .ref j3, .ref j4, .ref j5, .ref j6, .ref j7, .ref j8, .int n2])), (k0, .inl (cI, 60, .inl g0)), (k1, .inl (cI, 60, .inl f1)), (k2, .inl (cI, 60, .inl f2)), (k3, .inl (cI, 60, .inl f3)), (k4, .inl (cI, 60, .inl f4)), (k5, .inl (cI, 60, .inl f5)), (k6, .inl (cI, 40, .inl f6)), (k7, .inl (cI, 40, .inl f7)), (k8, .inl (cI, 40, .inl f8)), (j0, .inl (cI, 60, .inl g0)), (j1, .inl (cI, 60, .inl g1)), (j2, .inl (cI, 60, .inl g2)), (j3, .inl (cI, 60, .inl g3)), (j4, .inl (cI, 60, .inl g4)), (j5, .inl (cI, 60, .inl g5)), (j6, .inl (cI, 40, .inl g6)), (j7, .inl (cI, 40, .inl g7)), (j8, .inl (cI, 40, .inl g8))] H := hP
  have hD : va_D A [(h, .inr (8, [.ref k0, .ref k1, .ref k2, .ref k3, .ref k4, .ref k5, .ref k6, .ref k7, .ref k8, .int n])), (o, .inr (8, [.ref j0, .ref j1, .ref j2, .ref j3, .ref j4, .ref j5, .ref j6, .ref j7, .ref j8, .int n2])), (k0, .inl (cI, 60, .inl g0)), (k1, .inl (cI, 60, .inl f1)), (k2, .inl (cI, 60, .inl f2)), (k3, .inl (cI, 60, .inl f3)), (k4, .inl (cI, 60, .inl f4)), (k5, .inl (cI, 60, .inl f5)), (k6, .inl (cI, 40, .inl f6)), (k7, .inl (cI, 40, .inl f7)), (k8, .inl (cI, 40, .inl f8)), (j0, .inl (cI, 60, .inl g0)), (j1, .inl (cI, 60, .inl g1)), (j2, .inl (cI, 60, .inl g2)), (j3, .inl (cI, 60, .inl g3)), (j4, .inl (cI, 60, .inl g4)), (j5, .inl (cI, 60, .inl g5)), (j6, .inl (cI, 40, .inl g6)), (j7, .inl (cI, 40, .inl g7)), (j8, .inl (cI, 40, .inl g8))] := hD
  refine lv_aload_n hx hb dX8_copyFrom_15 rfl (lv_at hl 1 rfl) ?_
  refine va_get (D := D) (ci := 8) (v := .ref j1) (C := RX8) (T := TX8) (N := 10) hx hb hT giX8 hown hK hP 1 rfl rfl 1 (by decide) (hT (Cond.fieldLink RX8 15 "DesertWire$Works" "miles" "[I") mw_41) (fun _ h9 => h9) rfl dX8_copyFrom_16 ?_
  refine lv_iconst (v := 0) hx hb dX8_copyFrom_19 (by decide) ?_
  refine lv_aload_n hx hb dX8_copyFrom_20 rfl (lv_at hl 0 rfl) ?_
  refine va_get (D := D) (ci := 8) (v := .ref k1) (C := RX8) (T := TX8) (N := 10) hx hb hT giX8 hown hK hP 0 rfl rfl 1 (by decide) (hT (Cond.fieldLink RX8 15 "DesertWire$Works" "miles" "[I") mw_41) (fun _ h9 => h9) rfl dX8_copyFrom_21 ?_
  refine lv_iconst (v := 0) hx hb dX8_copyFrom_24 (by decide) ?_
  refine lv_bipush (v := 60) hx hb dX8_copyFrom_25 (by decide) ?_
  refine k_copy (c0 := cI) (c1 := cI) hx hb (hml.trans hl.1.symm) hown (hT _ mw_1020) (hT _ mw_865) (hT _ mw_864) (hT _ mw_19) hK hP hD hS 12 3 rfl rfl (by decide) (by decide) (Nat.le_of_ble_eq_true rfl) (by decide +kernel) dX8_copyFrom_27 (fun H locs hP hD hS => ?_)
  have hP : va_P D vwCl [(h, .inr (8, [.ref k0, .ref k1, .ref k2, .ref k3, .ref k4, .ref k5, .ref k6, .ref k7, .ref k8, .int n])), (o, .inr (8, [.ref j0, .ref j1, .ref j2, .ref j3, .ref j4, .ref j5, .ref j6, .ref j7, .ref j8, .int n2])), (k0, .inl (cI, 60, .inl g0)), (k1, .inl (cI, 60, .inl g1)), (k2, .inl (cI, 60, .inl f2)), (k3, .inl (cI, 60, .inl f3)), (k4, .inl (cI, 60, .inl f4)), (k5, .inl (cI, 60, .inl f5)), (k6, .inl (cI, 40, .inl f6)), (k7, .inl (cI, 40, .inl f7)), (k8, .inl (cI, 40, .inl f8)), (j0, .inl (cI, 60, .inl g0)), (j1, .inl (cI, 60, .inl g1)), (j2, .inl (cI, 60, .inl g2)), (j3, .inl (cI, 60, .inl g3)), (j4, .inl (cI, 60, .inl g4)), (j5, .inl (cI, 60, .inl g5)), (j6, .inl (cI, 40, .inl g6)), (j7, .inl (cI, 40, .inl g7)), (j8, .inl (cI, 40, .inl g8))] H := hP
  have hD : va_D A [(h, .inr (8, [.ref k0, .ref k1, .ref k2, .ref k3, .ref k4, .ref k5, .ref k6, .ref k7, .ref k8, .int n])), (o, .inr (8, [.ref j0, .ref j1, .ref j2, .ref j3, .ref j4, .ref j5, .ref j6, .ref j7, .ref j8, .int n2])), (k0, .inl (cI, 60, .inl g0)), (k1, .inl (cI, 60, .inl g1)), (k2, .inl (cI, 60, .inl f2)), (k3, .inl (cI, 60, .inl f3)), (k4, .inl (cI, 60, .inl f4)), (k5, .inl (cI, 60, .inl f5)), (k6, .inl (cI, 40, .inl f6)), (k7, .inl (cI, 40, .inl f7)), (k8, .inl (cI, 40, .inl f8)), (j0, .inl (cI, 60, .inl g0)), (j1, .inl (cI, 60, .inl g1)), (j2, .inl (cI, 60, .inl g2)), (j3, .inl (cI, 60, .inl g3)), (j4, .inl (cI, 60, .inl g4)), (j5, .inl (cI, 60, .inl g5)), (j6, .inl (cI, 40, .inl g6)), (j7, .inl (cI, 40, .inl g7)), (j8, .inl (cI, 40, .inl g8))] := hD
  refine lv_aload_n hx hb dX8_copyFrom_30 rfl (lv_at hl 1 rfl) ?_
  refine va_get (D := D) (ci := 8) (v := .ref j2) (C := RX8) (T := TX8) (N := 10) hx hb hT giX8 hown hK hP 1 rfl rfl 2 (by decide) (hT (Cond.fieldLink RX8 18 "DesertWire$Works" "sizes" "[I") mw_42) (fun _ h9 => h9) rfl dX8_copyFrom_31 ?_
  refine lv_iconst (v := 0) hx hb dX8_copyFrom_34 (by decide) ?_
  refine lv_aload_n hx hb dX8_copyFrom_35 rfl (lv_at hl 0 rfl) ?_
  refine va_get (D := D) (ci := 8) (v := .ref k2) (C := RX8) (T := TX8) (N := 10) hx hb hT giX8 hown hK hP 0 rfl rfl 2 (by decide) (hT (Cond.fieldLink RX8 18 "DesertWire$Works" "sizes" "[I") mw_42) (fun _ h9 => h9) rfl dX8_copyFrom_36 ?_
  refine lv_iconst (v := 0) hx hb dX8_copyFrom_39 (by decide) ?_
  refine lv_bipush (v := 60) hx hb dX8_copyFrom_40 (by decide) ?_
  refine k_copy (c0 := cI) (c1 := cI) hx hb (hml.trans hl.1.symm) hown (hT _ mw_1020) (hT _ mw_865) (hT _ mw_864) (hT _ mw_19) hK hP hD hS 13 4 rfl rfl (by decide) (by decide) (Nat.le_of_ble_eq_true rfl) (by decide +kernel) dX8_copyFrom_42 (fun H locs hP hD hS => ?_)
  have hP : va_P D vwCl [(h, .inr (8, [.ref k0, .ref k1, .ref k2, .ref k3, .ref k4, .ref k5, .ref k6, .ref k7, .ref k8, .int n])), (o, .inr (8, [.ref j0, .ref j1, .ref j2, .ref j3, .ref j4, .ref j5, .ref j6, .ref j7, .ref j8, .int n2])), (k0, .inl (cI, 60, .inl g0)), (k1, .inl (cI, 60, .inl g1)), (k2, .inl (cI, 60, .inl g2)), (k3, .inl (cI, 60, .inl f3)), (k4, .inl (cI, 60, .inl f4)), (k5, .inl (cI, 60, .inl f5)), (k6, .inl (cI, 40, .inl f6)), (k7, .inl (cI, 40, .inl f7)), (k8, .inl (cI, 40, .inl f8)), (j0, .inl (cI, 60, .inl g0)), (j1, .inl (cI, 60, .inl g1)), (j2, .inl (cI, 60, .inl g2)), (j3, .inl (cI, 60, .inl g3)), (j4, .inl (cI, 60, .inl g4)), (j5, .inl (cI, 60, .inl g5)), (j6, .inl (cI, 40, .inl g6)), (j7, .inl (cI, 40, .inl g7)), (j8, .inl (cI, 40, .inl g8))] H := hP
  have hD : va_D A [(h, .inr (8, [.ref k0, .ref k1, .ref k2, .ref k3, .ref k4, .ref k5, .ref k6, .ref k7, .ref k8, .int n])), (o, .inr (8, [.ref j0, .ref j1, .ref j2, .ref j3, .ref j4, .ref j5, .ref j6, .ref j7, .ref j8, .int n2])), (k0, .inl (cI, 60, .inl g0)), (k1, .inl (cI, 60, .inl g1)), (k2, .inl (cI, 60, .inl g2)), (k3, .inl (cI, 60, .inl f3)), (k4, .inl (cI, 60, .inl f4)), (k5, .inl (cI, 60, .inl f5)), (k6, .inl (cI, 40, .inl f6)), (k7, .inl (cI, 40, .inl f7)), (k8, .inl (cI, 40, .inl f8)), (j0, .inl (cI, 60, .inl g0)), (j1, .inl (cI, 60, .inl g1)), (j2, .inl (cI, 60, .inl g2)), (j3, .inl (cI, 60, .inl g3)), (j4, .inl (cI, 60, .inl g4)), (j5, .inl (cI, 60, .inl g5)), (j6, .inl (cI, 40, .inl g6)), (j7, .inl (cI, 40, .inl g7)), (j8, .inl (cI, 40, .inl g8))] := hD
  refine lv_aload_n hx hb dX8_copyFrom_45 rfl (lv_at hl 1 rfl) ?_
  refine va_get (D := D) (ci := 8) (v := .ref j3) (C := RX8) (T := TX8) (N := 10) hx hb hT giX8 hown hK hP 1 rfl rfl 3 (by decide) (hT (Cond.fieldLink RX8 21 "DesertWire$Works" "sinces" "[I") mw_43) (fun _ h9 => h9) rfl dX8_copyFrom_46 ?_
  refine lv_iconst (v := 0) hx hb dX8_copyFrom_49 (by decide) ?_
  refine lv_aload_n hx hb dX8_copyFrom_50 rfl (lv_at hl 0 rfl) ?_
  refine va_get (D := D) (ci := 8) (v := .ref k3) (C := RX8) (T := TX8) (N := 10) hx hb hT giX8 hown hK hP 0 rfl rfl 3 (by decide) (hT (Cond.fieldLink RX8 21 "DesertWire$Works" "sinces" "[I") mw_43) (fun _ h9 => h9) rfl dX8_copyFrom_51 ?_
  refine lv_iconst (v := 0) hx hb dX8_copyFrom_54 (by decide) ?_
  refine lv_bipush (v := 60) hx hb dX8_copyFrom_55 (by decide) ?_
  refine k_copy (c0 := cI) (c1 := cI) hx hb (hml.trans hl.1.symm) hown (hT _ mw_1020) (hT _ mw_865) (hT _ mw_864) (hT _ mw_19) hK hP hD hS 14 5 rfl rfl (by decide) (by decide) (Nat.le_of_ble_eq_true rfl) (by decide +kernel) dX8_copyFrom_57 (fun H locs hP hD hS => ?_)
  have hP : va_P D vwCl [(h, .inr (8, [.ref k0, .ref k1, .ref k2, .ref k3, .ref k4, .ref k5, .ref k6, .ref k7, .ref k8, .int n])), (o, .inr (8, [.ref j0, .ref j1, .ref j2, .ref j3, .ref j4, .ref j5, .ref j6, .ref j7, .ref j8, .int n2])), (k0, .inl (cI, 60, .inl g0)), (k1, .inl (cI, 60, .inl g1)), (k2, .inl (cI, 60, .inl g2)), (k3, .inl (cI, 60, .inl g3)), (k4, .inl (cI, 60, .inl f4)), (k5, .inl (cI, 60, .inl f5)), (k6, .inl (cI, 40, .inl f6)), (k7, .inl (cI, 40, .inl f7)), (k8, .inl (cI, 40, .inl f8)), (j0, .inl (cI, 60, .inl g0)), (j1, .inl (cI, 60, .inl g1)), (j2, .inl (cI, 60, .inl g2)), (j3, .inl (cI, 60, .inl g3)), (j4, .inl (cI, 60, .inl g4)), (j5, .inl (cI, 60, .inl g5)), (j6, .inl (cI, 40, .inl g6)), (j7, .inl (cI, 40, .inl g7)), (j8, .inl (cI, 40, .inl g8))] H := hP
  have hD : va_D A [(h, .inr (8, [.ref k0, .ref k1, .ref k2, .ref k3, .ref k4, .ref k5, .ref k6, .ref k7, .ref k8, .int n])), (o, .inr (8, [.ref j0, .ref j1, .ref j2, .ref j3, .ref j4, .ref j5, .ref j6, .ref j7, .ref j8, .int n2])), (k0, .inl (cI, 60, .inl g0)), (k1, .inl (cI, 60, .inl g1)), (k2, .inl (cI, 60, .inl g2)), (k3, .inl (cI, 60, .inl g3)), (k4, .inl (cI, 60, .inl f4)), (k5, .inl (cI, 60, .inl f5)), (k6, .inl (cI, 40, .inl f6)), (k7, .inl (cI, 40, .inl f7)), (k8, .inl (cI, 40, .inl f8)), (j0, .inl (cI, 60, .inl g0)), (j1, .inl (cI, 60, .inl g1)), (j2, .inl (cI, 60, .inl g2)), (j3, .inl (cI, 60, .inl g3)), (j4, .inl (cI, 60, .inl g4)), (j5, .inl (cI, 60, .inl g5)), (j6, .inl (cI, 40, .inl g6)), (j7, .inl (cI, 40, .inl g7)), (j8, .inl (cI, 40, .inl g8))] := hD
  refine lv_aload_n hx hb dX8_copyFrom_60 rfl (lv_at hl 1 rfl) ?_
  refine va_get (D := D) (ci := 8) (v := .ref j4) (C := RX8) (T := TX8) (N := 10) hx hb hT giX8 hown hK hP 1 rfl rfl 4 (by decide) (hT (Cond.fieldLink RX8 24 "DesertWire$Works" "foods" "[I") mw_44) (fun _ h9 => h9) rfl dX8_copyFrom_61 ?_
  refine lv_iconst (v := 0) hx hb dX8_copyFrom_64 (by decide) ?_
  refine lv_aload_n hx hb dX8_copyFrom_65 rfl (lv_at hl 0 rfl) ?_
  refine va_get (D := D) (ci := 8) (v := .ref k4) (C := RX8) (T := TX8) (N := 10) hx hb hT giX8 hown hK hP 0 rfl rfl 4 (by decide) (hT (Cond.fieldLink RX8 24 "DesertWire$Works" "foods" "[I") mw_44) (fun _ h9 => h9) rfl dX8_copyFrom_66 ?_
  refine lv_iconst (v := 0) hx hb dX8_copyFrom_69 (by decide) ?_
  refine lv_bipush (v := 60) hx hb dX8_copyFrom_70 (by decide) ?_
  refine k_copy (c0 := cI) (c1 := cI) hx hb (hml.trans hl.1.symm) hown (hT _ mw_1020) (hT _ mw_865) (hT _ mw_864) (hT _ mw_19) hK hP hD hS 15 6 rfl rfl (by decide) (by decide) (Nat.le_of_ble_eq_true rfl) (by decide +kernel) dX8_copyFrom_72 (fun H locs hP hD hS => ?_)
  have hP : va_P D vwCl [(h, .inr (8, [.ref k0, .ref k1, .ref k2, .ref k3, .ref k4, .ref k5, .ref k6, .ref k7, .ref k8, .int n])), (o, .inr (8, [.ref j0, .ref j1, .ref j2, .ref j3, .ref j4, .ref j5, .ref j6, .ref j7, .ref j8, .int n2])), (k0, .inl (cI, 60, .inl g0)), (k1, .inl (cI, 60, .inl g1)), (k2, .inl (cI, 60, .inl g2)), (k3, .inl (cI, 60, .inl g3)), (k4, .inl (cI, 60, .inl g4)), (k5, .inl (cI, 60, .inl f5)), (k6, .inl (cI, 40, .inl f6)), (k7, .inl (cI, 40, .inl f7)), (k8, .inl (cI, 40, .inl f8)), (j0, .inl (cI, 60, .inl g0)), (j1, .inl (cI, 60, .inl g1)), (j2, .inl (cI, 60, .inl g2)), (j3, .inl (cI, 60, .inl g3)), (j4, .inl (cI, 60, .inl g4)), (j5, .inl (cI, 60, .inl g5)), (j6, .inl (cI, 40, .inl g6)), (j7, .inl (cI, 40, .inl g7)), (j8, .inl (cI, 40, .inl g8))] H := hP
  have hD : va_D A [(h, .inr (8, [.ref k0, .ref k1, .ref k2, .ref k3, .ref k4, .ref k5, .ref k6, .ref k7, .ref k8, .int n])), (o, .inr (8, [.ref j0, .ref j1, .ref j2, .ref j3, .ref j4, .ref j5, .ref j6, .ref j7, .ref j8, .int n2])), (k0, .inl (cI, 60, .inl g0)), (k1, .inl (cI, 60, .inl g1)), (k2, .inl (cI, 60, .inl g2)), (k3, .inl (cI, 60, .inl g3)), (k4, .inl (cI, 60, .inl g4)), (k5, .inl (cI, 60, .inl f5)), (k6, .inl (cI, 40, .inl f6)), (k7, .inl (cI, 40, .inl f7)), (k8, .inl (cI, 40, .inl f8)), (j0, .inl (cI, 60, .inl g0)), (j1, .inl (cI, 60, .inl g1)), (j2, .inl (cI, 60, .inl g2)), (j3, .inl (cI, 60, .inl g3)), (j4, .inl (cI, 60, .inl g4)), (j5, .inl (cI, 60, .inl g5)), (j6, .inl (cI, 40, .inl g6)), (j7, .inl (cI, 40, .inl g7)), (j8, .inl (cI, 40, .inl g8))] := hD
  refine lv_aload_n hx hb dX8_copyFrom_75 rfl (lv_at hl 1 rfl) ?_
  refine va_get (D := D) (ci := 8) (v := .ref j5) (C := RX8) (T := TX8) (N := 10) hx hb hT giX8 hown hK hP 1 rfl rfl 5 (by decide) (hT (Cond.fieldLink RX8 27 "DesertWire$Works" "downs" "[I") mw_45) (fun _ h9 => h9) rfl dX8_copyFrom_76 ?_
  refine lv_iconst (v := 0) hx hb dX8_copyFrom_79 (by decide) ?_
  refine lv_aload_n hx hb dX8_copyFrom_80 rfl (lv_at hl 0 rfl) ?_
  refine va_get (D := D) (ci := 8) (v := .ref k5) (C := RX8) (T := TX8) (N := 10) hx hb hT giX8 hown hK hP 0 rfl rfl 5 (by decide) (hT (Cond.fieldLink RX8 27 "DesertWire$Works" "downs" "[I") mw_45) (fun _ h9 => h9) rfl dX8_copyFrom_81 ?_
  refine lv_iconst (v := 0) hx hb dX8_copyFrom_84 (by decide) ?_
  refine lv_bipush (v := 60) hx hb dX8_copyFrom_85 (by decide) ?_
  refine k_copy (c0 := cI) (c1 := cI) hx hb (hml.trans hl.1.symm) hown (hT _ mw_1020) (hT _ mw_865) (hT _ mw_864) (hT _ mw_19) hK hP hD hS 16 7 rfl rfl (by decide) (by decide) (Nat.le_of_ble_eq_true rfl) (by decide +kernel) dX8_copyFrom_87 (fun H locs hP hD hS => ?_)
  have hP : va_P D vwCl [(h, .inr (8, [.ref k0, .ref k1, .ref k2, .ref k3, .ref k4, .ref k5, .ref k6, .ref k7, .ref k8, .int n])), (o, .inr (8, [.ref j0, .ref j1, .ref j2, .ref j3, .ref j4, .ref j5, .ref j6, .ref j7, .ref j8, .int n2])), (k0, .inl (cI, 60, .inl g0)), (k1, .inl (cI, 60, .inl g1)), (k2, .inl (cI, 60, .inl g2)), (k3, .inl (cI, 60, .inl g3)), (k4, .inl (cI, 60, .inl g4)), (k5, .inl (cI, 60, .inl g5)), (k6, .inl (cI, 40, .inl f6)), (k7, .inl (cI, 40, .inl f7)), (k8, .inl (cI, 40, .inl f8)), (j0, .inl (cI, 60, .inl g0)), (j1, .inl (cI, 60, .inl g1)), (j2, .inl (cI, 60, .inl g2)), (j3, .inl (cI, 60, .inl g3)), (j4, .inl (cI, 60, .inl g4)), (j5, .inl (cI, 60, .inl g5)), (j6, .inl (cI, 40, .inl g6)), (j7, .inl (cI, 40, .inl g7)), (j8, .inl (cI, 40, .inl g8))] H := hP
  have hD : va_D A [(h, .inr (8, [.ref k0, .ref k1, .ref k2, .ref k3, .ref k4, .ref k5, .ref k6, .ref k7, .ref k8, .int n])), (o, .inr (8, [.ref j0, .ref j1, .ref j2, .ref j3, .ref j4, .ref j5, .ref j6, .ref j7, .ref j8, .int n2])), (k0, .inl (cI, 60, .inl g0)), (k1, .inl (cI, 60, .inl g1)), (k2, .inl (cI, 60, .inl g2)), (k3, .inl (cI, 60, .inl g3)), (k4, .inl (cI, 60, .inl g4)), (k5, .inl (cI, 60, .inl g5)), (k6, .inl (cI, 40, .inl f6)), (k7, .inl (cI, 40, .inl f7)), (k8, .inl (cI, 40, .inl f8)), (j0, .inl (cI, 60, .inl g0)), (j1, .inl (cI, 60, .inl g1)), (j2, .inl (cI, 60, .inl g2)), (j3, .inl (cI, 60, .inl g3)), (j4, .inl (cI, 60, .inl g4)), (j5, .inl (cI, 60, .inl g5)), (j6, .inl (cI, 40, .inl g6)), (j7, .inl (cI, 40, .inl g7)), (j8, .inl (cI, 40, .inl g8))] := hD
  refine lv_aload_n hx hb dX8_copyFrom_90 rfl (lv_at hl 1 rfl) ?_
  refine va_get (D := D) (ci := 8) (v := .ref j6) (C := RX8) (T := TX8) (N := 10) hx hb hT giX8 hown hK hP 1 rfl rfl 6 (by decide) (hT (Cond.fieldLink RX8 30 "DesertWire$Works" "poles" "[I") mw_46) (fun _ h9 => h9) rfl dX8_copyFrom_91 ?_
  refine lv_iconst (v := 0) hx hb dX8_copyFrom_94 (by decide) ?_
  refine lv_aload_n hx hb dX8_copyFrom_95 rfl (lv_at hl 0 rfl) ?_
  refine va_get (D := D) (ci := 8) (v := .ref k6) (C := RX8) (T := TX8) (N := 10) hx hb hT giX8 hown hK hP 0 rfl rfl 6 (by decide) (hT (Cond.fieldLink RX8 30 "DesertWire$Works" "poles" "[I") mw_46) (fun _ h9 => h9) rfl dX8_copyFrom_96 ?_
  refine lv_iconst (v := 0) hx hb dX8_copyFrom_99 (by decide) ?_
  refine lv_bipush (v := 40) hx hb dX8_copyFrom_100 (by decide) ?_
  refine k_copy (c0 := cI) (c1 := cI) hx hb (hml.trans hl.1.symm) hown (hT _ mw_1020) (hT _ mw_865) (hT _ mw_864) (hT _ mw_19) hK hP hD hS 17 8 rfl rfl (by decide) (by decide) (Nat.le_of_ble_eq_true rfl) (by decide +kernel) dX8_copyFrom_102 (fun H locs hP hD hS => ?_)
  have hP : va_P D vwCl [(h, .inr (8, [.ref k0, .ref k1, .ref k2, .ref k3, .ref k4, .ref k5, .ref k6, .ref k7, .ref k8, .int n])), (o, .inr (8, [.ref j0, .ref j1, .ref j2, .ref j3, .ref j4, .ref j5, .ref j6, .ref j7, .ref j8, .int n2])), (k0, .inl (cI, 60, .inl g0)), (k1, .inl (cI, 60, .inl g1)), (k2, .inl (cI, 60, .inl g2)), (k3, .inl (cI, 60, .inl g3)), (k4, .inl (cI, 60, .inl g4)), (k5, .inl (cI, 60, .inl g5)), (k6, .inl (cI, 40, .inl g6)), (k7, .inl (cI, 40, .inl f7)), (k8, .inl (cI, 40, .inl f8)), (j0, .inl (cI, 60, .inl g0)), (j1, .inl (cI, 60, .inl g1)), (j2, .inl (cI, 60, .inl g2)), (j3, .inl (cI, 60, .inl g3)), (j4, .inl (cI, 60, .inl g4)), (j5, .inl (cI, 60, .inl g5)), (j6, .inl (cI, 40, .inl g6)), (j7, .inl (cI, 40, .inl g7)), (j8, .inl (cI, 40, .inl g8))] H := hP
  have hD : va_D A [(h, .inr (8, [.ref k0, .ref k1, .ref k2, .ref k3, .ref k4, .ref k5, .ref k6, .ref k7, .ref k8, .int n])), (o, .inr (8, [.ref j0, .ref j1, .ref j2, .ref j3, .ref j4, .ref j5, .ref j6, .ref j7, .ref j8, .int n2])), (k0, .inl (cI, 60, .inl g0)), (k1, .inl (cI, 60, .inl g1)), (k2, .inl (cI, 60, .inl g2)), (k3, .inl (cI, 60, .inl g3)), (k4, .inl (cI, 60, .inl g4)), (k5, .inl (cI, 60, .inl g5)), (k6, .inl (cI, 40, .inl g6)), (k7, .inl (cI, 40, .inl f7)), (k8, .inl (cI, 40, .inl f8)), (j0, .inl (cI, 60, .inl g0)), (j1, .inl (cI, 60, .inl g1)), (j2, .inl (cI, 60, .inl g2)), (j3, .inl (cI, 60, .inl g3)), (j4, .inl (cI, 60, .inl g4)), (j5, .inl (cI, 60, .inl g5)), (j6, .inl (cI, 40, .inl g6)), (j7, .inl (cI, 40, .inl g7)), (j8, .inl (cI, 40, .inl g8))] := hD
  refine lv_aload_n hx hb dX8_copyFrom_105 rfl (lv_at hl 1 rfl) ?_
  refine va_get (D := D) (ci := 8) (v := .ref j7) (C := RX8) (T := TX8) (N := 10) hx hb hT giX8 hown hK hP 1 rfl rfl 7 (by decide) (hT (Cond.fieldLink RX8 33 "DesertWire$Works" "drinks" "[I") mw_47) (fun _ h9 => h9) rfl dX8_copyFrom_106 ?_
  refine lv_iconst (v := 0) hx hb dX8_copyFrom_109 (by decide) ?_
  refine lv_aload_n hx hb dX8_copyFrom_110 rfl (lv_at hl 0 rfl) ?_
  refine va_get (D := D) (ci := 8) (v := .ref k7) (C := RX8) (T := TX8) (N := 10) hx hb hT giX8 hown hK hP 0 rfl rfl 7 (by decide) (hT (Cond.fieldLink RX8 33 "DesertWire$Works" "drinks" "[I") mw_47) (fun _ h9 => h9) rfl dX8_copyFrom_111 ?_
  refine lv_iconst (v := 0) hx hb dX8_copyFrom_114 (by decide) ?_
  refine lv_bipush (v := 40) hx hb dX8_copyFrom_115 (by decide) ?_
  refine k_copy (c0 := cI) (c1 := cI) hx hb (hml.trans hl.1.symm) hown (hT _ mw_1020) (hT _ mw_865) (hT _ mw_864) (hT _ mw_19) hK hP hD hS 18 9 rfl rfl (by decide) (by decide) (Nat.le_of_ble_eq_true rfl) (by decide +kernel) dX8_copyFrom_117 (fun H locs hP hD hS => ?_)
  have hP : va_P D vwCl [(h, .inr (8, [.ref k0, .ref k1, .ref k2, .ref k3, .ref k4, .ref k5, .ref k6, .ref k7, .ref k8, .int n])), (o, .inr (8, [.ref j0, .ref j1, .ref j2, .ref j3, .ref j4, .ref j5, .ref j6, .ref j7, .ref j8, .int n2])), (k0, .inl (cI, 60, .inl g0)), (k1, .inl (cI, 60, .inl g1)), (k2, .inl (cI, 60, .inl g2)), (k3, .inl (cI, 60, .inl g3)), (k4, .inl (cI, 60, .inl g4)), (k5, .inl (cI, 60, .inl g5)), (k6, .inl (cI, 40, .inl g6)), (k7, .inl (cI, 40, .inl g7)), (k8, .inl (cI, 40, .inl f8)), (j0, .inl (cI, 60, .inl g0)), (j1, .inl (cI, 60, .inl g1)), (j2, .inl (cI, 60, .inl g2)), (j3, .inl (cI, 60, .inl g3)), (j4, .inl (cI, 60, .inl g4)), (j5, .inl (cI, 60, .inl g5)), (j6, .inl (cI, 40, .inl g6)), (j7, .inl (cI, 40, .inl g7)), (j8, .inl (cI, 40, .inl g8))] H := hP
  have hD : va_D A [(h, .inr (8, [.ref k0, .ref k1, .ref k2, .ref k3, .ref k4, .ref k5, .ref k6, .ref k7, .ref k8, .int n])), (o, .inr (8, [.ref j0, .ref j1, .ref j2, .ref j3, .ref j4, .ref j5, .ref j6, .ref j7, .ref j8, .int n2])), (k0, .inl (cI, 60, .inl g0)), (k1, .inl (cI, 60, .inl g1)), (k2, .inl (cI, 60, .inl g2)), (k3, .inl (cI, 60, .inl g3)), (k4, .inl (cI, 60, .inl g4)), (k5, .inl (cI, 60, .inl g5)), (k6, .inl (cI, 40, .inl g6)), (k7, .inl (cI, 40, .inl g7)), (k8, .inl (cI, 40, .inl f8)), (j0, .inl (cI, 60, .inl g0)), (j1, .inl (cI, 60, .inl g1)), (j2, .inl (cI, 60, .inl g2)), (j3, .inl (cI, 60, .inl g3)), (j4, .inl (cI, 60, .inl g4)), (j5, .inl (cI, 60, .inl g5)), (j6, .inl (cI, 40, .inl g6)), (j7, .inl (cI, 40, .inl g7)), (j8, .inl (cI, 40, .inl g8))] := hD
  refine lv_aload_n hx hb dX8_copyFrom_120 rfl (lv_at hl 1 rfl) ?_
  refine va_get (D := D) (ci := 8) (v := .ref j8) (C := RX8) (T := TX8) (N := 10) hx hb hT giX8 hown hK hP 1 rfl rfl 8 (by decide) (hT (Cond.fieldLink RX8 36 "DesertWire$Works" "depots" "[I") mw_48) (fun _ h9 => h9) rfl dX8_copyFrom_121 ?_
  refine lv_iconst (v := 0) hx hb dX8_copyFrom_124 (by decide) ?_
  refine lv_aload_n hx hb dX8_copyFrom_125 rfl (lv_at hl 0 rfl) ?_
  refine va_get (D := D) (ci := 8) (v := .ref k8) (C := RX8) (T := TX8) (N := 10) hx hb hT giX8 hown hK hP 0 rfl rfl 8 (by decide) (hT (Cond.fieldLink RX8 36 "DesertWire$Works" "depots" "[I") mw_48) (fun _ h9 => h9) rfl dX8_copyFrom_126 ?_
  refine lv_iconst (v := 0) hx hb dX8_copyFrom_129 (by decide) ?_
  refine lv_bipush (v := 40) hx hb dX8_copyFrom_130 (by decide) ?_
  refine k_copy (c0 := cI) (c1 := cI) hx hb (hml.trans hl.1.symm) hown (hT _ mw_1020) (hT _ mw_865) (hT _ mw_864) (hT _ mw_19) hK hP hD hS 19 10 rfl rfl (by decide) (by decide) (Nat.le_of_ble_eq_true rfl) (by decide +kernel) dX8_copyFrom_132 (fun H locs hP hD hS => ?_)
  have hP : va_P D vwCl [(h, .inr (8, [.ref k0, .ref k1, .ref k2, .ref k3, .ref k4, .ref k5, .ref k6, .ref k7, .ref k8, .int n])), (o, .inr (8, [.ref j0, .ref j1, .ref j2, .ref j3, .ref j4, .ref j5, .ref j6, .ref j7, .ref j8, .int n2])), (k0, .inl (cI, 60, .inl g0)), (k1, .inl (cI, 60, .inl g1)), (k2, .inl (cI, 60, .inl g2)), (k3, .inl (cI, 60, .inl g3)), (k4, .inl (cI, 60, .inl g4)), (k5, .inl (cI, 60, .inl g5)), (k6, .inl (cI, 40, .inl g6)), (k7, .inl (cI, 40, .inl g7)), (k8, .inl (cI, 40, .inl g8)), (j0, .inl (cI, 60, .inl g0)), (j1, .inl (cI, 60, .inl g1)), (j2, .inl (cI, 60, .inl g2)), (j3, .inl (cI, 60, .inl g3)), (j4, .inl (cI, 60, .inl g4)), (j5, .inl (cI, 60, .inl g5)), (j6, .inl (cI, 40, .inl g6)), (j7, .inl (cI, 40, .inl g7)), (j8, .inl (cI, 40, .inl g8))] H := hP
  have hD : va_D A [(h, .inr (8, [.ref k0, .ref k1, .ref k2, .ref k3, .ref k4, .ref k5, .ref k6, .ref k7, .ref k8, .int n])), (o, .inr (8, [.ref j0, .ref j1, .ref j2, .ref j3, .ref j4, .ref j5, .ref j6, .ref j7, .ref j8, .int n2])), (k0, .inl (cI, 60, .inl g0)), (k1, .inl (cI, 60, .inl g1)), (k2, .inl (cI, 60, .inl g2)), (k3, .inl (cI, 60, .inl g3)), (k4, .inl (cI, 60, .inl g4)), (k5, .inl (cI, 60, .inl g5)), (k6, .inl (cI, 40, .inl g6)), (k7, .inl (cI, 40, .inl g7)), (k8, .inl (cI, 40, .inl g8)), (j0, .inl (cI, 60, .inl g0)), (j1, .inl (cI, 60, .inl g1)), (j2, .inl (cI, 60, .inl g2)), (j3, .inl (cI, 60, .inl g3)), (j4, .inl (cI, 60, .inl g4)), (j5, .inl (cI, 60, .inl g5)), (j6, .inl (cI, 40, .inl g6)), (j7, .inl (cI, 40, .inl g7)), (j8, .inl (cI, 40, .inl g8))] := hD
  refine lv_aload_n hx hb dX8_copyFrom_135 rfl (lv_at hl 0 rfl) ?_
  refine lv_aload_n hx hb dX8_copyFrom_136 rfl (lv_at hl 1 rfl) ?_
  refine va_get (D := D) (ci := 8) (v := .int n2) (C := RX8) (T := TX8) (N := 10) hx hb hT giX8 hown hK hP 1 rfl rfl 9 (by decide) (hT (Cond.fieldLink RX8 39 "DesertWire$Works" "number" "I") mw_49) (fun _ h9 => h9) rfl dX8_copyFrom_137 ?_
  refine va_put (D := D) (ci := 8) (v := .int n2) (ty := .int) (C := RX8) (T := TX8) (N := 10) hx hb hT giX8 tyX8 tyX8_ok nmX8 hown hK hP hD hS 0 rfl rfl 9 (by decide) (hT (Cond.fieldLink RX8 39 "DesertWire$Works" "number" "I") mw_49) (fun _ h9 => h9) rfl (by decide +kernel) rfl rfl (Nat.le_of_ble_eq_true rfl) dX8_copyFrom_140 (fun H locs hP hD hS => ?_)
  have hP : va_P D vwCl [(h, .inr (8, [.ref k0, .ref k1, .ref k2, .ref k3, .ref k4, .ref k5, .ref k6, .ref k7, .ref k8, .int n2])), (o, .inr (8, [.ref j0, .ref j1, .ref j2, .ref j3, .ref j4, .ref j5, .ref j6, .ref j7, .ref j8, .int n2])), (k0, .inl (cI, 60, .inl g0)), (k1, .inl (cI, 60, .inl g1)), (k2, .inl (cI, 60, .inl g2)), (k3, .inl (cI, 60, .inl g3)), (k4, .inl (cI, 60, .inl g4)), (k5, .inl (cI, 60, .inl g5)), (k6, .inl (cI, 40, .inl g6)), (k7, .inl (cI, 40, .inl g7)), (k8, .inl (cI, 40, .inl g8)), (j0, .inl (cI, 60, .inl g0)), (j1, .inl (cI, 60, .inl g1)), (j2, .inl (cI, 60, .inl g2)), (j3, .inl (cI, 60, .inl g3)), (j4, .inl (cI, 60, .inl g4)), (j5, .inl (cI, 60, .inl g5)), (j6, .inl (cI, 40, .inl g6)), (j7, .inl (cI, 40, .inl g7)), (j8, .inl (cI, 40, .inl g8))] H := hP
  have hD : va_D A [(h, .inr (8, [.ref k0, .ref k1, .ref k2, .ref k3, .ref k4, .ref k5, .ref k6, .ref k7, .ref k8, .int n2])), (o, .inr (8, [.ref j0, .ref j1, .ref j2, .ref j3, .ref j4, .ref j5, .ref j6, .ref j7, .ref j8, .int n2])), (k0, .inl (cI, 60, .inl g0)), (k1, .inl (cI, 60, .inl g1)), (k2, .inl (cI, 60, .inl g2)), (k3, .inl (cI, 60, .inl g3)), (k4, .inl (cI, 60, .inl g4)), (k5, .inl (cI, 60, .inl g5)), (k6, .inl (cI, 40, .inl g6)), (k7, .inl (cI, 40, .inl g7)), (k8, .inl (cI, 40, .inl g8)), (j0, .inl (cI, 60, .inl g0)), (j1, .inl (cI, 60, .inl g1)), (j2, .inl (cI, 60, .inl g2)), (j3, .inl (cI, 60, .inl g3)), (j4, .inl (cI, 60, .inl g4)), (j5, .inl (cI, 60, .inl g5)), (j6, .inl (cI, 40, .inl g6)), (j7, .inl (cI, 40, .inl g7)), (j8, .inl (cI, 40, .inl g8))] := hD
  exact hRet () [0, 1, 2, 3, 4, 5, 6, 7, 8, 9, 10, 11, 12, 13, 14, 15, 16, 17, 18, 19] trivial hP hD (by decide) rfl hS dX8_copyFrom_143
