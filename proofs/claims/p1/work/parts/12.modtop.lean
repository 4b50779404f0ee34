theorem dX11_ahead_0 : decode cX11_ahead 0 = .ok (.iload_n 1, 1) := by decide +kernel
theorem dX11_ahead_1 : decode cX11_ahead 1 = .ok (.iconst 0, 1) := by decide +kernel
theorem dX11_ahead_2 : decode cX11_ahead 2 = .ok (.sipush 200, 3) := by decide +kernel
theorem dX11_ahead_5 : decode cX11_ahead 5 = .ok (.invokestatic 47, 3) := by decide +kernel
theorem dX11_ahead_8 : decode cX11_ahead 8 = .ok (.ifCond .eq 41, 3) := by decide +kernel
theorem dX11_ahead_11 : decode cX11_ahead 11 = .ok (.aload_n 0, 1) := by decide +kernel
theorem dX11_ahead_12 : decode cX11_ahead 12 = .ok (.getfield 9, 3) := by decide +kernel
theorem dX11_ahead_15 : decode cX11_ahead 15 = .ok (.iconst 0, 1) := by decide +kernel
theorem dX11_ahead_16 : decode cX11_ahead 16 = .ok (.iaload, 1) := by decide +kernel
theorem dX11_ahead_17 : decode cX11_ahead 17 = .ok (.iload_n 1, 1) := by decide +kernel
theorem dX11_ahead_18 : decode cX11_ahead 18 = .ok (.iadd, 1) := by decide +kernel
theorem dX11_ahead_19 : decode cX11_ahead 19 = .ok (.sipush 2000, 3) := by decide +kernel
theorem dX11_ahead_22 : decode cX11_ahead 22 = .ok (.if_icmp .gt 27, 3) := by decide +kernel
theorem dX11_ahead_25 : decode cX11_ahead 25 = .ok (.iload_n 2, 1) := by decide +kernel
theorem dX11_ahead_26 : decode cX11_ahead 26 = .ok (.iconst 0, 1) := by decide +kernel
theorem dX11_ahead_27 : decode cX11_ahead 27 = .ok (.bipush 10, 2) := by decide +kernel
theorem dX11_ahead_29 : decode cX11_ahead 29 = .ok (.invokestatic 47, 3) := by decide +kernel
theorem dX11_ahead_32 : decode cX11_ahead 32 = .ok (.ifCond .eq 17, 3) := by decide +kernel
theorem dX11_ahead_35 : decode cX11_ahead 35 = .ok (.iload_n 2, 1) := by decide +kernel
theorem dX11_ahead_36 : decode cX11_ahead 36 = .ok (.bipush 9, 2) := by decide +kernel
theorem dX11_ahead_38 : decode cX11_ahead 38 = .ok (.if_icmp .ge 18, 3) := by decide +kernel
theorem dX11_ahead_41 : decode cX11_ahead 41 = .ok (.aload_n 0, 1) := by decide +kernel
theorem dX11_ahead_42 : decode cX11_ahead 42 = .ok (.iload_n 3, 1) := by decide +kernel
theorem dX11_ahead_43 : decode cX11_ahead 43 = .ok (.invokevirtual 121, 3) := by decide +kernel
theorem dX11_ahead_46 : decode cX11_ahead 46 = .ok (.ifCond .ne 10, 3) := by decide +kernel
theorem dX11_ahead_49 : decode cX11_ahead 49 = .ok (.aload_n 0, 1) := by decide +kernel
theorem dX11_ahead_50 : decode cX11_ahead 50 = .ok (.ldc 63, 2) := by decide +kernel
theorem dX11_ahead_52 : decode cX11_ahead 52 = .ok (.invokevirtual 64, 3) := by decide +kernel
theorem dX11_ahead_55 : decode cX11_ahead 55 = .ok (.ireturn, 1) := by decide +kernel
theorem dX11_ahead_56 : decode cX11_ahead 56 = .ok (.aload_n 0, 1) := by decide +kernel
theorem dX11_ahead_57 : decode cX11_ahead 57 = .ok (.getfield 9, 3) := by decide +kernel
theorem dX11_ahead_60 : decode cX11_ahead 60 = .ok (.astore 4, 2) := by decide +kernel
theorem dX11_ahead_62 : decode cX11_ahead 62 = .ok (.aload 4, 2) := by decide +kernel
theorem dX11_ahead_64 : decode cX11_ahead 64 = .ok (.aload_n 0, 1) := by decide +kernel
theorem dX11_ahead_65 : decode cX11_ahead 65 = .ok (.getfield 16, 3) := by decide +kernel
theorem dX11_ahead_68 : decode cX11_ahead 68 = .ok (.invokestatic 257, 3) := by decide +kernel
theorem dX11_ahead_71 : decode cX11_ahead 71 = .ok (.aload_n 0, 1) := by decide +kernel
theorem dX11_ahead_72 : decode cX11_ahead 72 = .ok (.aload_n 0, 1) := by decide +kernel
theorem dX11_ahead_73 : decode cX11_ahead 73 = .ok (.getfield 16, 3) := by decide +kernel
theorem dX11_ahead_76 : decode cX11_ahead 76 = .ok (.putfield 9, 3) := by decide +kernel
theorem dX11_ahead_79 : decode cX11_ahead 79 = .ok (.iconst 0, 1) := by decide +kernel
theorem dX11_ahead_80 : decode cX11_ahead 80 = .ok (.istore 5, 2) := by decide +kernel
theorem dX11_ahead_82 : decode cX11_ahead 82 = .ok (.iload 5, 2) := by decide +kernel
theorem dX11_ahead_84 : decode cX11_ahead 84 = .ok (.iload_n 1, 1) := by decide +kernel
theorem dX11_ahead_85 : decode cX11_ahead 85 = .ok (.if_icmp .ge 13, 3) := by decide +kernel
theorem dX11_ahead_88 : decode cX11_ahead 88 = .ok (.aload_n 0, 1) := by decide +kernel
theorem dX11_ahead_89 : decode cX11_ahead 89 = .ok (.invokevirtual 254, 3) := by decide +kernel
theorem dX11_ahead_92 : decode cX11_ahead 92 = .ok (.iinc 5 1, 3) := by decide +kernel
theorem dX11_ahead_95 : decode cX11_ahead 95 = .ok (.goto (-13), 3) := by decide +kernel
theorem dX11_ahead_98 : decode cX11_ahead 98 = .ok (.iload_n 2, 1) := by decide +kernel
theorem dX11_ahead_99 : decode cX11_ahead 99 = .ok (.bipush 9, 2) := by decide +kernel
theorem dX11_ahead_101 : decode cX11_ahead 101 = .ok (.if_icmp .ge 12, 3) := by decide +kernel
theorem dX11_ahead_113 : decode cX11_ahead 113 = .ok (.iload_n 2, 1) := by decide +kernel
theorem dX11_ahead_114 : decode cX11_ahead 114 = .ok (.bipush 9, 2) := by decide +kernel
theorem dX11_ahead_116 : decode cX11_ahead 116 = .ok (.if_icmp .ne 10, 3) := by decide +kernel
theorem dX11_ahead_119 : decode cX11_ahead 119 = .ok (.aload_n 0, 1) := by decide +kernel
theorem dX11_ahead_120 : decode cX11_ahead 120 = .ok (.invokevirtual 261, 3) := by decide +kernel
theorem dX11_ahead_123 : decode cX11_ahead 123 = .ok (.goto 9, 3) := by decide +kernel
theorem dX11_ahead_126 : decode cX11_ahead 126 = .ok (.aload_n 0, 1) := by decide +kernel
theorem dX11_ahead_127 : decode cX11_ahead 127 = .ok (.getfield 9, 3) := by decide +kernel
theorem dX11_ahead_130 : decode cX11_ahead 130 = .ok (.iconst 1, 1) := by decide +kernel
theorem dX11_ahead_131 : decode cX11_ahead 131 = .ok (.iaload, 1) := by decide +kernel
theorem dX11_ahead_132 : decode cX11_ahead 132 = .ok (.istore 5, 2) := by decide +kernel
theorem dX11_ahead_134 : decode cX11_ahead 134 = .ok (.aload_n 0, 1) := by decide +kernel
theorem dX11_ahead_135 : decode cX11_ahead 135 = .ok (.aload 4, 2) := by decide +kernel
theorem dX11_ahead_137 : decode cX11_ahead 137 = .ok (.putfield 9, 3) := by decide +kernel
theorem dX11_ahead_140 : decode cX11_ahead 140 = .ok (.iload 5, 2) := by decide +kernel
theorem dX11_ahead_142 : decode cX11_ahead 142 = .ok (.ireturn, 1) := by decide +kernel
theorem dX11_as_0 : decode cX11_as 0 = .ok (.aload_n 0, 1) := by decide +kernel
theorem dX11_as_1 : decode cX11_as 1 = .ok (.iload_n 1, 1) := by decide +kernel
theorem dX11_as_2 : decode cX11_as 2 = .ok (.invokevirtual 80, 3) := by decide +kernel
theorem dX11_as_5 : decode cX11_as 5 = .ok (.ifCond .eq 12, 3) := by decide +kernel
theorem dX11_as_17 : decode cX11_as 17 = .ok (.aload_n 0, 1) := by decide +kernel
theorem dX11_as_18 : decode cX11_as 18 = .ok (.ldc 63, 2) := by decide +kernel
theorem dX11_as_20 : decode cX11_as 20 = .ok (.invokevirtual 64, 3) := by decide +kernel
theorem dX11_as_23 : decode cX11_as 23 = .ok (.ireturn, 1) := by decide +kernel
theorem dX11_broke_0 : decode cX11_broke 0 = .ok (.iload_n 1, 1) := by decide +kernel
theorem dX11_broke_1 : decode cX11_broke 1 = .ok (.invokestatic 67, 3) := by decide +kernel
theorem dX11_broke_4 : decode cX11_broke 4 = .ok (.ifCond .eq 54, 3) := by decide +kernel
theorem dX11_broke_7 : decode cX11_broke 7 = .ok (.iload 4, 2) := by decide +kernel
theorem dX11_broke_9 : decode cX11_broke 9 = .ok (.invokestatic 67, 3) := by decide +kernel
theorem dX11_broke_12 : decode cX11_broke 12 = .ok (.ifCond .eq 46, 3) := by decide +kernel
theorem dX11_broke_15 : decode cX11_broke 15 = .ok (.iload_n 1, 1) := by decide +kernel
theorem dX11_broke_16 : decode cX11_broke 16 = .ok (.iload 4, 2) := by decide +kernel
theorem dX11_broke_18 : decode cX11_broke 18 = .ok (.if_icmp .ge 40, 3) := by decide +kernel
theorem dX11_broke_21 : decode cX11_broke 21 = .ok (.iload_n 2, 1) := by decide +kernel
theorem dX11_broke_22 : decode cX11_broke 22 = .ok (.invokestatic 67, 3) := by decide +kernel
theorem dX11_broke_25 : decode cX11_broke 25 = .ok (.ifCond .eq 33, 3) := by decide +kernel
theorem dX11_broke_28 : decode cX11_broke 28 = .ok (.iload_n 3, 1) := by decide +kernel
theorem dX11_broke_29 : decode cX11_broke 29 = .ok (.iload_n 2, 1) := by decide +kernel
theorem dX11_broke_30 : decode cX11_broke 30 = .ok (.bipush 39, 2) := by decide +kernel
theorem dX11_broke_32 : decode cX11_broke 32 = .ok (.invokestatic 47, 3) := by decide +kernel
theorem dX11_broke_35 : decode cX11_broke 35 = .ok (.ifCond .eq 23, 3) := by decide +kernel
theorem dX11_broke_38 : decode cX11_broke 38 = .ok (.iload 5, 2) := by decide +kernel
theorem dX11_broke_40 : decode cX11_broke 40 = .ok (.invokestatic 67, 3) := by decide +kernel
theorem dX11_broke_43 : decode cX11_broke 43 = .ok (.ifCond .eq 15, 3) := by decide +kernel
theorem dX11_broke_46 : decode cX11_broke 46 = .ok (.iload 6, 2) := by decide +kernel
theorem dX11_broke_48 : decode cX11_broke 48 = .ok (.iload 5, 2) := by decide +kernel
theorem dX11_broke_50 : decode cX11_broke 50 = .ok (.bipush 39, 2) := by decide +kernel
theorem dX11_broke_52 : decode cX11_broke 52 = .ok (.invokestatic 47, 3) := by decide +kernel
theorem dX11_broke_55 : decode cX11_broke 55 = .ok (.ifCond .ne 10, 3) := by decide +kernel
theorem dX11_broke_58 : decode cX11_broke 58 = .ok (.aload_n 0, 1) := by decide +kernel
theorem dX11_broke_59 : decode cX11_broke 59 = .ok (.ldc 63, 2) := by decide +kernel
theorem dX11_broke_61 : decode cX11_broke 61 = .ok (.invokevirtual 64, 3) := by decide +kernel
theorem dX11_broke_64 : decode cX11_broke 64 = .ok (.ireturn, 1) := by decide +kernel
theorem dX11_broke_65 : decode cX11_broke 65 = .ok (.iconst (-1), 1) := by decide +kernel
theorem dX11_broke_66 : decode cX11_broke 66 = .ok (.istore 7, 2) := by decide +kernel
theorem dX11_broke_68 : decode cX11_broke 68 = .ok (.iconst (-1), 1) := by decide +kernel
theorem dX11_broke_69 : decode cX11_broke 69 = .ok (.istore 8, 2) := by decide +kernel
theorem dX11_broke_71 : decode cX11_broke 71 = .ok (.iload_n 1, 1) := by decide +kernel
theorem dX11_broke_72 : decode cX11_broke 72 = .ok (.istore 9, 2) := by decide +kernel
theorem dX11_broke_74 : decode cX11_broke 74 = .ok (.iload 9, 2) := by decide +kernel
theorem dX11_broke_76 : decode cX11_broke 76 = .ok (.iload 4, 2) := by decide +kernel
theorem dX11_broke_78 : decode cX11_broke 78 = .ok (.if_icmp .gt 54, 3) := by decide +kernel
theorem dX11_broke_81 : decode cX11_broke 81 = .ok (.iload 9, 2) := by decide +kernel
theorem dX11_broke_83 : decode cX11_broke 83 = .ok (.iload_n 1, 1) := by decide +kernel
theorem dX11_broke_84 : decode cX11_broke 84 = .ok (.isub, 1) := by decide +kernel
theorem dX11_broke_85 : decode cX11_broke 85 = .ok (.iload_n 2, 1) := by decide +kernel
theorem dX11_broke_86 : decode cX11_broke 86 = .ok (.iload_n 3, 1) := by decide +kernel
theorem dX11_broke_87 : decode cX11_broke 87 = .ok (.invokestatic 47, 3) := by decide +kernel
theorem dX11_broke_90 : decode cX11_broke 90 = .ok (.ifCond .eq 36, 3) := by decide +kernel
theorem dX11_broke_93 : decode cX11_broke 93 = .ok (.iload 4, 2) := by decide +kernel
theorem dX11_broke_95 : decode cX11_broke 95 = .ok (.iload 9, 2) := by decide +kernel
theorem dX11_broke_97 : decode cX11_broke 97 = .ok (.isub, 1) := by decide +kernel
theorem dX11_broke_98 : decode cX11_broke 98 = .ok (.iload 5, 2) := by decide +kernel
theorem dX11_broke_100 : decode cX11_broke 100 = .ok (.iload 6, 2) := by decide +kernel
theorem dX11_broke_102 : decode cX11_broke 102 = .ok (.invokestatic 47, 3) := by decide +kernel
theorem dX11_broke_105 : decode cX11_broke 105 = .ok (.ifCond .eq 21, 3) := by decide +kernel
theorem dX11_broke_108 : decode cX11_broke 108 = .ok (.iload 7, 2) := by decide +kernel
theorem dX11_broke_110 : decode cX11_broke 110 = .ok (.ifCond .ge 8, 3) := by decide +kernel
theorem dX11_broke_113 : decode cX11_broke 113 = .ok (.iload 9, 2) := by decide +kernel
theorem dX11_broke_115 : decode cX11_broke 115 = .ok (.goto 5, 3) := by decide +kernel
theorem dX11_broke_118 : decode cX11_broke 118 = .ok (.iload 7, 2) := by decide +kernel
theorem dX11_broke_120 : decode cX11_broke 120 = .ok (.istore 7, 2) := by decide +kernel
theorem dX11_broke_122 : decode cX11_broke 122 = .ok (.iload 9, 2) := by decide +kernel
theorem dX11_broke_124 : decode cX11_broke 124 = .ok (.istore 8, 2) := by decide +kernel
theorem dX11_broke_126 : decode cX11_broke 126 = .ok (.iinc 9 1, 3) := by decide +kernel
theorem dX11_broke_129 : decode cX11_broke 129 = .ok (.goto (-55), 3) := by decide +kernel
theorem dX11_broke_132 : decode cX11_broke 132 = .ok (.iload 7, 2) := by decide +kernel
theorem dX11_broke_134 : decode cX11_broke 134 = .ok (.ifCond .ge 12, 3) := by decide +kernel
theorem dX11_broke_137 : decode cX11_broke 137 = .ok (.aload_n 0, 1) := by decide +kernel
theorem dX11_broke_138 : decode cX11_broke 138 = .ok (.ldc 114, 2) := by decide +kernel
theorem dX11_broke_140 : decode cX11_broke 140 = .ok (.invokevirtual 64, 3) := by decide +kernel
theorem dX11_broke_143 : decode cX11_broke 143 = .ok (.goto 11, 3) := by decide +kernel
theorem dX11_broke_146 : decode cX11_broke 146 = .ok (.bipush 100, 2) := by decide +kernel
theorem dX11_broke_148 : decode cX11_broke 148 = .ok (.iload 7, 2) := by decide +kernel
theorem dX11_broke_150 : decode cX11_broke 150 = .ok (.imul, 1) := by decide +kernel
theorem dX11_broke_151 : decode cX11_broke 151 = .ok (.iload 8, 2) := by decide +kernel
theorem dX11_broke_153 : decode cX11_broke 153 = .ok (.iadd, 1) := by decide +kernel
theorem dX11_broke_154 : decode cX11_broke 154 = .ok (.ireturn, 1) := by decide +kernel
theorem dX11_check_0 : decode cX11_check 0 = .ok (.aload_n 0, 1) := by decide +kernel
theorem dX11_check_1 : decode cX11_check 1 = .ok (.getfield 9, 3) := by decide +kernel
theorem dX11_check_4 : decode cX11_check 4 = .ok (.iconst 5, 1) := by decide +kernel
theorem dX11_check_5 : decode cX11_check 5 = .ok (.iaload, 1) := by decide +kernel
theorem dX11_check_6 : decode cX11_check 6 = .ok (.istore_n 1, 1) := by decide +kernel
theorem dX11_check_7 : decode cX11_check 7 = .ok (.aload_n 0, 1) := by decide +kernel
theorem dX11_check_8 : decode cX11_check 8 = .ok (.getfield 9, 3) := by decide +kernel
theorem dX11_check_11 : decode cX11_check 11 = .ok (.iconst 5, 1) := by decide +kernel
theorem dX11_check_12 : decode cX11_check 12 = .ok (.iconst 0, 1) := by decide +kernel
theorem dX11_check_13 : decode cX11_check 13 = .ok (.iastore, 1) := by decide +kernel
theorem dX11_check_14 : decode cX11_check 14 = .ok (.iconst 0, 1) := by decide +kernel
theorem dX11_check_15 : decode cX11_check 15 = .ok (.istore_n 2, 1) := by decide +kernel
theorem dX11_check_16 : decode cX11_check 16 = .ok (.iload_n 2, 1) := by decide +kernel
theorem dX11_check_17 : decode cX11_check 17 = .ok (.iload_n 1, 1) := by decide +kernel
theorem dX11_check_18 : decode cX11_check 18 = .ok (.if_icmp .ge 31, 3) := by decide +kernel
theorem dX11_check_49 : decode cX11_check 49 = .ok (.iconst 0, 1) := by decide +kernel
theorem dX11_check_50 : decode cX11_check 50 = .ok (.ireturn, 1) := by decide +kernel
theorem dX11_copy_0 : decode cX11_copy 0 = .ok (.iconst 0, 1) := by decide +kernel
theorem dX11_copy_1 : decode cX11_copy 1 = .ok (.istore_n 2, 1) := by decide +kernel
theorem dX11_copy_2 : decode cX11_copy 2 = .ok (.iload_n 2, 1) := by decide +kernel
theorem dX11_copy_3 : decode cX11_copy 3 = .ok (.sipush 1201, 3) := by decide +kernel
theorem dX11_copy_6 : decode cX11_copy 6 = .ok (.if_icmp .ge 15, 3) := by decide +kernel
theorem dX11_copy_9 : decode cX11_copy 9 = .ok (.aload_n 1, 1) := by decide +kernel
theorem dX11_copy_10 : decode cX11_copy 10 = .ok (.iload_n 2, 1) := by decide +kernel
theorem dX11_copy_11 : decode cX11_copy 11 = .ok (.aload_n 0, 1) := by decide +kernel
theorem dX11_copy_12 : decode cX11_copy 12 = .ok (.iload_n 2, 1) := by decide +kernel
theorem dX11_copy_13 : decode cX11_copy 13 = .ok (.iaload, 1) := by decide +kernel
theorem dX11_copy_14 : decode cX11_copy 14 = .ok (.iastore, 1) := by decide +kernel
theorem dX11_copy_15 : decode cX11_copy 15 = .ok (.iinc 2 1, 3) := by decide +kernel
theorem dX11_copy_18 : decode cX11_copy 18 = .ok (.goto (-16), 3) := by decide +kernel
theorem dX11_copy_21 : decode cX11_copy 21 = .ok (.return_, 1) := by decide +kernel
theorem dX11_count_0 : decode cX11_count 0 = .ok (.iconst 0, 1) := by decide +kernel
theorem dX11_count_1 : decode cX11_count 1 = .ok (.istore_n 2, 1) := by decide +kernel
theorem dX11_count_2 : decode cX11_count 2 = .ok (.iload_n 1, 1) := by decide +kernel
theorem dX11_count_3 : decode cX11_count 3 = .ok (.tableswitch 290 0 12 #[65, 72, 101, 108, 144, 151, 158, 165, 170, 177, 182, 219, 248], 65) := by decide +kernel
theorem dX11_count_68 : decode cX11_count 68 = .ok (.aload_n 0, 1) := by decide +kernel
theorem dX11_count_69 : decode cX11_count 69 = .ok (.getfield 9, 3) := by decide +kernel
theorem dX11_count_72 : decode cX11_count 72 = .ok (.iconst 1, 1) := by decide +kernel
theorem dX11_count_73 : decode cX11_count 73 = .ok (.iaload, 1) := by decide +kernel
theorem dX11_count_74 : decode cX11_count 74 = .ok (.ireturn, 1) := by decide +kernel
theorem dX11_count_75 : decode cX11_count 75 = .ok (.iconst 0, 1) := by decide +kernel
theorem dX11_count_76 : decode cX11_count 76 = .ok (.istore_n 3, 1) := by decide +kernel
theorem dX11_count_77 : decode cX11_count 77 = .ok (.iload_n 3, 1) := by decide +kernel
theorem dX11_count_78 : decode cX11_count 78 = .ok (.aload_n 0, 1) := by decide +kernel
theorem dX11_count_79 : decode cX11_count 79 = .ok (.getfield 9, 3) := by decide +kernel
theorem dX11_count_82 : decode cX11_count 82 = .ok (.iconst 1, 1) := by decide +kernel
theorem dX11_count_83 : decode cX11_count 83 = .ok (.iaload, 1) := by decide +kernel
theorem dX11_count_84 : decode cX11_count 84 = .ok (.if_icmp .ge 18, 3) := by decide +kernel
theorem dX11_count_102 : decode cX11_count 102 = .ok (.iload_n 2, 1) := by decide +kernel
theorem dX11_count_103 : decode cX11_count 103 = .ok (.ireturn, 1) := by decide +kernel
theorem dX11_count_104 : decode cX11_count 104 = .ok (.aload_n 0, 1) := by decide +kernel
theorem dX11_count_105 : decode cX11_count 105 = .ok (.getfield 9, 3) := by decide +kernel
theorem dX11_count_108 : decode cX11_count 108 = .ok (.iconst 2, 1) := by decide +kernel
theorem dX11_count_109 : decode cX11_count 109 = .ok (.iaload, 1) := by decide +kernel
theorem dX11_count_110 : decode cX11_count 110 = .ok (.ireturn, 1) := by decide +kernel
theorem dX11_count_111 : decode cX11_count 111 = .ok (.iconst 0, 1) := by decide +kernel
theorem dX11_count_112 : decode cX11_count 112 = .ok (.istore_n 3, 1) := by decide +kernel
theorem dX11_count_113 : decode cX11_count 113 = .ok (.iload_n 3, 1) := by decide +kernel
theorem dX11_count_114 : decode cX11_count 114 = .ok (.aload_n 0, 1) := by decide +kernel
theorem dX11_count_115 : decode cX11_count 115 = .ok (.getfield 9, 3) := by decide +kernel
theorem dX11_count_118 : decode cX11_count 118 = .ok (.iconst 2, 1) := by decide +kernel
theorem dX11_count_119 : decode cX11_count 119 = .ok (.iaload, 1) := by decide +kernel
theorem dX11_count_120 : decode cX11_count 120 = .ok (.if_icmp .ge 25, 3) := by decide +kernel
theorem dX11_count_145 : decode cX11_count 145 = .ok (.iload_n 2, 1) := by decide +kernel
theorem dX11_count_146 : decode cX11_count 146 = .ok (.ireturn, 1) := by decide +kernel
theorem dX11_count_147 : decode cX11_count 147 = .ok (.aload_n 0, 1) := by decide +kernel
theorem dX11_count_148 : decode cX11_count 148 = .ok (.getfield 9, 3) := by decide +kernel
theorem dX11_count_151 : decode cX11_count 151 = .ok (.iconst 3, 1) := by decide +kernel
theorem dX11_count_152 : decode cX11_count 152 = .ok (.iaload, 1) := by decide +kernel
theorem dX11_count_153 : decode cX11_count 153 = .ok (.ireturn, 1) := by decide +kernel
theorem dX11_count_154 : decode cX11_count 154 = .ok (.aload_n 0, 1) := by decide +kernel
theorem dX11_count_155 : decode cX11_count 155 = .ok (.getfield 9, 3) := by decide +kernel
theorem dX11_count_158 : decode cX11_count 158 = .ok (.iconst 0, 1) := by decide +kernel
theorem dX11_count_159 : decode cX11_count 159 = .ok (.iaload, 1) := by decide +kernel
theorem dX11_count_160 : decode cX11_count 160 = .ok (.ireturn, 1) := by decide +kernel
theorem dX11_count_161 : decode cX11_count 161 = .ok (.aload_n 0, 1) := by decide +kernel
theorem dX11_count_162 : decode cX11_count 162 = .ok (.getfield 9, 3) := by decide +kernel
theorem dX11_count_165 : decode cX11_count 165 = .ok (.iconst 4, 1) := by decide +kernel
theorem dX11_count_166 : decode cX11_count 166 = .ok (.iaload, 1) := by decide +kernel
theorem dX11_count_167 : decode cX11_count 167 = .ok (.ireturn, 1) := by decide +kernel
theorem dX11_count_168 : decode cX11_count 168 = .ok (.aload_n 0, 1) := by decide +kernel
theorem dX11_count_169 : decode cX11_count 169 = .ok (.getfield 267, 3) := by decide +kernel
theorem dX11_count_172 : decode cX11_count 172 = .ok (.ireturn, 1) := by decide +kernel
theorem dX11_count_173 : decode cX11_count 173 = .ok (.aload_n 0, 1) := by decide +kernel
theorem dX11_count_174 : decode cX11_count 174 = .ok (.getfield 9, 3) := by decide +kernel
theorem dX11_count_177 : decode cX11_count 177 = .ok (.iconst 5, 1) := by decide +kernel
theorem dX11_count_178 : decode cX11_count 178 = .ok (.iaload, 1) := by decide +kernel
theorem dX11_count_179 : decode cX11_count 179 = .ok (.ireturn, 1) := by decide +kernel
theorem dX11_count_180 : decode cX11_count 180 = .ok (.aload_n 0, 1) := by decide +kernel
theorem dX11_count_181 : decode cX11_count 181 = .ok (.invokevirtual 261, 3) := by decide +kernel
theorem dX11_count_184 : decode cX11_count 184 = .ok (.ireturn, 1) := by decide +kernel
theorem dX11_count_185 : decode cX11_count 185 = .ok (.iconst 0, 1) := by decide +kernel
theorem dX11_count_186 : decode cX11_count 186 = .ok (.istore_n 3, 1) := by decide +kernel
theorem dX11_count_187 : decode cX11_count 187 = .ok (.iload_n 3, 1) := by decide +kernel
theorem dX11_count_188 : decode cX11_count 188 = .ok (.aload_n 0, 1) := by decide +kernel
theorem dX11_count_189 : decode cX11_count 189 = .ok (.getfield 9, 3) := by decide +kernel
theorem dX11_count_192 : decode cX11_count 192 = .ok (.iconst 1, 1) := by decide +kernel
theorem dX11_count_193 : decode cX11_count 193 = .ok (.iaload, 1) := by decide +kernel
theorem dX11_count_194 : decode cX11_count 194 = .ok (.if_icmp .ge 26, 3) := by decide +kernel
theorem dX11_count_220 : decode cX11_count 220 = .ok (.iload_n 2, 1) := by decide +kernel
theorem dX11_count_221 : decode cX11_count 221 = .ok (.ireturn, 1) := by decide +kernel
theorem dX11_count_222 : decode cX11_count 222 = .ok (.iconst 0, 1) := by decide +kernel
theorem dX11_count_223 : decode cX11_count 223 = .ok (.istore_n 3, 1) := by decide +kernel
theorem dX11_count_224 : decode cX11_count 224 = .ok (.iload_n 3, 1) := by decide +kernel
theorem dX11_count_225 : decode cX11_count 225 = .ok (.aload_n 0, 1) := by decide +kernel
theorem dX11_count_226 : decode cX11_count 226 = .ok (.getfield 9, 3) := by decide +kernel
theorem dX11_count_229 : decode cX11_count 229 = .ok (.iconst 2, 1) := by decide +kernel
theorem dX11_count_230 : decode cX11_count 230 = .ok (.iaload, 1) := by decide +kernel
theorem dX11_count_231 : decode cX11_count 231 = .ok (.if_icmp .ge 18, 3) := by decide +kernel
theorem dX11_count_249 : decode cX11_count 249 = .ok (.iload_n 2, 1) := by decide +kernel
theorem dX11_count_250 : decode cX11_count 250 = .ok (.ireturn, 1) := by decide +kernel
theorem dX11_count_251 : decode cX11_count 251 = .ok (.iconst 0, 1) := by decide +kernel
theorem dX11_count_252 : decode cX11_count 252 = .ok (.istore_n 3, 1) := by decide +kernel
theorem dX11_count_253 : decode cX11_count 253 = .ok (.iload_n 3, 1) := by decide +kernel
theorem dX11_count_254 : decode cX11_count 254 = .ok (.aload_n 0, 1) := by decide +kernel
theorem dX11_count_255 : decode cX11_count 255 = .ok (.getfield 9, 3) := by decide +kernel
theorem dX11_count_258 : decode cX11_count 258 = .ok (.iconst 1, 1) := by decide +kernel
theorem dX11_count_259 : decode cX11_count 259 = .ok (.iaload, 1) := by decide +kernel
theorem dX11_count_260 : decode cX11_count 260 = .ok (.if_icmp .ge 31, 3) := by decide +kernel
theorem dX11_count_291 : decode cX11_count 291 = .ok (.iload_n 2, 1) := by decide +kernel
theorem dX11_count_292 : decode cX11_count 292 = .ok (.ireturn, 1) := by decide +kernel
theorem dX11_count_293 : decode cX11_count 293 = .ok (.aload_n 0, 1) := by decide +kernel
theorem dX11_count_294 : decode cX11_count 294 = .ok (.ldc 63, 2) := by decide +kernel
theorem dX11_count_296 : decode cX11_count 296 = .ok (.invokevirtual 64, 3) := by decide +kernel
theorem dX11_count_299 : decode cX11_count 299 = .ok (.ireturn, 1) := by decide +kernel
theorem dX11_days_0 : decode cX11_days 0 = .ok (.iload_n 1, 1) := by decide +kernel
theorem dX11_days_1 : decode cX11_days 1 = .ok (.iconst 1, 1) := by decide +kernel
theorem dX11_days_2 : decode cX11_days 2 = .ok (.sipush 200, 3) := by decide +kernel
theorem dX11_days_5 : decode cX11_days 5 = .ok (.invokestatic 47, 3) := by decide +kernel
theorem dX11_days_8 : decode cX11_days 8 = .ok (.ifCond .eq 17, 3) := by decide +kernel
theorem dX11_days_11 : decode cX11_days 11 = .ok (.aload_n 0, 1) := by decide +kernel
theorem dX11_days_12 : decode cX11_days 12 = .ok (.getfield 9, 3) := by decide +kernel
theorem dX11_days_15 : decode cX11_days 15 = .ok (.iconst 0, 1) := by decide +kernel
theorem dX11_days_16 : decode cX11_days 16 = .ok (.iaload, 1) := by decide +kernel
theorem dX11_days_17 : decode cX11_days 17 = .ok (.iload_n 1, 1) := by decide +kernel
theorem dX11_days_18 : decode cX11_days 18 = .ok (.iadd, 1) := by decide +kernel
theorem dX11_days_19 : decode cX11_days 19 = .ok (.sipush 2000, 3) := by decide +kernel
theorem dX11_days_22 : decode cX11_days 22 = .ok (.if_icmp .le 10, 3) := by decide +kernel
theorem dX11_days_25 : decode cX11_days 25 = .ok (.aload_n 0, 1) := by decide +kernel
theorem dX11_days_26 : decode cX11_days 26 = .ok (.ldc 63, 2) := by decide +kernel
theorem dX11_days_28 : decode cX11_days 28 = .ok (.invokevirtual 64, 3) := by decide +kernel
theorem dX11_days_31 : decode cX11_days 31 = .ok (.ireturn, 1) := by decide +kernel
theorem dX11_days_32 : decode cX11_days 32 = .ok (.iconst 0, 1) := by decide +kernel
theorem dX11_days_33 : decode cX11_days 33 = .ok (.istore_n 2, 1) := by decide +kernel
theorem dX11_days_34 : decode cX11_days 34 = .ok (.iload_n 2, 1) := by decide +kernel
theorem dX11_days_35 : decode cX11_days 35 = .ok (.iload_n 1, 1) := by decide +kernel
theorem dX11_days_36 : decode cX11_days 36 = .ok (.if_icmp .ge 13, 3) := by decide +kernel
theorem dX11_days_39 : decode cX11_days 39 = .ok (.aload_n 0, 1) := by decide +kernel
theorem dX11_days_40 : decode cX11_days 40 = .ok (.invokevirtual 254, 3) := by decide +kernel
theorem dX11_days_43 : decode cX11_days 43 = .ok (.iinc 2 1, 3) := by decide +kernel
theorem dX11_days_46 : decode cX11_days 46 = .ok (.goto (-12), 3) := by decide +kernel
theorem dX11_days_49 : decode cX11_days 49 = .ok (.aload_n 0, 1) := by decide +kernel
theorem dX11_days_50 : decode cX11_days 50 = .ok (.getfield 9, 3) := by decide +kernel
theorem dX11_days_53 : decode cX11_days 53 = .ok (.iconst 0, 1) := by decide +kernel
theorem dX11_days_54 : decode cX11_days 54 = .ok (.iaload, 1) := by decide +kernel
theorem dX11_days_55 : decode cX11_days 55 = .ok (.ireturn, 1) := by decide +kernel
theorem dX11_eaten_0 : decode cX11_eaten 0 = .ok (.iconst 0, 1) := by decide +kernel
theorem dX11_eaten_1 : decode cX11_eaten 1 = .ok (.istore_n 1, 1) := by decide +kernel
theorem dX11_eaten_2 : decode cX11_eaten 2 = .ok (.iload_n 1, 1) := by decide +kernel
theorem dX11_eaten_3 : decode cX11_eaten 3 = .ok (.aload_n 0, 1) := by decide +kernel
theorem dX11_eaten_4 : decode cX11_eaten 4 = .ok (.getfield 9, 3) := by decide +kernel
theorem dX11_eaten_7 : decode cX11_eaten 7 = .ok (.iconst 1, 1) := by decide +kernel
theorem dX11_eaten_8 : decode cX11_eaten 8 = .ok (.iaload, 1) := by decide +kernel
theorem dX11_eaten_9 : decode cX11_eaten 9 = .ok (.if_icmp .ge 38, 3) := by decide +kernel
theorem dX11_eaten_47 : decode cX11_eaten 47 = .ok (.return_, 1) := by decide +kernel
theorem dX11_feed_0 : decode cX11_feed 0 = .ok (.iload_n 3, 1) := by decide +kernel
theorem dX11_feed_1 : decode cX11_feed 1 = .ok (.iconst 1, 1) := by decide +kernel
theorem dX11_feed_2 : decode cX11_feed 2 = .ok (.bipush 8, 2) := by decide +kernel
theorem dX11_feed_4 : decode cX11_feed 4 = .ok (.invokestatic 47, 3) := by decide +kernel
theorem dX11_feed_7 : decode cX11_feed 7 = .ok (.ifCond .ne 10, 3) := by decide +kernel
theorem dX11_feed_10 : decode cX11_feed 10 = .ok (.aload_n 0, 1) := by decide +kernel
theorem dX11_feed_11 : decode cX11_feed 11 = .ok (.ldc 63, 2) := by decide +kernel
theorem dX11_feed_13 : decode cX11_feed 13 = .ok (.invokevirtual 64, 3) := by decide +kernel
theorem dX11_feed_16 : decode cX11_feed 16 = .ok (.ireturn, 1) := by decide +kernel
theorem dX11_feed_17 : decode cX11_feed 17 = .ok (.aload_n 0, 1) := by decide +kernel
theorem dX11_feed_18 : decode cX11_feed 18 = .ok (.getfield 9, 3) := by decide +kernel
theorem dX11_feed_21 : decode cX11_feed 21 = .ok (.iconst 4, 1) := by decide +kernel
theorem dX11_feed_22 : decode cX11_feed 22 = .ok (.iaload, 1) := by decide +kernel
theorem dX11_feed_23 : decode cX11_feed 23 = .ok (.iload_n 3, 1) := by decide +kernel
theorem dX11_feed_24 : decode cX11_feed 24 = .ok (.iadd, 1) := by decide +kernel
theorem dX11_feed_25 : decode cX11_feed 25 = .ok (.bipush 50, 2) := by decide +kernel
theorem dX11_feed_27 : decode cX11_feed 27 = .ok (.if_icmp .le 10, 3) := by decide +kernel
theorem dX11_feed_37 : decode cX11_feed 37 = .ok (.iconst 0, 1) := by decide +kernel
theorem dX11_feed_38 : decode cX11_feed 38 = .ok (.istore 4, 2) := by decide +kernel
theorem dX11_feed_40 : decode cX11_feed 40 = .ok (.iload 4, 2) := by decide +kernel
theorem dX11_feed_42 : decode cX11_feed 42 = .ok (.iload_n 3, 1) := by decide +kernel
theorem dX11_feed_43 : decode cX11_feed 43 = .ok (.if_icmp .ge 46, 3) := by decide +kernel
theorem dX11_feed_46 : decode cX11_feed 46 = .ok (.aload_n 0, 1) := by decide +kernel
theorem dX11_feed_47 : decode cX11_feed 47 = .ok (.getfield 9, 3) := by decide +kernel
theorem dX11_feed_50 : decode cX11_feed 50 = .ok (.sipush 1131, 3) := by decide +kernel
theorem dX11_feed_53 : decode cX11_feed 53 = .ok (.aload_n 0, 1) := by decide +kernel
theorem dX11_feed_54 : decode cX11_feed 54 = .ok (.getfield 9, 3) := by decide +kernel
theorem dX11_feed_57 : decode cX11_feed 57 = .ok (.iconst 4, 1) := by decide +kernel
theorem dX11_feed_58 : decode cX11_feed 58 = .ok (.iaload, 1) := by decide +kernel
theorem dX11_feed_59 : decode cX11_feed 59 = .ok (.iadd, 1) := by decide +kernel
theorem dX11_feed_60 : decode cX11_feed 60 = .ok (.lload_n 1, 1) := by decide +kernel
theorem dX11_feed_61 : decode cX11_feed 61 = .ok (.bipush 8, 2) := by decide +kernel
theorem dX11_feed_63 : decode cX11_feed 63 = .ok (.iload 4, 2) := by decide +kernel
theorem dX11_feed_65 : decode cX11_feed 65 = .ok (.imul, 1) := by decide +kernel
theorem dX11_feed_66 : decode cX11_feed 66 = .ok (.lshr, 1) := by decide +kernel
theorem dX11_feed_67 : decode cX11_feed 67 = .ok (.ldc2_w 136, 3) := by decide +kernel
theorem dX11_feed_70 : decode cX11_feed 70 = .ok (.land, 1) := by decide +kernel
theorem dX11_feed_71 : decode cX11_feed 71 = .ok (.l2i, 1) := by decide +kernel
theorem dX11_feed_72 : decode cX11_feed 72 = .ok (.iastore, 1) := by decide +kernel
theorem dX11_feed_73 : decode cX11_feed 73 = .ok (.aload_n 0, 1) := by decide +kernel
theorem dX11_feed_74 : decode cX11_feed 74 = .ok (.getfield 9, 3) := by decide +kernel
theorem dX11_feed_77 : decode cX11_feed 77 = .ok (.iconst 4, 1) := by decide +kernel
theorem dX11_feed_78 : decode cX11_feed 78 = .ok (.dup2, 1) := by decide +kernel
theorem dX11_feed_79 : decode cX11_feed 79 = .ok (.iaload, 1) := by decide +kernel
theorem dX11_feed_80 : decode cX11_feed 80 = .ok (.iconst 1, 1) := by decide +kernel
theorem dX11_feed_81 : decode cX11_feed 81 = .ok (.iadd, 1) := by decide +kernel
theorem dX11_feed_82 : decode cX11_feed 82 = .ok (.iastore, 1) := by decide +kernel
theorem dX11_feed_83 : decode cX11_feed 83 = .ok (.iinc 4 1, 3) := by decide +kernel
theorem dX11_feed_86 : decode cX11_feed 86 = .ok (.goto (-46), 3) := by decide +kernel
theorem dX11_feed_89 : decode cX11_feed 89 = .ok (.aload_n 0, 1) := by decide +kernel
theorem dX11_feed_90 : decode cX11_feed 90 = .ok (.getfield 9, 3) := by decide +kernel
theorem dX11_feed_93 : decode cX11_feed 93 = .ok (.iconst 4, 1) := by decide +kernel
theorem dX11_feed_94 : decode cX11_feed 94 = .ok (.iaload, 1) := by decide +kernel
theorem dX11_feed_95 : decode cX11_feed 95 = .ok (.ireturn, 1) := by decide +kernel
theorem dX11_fell_0 : decode cX11_fell 0 = .ok (.aload_n 0, 1) := by decide +kernel
theorem dX11_fell_1 : decode cX11_fell 1 = .ok (.iload_n 1, 1) := by decide +kernel
theorem dX11_fell_2 : decode cX11_fell 2 = .ok (.invokevirtual 80, 3) := by decide +kernel
theorem dX11_fell_5 : decode cX11_fell 5 = .ok (.ifCond .ne 10, 3) := by decide +kernel
theorem dX11_fell_8 : decode cX11_fell 8 = .ok (.aload_n 0, 1) := by decide +kernel
theorem dX11_fell_9 : decode cX11_fell 9 = .ok (.ldc 63, 2) := by decide +kernel
theorem dX11_fell_11 : decode cX11_fell 11 = .ok (.invokevirtual 64, 3) := by decide +kernel
theorem dX11_fell_14 : decode cX11_fell 14 = .ok (.ireturn, 1) := by decide +kernel
theorem dX11_force_0 : decode cX11_force 0 = .ok (.iload_n 1, 1) := by decide +kernel
theorem dX11_force_1 : decode cX11_force 1 = .ok (.invokestatic 198, 3) := by decide +kernel
theorem dX11_force_4 : decode cX11_force 4 = .ok (.ifCond .eq 10, 3) := by decide +kernel
theorem dX11_force_7 : decode cX11_force 7 = .ok (.iload_n 2, 1) := by decide +kernel
theorem dX11_force_8 : decode cX11_force 8 = .ok (.invokestatic 201, 3) := by decide +kernel
theorem dX11_force_11 : decode cX11_force 11 = .ok (.ifCond .ne 10, 3) := by decide +kernel
theorem dX11_force_14 : decode cX11_force 14 = .ok (.aload_n 0, 1) := by decide +kernel
theorem dX11_force_15 : decode cX11_force 15 = .ok (.ldc 63, 2) := by decide +kernel
theorem dX11_force_17 : decode cX11_force 17 = .ok (.invokevirtual 64, 3) := by decide +kernel
theorem dX11_force_20 : decode cX11_force 20 = .ok (.ireturn, 1) := by decide +kernel
theorem dX11_force_21 : decode cX11_force 21 = .ok (.aload_n 0, 1) := by decide +kernel
theorem dX11_force_22 : decode cX11_force 22 = .ok (.iload_n 1, 1) := by decide +kernel
theorem dX11_force_23 : decode cX11_force 23 = .ok (.iload_n 2, 1) := by decide +kernel
theorem dX11_force_24 : decode cX11_force 24 = .ok (.invokevirtual 211, 3) := by decide +kernel
theorem dX11_force_27 : decode cX11_force 27 = .ok (.istore_n 3, 1) := by decide +kernel
theorem dX11_force_28 : decode cX11_force 28 = .ok (.iload_n 3, 1) := by decide +kernel
theorem dX11_force_29 : decode cX11_force 29 = .ok (.ifCond .ge 12, 3) := by decide +kernel
theorem dX11_force_32 : decode cX11_force 32 = .ok (.aload_n 0, 1) := by decide +kernel
theorem dX11_force_33 : decode cX11_force 33 = .ok (.ldc 114, 2) := by decide +kernel
theorem dX11_force_35 : decode cX11_force 35 = .ok (.invokevirtual 64, 3) := by decide +kernel
theorem dX11_force_38 : decode cX11_force 38 = .ok (.goto 4, 3) := by decide +kernel
theorem dX11_force_42 : decode cX11_force 42 = .ok (.ireturn, 1) := by decide +kernel
theorem dX11_found_0 : decode cX11_found 0 = .ok (.iload_n 1, 1) := by decide +kernel
theorem dX11_found_1 : decode cX11_found 1 = .ok (.iconst 1, 1) := by decide +kernel
theorem dX11_found_2 : decode cX11_found 2 = .ok (.iconst 5, 1) := by decide +kernel
theorem dX11_found_3 : decode cX11_found 3 = .ok (.invokestatic 47, 3) := by decide +kernel
theorem dX11_found_6 : decode cX11_found 6 = .ok (.ifCond .eq 12, 3) := by decide +kernel
theorem dX11_found_9 : decode cX11_found 9 = .ok (.aload_n 0, 1) := by decide +kernel
theorem dX11_found_10 : decode cX11_found 10 = .ok (.getfield 19, 3) := by decide +kernel
theorem dX11_found_13 : decode cX11_found 13 = .ok (.iload_n 1, 1) := by decide +kernel
theorem dX11_found_14 : decode cX11_found 14 = .ok (.iaload, 1) := by decide +kernel
theorem dX11_found_15 : decode cX11_found 15 = .ok (.goto 9, 3) := by decide +kernel
theorem dX11_found_18 : decode cX11_found 18 = .ok (.aload_n 0, 1) := by decide +kernel
theorem dX11_found_19 : decode cX11_found 19 = .ok (.ldc 63, 2) := by decide +kernel
theorem dX11_found_21 : decode cX11_found 21 = .ok (.invokevirtual 64, 3) := by decide +kernel
theorem dX11_found_24 : decode cX11_found 24 = .ok (.ireturn, 1) := by decide +kernel
theorem dX11_give_0 : decode cX11_give 0 = .ok (.aload_n 0, 1) := by decide +kernel
theorem dX11_give_1 : decode cX11_give 1 = .ok (.iload_n 1, 1) := by decide +kernel
theorem dX11_give_2 : decode cX11_give 2 = .ok (.invokevirtual 121, 3) := by decide +kernel
theorem dX11_give_5 : decode cX11_give 5 = .ok (.ifCond .eq 33, 3) := by decide +kernel
theorem dX11_give_38 : decode cX11_give 38 = .ok (.aload_n 0, 1) := by decide +kernel
theorem dX11_give_39 : decode cX11_give 39 = .ok (.ldc 63, 2) := by decide +kernel
theorem dX11_give_41 : decode cX11_give 41 = .ok (.invokevirtual 64, 3) := by decide +kernel
theorem dX11_give_44 : decode cX11_give 44 = .ok (.ireturn, 1) := by decide +kernel
theorem dX11_hand_0 : decode cX11_hand 0 = .ok (.aload_n 0, 1) := by decide +kernel
theorem dX11_hand_1 : decode cX11_hand 1 = .ok (.iload_n 1, 1) := by decide +kernel
theorem dX11_hand_2 : decode cX11_hand 2 = .ok (.invokevirtual 121, 3) := by decide +kernel
theorem dX11_hand_5 : decode cX11_hand 5 = .ok (.ifCond .eq 26, 3) := by decide +kernel
theorem dX11_hand_31 : decode cX11_hand 31 = .ok (.aload_n 0, 1) := by decide +kernel
theorem dX11_hand_32 : decode cX11_hand 32 = .ok (.ldc 63, 2) := by decide +kernel
theorem dX11_hand_34 : decode cX11_hand 34 = .ok (.invokevirtual 64, 3) := by decide +kernel
theorem dX11_hand_37 : decode cX11_hand 37 = .ok (.ireturn, 1) := by decide +kernel
theorem dX11_hands_0 : decode cX11_hands 0 = .ok (.aload_n 0, 1) := by decide +kernel
theorem dX11_hands_1 : decode cX11_hands 1 = .ok (.iload_n 1, 1) := by decide +kernel
theorem dX11_hands_2 : decode cX11_hands 2 = .ok (.invokevirtual 80, 3) := by decide +kernel
theorem dX11_hands_5 : decode cX11_hands 5 = .ok (.ifCond .eq 21, 3) := by decide +kernel
theorem dX11_hands_26 : decode cX11_hands 26 = .ok (.aload_n 0, 1) := by decide +kernel
theorem dX11_hands_27 : decode cX11_hands 27 = .ok (.ldc 63, 2) := by decide +kernel
theorem dX11_hands_29 : decode cX11_hands 29 = .ok (.invokevirtual 64, 3) := by decide +kernel
theorem dX11_hands_32 : decode cX11_hands 32 = .ok (.ireturn, 1) := by decide +kernel
theorem dX11_image_0 : decode cX11_image 0 = .ok (.aload_n 0, 1) := by decide +kernel
theorem dX11_image_1 : decode cX11_image 1 = .ok (.getfield 9, 3) := by decide +kernel
theorem dX11_image_4 : decode cX11_image 4 = .ok (.aload_n 0, 1) := by decide +kernel
theorem dX11_image_5 : decode cX11_image 5 = .ok (.getfield 13, 3) := by decide +kernel
theorem dX11_image_8 : decode cX11_image 8 = .ok (.invokestatic 257, 3) := by decide +kernel
theorem dX11_image_11 : decode cX11_image 11 = .ok (.aload_n 0, 1) := by decide +kernel
theorem dX11_image_12 : decode cX11_image 12 = .ok (.dup, 1) := by decide +kernel
theorem dX11_image_13 : decode cX11_image 13 = .ok (.getfield 279, 3) := by decide +kernel
theorem dX11_image_16 : decode cX11_image 16 = .ok (.iconst 1, 1) := by decide +kernel
theorem dX11_image_17 : decode cX11_image 17 = .ok (.iadd, 1) := by decide +kernel
theorem dX11_image_18 : decode cX11_image 18 = .ok (.putfield 279, 3) := by decide +kernel
theorem dX11_image_21 : decode cX11_image 21 = .ok (.aload_n 0, 1) := by decide +kernel
theorem dX11_image_22 : decode cX11_image 22 = .ok (.getfield 279, 3) := by decide +kernel
theorem dX11_image_25 : decode cX11_image 25 = .ok (.ireturn, 1) := by decide +kernel
theorem dX11_joined_0 : decode cX11_joined 0 = .ok (.iload_n 1, 1) := by decide +kernel
theorem dX11_joined_1 : decode cX11_joined 1 = .ok (.invokestatic 67, 3) := by decide +kernel
theorem dX11_joined_4 : decode cX11_joined 4 = .ok (.ifCond .eq 15, 3) := by decide +kernel
theorem dX11_joined_7 : decode cX11_joined 7 = .ok (.iload_n 2, 1) := by decide +kernel
theorem dX11_joined_8 : decode cX11_joined 8 = .ok (.invokestatic 67, 3) := by decide +kernel
theorem dX11_joined_11 : decode cX11_joined 11 = .ok (.ifCond .eq 8, 3) := by decide +kernel
theorem dX11_joined_14 : decode cX11_joined 14 = .ok (.iload_n 1, 1) := by decide +kernel
theorem dX11_joined_15 : decode cX11_joined 15 = .ok (.iload_n 2, 1) := by decide +kernel
theorem dX11_joined_16 : decode cX11_joined 16 = .ok (.if_icmp .le 10, 3) := by decide +kernel
theorem dX11_joined_19 : decode cX11_joined 19 = .ok (.aload_n 0, 1) := by decide +kernel
theorem dX11_joined_20 : decode cX11_joined 20 = .ok (.ldc 63, 2) := by decide +kernel
theorem dX11_joined_22 : decode cX11_joined 22 = .ok (.invokevirtual 64, 3) := by decide +kernel
theorem dX11_joined_25 : decode cX11_joined 25 = .ok (.ireturn, 1) := by decide +kernel
theorem dX11_joined_26 : decode cX11_joined 26 = .ok (.aload_n 0, 1) := by decide +kernel
theorem dX11_joined_27 : decode cX11_joined 27 = .ok (.getfield 9, 3) := by decide +kernel
theorem dX11_joined_30 : decode cX11_joined 30 = .ok (.astore_n 3, 1) := by decide +kernel
theorem dX11_joined_31 : decode cX11_joined 31 = .ok (.aload_n 3, 1) := by decide +kernel
theorem dX11_joined_32 : decode cX11_joined 32 = .ok (.aload_n 0, 1) := by decide +kernel
theorem dX11_joined_33 : decode cX11_joined 33 = .ok (.getfield 16, 3) := by decide +kernel
theorem dX11_joined_36 : decode cX11_joined 36 = .ok (.invokestatic 257, 3) := by decide +kernel
theorem dX11_joined_39 : decode cX11_joined 39 = .ok (.aload_n 0, 1) := by decide +kernel
theorem dX11_joined_40 : decode cX11_joined 40 = .ok (.aload_n 0, 1) := by decide +kernel
theorem dX11_joined_41 : decode cX11_joined 41 = .ok (.getfield 16, 3) := by decide +kernel
theorem dX11_joined_44 : decode cX11_joined 44 = .ok (.putfield 9, 3) := by decide +kernel
theorem dX11_joined_47 : decode cX11_joined 47 = .ok (.aload_n 0, 1) := by decide +kernel
theorem dX11_joined_48 : decode cX11_joined 48 = .ok (.getfield 9, 3) := by decide +kernel
theorem dX11_joined_51 : decode cX11_joined 51 = .ok (.iconst 0, 1) := by decide +kernel
theorem dX11_joined_52 : decode cX11_joined 52 = .ok (.iaload, 1) := by decide +kernel
theorem dX11_joined_53 : decode cX11_joined 53 = .ok (.sipush 200, 3) := by decide +kernel
theorem dX11_joined_56 : decode cX11_joined 56 = .ok (.iadd, 1) := by decide +kernel
theorem dX11_joined_57 : decode cX11_joined 57 = .ok (.sipush 2000, 3) := by decide +kernel
theorem dX11_joined_60 : decode cX11_joined 60 = .ok (.if_icmp .le 9, 3) := by decide +kernel
theorem dX11_joined_69 : decode cX11_joined 69 = .ok (.aload_n 0, 1) := by decide +kernel
theorem dX11_joined_70 : decode cX11_joined 70 = .ok (.getfield 9, 3) := by decide +kernel
theorem dX11_joined_73 : decode cX11_joined 73 = .ok (.iconst 0, 1) := by decide +kernel
theorem dX11_joined_74 : decode cX11_joined 74 = .ok (.iaload, 1) := by decide +kernel
theorem dX11_joined_75 : decode cX11_joined 75 = .ok (.sipush 200, 3) := by decide +kernel
theorem dX11_joined_78 : decode cX11_joined 78 = .ok (.iadd, 1) := by decide +kernel
theorem dX11_joined_79 : decode cX11_joined 79 = .ok (.istore 4, 2) := by decide +kernel
theorem dX11_joined_81 : decode cX11_joined 81 = .ok (.aload_n 0, 1) := by decide +kernel
theorem dX11_joined_82 : decode cX11_joined 82 = .ok (.getfield 9, 3) := by decide +kernel
theorem dX11_joined_85 : decode cX11_joined 85 = .ok (.iconst 0, 1) := by decide +kernel
theorem dX11_joined_86 : decode cX11_joined 86 = .ok (.iaload, 1) := by decide +kernel
theorem dX11_joined_87 : decode cX11_joined 87 = .ok (.iload 4, 2) := by decide +kernel
theorem dX11_joined_89 : decode cX11_joined 89 = .ok (.if_icmp .ge 19, 3) := by decide +kernel
theorem dX11_joined_92 : decode cX11_joined 92 = .ok (.aload_n 0, 1) := by decide +kernel
theorem dX11_joined_93 : decode cX11_joined 93 = .ok (.iload_n 1, 1) := by decide +kernel
theorem dX11_joined_94 : decode cX11_joined 94 = .ok (.iload_n 2, 1) := by decide +kernel
theorem dX11_joined_95 : decode cX11_joined 95 = .ok (.invokevirtual 264, 3) := by decide +kernel
theorem dX11_joined_98 : decode cX11_joined 98 = .ok (.ifCond .ne 10, 3) := by decide +kernel
theorem dX11_joined_101 : decode cX11_joined 101 = .ok (.aload_n 0, 1) := by decide +kernel
theorem dX11_joined_102 : decode cX11_joined 102 = .ok (.invokevirtual 254, 3) := by decide +kernel
theorem dX11_joined_105 : decode cX11_joined 105 = .ok (.goto (-24), 3) := by decide +kernel
theorem dX11_joined_108 : decode cX11_joined 108 = .ok (.aload_n 0, 1) := by decide +kernel
theorem dX11_joined_109 : decode cX11_joined 109 = .ok (.iload_n 1, 1) := by decide +kernel
theorem dX11_joined_110 : decode cX11_joined 110 = .ok (.iload_n 2, 1) := by decide +kernel
theorem dX11_joined_111 : decode cX11_joined 111 = .ok (.invokevirtual 264, 3) := by decide +kernel
theorem dX11_joined_114 : decode cX11_joined 114 = .ok (.ifCond .eq 12, 3) := by decide +kernel
theorem dX11_joined_126 : decode cX11_joined 126 = .ok (.iconst (-1), 1) := by decide +kernel
theorem dX11_joined_127 : decode cX11_joined 127 = .ok (.istore 5, 2) := by decide +kernel
theorem dX11_joined_129 : decode cX11_joined 129 = .ok (.aload_n 0, 1) := by decide +kernel
theorem dX11_joined_130 : decode cX11_joined 130 = .ok (.aload_n 3, 1) := by decide +kernel
theorem dX11_joined_131 : decode cX11_joined 131 = .ok (.putfield 9, 3) := by decide +kernel
theorem dX11_joined_134 : decode cX11_joined 134 = .ok (.iload 5, 2) := by decide +kernel
theorem dX11_joined_136 : decode cX11_joined 136 = .ok (.ifCond .ge 12, 3) := by decide +kernel
theorem dX11_joined_139 : decode cX11_joined 139 = .ok (.aload_n 0, 1) := by decide +kernel
theorem dX11_joined_140 : decode cX11_joined 140 = .ok (.ldc 114, 2) := by decide +kernel
theorem dX11_joined_142 : decode cX11_joined 142 = .ok (.invokevirtual 64, 3) := by decide +kernel
theorem dX11_joined_145 : decode cX11_joined 145 = .ok (.goto 5, 3) := by decide +kernel
theorem dX11_joined_150 : decode cX11_joined 150 = .ok (.ireturn, 1) := by decide +kernel
theorem dX11_judge_0 : decode cX11_judge 0 = .ok (.aload_n 0, 1) := by decide +kernel
theorem dX11_judge_1 : decode cX11_judge 1 = .ok (.iload_n 1, 1) := by decide +kernel
theorem dX11_judge_2 : decode cX11_judge 2 = .ok (.iload_n 2, 1) := by decide +kernel
theorem dX11_judge_3 : decode cX11_judge 3 = .ok (.iload_n 3, 1) := by decide +kernel
theorem dX11_judge_4 : decode cX11_judge 4 = .ok (.iload 5, 2) := by decide +kernel
theorem dX11_judge_6 : decode cX11_judge 6 = .ok (.iconst 0, 1) := by decide +kernel
theorem dX11_judge_7 : decode cX11_judge 7 = .ok (.sipush 9999, 3) := by decide +kernel
theorem dX11_judge_10 : decode cX11_judge 10 = .ok (.invokestatic 47, 3) := by decide +kernel
theorem dX11_judge_13 : decode cX11_judge 13 = .ok (.invokevirtual 234, 3) := by decide +kernel
theorem dX11_judge_16 : decode cX11_judge 16 = .ok (.istore 6, 2) := by decide +kernel
theorem dX11_judge_18 : decode cX11_judge 18 = .ok (.iload 6, 2) := by decide +kernel
theorem dX11_judge_20 : decode cX11_judge 20 = .ok (.ifCond .eq 10, 3) := by decide +kernel
theorem dX11_judge_23 : decode cX11_judge 23 = .ok (.aload_n 0, 1) := by decide +kernel
theorem dX11_judge_24 : decode cX11_judge 24 = .ok (.iload 6, 2) := by decide +kernel
theorem dX11_judge_26 : decode cX11_judge 26 = .ok (.invokevirtual 64, 3) := by decide +kernel
theorem dX11_judge_29 : decode cX11_judge 29 = .ok (.ireturn, 1) := by decide +kernel
theorem dX11_land_0 : decode cX11_land 0 = .ok (.iload_n 1, 1) := by decide +kernel
theorem dX11_land_1 : decode cX11_land 1 = .ok (.invokestatic 67, 3) := by decide +kernel
theorem dX11_land_4 : decode cX11_land 4 = .ok (.ifCond .eq 22, 3) := by decide +kernel
theorem dX11_land_7 : decode cX11_land 7 = .ok (.iload_n 2, 1) := by decide +kernel
theorem dX11_land_8 : decode cX11_land 8 = .ok (.iconst 0, 1) := by decide +kernel
theorem dX11_land_9 : decode cX11_land 9 = .ok (.iconst 2, 1) := by decide +kernel
theorem dX11_land_10 : decode cX11_land 10 = .ok (.invokestatic 47, 3) := by decide +kernel
theorem dX11_land_13 : decode cX11_land 13 = .ok (.ifCond .eq 13, 3) := by decide +kernel
theorem dX11_land_16 : decode cX11_land 16 = .ok (.iload_n 3, 1) := by decide +kernel
theorem dX11_land_17 : decode cX11_land 17 = .ok (.iconst 0, 1) := by decide +kernel
theorem dX11_land_18 : decode cX11_land 18 = .ok (.bipush 99, 2) := by decide +kernel
theorem dX11_land_20 : decode cX11_land 20 = .ok (.invokestatic 47, 3) := by decide +kernel
theorem dX11_land_23 : decode cX11_land 23 = .ok (.ifCond .ne 10, 3) := by decide +kernel
theorem dX11_land_26 : decode cX11_land 26 = .ok (.aload_n 0, 1) := by decide +kernel
theorem dX11_land_27 : decode cX11_land 27 = .ok (.ldc 63, 2) := by decide +kernel
theorem dX11_land_29 : decode cX11_land 29 = .ok (.invokevirtual 64, 3) := by decide +kernel
theorem dX11_land_32 : decode cX11_land 32 = .ok (.ireturn, 1) := by decide +kernel
theorem dX11_land_33 : decode cX11_land 33 = .ok (.bipush 100, 2) := by decide +kernel
theorem dX11_land_35 : decode cX11_land 35 = .ok (.aload_n 0, 1) := by decide +kernel
theorem dX11_land_36 : decode cX11_land 36 = .ok (.getfield 9, 3) := by decide +kernel
theorem dX11_land_39 : decode cX11_land 39 = .ok (.bipush 19, 2) := by decide +kernel
theorem dX11_land_41 : decode cX11_land 41 = .ok (.iload_n 1, 1) := by decide +kernel
theorem dX11_land_42 : decode cX11_land 42 = .ok (.iadd, 1) := by decide +kernel
theorem dX11_land_43 : decode cX11_land 43 = .ok (.iaload, 1) := by decide +kernel
theorem dX11_land_44 : decode cX11_land 44 = .ok (.imul, 1) := by decide +kernel
theorem dX11_land_45 : decode cX11_land 45 = .ok (.aload_n 0, 1) := by decide +kernel
theorem dX11_land_46 : decode cX11_land 46 = .ok (.getfield 9, 3) := by decide +kernel
theorem dX11_land_49 : decode cX11_land 49 = .ok (.bipush 59, 2) := by decide +kernel
theorem dX11_land_51 : decode cX11_land 51 = .ok (.iload_n 1, 1) := by decide +kernel
theorem dX11_land_52 : decode cX11_land 52 = .ok (.iadd, 1) := by decide +kernel
theorem dX11_land_53 : decode cX11_land 53 = .ok (.iaload, 1) := by decide +kernel
theorem dX11_land_54 : decode cX11_land 54 = .ok (.iadd, 1) := by decide +kernel
theorem dX11_land_55 : decode cX11_land 55 = .ok (.istore 4, 2) := by decide +kernel
theorem dX11_land_57 : decode cX11_land 57 = .ok (.aload_n 0, 1) := by decide +kernel
theorem dX11_land_58 : decode cX11_land 58 = .ok (.getfield 9, 3) := by decide +kernel
theorem dX11_land_61 : decode cX11_land 61 = .ok (.bipush 19, 2) := by decide +kernel
theorem dX11_land_63 : decode cX11_land 63 = .ok (.iload_n 1, 1) := by decide +kernel
theorem dX11_land_64 : decode cX11_land 64 = .ok (.iadd, 1) := by decide +kernel
theorem dX11_land_65 : decode cX11_land 65 = .ok (.iload_n 2, 1) := by decide +kernel
theorem dX11_land_66 : decode cX11_land 66 = .ok (.iastore, 1) := by decide +kernel
theorem dX11_land_67 : decode cX11_land 67 = .ok (.aload_n 0, 1) := by decide +kernel
theorem dX11_land_68 : decode cX11_land 68 = .ok (.getfield 9, 3) := by decide +kernel
theorem dX11_land_71 : decode cX11_land 71 = .ok (.bipush 59, 2) := by decide +kernel
theorem dX11_land_73 : decode cX11_land 73 = .ok (.iload_n 1, 1) := by decide +kernel
theorem dX11_land_74 : decode cX11_land 74 = .ok (.iadd, 1) := by decide +kernel
theorem dX11_land_75 : decode cX11_land 75 = .ok (.iload_n 3, 1) := by decide +kernel
theorem dX11_land_76 : decode cX11_land 76 = .ok (.iastore, 1) := by decide +kernel
theorem dX11_land_77 : decode cX11_land 77 = .ok (.iload 4, 2) := by decide +kernel
theorem dX11_land_79 : decode cX11_land 79 = .ok (.ireturn, 1) := by decide +kernel
theorem dX11_lay_0 : decode cX11_lay 0 = .ok (.aload_n 0, 1) := by decide +kernel
theorem dX11_lay_1 : decode cX11_lay 1 = .ok (.iload_n 1, 1) := by decide +kernel
theorem dX11_lay_2 : decode cX11_lay 2 = .ok (.invokevirtual 80, 3) := by decide +kernel
theorem dX11_lay_5 : decode cX11_lay 5 = .ok (.ifCond .eq 14, 3) := by decide +kernel
theorem dX11_lay_19 : decode cX11_lay 19 = .ok (.aload_n 0, 1) := by decide +kernel
theorem dX11_lay_20 : decode cX11_lay 20 = .ok (.ldc 63, 2) := by decide +kernel
theorem dX11_lay_22 : decode cX11_lay 22 = .ok (.invokevirtual 64, 3) := by decide +kernel
theorem dX11_lay_25 : decode cX11_lay 25 = .ok (.ireturn, 1) := by decide +kernel
theorem dX11_load_0 : decode cX11_load 0 = .ok (.aload_n 0, 1) := by decide +kernel
theorem dX11_load_1 : decode cX11_load 1 = .ok (.iload_n 1, 1) := by decide +kernel
theorem dX11_load_2 : decode cX11_load 2 = .ok (.invokevirtual 121, 3) := by decide +kernel
theorem dX11_load_5 : decode cX11_load 5 = .ok (.ifCond .eq 16, 3) := by decide +kernel
theorem dX11_load_21 : decode cX11_load 21 = .ok (.aload_n 0, 1) := by decide +kernel
theorem dX11_load_22 : decode cX11_load 22 = .ok (.ldc 63, 2) := by decide +kernel
theorem dX11_load_24 : decode cX11_load 24 = .ok (.invokevirtual 64, 3) := by decide +kernel
theorem dX11_load_27 : decode cX11_load 27 = .ok (.ireturn, 1) := by decide +kernel
theorem dX11_meeting_0 : decode cX11_meeting 0 = .ok (.aload_n 0, 1) := by decide +kernel
theorem dX11_meeting_1 : decode cX11_meeting 1 = .ok (.iload_n 1, 1) := by decide +kernel
theorem dX11_meeting_2 : decode cX11_meeting 2 = .ok (.iload_n 2, 1) := by decide +kernel
theorem dX11_meeting_3 : decode cX11_meeting 3 = .ok (.iload_n 3, 1) := by decide +kernel
theorem dX11_meeting_4 : decode cX11_meeting 4 = .ok (.iload 4, 2) := by decide +kernel
theorem dX11_meeting_6 : decode cX11_meeting 6 = .ok (.iconst 0, 1) := by decide +kernel
theorem dX11_meeting_7 : decode cX11_meeting 7 = .ok (.iconst 1, 1) := by decide +kernel
theorem dX11_meeting_8 : decode cX11_meeting 8 = .ok (.invokestatic 47, 3) := by decide +kernel
theorem dX11_meeting_11 : decode cX11_meeting 11 = .ok (.invokevirtual 234, 3) := by decide +kernel
theorem dX11_meeting_14 : decode cX11_meeting 14 = .ok (.istore 5, 2) := by decide +kernel
theorem dX11_meeting_16 : decode cX11_meeting 16 = .ok (.iload 5, 2) := by decide +kernel
theorem dX11_meeting_18 : decode cX11_meeting 18 = .ok (.ifCond .eq 10, 3) := by decide +kernel
theorem dX11_meeting_21 : decode cX11_meeting 21 = .ok (.aload_n 0, 1) := by decide +kernel
theorem dX11_meeting_22 : decode cX11_meeting 22 = .ok (.iload 5, 2) := by decide +kernel
theorem dX11_meeting_24 : decode cX11_meeting 24 = .ok (.invokevirtual 64, 3) := by decide +kernel
theorem dX11_meeting_27 : decode cX11_meeting 27 = .ok (.ireturn, 1) := by decide +kernel
theorem dX11_mileIs_0 : decode cX11_mileIs 0 = .ok (.iload_n 1, 1) := by decide +kernel
theorem dX11_mileIs_1 : decode cX11_mileIs 1 = .ok (.invokestatic 67, 3) := by decide +kernel
theorem dX11_mileIs_4 : decode cX11_mileIs 4 = .ok (.ifCond .ne 10, 3) := by decide +kernel
theorem dX11_mileIs_7 : decode cX11_mileIs 7 = .ok (.aload_n 0, 1) := by decide +kernel
theorem dX11_mileIs_8 : decode cX11_mileIs 8 = .ok (.ldc 63, 2) := by decide +kernel
theorem dX11_mileIs_10 : decode cX11_mileIs 10 = .ok (.invokevirtual 64, 3) := by decide +kernel
theorem dX11_mileIs_13 : decode cX11_mileIs 13 = .ok (.ireturn, 1) := by decide +kernel
theorem dX11_mileIs_14 : decode cX11_mileIs 14 = .ok (.iload_n 2, 1) := by decide +kernel
theorem dX11_mileIs_15 : decode cX11_mileIs 15 = .ok (.tableswitch 93 0 5 #[37, 47, 57, 71, 77, 87], 37) := by decide +kernel
theorem dX11_mileIs_52 : decode cX11_mileIs 52 = .ok (.aload_n 0, 1) := by decide +kernel
theorem dX11_mileIs_53 : decode cX11_mileIs 53 = .ok (.getfield 9, 3) := by decide +kernel
theorem dX11_mileIs_56 : decode cX11_mileIs 56 = .ok (.bipush 19, 2) := by decide +kernel
theorem dX11_mileIs_58 : decode cX11_mileIs 58 = .ok (.iload_n 1, 1) := by decide +kernel
theorem dX11_mileIs_59 : decode cX11_mileIs 59 = .ok (.iadd, 1) := by decide +kernel
theorem dX11_mileIs_60 : decode cX11_mileIs 60 = .ok (.iaload, 1) := by decide +kernel
theorem dX11_mileIs_61 : decode cX11_mileIs 61 = .ok (.ireturn, 1) := by decide +kernel
theorem dX11_mileIs_62 : decode cX11_mileIs 62 = .ok (.aload_n 0, 1) := by decide +kernel
theorem dX11_mileIs_63 : decode cX11_mileIs 63 = .ok (.getfield 9, 3) := by decide +kernel
theorem dX11_mileIs_66 : decode cX11_mileIs 66 = .ok (.bipush 59, 2) := by decide +kernel
theorem dX11_mileIs_68 : decode cX11_mileIs 68 = .ok (.iload_n 1, 1) := by decide +kernel
theorem dX11_mileIs_69 : decode cX11_mileIs 69 = .ok (.iadd, 1) := by decide +kernel
theorem dX11_mileIs_70 : decode cX11_mileIs 70 = .ok (.iaload, 1) := by decide +kernel
theorem dX11_mileIs_71 : decode cX11_mileIs 71 = .ok (.ireturn, 1) := by decide +kernel
theorem dX11_mileIs_72 : decode cX11_mileIs 72 = .ok (.aload_n 0, 1) := by decide +kernel
theorem dX11_mileIs_73 : decode cX11_mileIs 73 = .ok (.iload_n 1, 1) := by decide +kernel
theorem dX11_mileIs_74 : decode cX11_mileIs 74 = .ok (.invokevirtual 95, 3) := by decide +kernel
theorem dX11_mileIs_77 : decode cX11_mileIs 77 = .ok (.ifCond .eq 7, 3) := by decide +kernel
theorem dX11_mileIs_84 : decode cX11_mileIs 84 = .ok (.iconst 0, 1) := by decide +kernel
theorem dX11_mileIs_85 : decode cX11_mileIs 85 = .ok (.ireturn, 1) := by decide +kernel
theorem dX11_mileIs_86 : decode cX11_mileIs 86 = .ok (.aload_n 0, 1) := by decide +kernel
theorem dX11_mileIs_87 : decode cX11_mileIs 87 = .ok (.iload_n 1, 1) := by decide +kernel
theorem dX11_mileIs_88 : decode cX11_mileIs 88 = .ok (.invokevirtual 102, 3) := by decide +kernel
theorem dX11_mileIs_91 : decode cX11_mileIs 91 = .ok (.ireturn, 1) := by decide +kernel
theorem dX11_mileIs_92 : decode cX11_mileIs 92 = .ok (.aload_n 0, 1) := by decide +kernel
theorem dX11_mileIs_93 : decode cX11_mileIs 93 = .ok (.iload_n 1, 1) := by decide +kernel
theorem dX11_mileIs_94 : decode cX11_mileIs 94 = .ok (.aload_n 0, 1) := by decide +kernel
theorem dX11_mileIs_95 : decode cX11_mileIs 95 = .ok (.invokevirtual 98, 3) := by decide +kernel
theorem dX11_mileIs_98 : decode cX11_mileIs 98 = .ok (.invokevirtual 105, 3) := by decide +kernel
theorem dX11_mileIs_101 : decode cX11_mileIs 101 = .ok (.ireturn, 1) := by decide +kernel
theorem dX11_mileIs_102 : decode cX11_mileIs 102 = .ok (.aload_n 0, 1) := by decide +kernel
theorem dX11_mileIs_103 : decode cX11_mileIs 103 = .ok (.iload_n 1, 1) := by decide +kernel
theorem dX11_mileIs_104 : decode cX11_mileIs 104 = .ok (.invokevirtual 108, 3) := by decide +kernel
theorem dX11_mileIs_107 : decode cX11_mileIs 107 = .ok (.ireturn, 1) := by decide +kernel
theorem dX11_mileIs_108 : decode cX11_mileIs 108 = .ok (.aload_n 0, 1) := by decide +kernel
theorem dX11_mileIs_109 : decode cX11_mileIs 109 = .ok (.ldc 63, 2) := by decide +kernel
theorem dX11_mileIs_111 : decode cX11_mileIs 111 = .ok (.invokevirtual 64, 3) := by decide +kernel
theorem dX11_mileIs_114 : decode cX11_mileIs 114 = .ok (.ireturn, 1) := by decide +kernel
theorem dX11_move_0 : decode cX11_move 0 = .ok (.iload_n 1, 1) := by decide +kernel
theorem dX11_move_1 : decode cX11_move 1 = .ok (.invokestatic 111, 3) := by decide +kernel
theorem dX11_move_4 : decode cX11_move 4 = .ok (.ifCond .eq 10, 3) := by decide +kernel
theorem dX11_move_7 : decode cX11_move 7 = .ok (.iload_n 3, 1) := by decide +kernel
theorem dX11_move_8 : decode cX11_move 8 = .ok (.invokestatic 111, 3) := by decide +kernel
theorem dX11_move_11 : decode cX11_move 11 = .ok (.ifCond .ne 10, 3) := by decide +kernel
theorem dX11_move_14 : decode cX11_move 14 = .ok (.aload_n 0, 1) := by decide +kernel
theorem dX11_move_15 : decode cX11_move 15 = .ok (.ldc 63, 2) := by decide +kernel
theorem dX11_move_17 : decode cX11_move 17 = .ok (.invokevirtual 64, 3) := by decide +kernel
theorem dX11_move_20 : decode cX11_move 20 = .ok (.ireturn, 1) := by decide +kernel
theorem dX11_move_21 : decode cX11_move 21 = .ok (.aload_n 0, 1) := by decide +kernel
theorem dX11_move_22 : decode cX11_move 22 = .ok (.getfield 22, 3) := by decide +kernel
theorem dX11_move_25 : decode cX11_move 25 = .ok (.iload_n 1, 1) := by decide +kernel
theorem dX11_move_26 : decode cX11_move 26 = .ok (.iaload, 1) := by decide +kernel
theorem dX11_move_27 : decode cX11_move 27 = .ok (.ifCond .eq 12, 3) := by decide +kernel
theorem dX11_move_39 : decode cX11_move 39 = .ok (.aload_n 0, 1) := by decide +kernel
theorem dX11_move_40 : decode cX11_move 40 = .ok (.ldc 114, 2) := by decide +kernel
theorem dX11_move_42 : decode cX11_move 42 = .ok (.invokevirtual 64, 3) := by decide +kernel
theorem dX11_move_45 : decode cX11_move 45 = .ok (.ireturn, 1) := by decide +kernel
theorem dX11_noMeeting_0 : decode cX11_noMeeting 0 = .ok (.aload_n 0, 1) := by decide +kernel
theorem dX11_noMeeting_1 : decode cX11_noMeeting 1 = .ok (.iload_n 1, 1) := by decide +kernel
theorem dX11_noMeeting_2 : decode cX11_noMeeting 2 = .ok (.invokevirtual 121, 3) := by decide +kernel
theorem dX11_noMeeting_5 : decode cX11_noMeeting 5 = .ok (.ifCond .eq 23, 3) := by decide +kernel
theorem dX11_noMeeting_28 : decode cX11_noMeeting 28 = .ok (.ldc 63, 2) := by decide +kernel
theorem dX11_noMeeting_30 : decode cX11_noMeeting 30 = .ok (.ireturn, 1) := by decide +kernel
theorem dX11_oneDay_0 : decode cX11_oneDay 0 = .ok (.aload_n 0, 1) := by decide +kernel
theorem dX11_oneDay_1 : decode cX11_oneDay 1 = .ok (.invokevirtual 241, 3) := by decide +kernel
theorem dX11_oneDay_4 : decode cX11_oneDay 4 = .ok (.iconst 0, 1) := by decide +kernel
theorem dX11_oneDay_5 : decode cX11_oneDay 5 = .ok (.istore_n 1, 1) := by decide +kernel
theorem dX11_oneDay_6 : decode cX11_oneDay 6 = .ok (.iload_n 1, 1) := by decide +kernel
theorem dX11_oneDay_7 : decode cX11_oneDay 7 = .ok (.aload_n 0, 1) := by decide +kernel
theorem dX11_oneDay_8 : decode cX11_oneDay 8 = .ok (.getfield 9, 3) := by decide +kernel
theorem dX11_oneDay_11 : decode cX11_oneDay 11 = .ok (.iconst 2, 1) := by decide +kernel
theorem dX11_oneDay_12 : decode cX11_oneDay 12 = .ok (.iaload, 1) := by decide +kernel
theorem dX11_oneDay_13 : decode cX11_oneDay 13 = .ok (.if_icmp .ge 54, 3) := by decide +kernel
theorem dX11_oneDay_67 : decode cX11_oneDay 67 = .ok (.iconst 0, 1) := by decide +kernel
theorem dX11_oneDay_68 : decode cX11_oneDay 68 = .ok (.istore_n 1, 1) := by decide +kernel
theorem dX11_oneDay_69 : decode cX11_oneDay 69 = .ok (.iload_n 1, 1) := by decide +kernel
theorem dX11_oneDay_70 : decode cX11_oneDay 70 = .ok (.aload_n 0, 1) := by decide +kernel
theorem dX11_oneDay_71 : decode cX11_oneDay 71 = .ok (.getfield 9, 3) := by decide +kernel
theorem dX11_oneDay_74 : decode cX11_oneDay 74 = .ok (.iconst 2, 1) := by decide +kernel
theorem dX11_oneDay_75 : decode cX11_oneDay 75 = .ok (.iaload, 1) := by decide +kernel
theorem dX11_oneDay_76 : decode cX11_oneDay 76 = .ok (.if_icmp .ge 24, 3) := by decide +kernel
theorem dX11_oneDay_100 : decode cX11_oneDay 100 = .ok (.aload_n 0, 1) := by decide +kernel
theorem dX11_oneDay_101 : decode cX11_oneDay 101 = .ok (.getfield 9, 3) := by decide +kernel
theorem dX11_oneDay_104 : decode cX11_oneDay 104 = .ok (.iconst 0, 1) := by decide +kernel
theorem dX11_oneDay_105 : decode cX11_oneDay 105 = .ok (.dup2, 1) := by decide +kernel
theorem dX11_oneDay_106 : decode cX11_oneDay 106 = .ok (.iaload, 1) := by decide +kernel
theorem dX11_oneDay_107 : decode cX11_oneDay 107 = .ok (.iconst 1, 1) := by decide +kernel
theorem dX11_oneDay_108 : decode cX11_oneDay 108 = .ok (.iadd, 1) := by decide +kernel
theorem dX11_oneDay_109 : decode cX11_oneDay 109 = .ok (.iastore, 1) := by decide +kernel
theorem dX11_oneDay_110 : decode cX11_oneDay 110 = .ok (.return_, 1) := by decide +kernel
theorem dX11_owed_0 : decode cX11_owed 0 = .ok (.iload_n 1, 1) := by decide +kernel
theorem dX11_owed_1 : decode cX11_owed 1 = .ok (.invokestatic 201, 3) := by decide +kernel
theorem dX11_owed_4 : decode cX11_owed 4 = .ok (.ifCond .ne 10, 3) := by decide +kernel
theorem dX11_owed_7 : decode cX11_owed 7 = .ok (.aload_n 0, 1) := by decide +kernel
theorem dX11_owed_8 : decode cX11_owed 8 = .ok (.ldc 63, 2) := by decide +kernel
theorem dX11_owed_10 : decode cX11_owed 10 = .ok (.invokevirtual 64, 3) := by decide +kernel
theorem dX11_owed_13 : decode cX11_owed 13 = .ok (.ireturn, 1) := by decide +kernel
theorem dX11_owed_14 : decode cX11_owed 14 = .ok (.aload_n 0, 1) := by decide +kernel
theorem dX11_owed_15 : decode cX11_owed 15 = .ok (.getfield 9, 3) := by decide +kernel
theorem dX11_owed_18 : decode cX11_owed 18 = .ok (.iconst 0, 1) := by decide +kernel
theorem dX11_owed_19 : decode cX11_owed 19 = .ok (.iaload, 1) := by decide +kernel
theorem dX11_owed_20 : decode cX11_owed 20 = .ok (.iload_n 1, 1) := by decide +kernel
theorem dX11_owed_21 : decode cX11_owed 21 = .ok (.if_icmp .le 32, 3) := by decide +kernel
theorem dX11_owed_53 : decode cX11_owed 53 = .ok (.iconst 0, 1) := by decide +kernel
theorem dX11_owed_54 : decode cX11_owed 54 = .ok (.ireturn, 1) := by decide +kernel
theorem dX11_partyIs_0 : decode cX11_partyIs 0 = .ok (.aload_n 0, 1) := by decide +kernel
theorem dX11_partyIs_1 : decode cX11_partyIs 1 = .ok (.iload_n 1, 1) := by decide +kernel
theorem dX11_partyIs_2 : decode cX11_partyIs 2 = .ok (.invokevirtual 121, 3) := by decide +kernel
theorem dX11_partyIs_5 : decode cX11_partyIs 5 = .ok (.ifCond .eq 22, 3) := by decide +kernel
theorem dX11_partyIs_27 : decode cX11_partyIs 27 = .ok (.aload_n 0, 1) := by decide +kernel
theorem dX11_partyIs_28 : decode cX11_partyIs 28 = .ok (.ldc 63, 2) := by decide +kernel
theorem dX11_partyIs_30 : decode cX11_partyIs 30 = .ok (.invokevirtual 64, 3) := by decide +kernel
theorem dX11_partyIs_33 : decode cX11_partyIs 33 = .ok (.ireturn, 1) := by decide +kernel
theorem dX11_party__0 : decode cX11_party_ 0 = .ok (.iload_n 1, 1) := by decide +kernel
theorem dX11_party__1 : decode cX11_party_ 1 = .ok (.invokestatic 67, 3) := by decide +kernel
theorem dX11_party__4 : decode cX11_party_ 4 = .ok (.ifCond .eq 54, 3) := by decide +kernel
theorem dX11_party__7 : decode cX11_party_ 7 = .ok (.iload_n 2, 1) := by decide +kernel
theorem dX11_party__8 : decode cX11_party_ 8 = .ok (.iconst 1, 1) := by decide +kernel
theorem dX11_party__9 : decode cX11_party_ 9 = .ok (.if_icmp .eq 8, 3) := by decide +kernel
theorem dX11_party__12 : decode cX11_party_ 12 = .ok (.iload_n 2, 1) := by decide +kernel
theorem dX11_party__13 : decode cX11_party_ 13 = .ok (.iconst (-1), 1) := by decide +kernel
theorem dX11_party__14 : decode cX11_party_ 14 = .ok (.if_icmp .ne 44, 3) := by decide +kernel
theorem dX11_party__17 : decode cX11_party_ 17 = .ok (.iload_n 3, 1) := by decide +kernel
theorem dX11_party__18 : decode cX11_party_ 18 = .ok (.ifCond .lt 40, 3) := by decide +kernel
theorem dX11_party__21 : decode cX11_party_ 21 = .ok (.iload_n 3, 1) := by decide +kernel
theorem dX11_party__22 : decode cX11_party_ 22 = .ok (.bipush 100, 2) := by decide +kernel
theorem dX11_party__24 : decode cX11_party_ 24 = .ok (.idiv, 1) := by decide +kernel
theorem dX11_party__25 : decode cX11_party_ 25 = .ok (.iconst 1, 1) := by decide +kernel
theorem dX11_party__26 : decode cX11_party_ 26 = .ok (.bipush 50, 2) := by decide +kernel
theorem dX11_party__28 : decode cX11_party_ 28 = .ok (.invokestatic 47, 3) := by decide +kernel
theorem dX11_party__31 : decode cX11_party_ 31 = .ok (.ifCond .eq 27, 3) := by decide +kernel
theorem dX11_party__34 : decode cX11_party_ 34 = .ok (.iload_n 3, 1) := by decide +kernel
theorem dX11_party__35 : decode cX11_party_ 35 = .ok (.bipush 100, 2) := by decide +kernel
theorem dX11_party__37 : decode cX11_party_ 37 = .ok (.irem, 1) := by decide +kernel
theorem dX11_party__38 : decode cX11_party_ 38 = .ok (.iconst 0, 1) := by decide +kernel
theorem dX11_party__39 : decode cX11_party_ 39 = .ok (.bipush 50, 2) := by decide +kernel
theorem dX11_party__41 : decode cX11_party_ 41 = .ok (.invokestatic 47, 3) := by decide +kernel
theorem dX11_party__44 : decode cX11_party_ 44 = .ok (.ifCond .eq 14, 3) := by decide +kernel
theorem dX11_party__47 : decode cX11_party_ 47 = .ok (.iload 4, 2) := by decide +kernel
theorem dX11_party__49 : decode cX11_party_ 49 = .ok (.iconst 0, 1) := by decide +kernel
theorem dX11_party__50 : decode cX11_party_ 50 = .ok (.bipush 99, 2) := by decide +kernel
theorem dX11_party__52 : decode cX11_party_ 52 = .ok (.invokestatic 47, 3) := by decide +kernel
theorem dX11_party__55 : decode cX11_party_ 55 = .ok (.ifCond .ne 10, 3) := by decide +kernel
theorem dX11_party__58 : decode cX11_party_ 58 = .ok (.aload_n 0, 1) := by decide +kernel
theorem dX11_party__59 : decode cX11_party_ 59 = .ok (.ldc 63, 2) := by decide +kernel
theorem dX11_party__61 : decode cX11_party_ 61 = .ok (.invokevirtual 64, 3) := by decide +kernel
theorem dX11_party__64 : decode cX11_party_ 64 = .ok (.ireturn, 1) := by decide +kernel
theorem dX11_party__65 : decode cX11_party_ 65 = .ok (.aload_n 0, 1) := by decide +kernel
theorem dX11_party__66 : decode cX11_party_ 66 = .ok (.getfield 9, 3) := by decide +kernel
theorem dX11_party__69 : decode cX11_party_ 69 = .ok (.iconst 2, 1) := by decide +kernel
theorem dX11_party__70 : decode cX11_party_ 70 = .ok (.iaload, 1) := by decide +kernel
theorem dX11_party__71 : decode cX11_party_ 71 = .ok (.iconst 4, 1) := by decide +kernel
theorem dX11_party__72 : decode cX11_party_ 72 = .ok (.if_icmp .ne 10, 3) := by decide +kernel
theorem dX11_party__82 : decode cX11_party_ 82 = .ok (.aload_n 0, 1) := by decide +kernel
theorem dX11_party__83 : decode cX11_party_ 83 = .ok (.getfield 9, 3) := by decide +kernel
theorem dX11_party__86 : decode cX11_party_ 86 = .ok (.iconst 2, 1) := by decide +kernel
theorem dX11_party__87 : decode cX11_party_ 87 = .ok (.iaload, 1) := by decide +kernel
theorem dX11_party__88 : decode cX11_party_ 88 = .ok (.istore 5, 2) := by decide +kernel
theorem dX11_party__90 : decode cX11_party_ 90 = .ok (.aload_n 0, 1) := by decide +kernel
theorem dX11_party__91 : decode cX11_party_ 91 = .ok (.getfield 9, 3) := by decide +kernel
theorem dX11_party__94 : decode cX11_party_ 94 = .ok (.iconst 2, 1) := by decide +kernel
theorem dX11_party__95 : decode cX11_party_ 95 = .ok (.dup2, 1) := by decide +kernel
theorem dX11_party__96 : decode cX11_party_ 96 = .ok (.iaload, 1) := by decide +kernel
theorem dX11_party__97 : decode cX11_party_ 97 = .ok (.iconst 1, 1) := by decide +kernel
theorem dX11_party__98 : decode cX11_party_ 98 = .ok (.iadd, 1) := by decide +kernel
theorem dX11_party__99 : decode cX11_party_ 99 = .ok (.iastore, 1) := by decide +kernel
theorem dX11_party__100 : decode cX11_party_ 100 = .ok (.iconst 0, 1) := by decide +kernel
theorem dX11_party__101 : decode cX11_party_ 101 = .ok (.istore 6, 2) := by decide +kernel
theorem dX11_party__103 : decode cX11_party_ 103 = .ok (.iload 6, 2) := by decide +kernel
theorem dX11_party__105 : decode cX11_party_ 105 = .ok (.bipush 9, 2) := by decide +kernel
theorem dX11_party__107 : decode cX11_party_ 107 = .ok (.if_icmp .ge 18, 3) := by decide +kernel
theorem dX11_party__110 : decode cX11_party_ 110 = .ok (.aload_n 0, 1) := by decide +kernel
theorem dX11_party__111 : decode cX11_party_ 111 = .ok (.iload 5, 2) := by decide +kernel
theorem dX11_party__113 : decode cX11_party_ 113 = .ok (.iload 6, 2) := by decide +kernel
theorem dX11_party__115 : decode cX11_party_ 115 = .ok (.iconst 0, 1) := by decide +kernel
theorem dX11_party__116 : decode cX11_party_ 116 = .ok (.invokevirtual 118, 3) := by decide +kernel
theorem dX11_party__119 : decode cX11_party_ 119 = .ok (.iinc 6 1, 3) := by decide +kernel
theorem dX11_party__122 : decode cX11_party_ 122 = .ok (.goto (-19), 3) := by decide +kernel
theorem dX11_party__125 : decode cX11_party_ 125 = .ok (.aload_n 0, 1) := by decide +kernel
theorem dX11_party__126 : decode cX11_party_ 126 = .ok (.iload 5, 2) := by decide +kernel
theorem dX11_party__128 : decode cX11_party_ 128 = .ok (.iconst 0, 1) := by decide +kernel
theorem dX11_party__129 : decode cX11_party_ 129 = .ok (.iload_n 1, 1) := by decide +kernel
theorem dX11_party__130 : decode cX11_party_ 130 = .ok (.invokevirtual 118, 3) := by decide +kernel
theorem dX11_party__133 : decode cX11_party_ 133 = .ok (.aload_n 0, 1) := by decide +kernel
theorem dX11_party__134 : decode cX11_party_ 134 = .ok (.iload 5, 2) := by decide +kernel
theorem dX11_party__136 : decode cX11_party_ 136 = .ok (.iconst 1, 1) := by decide +kernel
theorem dX11_party__137 : decode cX11_party_ 137 = .ok (.iload_n 2, 1) := by decide +kernel
theorem dX11_party__138 : decode cX11_party_ 138 = .ok (.invokevirtual 118, 3) := by decide +kernel
theorem dX11_party__141 : decode cX11_party_ 141 = .ok (.aload_n 0, 1) := by decide +kernel
theorem dX11_party__142 : decode cX11_party_ 142 = .ok (.iload 5, 2) := by decide +kernel
theorem dX11_party__144 : decode cX11_party_ 144 = .ok (.iconst 2, 1) := by decide +kernel
theorem dX11_party__145 : decode cX11_party_ 145 = .ok (.iload_n 3, 1) := by decide +kernel
theorem dX11_party__146 : decode cX11_party_ 146 = .ok (.bipush 100, 2) := by decide +kernel
theorem dX11_party__148 : decode cX11_party_ 148 = .ok (.idiv, 1) := by decide +kernel
theorem dX11_party__149 : decode cX11_party_ 149 = .ok (.invokevirtual 118, 3) := by decide +kernel
theorem dX11_party__152 : decode cX11_party_ 152 = .ok (.aload_n 0, 1) := by decide +kernel
theorem dX11_party__153 : decode cX11_party_ 153 = .ok (.iload 5, 2) := by decide +kernel
theorem dX11_party__155 : decode cX11_party_ 155 = .ok (.iconst 3, 1) := by decide +kernel
theorem dX11_party__156 : decode cX11_party_ 156 = .ok (.iload_n 3, 1) := by decide +kernel
theorem dX11_party__157 : decode cX11_party_ 157 = .ok (.bipush 100, 2) := by decide +kernel
theorem dX11_party__159 : decode cX11_party_ 159 = .ok (.irem, 1) := by decide +kernel
theorem dX11_party__160 : decode cX11_party_ 160 = .ok (.invokevirtual 118, 3) := by decide +kernel
theorem dX11_party__163 : decode cX11_party_ 163 = .ok (.aload_n 0, 1) := by decide +kernel
theorem dX11_party__164 : decode cX11_party_ 164 = .ok (.iload 5, 2) := by decide +kernel
theorem dX11_party__166 : decode cX11_party_ 166 = .ok (.iconst 4, 1) := by decide +kernel
theorem dX11_party__167 : decode cX11_party_ 167 = .ok (.iload 4, 2) := by decide +kernel
theorem dX11_party__169 : decode cX11_party_ 169 = .ok (.invokevirtual 118, 3) := by decide +kernel
theorem dX11_party__172 : decode cX11_party_ 172 = .ok (.iload 5, 2) := by decide +kernel
theorem dX11_party__174 : decode cX11_party_ 174 = .ok (.ireturn, 1) := by decide +kernel
theorem dX11_price_0 : decode cX11_price 0 = .ok (.iload_n 1, 1) := by decide +kernel
theorem dX11_price_1 : decode cX11_price 1 = .ok (.invokestatic 198, 3) := by decide +kernel
theorem dX11_price_4 : decode cX11_price 4 = .ok (.ifCond .eq 21, 3) := by decide +kernel
theorem dX11_price_7 : decode cX11_price 7 = .ok (.aload_n 0, 1) := by decide +kernel
theorem dX11_price_8 : decode cX11_price 8 = .ok (.iload_n 1, 1) := by decide +kernel
theorem dX11_price_9 : decode cX11_price 9 = .ok (.aload_n 0, 1) := by decide +kernel
theorem dX11_price_10 : decode cX11_price 10 = .ok (.getfield 9, 3) := by decide +kernel
theorem dX11_price_13 : decode cX11_price 13 = .ok (.iconst 0, 1) := by decide +kernel
theorem dX11_price_14 : decode cX11_price 14 = .ok (.iaload, 1) := by decide +kernel
theorem dX11_price_15 : decode cX11_price 15 = .ok (.iload_n 2, 1) := by decide +kernel
theorem dX11_price_16 : decode cX11_price 16 = .ok (.iload_n 3, 1) := by decide +kernel
theorem dX11_price_17 : decode cX11_price 17 = .ok (.iload 4, 2) := by decide +kernel
theorem dX11_price_19 : decode cX11_price 19 = .ok (.invokevirtual 90, 3) := by decide +kernel
theorem dX11_price_22 : decode cX11_price 22 = .ok (.goto 9, 3) := by decide +kernel
theorem dX11_price_25 : decode cX11_price 25 = .ok (.aload_n 0, 1) := by decide +kernel
theorem dX11_price_26 : decode cX11_price 26 = .ok (.ldc 63, 2) := by decide +kernel
theorem dX11_price_28 : decode cX11_price 28 = .ok (.invokevirtual 64, 3) := by decide +kernel
theorem dX11_price_31 : decode cX11_price 31 = .ok (.ireturn, 1) := by decide +kernel
theorem dX11_put_0 : decode cX11_put 0 = .ok (.iload_n 1, 1) := by decide +kernel
theorem dX11_put_1 : decode cX11_put 1 = .ok (.invokestatic 111, 3) := by decide +kernel
theorem dX11_put_4 : decode cX11_put 4 = .ok (.ifCond .ne 10, 3) := by decide +kernel
theorem dX11_put_7 : decode cX11_put 7 = .ok (.aload_n 0, 1) := by decide +kernel
theorem dX11_put_8 : decode cX11_put 8 = .ok (.ldc 63, 2) := by decide +kernel
theorem dX11_put_10 : decode cX11_put 10 = .ok (.invokevirtual 64, 3) := by decide +kernel
theorem dX11_put_13 : decode cX11_put 13 = .ok (.ireturn, 1) := by decide +kernel
theorem dX11_put_14 : decode cX11_put 14 = .ok (.aload_n 0, 1) := by decide +kernel
theorem dX11_put_15 : decode cX11_put 15 = .ok (.getfield 22, 3) := by decide +kernel
theorem dX11_put_18 : decode cX11_put 18 = .ok (.iload_n 1, 1) := by decide +kernel
theorem dX11_put_19 : decode cX11_put 19 = .ok (.iaload, 1) := by decide +kernel
theorem dX11_put_20 : decode cX11_put 20 = .ok (.ifCond .ne 10, 3) := by decide +kernel
theorem dX11_put_23 : decode cX11_put 23 = .ok (.aload_n 0, 1) := by decide +kernel
theorem dX11_put_24 : decode cX11_put 24 = .ok (.ldc 114, 2) := by decide +kernel
theorem dX11_put_26 : decode cX11_put 26 = .ok (.invokevirtual 64, 3) := by decide +kernel
theorem dX11_put_29 : decode cX11_put 29 = .ok (.ireturn, 1) := by decide +kernel
theorem dX11_rain_0 : decode cX11_rain 0 = .ok (.iload_n 1, 1) := by decide +kernel
theorem dX11_rain_1 : decode cX11_rain 1 = .ok (.iconst 0, 1) := by decide +kernel
theorem dX11_rain_2 : decode cX11_rain 2 = .ok (.bipush 11, 2) := by decide +kernel
theorem dX11_rain_4 : decode cX11_rain 4 = .ok (.invokestatic 47, 3) := by decide +kernel
theorem dX11_rain_7 : decode cX11_rain 7 = .ok (.ifCond .eq 13, 3) := by decide +kernel
theorem dX11_rain_10 : decode cX11_rain 10 = .ok (.iload_n 2, 1) := by decide +kernel
theorem dX11_rain_11 : decode cX11_rain 11 = .ok (.iconst 0, 1) := by decide +kernel
theorem dX11_rain_12 : decode cX11_rain 12 = .ok (.bipush 9, 2) := by decide +kernel
theorem dX11_rain_14 : decode cX11_rain 14 = .ok (.invokestatic 47, 3) := by decide +kernel
theorem dX11_rain_17 : decode cX11_rain 17 = .ok (.ifCond .ne 10, 3) := by decide +kernel
theorem dX11_rain_20 : decode cX11_rain 20 = .ok (.aload_n 0, 1) := by decide +kernel
theorem dX11_rain_21 : decode cX11_rain 21 = .ok (.ldc 63, 2) := by decide +kernel
theorem dX11_rain_23 : decode cX11_rain 23 = .ok (.invokevirtual 64, 3) := by decide +kernel
theorem dX11_rain_26 : decode cX11_rain 26 = .ok (.ireturn, 1) := by decide +kernel
theorem dX11_rain_27 : decode cX11_rain 27 = .ok (.aload_n 0, 1) := by decide +kernel
theorem dX11_rain_28 : decode cX11_rain 28 = .ok (.getfield 9, 3) := by decide +kernel
theorem dX11_rain_31 : decode cX11_rain 31 = .ok (.bipush 7, 2) := by decide +kernel
theorem dX11_rain_33 : decode cX11_rain 33 = .ok (.iload_n 1, 1) := by decide +kernel
theorem dX11_rain_34 : decode cX11_rain 34 = .ok (.iadd, 1) := by decide +kernel
theorem dX11_rain_35 : decode cX11_rain 35 = .ok (.iaload, 1) := by decide +kernel
theorem dX11_rain_36 : decode cX11_rain 36 = .ok (.istore_n 3, 1) := by decide +kernel
theorem dX11_rain_37 : decode cX11_rain 37 = .ok (.aload_n 0, 1) := by decide +kernel
theorem dX11_rain_38 : decode cX11_rain 38 = .ok (.getfield 9, 3) := by decide +kernel
theorem dX11_rain_41 : decode cX11_rain 41 = .ok (.bipush 7, 2) := by decide +kernel
theorem dX11_rain_43 : decode cX11_rain 43 = .ok (.iload_n 1, 1) := by decide +kernel
theorem dX11_rain_44 : decode cX11_rain 44 = .ok (.iadd, 1) := by decide +kernel
theorem dX11_rain_45 : decode cX11_rain 45 = .ok (.iload_n 2, 1) := by decide +kernel
theorem dX11_rain_46 : decode cX11_rain 46 = .ok (.iastore, 1) := by decide +kernel
theorem dX11_rain_47 : decode cX11_rain 47 = .ok (.iload_n 3, 1) := by decide +kernel
theorem dX11_rain_48 : decode cX11_rain 48 = .ok (.ireturn, 1) := by decide +kernel
theorem dX11_rate_0 : decode cX11_rate 0 = .ok (.iload_n 1, 1) := by decide +kernel
theorem dX11_rate_1 : decode cX11_rate 1 = .ok (.invokestatic 198, 3) := by decide +kernel
theorem dX11_rate_4 : decode cX11_rate 4 = .ok (.ifCond .eq 10, 3) := by decide +kernel
theorem dX11_rate_7 : decode cX11_rate 7 = .ok (.iload_n 2, 1) := by decide +kernel
theorem dX11_rate_8 : decode cX11_rate 8 = .ok (.invokestatic 201, 3) := by decide +kernel
theorem dX11_rate_11 : decode cX11_rate 11 = .ok (.ifCond .ne 10, 3) := by decide +kernel
theorem dX11_rate_14 : decode cX11_rate 14 = .ok (.aload_n 0, 1) := by decide +kernel
theorem dX11_rate_15 : decode cX11_rate 15 = .ok (.ldc 63, 2) := by decide +kernel
theorem dX11_rate_17 : decode cX11_rate 17 = .ok (.invokevirtual 64, 3) := by decide +kernel
theorem dX11_rate_20 : decode cX11_rate 20 = .ok (.ireturn, 1) := by decide +kernel
theorem dX11_rate_21 : decode cX11_rate 21 = .ok (.aload_n 0, 1) := by decide +kernel
theorem dX11_rate_22 : decode cX11_rate 22 = .ok (.getfield 9, 3) := by decide +kernel
theorem dX11_rate_25 : decode cX11_rate 25 = .ok (.iconst 3, 1) := by decide +kernel
theorem dX11_rate_26 : decode cX11_rate 26 = .ok (.iaload, 1) := by decide +kernel
theorem dX11_rate_27 : decode cX11_rate 27 = .ok (.bipush 12, 2) := by decide +kernel
theorem dX11_rate_29 : decode cX11_rate 29 = .ok (.if_icmp .ne 10, 3) := by decide +kernel
theorem dX11_rate_39 : decode cX11_rate 39 = .ok (.aload_n 0, 1) := by decide +kernel
theorem dX11_rate_40 : decode cX11_rate 40 = .ok (.getfield 9, 3) := by decide +kernel
theorem dX11_rate_43 : decode cX11_rate 43 = .ok (.iconst 4, 1) := by decide +kernel
theorem dX11_rate_44 : decode cX11_rate 44 = .ok (.iaload, 1) := by decide +kernel
theorem dX11_rate_45 : decode cX11_rate 45 = .ok (.istore_n 3, 1) := by decide +kernel
theorem dX11_rate_46 : decode cX11_rate 46 = .ok (.aload_n 0, 1) := by decide +kernel
theorem dX11_rate_47 : decode cX11_rate 47 = .ok (.getfield 9, 3) := by decide +kernel
theorem dX11_rate_50 : decode cX11_rate 50 = .ok (.iconst 4, 1) := by decide +kernel
theorem dX11_rate_51 : decode cX11_rate 51 = .ok (.iconst 0, 1) := by decide +kernel
theorem dX11_rate_52 : decode cX11_rate 52 = .ok (.iastore, 1) := by decide +kernel
theorem dX11_rate_53 : decode cX11_rate 53 = .ok (.aload_n 0, 1) := by decide +kernel
theorem dX11_rate_54 : decode cX11_rate 54 = .ok (.iload_n 1, 1) := by decide +kernel
theorem dX11_rate_55 : decode cX11_rate 55 = .ok (.sipush 1131, 3) := by decide +kernel
theorem dX11_rate_58 : decode cX11_rate 58 = .ok (.iload_n 3, 1) := by decide +kernel
theorem dX11_rate_59 : decode cX11_rate 59 = .ok (.iconst 0, 1) := by decide +kernel
theorem dX11_rate_60 : decode cX11_rate 60 = .ok (.iconst 0, 1) := by decide +kernel
theorem dX11_rate_61 : decode cX11_rate 61 = .ok (.iconst 0, 1) := by decide +kernel
theorem dX11_rate_62 : decode cX11_rate 62 = .ok (.invokevirtual 204, 3) := by decide +kernel
theorem dX11_rate_65 : decode cX11_rate 65 = .ok (.istore 4, 2) := by decide +kernel
theorem dX11_rate_67 : decode cX11_rate 67 = .ok (.aload_n 0, 1) := by decide +kernel
theorem dX11_rate_68 : decode cX11_rate 68 = .ok (.getfield 148, 3) := by decide +kernel
theorem dX11_rate_71 : decode cX11_rate 71 = .ok (.ifCond .ne 14, 3) := by decide +kernel
theorem dX11_rate_85 : decode cX11_rate 85 = .ok (.bipush (-10), 2) := by decide +kernel
theorem dX11_rate_87 : decode cX11_rate 87 = .ok (.aload_n 0, 1) := by decide +kernel
theorem dX11_rate_88 : decode cX11_rate 88 = .ok (.getfield 138, 3) := by decide +kernel
theorem dX11_rate_91 : decode cX11_rate 91 = .ok (.isub, 1) := by decide +kernel
theorem dX11_rate_92 : decode cX11_rate 92 = .ok (.ireturn, 1) := by decide +kernel
theorem dX11_reach_0 : decode cX11_reach 0 = .ok (.iload_n 1, 1) := by decide +kernel
theorem dX11_reach_1 : decode cX11_reach 1 = .ok (.iconst 1, 1) := by decide +kernel
theorem dX11_reach_2 : decode cX11_reach 2 = .ok (.sipush 200, 3) := by decide +kernel
theorem dX11_reach_5 : decode cX11_reach 5 = .ok (.invokestatic 47, 3) := by decide +kernel
theorem dX11_reach_8 : decode cX11_reach 8 = .ok (.ifCond .ne 10, 3) := by decide +kernel
theorem dX11_reach_11 : decode cX11_reach 11 = .ok (.aload_n 0, 1) := by decide +kernel
theorem dX11_reach_12 : decode cX11_reach 12 = .ok (.ldc 63, 2) := by decide +kernel
theorem dX11_reach_14 : decode cX11_reach 14 = .ok (.invokevirtual 64, 3) := by decide +kernel
theorem dX11_reach_17 : decode cX11_reach 17 = .ok (.ireturn, 1) := by decide +kernel
theorem dX11_reach_18 : decode cX11_reach 18 = .ok (.aload_n 0, 1) := by decide +kernel
theorem dX11_reach_19 : decode cX11_reach 19 = .ok (.getfield 9, 3) := by decide +kernel
theorem dX11_reach_22 : decode cX11_reach 22 = .ok (.bipush 6, 2) := by decide +kernel
theorem dX11_reach_24 : decode cX11_reach 24 = .ok (.iaload, 1) := by decide +kernel
theorem dX11_reach_25 : decode cX11_reach 25 = .ok (.istore_n 2, 1) := by decide +kernel
theorem dX11_reach_26 : decode cX11_reach 26 = .ok (.aload_n 0, 1) := by decide +kernel
theorem dX11_reach_27 : decode cX11_reach 27 = .ok (.getfield 9, 3) := by decide +kernel
theorem dX11_reach_30 : decode cX11_reach 30 = .ok (.bipush 6, 2) := by decide +kernel
theorem dX11_reach_32 : decode cX11_reach 32 = .ok (.iload_n 1, 1) := by decide +kernel
theorem dX11_reach_33 : decode cX11_reach 33 = .ok (.iastore, 1) := by decide +kernel
theorem dX11_reach_34 : decode cX11_reach 34 = .ok (.iload_n 2, 1) := by decide +kernel
theorem dX11_reach_35 : decode cX11_reach 35 = .ok (.ireturn, 1) := by decide +kernel
theorem dX11_reads_0 : decode cX11_reads 0 = .ok (.aload_n 0, 1) := by decide +kernel
theorem dX11_reads_1 : decode cX11_reads 1 = .ok (.iload_n 1, 1) := by decide +kernel
theorem dX11_reads_2 : decode cX11_reads 2 = .ok (.invokevirtual 80, 3) := by decide +kernel
theorem dX11_reads_5 : decode cX11_reads 5 = .ok (.ifCond .eq 16, 3) := by decide +kernel
theorem dX11_reads_21 : decode cX11_reads 21 = .ok (.aload_n 0, 1) := by decide +kernel
theorem dX11_reads_22 : decode cX11_reads 22 = .ok (.ldc 63, 2) := by decide +kernel
theorem dX11_reads_24 : decode cX11_reads 24 = .ok (.invokevirtual 64, 3) := by decide +kernel
theorem dX11_reads_27 : decode cX11_reads 27 = .ok (.ireturn, 1) := by decide +kernel
theorem dX11_rest_0 : decode cX11_rest 0 = .ok (.aload_n 0, 1) := by decide +kernel
theorem dX11_rest_1 : decode cX11_rest 1 = .ok (.iload_n 1, 1) := by decide +kernel
theorem dX11_rest_2 : decode cX11_rest 2 = .ok (.invokevirtual 121, 3) := by decide +kernel
theorem dX11_rest_5 : decode cX11_rest 5 = .ok (.ifCond .ne 10, 3) := by decide +kernel
theorem dX11_rest_8 : decode cX11_rest 8 = .ok (.aload_n 0, 1) := by decide +kernel
theorem dX11_rest_9 : decode cX11_rest 9 = .ok (.ldc 63, 2) := by decide +kernel
theorem dX11_rest_11 : decode cX11_rest 11 = .ok (.invokevirtual 64, 3) := by decide +kernel
theorem dX11_rest_14 : decode cX11_rest 14 = .ok (.ireturn, 1) := by decide +kernel
theorem dX11_restore_0 : decode cX11_restore 0 = .ok (.aload_n 0, 1) := by decide +kernel
theorem dX11_restore_1 : decode cX11_restore 1 = .ok (.getfield 279, 3) := by decide +kernel
theorem dX11_restore_4 : decode cX11_restore 4 = .ok (.ifCond .ne 10, 3) := by decide +kernel
theorem dX11_restore_7 : decode cX11_restore 7 = .ok (.aload_n 0, 1) := by decide +kernel
theorem dX11_restore_8 : decode cX11_restore 8 = .ok (.ldc 114, 2) := by decide +kernel
theorem dX11_restore_10 : decode cX11_restore 10 = .ok (.invokevirtual 64, 3) := by decide +kernel
theorem dX11_restore_13 : decode cX11_restore 13 = .ok (.ireturn, 1) := by decide +kernel
theorem dX11_sheet_0 : decode cX11_sheet 0 = .ok (.iload_n 1, 1) := by decide +kernel
theorem dX11_sheet_1 : decode cX11_sheet 1 = .ok (.invokestatic 111, 3) := by decide +kernel
theorem dX11_sheet_4 : decode cX11_sheet 4 = .ok (.ifCond .eq 25, 3) := by decide +kernel
theorem dX11_sheet_7 : decode cX11_sheet 7 = .ok (.iload_n 2, 1) := by decide +kernel
theorem dX11_sheet_8 : decode cX11_sheet 8 = .ok (.ifCond .eq 28, 3) := by decide +kernel
theorem dX11_sheet_11 : decode cX11_sheet 11 = .ok (.iload_n 2, 1) := by decide +kernel
theorem dX11_sheet_12 : decode cX11_sheet 12 = .ok (.bipush 8, 2) := by decide +kernel
theorem dX11_sheet_14 : decode cX11_sheet 14 = .ok (.if_icmp .eq 22, 3) := by decide +kernel
theorem dX11_sheet_17 : decode cX11_sheet 17 = .ok (.iload_n 2, 1) := by decide +kernel
theorem dX11_sheet_18 : decode cX11_sheet 18 = .ok (.bipush 16, 2) := by decide +kernel
theorem dX11_sheet_20 : decode cX11_sheet 20 = .ok (.if_icmp .eq 16, 3) := by decide +kernel
theorem dX11_sheet_23 : decode cX11_sheet 23 = .ok (.iload_n 2, 1) := by decide +kernel
theorem dX11_sheet_24 : decode cX11_sheet 24 = .ok (.bipush 32, 2) := by decide +kernel
theorem dX11_sheet_26 : decode cX11_sheet 26 = .ok (.if_icmp .eq 10, 3) := by decide +kernel
theorem dX11_sheet_29 : decode cX11_sheet 29 = .ok (.aload_n 0, 1) := by decide +kernel
theorem dX11_sheet_30 : decode cX11_sheet 30 = .ok (.ldc 63, 2) := by decide +kernel
theorem dX11_sheet_32 : decode cX11_sheet 32 = .ok (.invokevirtual 64, 3) := by decide +kernel
theorem dX11_sheet_35 : decode cX11_sheet 35 = .ok (.ireturn, 1) := by decide +kernel
theorem dX11_sheet_36 : decode cX11_sheet 36 = .ok (.iload_n 2, 1) := by decide +kernel
theorem dX11_sheet_37 : decode cX11_sheet 37 = .ok (.ifCond .eq 14, 3) := by decide +kernel
theorem dX11_sheet_40 : decode cX11_sheet 40 = .ok (.iload_n 3, 1) := by decide +kernel
theorem dX11_sheet_41 : decode cX11_sheet 41 = .ok (.ifCond .ge 10, 3) := by decide +kernel
theorem dX11_sheet_44 : decode cX11_sheet 44 = .ok (.aload_n 0, 1) := by decide +kernel
theorem dX11_sheet_45 : decode cX11_sheet 45 = .ok (.ldc 94, 2) := by decide +kernel
theorem dX11_sheet_47 : decode cX11_sheet 47 = .ok (.invokevirtual 64, 3) := by decide +kernel
theorem dX11_sheet_50 : decode cX11_sheet 50 = .ok (.ireturn, 1) := by decide +kernel
theorem dX11_sheet_51 : decode cX11_sheet 51 = .ok (.iload_n 2, 1) := by decide +kernel
theorem dX11_sheet_52 : decode cX11_sheet 52 = .ok (.ifCond .eq 16, 3) := by decide +kernel
theorem dX11_sheet_55 : decode cX11_sheet 55 = .ok (.iload_n 3, 1) := by decide +kernel
theorem dX11_sheet_56 : decode cX11_sheet 56 = .ok (.bipush 36, 2) := by decide +kernel
theorem dX11_sheet_58 : decode cX11_sheet 58 = .ok (.if_icmp .le 10, 3) := by decide +kernel
theorem dX11_sheet_61 : decode cX11_sheet 61 = .ok (.aload_n 0, 1) := by decide +kernel
theorem dX11_sheet_62 : decode cX11_sheet 62 = .ok (.ldc 63, 2) := by decide +kernel
theorem dX11_sheet_64 : decode cX11_sheet 64 = .ok (.invokevirtual 64, 3) := by decide +kernel
theorem dX11_sheet_67 : decode cX11_sheet 67 = .ok (.ireturn, 1) := by decide +kernel
theorem dX11_sheet_68 : decode cX11_sheet 68 = .ok (.aload_n 0, 1) := by decide +kernel
theorem dX11_sheet_69 : decode cX11_sheet 69 = .ok (.getfield 22, 3) := by decide +kernel
theorem dX11_sheet_72 : decode cX11_sheet 72 = .ok (.iload_n 1, 1) := by decide +kernel
theorem dX11_sheet_73 : decode cX11_sheet 73 = .ok (.iload_n 2, 1) := by decide +kernel
theorem dX11_sheet_74 : decode cX11_sheet 74 = .ok (.iastore, 1) := by decide +kernel
theorem dX11_sheet_75 : decode cX11_sheet 75 = .ok (.aload_n 0, 1) := by decide +kernel
theorem dX11_sheet_76 : decode cX11_sheet 76 = .ok (.getfield 25, 3) := by decide +kernel
theorem dX11_sheet_79 : decode cX11_sheet 79 = .ok (.iload_n 1, 1) := by decide +kernel
theorem dX11_sheet_80 : decode cX11_sheet 80 = .ok (.iload_n 2, 1) := by decide +kernel
theorem dX11_sheet_81 : decode cX11_sheet 81 = .ok (.ifCond .ne 7, 3) := by decide +kernel
theorem dX11_sheet_84 : decode cX11_sheet 84 = .ok (.iconst 0, 1) := by decide +kernel
theorem dX11_sheet_85 : decode cX11_sheet 85 = .ok (.goto 4, 3) := by decide +kernel
theorem dX11_sheet_88 : decode cX11_sheet 88 = .ok (.iload_n 3, 1) := by decide +kernel
theorem dX11_sheet_89 : decode cX11_sheet 89 = .ok (.iastore, 1) := by decide +kernel
theorem dX11_sheet_90 : decode cX11_sheet 90 = .ok (.iconst 0, 1) := by decide +kernel
theorem dX11_sheet_91 : decode cX11_sheet 91 = .ok (.istore 4, 2) := by decide +kernel
theorem dX11_sheet_93 : decode cX11_sheet 93 = .ok (.iload 4, 2) := by decide +kernel
theorem dX11_sheet_95 : decode cX11_sheet 95 = .ok (.bipush 36, 2) := by decide +kernel
theorem dX11_sheet_97 : decode cX11_sheet 97 = .ok (.if_icmp .ge 22, 3) := by decide +kernel
theorem dX11_sheet_100 : decode cX11_sheet 100 = .ok (.aload_n 0, 1) := by decide +kernel
theorem dX11_sheet_101 : decode cX11_sheet 101 = .ok (.getfield 28, 3) := by decide +kernel
theorem dX11_sheet_104 : decode cX11_sheet 104 = .ok (.bipush 36, 2) := by decide +kernel
theorem dX11_sheet_106 : decode cX11_sheet 106 = .ok (.iload_n 1, 1) := by decide +kernel
theorem dX11_sheet_107 : decode cX11_sheet 107 = .ok (.imul, 1) := by decide +kernel
theorem dX11_sheet_108 : decode cX11_sheet 108 = .ok (.iload 4, 2) := by decide +kernel
theorem dX11_sheet_110 : decode cX11_sheet 110 = .ok (.iadd, 1) := by decide +kernel
theorem dX11_sheet_111 : decode cX11_sheet 111 = .ok (.iconst 0, 1) := by decide +kernel
theorem dX11_sheet_112 : decode cX11_sheet 112 = .ok (.iastore, 1) := by decide +kernel
theorem dX11_sheet_113 : decode cX11_sheet 113 = .ok (.iinc 4 1, 3) := by decide +kernel
theorem dX11_sheet_116 : decode cX11_sheet 116 = .ok (.goto (-23), 3) := by decide +kernel
theorem dX11_sheet_119 : decode cX11_sheet 119 = .ok (.iconst 1, 1) := by decide +kernel
theorem dX11_sheet_120 : decode cX11_sheet 120 = .ok (.ireturn, 1) := by decide +kernel
theorem dX11_slip_0 : decode cX11_slip 0 = .ok (.iload_n 1, 1) := by decide +kernel
theorem dX11_slip_1 : decode cX11_slip 1 = .ok (.invokestatic 111, 3) := by decide +kernel
theorem dX11_slip_4 : decode cX11_slip 4 = .ok (.ifCond .eq 30, 3) := by decide +kernel
theorem dX11_slip_7 : decode cX11_slip 7 = .ok (.aload_n 0, 1) := by decide +kernel
theorem dX11_slip_8 : decode cX11_slip 8 = .ok (.iload_n 2, 1) := by decide +kernel
theorem dX11_slip_9 : decode cX11_slip 9 = .ok (.invokevirtual 80, 3) := by decide +kernel
theorem dX11_slip_12 : decode cX11_slip 12 = .ok (.ifCond .eq 22, 3) := by decide +kernel
theorem dX11_slip_34 : decode cX11_slip 34 = .ok (.aload_n 0, 1) := by decide +kernel
theorem dX11_slip_35 : decode cX11_slip 35 = .ok (.ldc 63, 2) := by decide +kernel
theorem dX11_slip_37 : decode cX11_slip 37 = .ok (.invokevirtual 64, 3) := by decide +kernel
theorem dX11_slip_40 : decode cX11_slip 40 = .ok (.ireturn, 1) := by decide +kernel
theorem dX11_soils_0 : decode cX11_soils 0 = .ok (.iload_n 1, 1) := by decide +kernel
theorem dX11_soils_1 : decode cX11_soils 1 = .ok (.invokestatic 111, 3) := by decide +kernel
theorem dX11_soils_4 : decode cX11_soils 4 = .ok (.ifCond .eq 10, 3) := by decide +kernel
theorem dX11_soils_7 : decode cX11_soils 7 = .ok (.iload_n 2, 1) := by decide +kernel
theorem dX11_soils_8 : decode cX11_soils 8 = .ok (.invokestatic 67, 3) := by decide +kernel
theorem dX11_soils_11 : decode cX11_soils 11 = .ok (.ifCond .ne 10, 3) := by decide +kernel
theorem dX11_soils_14 : decode cX11_soils 14 = .ok (.aload_n 0, 1) := by decide +kernel
theorem dX11_soils_15 : decode cX11_soils 15 = .ok (.ldc 63, 2) := by decide +kernel
theorem dX11_soils_17 : decode cX11_soils 17 = .ok (.invokevirtual 64, 3) := by decide +kernel
theorem dX11_soils_20 : decode cX11_soils 20 = .ok (.ireturn, 1) := by decide +kernel
theorem dX11_soils_21 : decode cX11_soils 21 = .ok (.aload_n 0, 1) := by decide +kernel
theorem dX11_soils_22 : decode cX11_soils 22 = .ok (.getfield 22, 3) := by decide +kernel
theorem dX11_soils_25 : decode cX11_soils 25 = .ok (.iload_n 1, 1) := by decide +kernel
theorem dX11_soils_26 : decode cX11_soils 26 = .ok (.iaload, 1) := by decide +kernel
theorem dX11_soils_27 : decode cX11_soils 27 = .ok (.ifCond .ne 10, 3) := by decide +kernel
theorem dX11_soils_30 : decode cX11_soils 30 = .ok (.aload_n 0, 1) := by decide +kernel
theorem dX11_soils_31 : decode cX11_soils 31 = .ok (.ldc 114, 2) := by decide +kernel
theorem dX11_soils_33 : decode cX11_soils 33 = .ok (.invokevirtual 64, 3) := by decide +kernel
theorem dX11_soils_36 : decode cX11_soils 36 = .ok (.ireturn, 1) := by decide +kernel
theorem dX11_tell_0 : decode cX11_tell 0 = .ok (.aload_n 0, 1) := by decide +kernel
theorem dX11_tell_1 : decode cX11_tell 1 = .ok (.getfield 9, 3) := by decide +kernel
theorem dX11_tell_4 : decode cX11_tell 4 = .ok (.iconst 5, 1) := by decide +kernel
theorem dX11_tell_5 : decode cX11_tell 5 = .ok (.iaload, 1) := by decide +kernel
theorem dX11_tell_6 : decode cX11_tell 6 = .ok (.bipush 20, 2) := by decide +kernel
theorem dX11_tell_8 : decode cX11_tell 8 = .ok (.if_icmp .ne 10, 3) := by decide +kernel
theorem dX11_tell_18 : decode cX11_tell 18 = .ok (.aload_n 0, 1) := by decide +kernel
theorem dX11_tell_19 : decode cX11_tell 19 = .ok (.getfield 9, 3) := by decide +kernel
theorem dX11_tell_22 : decode cX11_tell 22 = .ok (.sipush 1181, 3) := by decide +kernel
theorem dX11_tell_25 : decode cX11_tell 25 = .ok (.aload_n 0, 1) := by decide +kernel
theorem dX11_tell_26 : decode cX11_tell 26 = .ok (.getfield 9, 3) := by decide +kernel
theorem dX11_tell_29 : decode cX11_tell 29 = .ok (.iconst 5, 1) := by decide +kernel
theorem dX11_tell_30 : decode cX11_tell 30 = .ok (.iaload, 1) := by decide +kernel
theorem dX11_tell_31 : decode cX11_tell 31 = .ok (.iadd, 1) := by decide +kernel
theorem dX11_tell_32 : decode cX11_tell 32 = .ok (.iload_n 1, 1) := by decide +kernel
theorem dX11_tell_33 : decode cX11_tell 33 = .ok (.iastore, 1) := by decide +kernel
theorem dX11_tell_34 : decode cX11_tell 34 = .ok (.aload_n 0, 1) := by decide +kernel
theorem dX11_tell_35 : decode cX11_tell 35 = .ok (.getfield 9, 3) := by decide +kernel
theorem dX11_tell_38 : decode cX11_tell 38 = .ok (.iconst 5, 1) := by decide +kernel
theorem dX11_tell_39 : decode cX11_tell 39 = .ok (.dup2, 1) := by decide +kernel
theorem dX11_tell_40 : decode cX11_tell 40 = .ok (.iaload, 1) := by decide +kernel
theorem dX11_tell_41 : decode cX11_tell 41 = .ok (.iconst 1, 1) := by decide +kernel
theorem dX11_tell_42 : decode cX11_tell 42 = .ok (.iadd, 1) := by decide +kernel
theorem dX11_tell_43 : decode cX11_tell 43 = .ok (.iastore, 1) := by decide +kernel
theorem dX11_tell_44 : decode cX11_tell 44 = .ok (.aload_n 0, 1) := by decide +kernel
theorem dX11_tell_45 : decode cX11_tell 45 = .ok (.getfield 9, 3) := by decide +kernel
theorem dX11_tell_48 : decode cX11_tell 48 = .ok (.iconst 5, 1) := by decide +kernel
theorem dX11_tell_49 : decode cX11_tell 49 = .ok (.iaload, 1) := by decide +kernel
theorem dX11_tell_50 : decode cX11_tell 50 = .ok (.ireturn, 1) := by decide +kernel
theorem dX11_trace_0 : decode cX11_trace 0 = .ok (.iload_n 1, 1) := by decide +kernel
theorem dX11_trace_1 : decode cX11_trace 1 = .ok (.iconst 0, 1) := by decide +kernel
theorem dX11_trace_2 : decode cX11_trace 2 = .ok (.aload_n 0, 1) := by decide +kernel
theorem dX11_trace_3 : decode cX11_trace 3 = .ok (.getfield 267, 3) := by decide +kernel
theorem dX11_trace_6 : decode cX11_trace 6 = .ok (.iconst 1, 1) := by decide +kernel
theorem dX11_trace_7 : decode cX11_trace 7 = .ok (.isub, 1) := by decide +kernel
theorem dX11_trace_8 : decode cX11_trace 8 = .ok (.invokestatic 47, 3) := by decide +kernel
theorem dX11_trace_11 : decode cX11_trace 11 = .ok (.ifCond .eq 12, 3) := by decide +kernel
theorem dX11_trace_23 : decode cX11_trace 23 = .ok (.aload_n 0, 1) := by decide +kernel
theorem dX11_trace_24 : decode cX11_trace 24 = .ok (.ldc 114, 2) := by decide +kernel
theorem dX11_trace_26 : decode cX11_trace 26 = .ok (.invokevirtual 64, 3) := by decide +kernel
theorem dX11_trace_29 : decode cX11_trace 29 = .ok (.ireturn, 1) := by decide +kernel
theorem dX11_turn_0 : decode cX11_turn 0 = .ok (.aload_n 0, 1) := by decide +kernel
theorem dX11_turn_1 : decode cX11_turn 1 = .ok (.iload_n 1, 1) := by decide +kernel
theorem dX11_turn_2 : decode cX11_turn 2 = .ok (.invokevirtual 121, 3) := by decide +kernel
theorem dX11_turn_5 : decode cX11_turn 5 = .ok (.ifCond .ne 10, 3) := by decide +kernel
theorem dX11_turn_8 : decode cX11_turn 8 = .ok (.aload_n 0, 1) := by decide +kernel
theorem dX11_turn_9 : decode cX11_turn 9 = .ok (.ldc 63, 2) := by decide +kernel
theorem dX11_turn_11 : decode cX11_turn 11 = .ok (.invokevirtual 64, 3) := by decide +kernel
theorem dX11_turn_14 : decode cX11_turn 14 = .ok (.ireturn, 1) := by decide +kernel
theorem dX11_voice_0 : decode cX11_voice 0 = .ok (.aload_n 0, 1) := by decide +kernel
theorem dX11_voice_1 : decode cX11_voice 1 = .ok (.iload_n 1, 1) := by decide +kernel
theorem dX11_voice_2 : decode cX11_voice 2 = .ok (.invokevirtual 80, 3) := by decide +kernel
theorem dX11_voice_5 : decode cX11_voice 5 = .ok (.ifCond .eq 12, 3) := by decide +kernel
theorem dX11_voice_17 : decode cX11_voice 17 = .ok (.aload_n 0, 1) := by decide +kernel
theorem dX11_voice_18 : decode cX11_voice 18 = .ok (.ldc 63, 2) := by decide +kernel
theorem dX11_voice_20 : decode cX11_voice 20 = .ok (.invokevirtual 64, 3) := by decide +kernel
theorem dX11_voice_23 : decode cX11_voice 23 = .ok (.ireturn, 1) := by decide +kernel
theorem dX11_workIs_0 : decode cX11_workIs 0 = .ok (.aload_n 0, 1) := by decide +kernel
theorem dX11_workIs_1 : decode cX11_workIs 1 = .ok (.iload_n 1, 1) := by decide +kernel
theorem dX11_workIs_2 : decode cX11_workIs 2 = .ok (.invokevirtual 80, 3) := by decide +kernel
theorem dX11_workIs_5 : decode cX11_workIs 5 = .ok (.ifCond .eq 13, 3) := by decide +kernel
theorem dX11_workIs_18 : decode cX11_workIs 18 = .ok (.aload_n 0, 1) := by decide +kernel
theorem dX11_workIs_19 : decode cX11_workIs 19 = .ok (.ldc 63, 2) := by decide +kernel
theorem dX11_workIs_21 : decode cX11_workIs 21 = .ok (.invokevirtual 64, 3) := by decide +kernel
theorem dX11_workIs_24 : decode cX11_workIs 24 = .ok (.ireturn, 1) := by decide +kernel
theorem dX11_work__0 : decode cX11_work_ 0 = .ok (.iload_n 1, 1) := by decide +kernel
theorem dX11_work__1 : decode cX11_work_ 1 = .ok (.iconst 0, 1) := by decide +kernel
theorem dX11_work__2 : decode cX11_work_ 2 = .ok (.iconst 5, 1) := by decide +kernel
theorem dX11_work__3 : decode cX11_work_ 3 = .ok (.invokestatic 47, 3) := by decide +kernel
theorem dX11_work__6 : decode cX11_work_ 6 = .ok (.ifCond .eq 20, 3) := by decide +kernel
theorem dX11_work__9 : decode cX11_work_ 9 = .ok (.iload_n 2, 1) := by decide +kernel
theorem dX11_work__10 : decode cX11_work_ 10 = .ok (.invokestatic 67, 3) := by decide +kernel
theorem dX11_work__13 : decode cX11_work_ 13 = .ok (.ifCond .eq 13, 3) := by decide +kernel
theorem dX11_work__16 : decode cX11_work_ 16 = .ok (.iload_n 3, 1) := by decide +kernel
theorem dX11_work__17 : decode cX11_work_ 17 = .ok (.iconst 1, 1) := by decide +kernel
theorem dX11_work__18 : decode cX11_work_ 18 = .ok (.bipush 50, 2) := by decide +kernel
theorem dX11_work__20 : decode cX11_work_ 20 = .ok (.invokestatic 47, 3) := by decide +kernel
theorem dX11_work__23 : decode cX11_work_ 23 = .ok (.ifCond .ne 10, 3) := by decide +kernel
theorem dX11_work__26 : decode cX11_work_ 26 = .ok (.aload_n 0, 1) := by decide +kernel
theorem dX11_work__27 : decode cX11_work_ 27 = .ok (.ldc 63, 2) := by decide +kernel
theorem dX11_work__29 : decode cX11_work_ 29 = .ok (.invokevirtual 64, 3) := by decide +kernel
theorem dX11_work__32 : decode cX11_work_ 32 = .ok (.ireturn, 1) := by decide +kernel
theorem dX11_work__33 : decode cX11_work_ 33 = .ok (.aload_n 0, 1) := by decide +kernel
theorem dX11_work__34 : decode cX11_work_ 34 = .ok (.getfield 9, 3) := by decide +kernel
theorem dX11_work__37 : decode cX11_work_ 37 = .ok (.iconst 1, 1) := by decide +kernel
theorem dX11_work__38 : decode cX11_work_ 38 = .ok (.iaload, 1) := by decide +kernel
theorem dX11_work__39 : decode cX11_work_ 39 = .ok (.bipush 60, 2) := by decide +kernel
theorem dX11_work__41 : decode cX11_work_ 41 = .ok (.if_icmp .ne 12, 3) := by decide +kernel
theorem dX11_work__53 : decode cX11_work_ 53 = .ok (.aload_n 0, 1) := by decide +kernel
theorem dX11_work__54 : decode cX11_work_ 54 = .ok (.iload_n 1, 1) := by decide +kernel
theorem dX11_work__55 : decode cX11_work_ 55 = .ok (.iload_n 2, 1) := by decide +kernel
theorem dX11_work__56 : decode cX11_work_ 56 = .ok (.iload_n 3, 1) := by decide +kernel
theorem dX11_work__57 : decode cX11_work_ 57 = .ok (.aload_n 0, 1) := by decide +kernel
theorem dX11_work__58 : decode cX11_work_ 58 = .ok (.getfield 9, 3) := by decide +kernel
theorem dX11_work__61 : decode cX11_work_ 61 = .ok (.iconst 0, 1) := by decide +kernel
theorem dX11_work__62 : decode cX11_work_ 62 = .ok (.iaload, 1) := by decide +kernel
theorem dX11_work__63 : decode cX11_work_ 63 = .ok (.invokevirtual 76, 3) := by decide +kernel
theorem dX11_work__66 : decode cX11_work_ 66 = .ok (.ireturn, 1) := by decide +kernel
set_option maxHeartbeats 4000000 in
set_option maxRecDepth 100000 in
theorem c_X11_rain (l : Launch) (D : va_G) (cI : ClassId) (h ys yk yt yf yb yz yn yc yp yw ye yx : Nat) (sz : Nat) (m3 : Int32) (m9 : Int32) (m12 : Int32) (m13 : Int32) (m14 : Int32) (m15 : Int32) (m16 : Int32) (m17 : Int32) (m18 : Int32) (m19 : Int32) (m20 : Int32) (m22 : Int32) (m23 : Int32) (ff : Nat → Int32) (a : Int32) (b : Int32) : Met l yX11_rain (gW yX11_rain cX11_rain 4 (some .int)) ({ frames := 1, cells := 0, slots := 0, locals := 22 } : Room) (kPre D cI [.ref h, .int a, .int b] [(h, .inr (11, [.ref ys, .ref yk, .ref yt, .int m3, .ref yf, .ref yb, .ref yz, .ref yn, .ref yc, .int m9, .ref yp, .ref yw, .int m12, .int m13, .int m14, .int m15, .int m16, .int m17, .int m18, .int m19, .int m20, .ref ye, .int m22, .int m23, .ref yx])), (ys, .inl (cI, 1201, .inl sI)), (yf, .inl (cI, 6, .inl ff))] sz) (va_Qi (fun (r : Int32) (u : Unit) => r = sp_rain a b) (fun u t => kWd D cI (va_A [(h, .inr (11, [.ref ys, .ref yk, .ref yt, .int m3, .ref yf, .ref yb, .ref yz, .ref yn, .ref yc, .int m9, .ref yp, .ref yw, .int m12, .int m13, .int m14, .int m15, .int m16, .int m17, .int m18, .int m19, .int m20, .ref ye, .int m22, .int m23, .ref yx])), (ys, .inl (cI, 1201, .inl sI)), (yf, .inl (cI, 6, .inl ff))] sz) [] t) (va_A [(h, .inr (11, [.ref ys, .ref yk, .ref yt, .int m3, .ref yf, .ref yb, .ref yz, .ref yn, .ref yc, .int m9, .ref yp, .ref yw, .int m12, .int m13, .int m14, .int m15, .int m16, .int m17, .int m18, .int m19, .int m20, .ref ye, .int m22, .int m23, .ref yx])), (ys, .inl (cI, 1201, .inl sI)), (yf, .inl (cI, 6, .inl ff))] sz)) 0 0 (va_A [(h, .inr (11, [.ref ys, .ref yk, .ref yt, .int m3, .ref yf, .ref yb, .ref yz, .ref yn, .ref yc, .int m9, .ref yp, .ref yw, .int m12, .int m13, .int m14, .int m15, .int m16, .int m17, .int m18, .int m19, .int m20, .ref ye, .int m22, .int m23, .ref yx])), (ys, .inl (cI, 1201, .inl sI)), (yf, .inl (cI, 6, .inl ff))] sz) := by
  refine kMetI (own := RX11) (by decide) rfl (Nat.le_of_ble_eq_true rfl) ?_
  intro p e s m args below meth c hx hb hT hown hname hml A Q hK hP hD hS hA hN hRet ls hl
  have hl : lv_has ls 4 [(0, .ref h), (1, .int a), (2, .int b)] := hl
  have lo_a := k_lo a
  have hi_a := k_hi a
  have lo_b := k_lo b
  have hi_b := k_hi b
  have lo_m3 := k_lo m3
  have hi_m3 := k_hi m3
  have lo_m9 := k_lo m9
  have hi_m9 := k_hi m9
  have lo_m12 := k_lo m12
  have hi_m12 := k_hi m12
  have lo_m13 := k_lo m13
  have hi_m13 := k_hi m13
  have lo_m14 := k_lo m14
  have hi_m14 := k_hi m14
  have lo_m15 := k_lo m15
  have hi_m15 := k_hi m15
  have lo_m16 := k_lo m16
  have hi_m16 := k_hi m16
  have lo_m17 := k_lo m17
  have hi_m17 := k_hi m17
  have lo_m18 := k_lo m18
  have hi_m18 := k_hi m18
  have lo_m19 := k_lo m19
  have hi_m19 := k_hi m19
  have lo_m20 := k_lo m20
  have hi_m20 := k_hi m20
  have lo_m22 := k_lo m22
  have hi_m22 := k_hi m22
  have lo_m23 := k_lo m23
  have hi_m23 := k_hi m23
  refine lv_iload_n hx hb dX11_rain_0 rfl (lv_at hl 1 rfl) ?_
  refine lv_iconst (v := 0) hx hb dX11_rain_1 (by decide) ?_
  refine lv_bipush (v := 11) hx hb dX11_rain_2 (by decide) ?_
  refine kJi (wr := [(h, .inr (11, [.ref ys, .ref yk, .ref yt, .int m3, .ref yf, .ref yb, .ref yz, .ref yn, .ref yc, .int m9, .ref yp, .ref yw, .int m12, .int m13, .int m14, .int m15, .int m16, .int m17, .int m18, .int m19, .int m20, .ref ye, .int m22, .int m23, .ref yx])), (ys, .inl (cI, 1201, .inl sI)), (yf, .inl (cI, 6, .inl ff))]) (va_runS (As := [.int a, .int 0, .int 11]) (rest := []) ⟨hx, hb, hml, hown, hT⟩ (c_X11_in l D cI s.heap.size a 0 11) (cwS 3 hT (gS_in mw_1238 mw_1236 mw_1237 mw_12) rfl rfl rfl (by decide +kernel) ⟨Nat.le_of_ble_eq_true rfl, Nat.le_of_ble_eq_true rfl⟩) (kStat hK hP hD hN [] rfl (by decide)) rfl rfl hl.1 rfl (lv_room (Nat.le_of_ble_eq_true rfl)) dX11_rain_4 ⟨Nat.le_of_ble_eq_true rfl, Nat.le_of_ble_eq_true rfl⟩) hP hD hS hA [] [0, 1, 2] rfl rfl (by decide) (by decide) (fun r_1 u_3 H locs w_2 hP hD hS => ?_)
  have hP : va_P D vwCl [(h, .inr (11, [.ref ys, .ref yk, .ref yt, .int m3, .ref yf, .ref yb, .ref yz, .ref yn, .ref yc, .int m9, .ref yp, .ref yw, .int m12, .int m13, .int m14, .int m15, .int m16, .int m17, .int m18, .int m19, .int m20, .ref ye, .int m22, .int m23, .ref yx])), (ys, .inl (cI, 1201, .inl sI)), (yf, .inl (cI, 6, .inl ff))] H := hP
  have hD : va_D A [(h, .inr (11, [.ref ys, .ref yk, .ref yt, .int m3, .ref yf, .ref yb, .ref yz, .ref yn, .ref yc, .int m9, .ref yp, .ref yw, .int m12, .int m13, .int m14, .int m15, .int m16, .int m17, .int m18, .int m19, .int m20, .ref ye, .int m22, .int m23, .ref yx])), (ys, .inl (cI, 1201, .inl sI)), (yf, .inl (cI, 6, .inl ff))] := hD
  rcases w_2 with ⟨hr_1, h_4, h_5⟩ | ⟨hr_1, h_6⟩
  · try simp only [zl_0, zl_11] at h_4
    have h_4 : 0 ≤ a.toInt := h_4
    try simp only [zl_0, zl_11] at h_5
    have h_5 : a.toInt ≤ 11 := h_5
    obtain rfl : r_1 = 1 := hr_1.trans (by decide)
    refine b_if_eq hx hb zl_1 (tgt := 20) dX11_rain_7 (by decide) (fun c_7 => by exfalso; omega) (fun c_7 => ?_)
    refine lv_iload_n hx hb dX11_rain_10 rfl (lv_at hl 2 rfl) ?_
    refine lv_iconst (v := 0) hx hb dX11_rain_11 (by decide) ?_
    refine lv_bipush (v := 9) hx hb dX11_rain_12 (by decide) ?_
    refine kJi (wr := [(h, .inr (11, [.ref ys, .ref yk, .ref yt, .int m3, .ref yf, .ref yb, .ref yz, .ref yn, .ref yc, .int m9, .ref yp, .ref yw, .int m12, .int m13, .int m14, .int m15, .int m16, .int m17, .int m18, .int m19, .int m20, .ref ye, .int m22, .int m23, .ref yx])), (ys, .inl (cI, 1201, .inl sI)), (yf, .inl (cI, 6, .inl ff))]) (va_runS (As := [.int b, .int 0, .int 9]) (rest := []) ⟨hx, hb, hml, hown, hT⟩ (c_X11_in l D cI H.size b 0 9) (cwS 3 hT (gS_in mw_1238 mw_1236 mw_1237 mw_12) rfl rfl rfl (by decide +kernel) ⟨Nat.le_of_ble_eq_true rfl, Nat.le_of_ble_eq_true rfl⟩) (kStat hK hP hD hN [] rfl (by decide)) rfl rfl hl.1 rfl (lv_room (Nat.le_of_ble_eq_true rfl)) dX11_rain_14 ⟨Nat.le_of_ble_eq_true rfl, Nat.le_of_ble_eq_true rfl⟩) hP hD hS hA [] [0, 1, 2] rfl rfl (by decide) (by decide) (fun r_8 u_10 H locs w_9 hP hD hS => ?_)
    have hP : va_P D vwCl [(h, .inr (11, [.ref ys, .ref yk, .ref yt, .int m3, .ref yf, .ref yb, .ref yz, .ref yn, .ref yc, .int m9, .ref yp, .ref yw, .int m12, .int m13, .int m14, .int m15, .int m16, .int m17, .int m18, .int m19, .int m20, .ref ye, .int m22, .int m23, .ref yx])), (ys, .inl (cI, 1201, .inl sI)), (yf, .inl (cI, 6, .inl ff))] H := hP
    have hD : va_D A [(h, .inr (11, [.ref ys, .ref yk, .ref yt, .int m3, .ref yf, .ref yb, .ref yz, .ref yn, .ref yc, .int m9, .ref yp, .ref yw, .int m12, .int m13, .int m14, .int m15, .int m16, .int m17, .int m18, .int m19, .int m20, .ref ye, .int m22, .int m23, .ref yx])), (ys, .inl (cI, 1201, .inl sI)), (yf, .inl (cI, 6, .inl ff))] := hD
    rcases w_9 with ⟨hr_8, h_11, h_12⟩ | ⟨hr_8, h_13⟩
    · try simp only [zl_0, zl_9] at h_11
      have h_11 : 0 ≤ b.toInt := h_11
      try simp only [zl_0, zl_9] at h_12
      have h_12 : b.toInt ≤ 9 := h_12
      obtain rfl : r_8 = 1 := hr_8.trans (by decide)
      refine b_if_ne hx hb zl_1 (tgt := 27) dX11_rain_17 (by decide) (fun c_14 => ?_) (fun c_14 => by exfalso; omega)
      refine lv_aload_n hx hb dX11_rain_27 rfl (lv_at hl 0 rfl) ?_
      refine va_get (D := D) (ci := 11) (v := .ref ys) (C := RX11) (T := TX11) (N := 25) hx hb hT giX11 hown hK hP 0 rfl rfl 0 (by decide) (hT (Cond.fieldLink RX11 9 "DesertWireModel" "s" "[I") mw_1156) (fun _ h9 => h9) rfl dX11_rain_28 ?_
      refine lv_bipush (v := 7) hx hb dX11_rain_31 (by decide) ?_
      refine lv_iload_n hx hb dX11_rain_33 rfl (lv_at hl 1 rfl) ?_
      refine lv_iadd hx hb dX11_rain_34 ?_
      refine lv_topi (fun v_15 ev_15 => ?_)
      have tv_15 : v_15.toInt = 7 + a.toInt := by rw [ev_15]; exact k_addv zl_7 rfl (by omega) (by omega)
      refine k_iald (v := 2) hx hb hK hP 1 0 rfl rfl (k_in (by omega) (by omega)) (k_sI2 (by omega) (by omega)) dX11_rain_35 ?_
      refine lv_istore_n (lv' := [(3, .int 2), (0, .ref h), (1, .int a), (2, .int b)]) hx hb dX11_rain_36 rfl hl (by decide) rfl (fun ls hl => ?_)
      refine lv_aload_n hx hb dX11_rain_37 rfl (lv_at hl 1 rfl) ?_
      refine va_get (D := D) (ci := 11) (v := .ref ys) (C := RX11) (T := TX11) (N := 25) hx hb hT giX11 hown hK hP 0 rfl rfl 0 (by decide) (hT (Cond.fieldLink RX11 9 "DesertWireModel" "s" "[I") mw_1156) (fun _ h9 => h9) rfl dX11_rain_38 ?_
      refine lv_bipush (v := 7) hx hb dX11_rain_41 (by decide) ?_
      refine lv_iload_n hx hb dX11_rain_43 rfl (lv_at hl 2 rfl) ?_
      refine lv_iadd hx hb dX11_rain_44 ?_
      refine lv_topi (fun v_16 ev_16 => ?_)
      have tv_16 : v_16.toInt = 7 + a.toInt := by rw [ev_16]; exact k_addv zl_7 rfl (by omega) (by omega)
      refine lv_iload_n hx hb dX11_rain_45 rfl (lv_at hl 3 rfl) ?_
      refine va_iast hx hb hK hP hD hS 1 0 rfl rfl (k_in (by omega) (by omega)) dX11_rain_46 (fun H locs hP hD hS => ?_)
      have hP : va_P D vwCl [(h, .inr (11, [.ref ys, .ref yk, .ref yt, .int m3, .ref yf, .ref yb, .ref yz, .ref yn, .ref yc, .int m9, .ref yp, .ref yw, .int m12, .int m13, .int m14, .int m15, .int m16, .int m17, .int m18, .int m19, .int m20, .ref ye, .int m22, .int m23, .ref yx])), (ys, .inl (cI, 1201, .inl (upd sI v_16.toNatClampNeg b))), (yf, .inl (cI, 6, .inl ff))] H := hP
      have hD : va_D A [(h, .inr (11, [.ref ys, .ref yk, .ref yt, .int m3, .ref yf, .ref yb, .ref yz, .ref yn, .ref yc, .int m9, .ref yp, .ref yw, .int m12, .int m13, .int m14, .int m15, .int m16, .int m17, .int m18, .int m19, .int m20, .ref ye, .int m22, .int m23, .ref yx])), (ys, .inl (cI, 1201, .inl (upd sI v_16.toNatClampNeg b))), (yf, .inl (cI, 6, .inl ff))] := hD
      obtain ⟨f_17, ef_17⟩ : ∃ g : Nat → Int32, g = upd sI v_16.toNatClampNeg b := ⟨_, rfl⟩
      rw [← ef_17] at hP hD
      refine lv_iload_n hx hb dX11_rain_47 rfl (lv_at hl 0 rfl) ?_
      exact hRet () [] (by unfold sp_rain; repeat (first | rw [if_pos (by omega)] | rw [if_neg (by omega)])) hP hD (by decide) rfl hS rfl dX11_rain_48
    · try simp only [zl_0, zl_9] at h_13
      have h_13 : b.toInt < 0 ∨ 9 < b.toInt := h_13
      obtain rfl : r_8 = 0 := hr_8.trans (by decide)
      refine b_if_ne hx hb zl_0 (tgt := 27) dX11_rain_17 (by decide) (fun c_18 => by exfalso; omega) (fun c_18 => ?_)
      refine lv_aload_n hx hb dX11_rain_20 rfl (lv_at hl 0 rfl) ?_
      refine lv_ldc (v := (-1000001)) hx hb hown (hT _ mw_1239) dX11_rain_21 ?_
      refine kJi (wr := [(ys, .inl (cI, 1201, .inl sI))]) (va_runV (As := [.int (-1000001)]) (rest := []) ⟨hx, hb, hml, hown, hT⟩ (c_X11_finding l D cI h ys yk yt yf yb yz yn yc yp yw ye yx H.size m3 m9 m12 m13 m14 m15 m16 m17 m18 m19 m20 m22 m23 ff (-1000001) (by first | omega | (simp only [zl_m1000001] <;> omega) | decide | assumption | rfl) (by first | omega | (simp only [zl_m1000001] <;> omega) | decide | assumption | rfl)) (cwV 1 hT (gV_in mw_1243 mw_1240 mw_1242 mw_p3_8 mw_12) rfl rfl rfl (by decide +kernel) ⟨Nat.le_of_ble_eq_true rfl, Nat.le_of_ble_eq_true rfl⟩) (kRecv (own := "") (q0 := 0) (ci := 11) hK hP hD hN rfl rfl [0, 2] rfl (by decide)) rfl rfl hl.1 rfl (lv_room (Nat.le_of_ble_eq_true rfl)) dX11_rain_23 ⟨Nat.le_of_ble_eq_true rfl, Nat.le_of_ble_eq_true rfl⟩) hP hD hS hA [0, 2] [1] rfl rfl (by decide) (by decide) (fun r_19 u_21 H locs w_20 hP hD hS => ?_)
      have hP : va_P D vwCl [(ys, .inl (cI, 1201, .inl sI))] H := hP
      have hD : va_D A [(ys, .inl (cI, 1201, .inl sI))] := hD
      have hr_19 := w_20
      obtain rfl : r_19 = (-1000001) := hr_19.trans (by decide)
      exact hRet () [] (by unfold sp_rain; repeat (first | rw [if_pos (by omega)] | rw [if_neg (by omega)])) hP hD (by decide) rfl hS rfl dX11_rain_26
  · try simp only [zl_0, zl_11] at h_6
    have h_6 : a.toInt < 0 ∨ 11 < a.toInt := h_6
    obtain rfl : r_1 = 0 := hr_1.trans (by decide)
    refine b_if_eq hx hb zl_0 (tgt := 20) dX11_rain_7 (by decide) (fun c_22 => ?_) (fun c_22 => by exfalso; omega)
    refine lv_aload_n hx hb dX11_rain_20 rfl (lv_at hl 0 rfl) ?_
    refine lv_ldc (v := (-1000001)) hx hb hown (hT _ mw_1239) dX11_rain_21 ?_
    refine kJi (wr := [(ys, .inl (cI, 1201, .inl sI))]) (va_runV (As := [.int (-1000001)]) (rest := []) ⟨hx, hb, hml, hown, hT⟩ (c_X11_finding l D cI h ys yk yt yf yb yz yn yc yp yw ye yx H.size m3 m9 m12 m13 m14 m15 m16 m17 m18 m19 m20 m22 m23 ff (-1000001) (by first | omega | (simp only [zl_m1000001] <;> omega) | decide | assumption | rfl) (by first | omega | (simp only [zl_m1000001] <;> omega) | decide | assumption | rfl)) (cwV 1 hT (gV_in mw_1243 mw_1240 mw_1242 mw_p3_8 mw_12) rfl rfl rfl (by decide +kernel) ⟨Nat.le_of_ble_eq_true rfl, Nat.le_of_ble_eq_true rfl⟩) (kRecv (own := "") (q0 := 0) (ci := 11) hK hP hD hN rfl rfl [0, 2] rfl (by decide)) rfl rfl hl.1 rfl (lv_room (Nat.le_of_ble_eq_true rfl)) dX11_rain_23 ⟨Nat.le_of_ble_eq_true rfl, Nat.le_of_ble_eq_true rfl⟩) hP hD hS hA [0, 2] [1] rfl rfl (by decide) (by decide) (fun r_23 u_25 H locs w_24 hP hD hS => ?_)
    have hP : va_P D vwCl [(ys, .inl (cI, 1201, .inl sI))] H := hP
    have hD : va_D A [(ys, .inl (cI, 1201, .inl sI))] := hD
    have hr_23 := w_24
    obtain rfl : r_23 = (-1000001) := hr_23.trans (by decide)
    exact hRet () [] (by unfold sp_rain; repeat (first | rw [if_pos (by omega)] | rw [if_neg (by omega)])) hP hD (by decide) rfl hS rfl dX11_rain_26
set_option maxHeartbeats 4000000 in
set_option maxRecDepth 100000 in
theorem c_X11_land (l : Launch) (D : va_G) (cI : ClassId) (h ys yk yt yf yb yz yn yc yp yw ye yx : Nat) (sz : Nat) (m3 : Int32) (m9 : Int32) (m12 : Int32) (m13 : Int32) (m14 : Int32) (m15 : Int32) (m16 : Int32) (m17 : Int32) (m18 : Int32) (m19 : Int32) (m20 : Int32) (m22 : Int32) (m23 : Int32) (ff : Nat → Int32) (a : Int32) (b : Int32) (d : Int32) : Met l yX11_land (gW yX11_land cX11_land 5 (some .int)) ({ frames := 2, cells := 0, slots := 0, locals := 42 } : Room) (kPre D cI [.ref h, .int a, .int b, .int d] [(h, .inr (11, [.ref ys, .ref yk, .ref yt, .int m3, .ref yf, .ref yb, .ref yz, .ref yn, .ref yc, .int m9, .ref yp, .ref yw, .int m12, .int m13, .int m14, .int m15, .int m16, .int m17, .int m18, .int m19, .int m20, .ref ye, .int m22, .int m23, .ref yx])), (ys, .inl (cI, 1201, .inl sI)), (yf, .inl (cI, 6, .inl ff))] sz) (va_Qi (fun (r : Int32) (u : Unit) => r = sp_land a b d) (fun u t => kWd D cI (va_A [(h, .inr (11, [.ref ys, .ref yk, .ref yt, .int m3, .ref yf, .ref yb, .ref yz, .ref yn, .ref yc, .int m9, .ref yp, .ref yw, .int m12, .int m13, .int m14, .int m15, .int m16, .int m17, .int m18, .int m19, .int m20, .ref ye, .int m22, .int m23, .ref yx])), (ys, .inl (cI, 1201, .inl sI)), (yf, .inl (cI, 6, .inl ff))] sz) [] t) (va_A [(h, .inr (11, [.ref ys, .ref yk, .ref yt, .int m3, .ref yf, .ref yb, .ref yz, .ref yn, .ref yc, .int m9, .ref yp, .ref yw, .int m12, .int m13, .int m14, .int m15, .int m16, .int m17, .int m18, .int m19, .int m20, .ref ye, .int m22, .int m23, .ref yx])), (ys, .inl (cI, 1201, .inl sI)), (yf, .inl (cI, 6, .inl ff))] sz)) 0 0 (va_A [(h, .inr (11, [.ref ys, .ref yk, .ref yt, .int m3, .ref yf, .ref yb, .ref yz, .ref yn, .ref yc, .int m9, .ref yp, .ref yw, .int m12, .int m13, .int m14, .int m15, .int m16, .int m17, .int m18, .int m19, .int m20, .ref ye, .int m22, .int m23, .ref yx])), (ys, .inl (cI, 1201, .inl sI)), (yf, .inl (cI, 6, .inl ff))] sz) := by
  refine kMetI (own := RX11) (by decide) rfl (Nat.le_of_ble_eq_true rfl) ?_
  intro p e s m args below meth c hx hb hT hown hname hml A Q hK hP hD hS hA hN hRet ls hl
  have hl : lv_has ls 5 [(0, .ref h), (1, .int a), (2, .int b), (3, .int d)] := hl
  have lo_a := k_lo a
  have hi_a := k_hi a
  have lo_b := k_lo b
  have hi_b := k_hi b
  have lo_d := k_lo d
  have hi_d := k_hi d
  have lo_m3 := k_lo m3
  have hi_m3 := k_hi m3
  have lo_m9 := k_lo m9
  have hi_m9 := k_hi m9
  have lo_m12 := k_lo m12
  have hi_m12 := k_hi m12
  have lo_m13 := k_lo m13
  have hi_m13 := k_hi m13
  have lo_m14 := k_lo m14
  have hi_m14 := k_hi m14
  have lo_m15 := k_lo m15
  have hi_m15 := k_hi m15
  have lo_m16 := k_lo m16
  have hi_m16 := k_hi m16
  have lo_m17 := k_lo m17
  have hi_m17 := k_hi m17
  have lo_m18 := k_lo m18
  have hi_m18 := k_hi m18
  have lo_m19 := k_lo m19
  have hi_m19 := k_hi m19
  have lo_m20 := k_lo m20
  have hi_m20 := k_hi m20
  have lo_m22 := k_lo m22
  have hi_m22 := k_hi m22
  have lo_m23 := k_lo m23
  have hi_m23 := k_hi m23
  refine lv_iload_n hx hb dX11_land_0 rfl (lv_at hl 1 rfl) ?_
  refine kJi (wr := [(h, .inr (11, [.ref ys, .ref yk, .ref yt, .int m3, .ref yf, .ref yb, .ref yz, .ref yn, .ref yc, .int m9, .ref yp, .ref yw, .int m12, .int m13, .int m14, .int m15, .int m16, .int m17, .int m18, .int m19, .int m20, .ref ye, .int m22, .int m23, .ref yx])), (ys, .inl (cI, 1201, .inl sI)), (yf, .inl (cI, 6, .inl ff))]) (va_runS (As := [.int a]) (rest := []) ⟨hx, hb, hml, hown, hT⟩ (c_X11_isMile l D cI s.heap.size a) (cwS 1 hT (gS_in mw_1251 mw_1249 mw_1250 mw_12) rfl rfl rfl (by decide +kernel) ⟨Nat.le_of_ble_eq_true rfl, Nat.le_of_ble_eq_true rfl⟩) (kStat hK hP hD hN [] rfl (by decide)) rfl rfl hl.1 rfl (lv_room (Nat.le_of_ble_eq_true rfl)) dX11_land_1 ⟨Nat.le_of_ble_eq_true rfl, Nat.le_of_ble_eq_true rfl⟩) hP hD hS hA [] [0, 1, 2] rfl rfl (by decide) (by decide) (fun r_1 u_3 H locs w_2 hP hD hS => ?_)
  have hP : va_P D vwCl [(h, .inr (11, [.ref ys, .ref yk, .ref yt, .int m3, .ref yf, .ref yb, .ref yz, .ref yn, .ref yc, .int m9, .ref yp, .ref yw, .int m12, .int m13, .int m14, .int m15, .int m16, .int m17, .int m18, .int m19, .int m20, .ref ye, .int m22, .int m23, .ref yx])), (ys, .inl (cI, 1201, .inl sI)), (yf, .inl (cI, 6, .inl ff))] H := hP
  have hD : va_D A [(h, .inr (11, [.ref ys, .ref yk, .ref yt, .int m3, .ref yf, .ref yb, .ref yz, .ref yn, .ref yc, .int m9, .ref yp, .ref yw, .int m12, .int m13, .int m14, .int m15, .int m16, .int m17, .int m18, .int m19, .int m20, .ref ye, .int m22, .int m23, .ref yx])), (ys, .inl (cI, 1201, .inl sI)), (yf, .inl (cI, 6, .inl ff))] := hD
  rcases w_2 with ⟨hr_1, h_4, h_5⟩ | ⟨hr_1, h_6⟩
  · have h_4 : 0 ≤ a.toInt := h_4
    have h_5 : a.toInt ≤ 39 := h_5
    obtain rfl : r_1 = 1 := hr_1.trans (by decide)
    refine b_if_eq hx hb zl_1 (tgt := 26) dX11_land_4 (by decide) (fun c_7 => by exfalso; omega) (fun c_7 => ?_)
    refine lv_iload_n hx hb dX11_land_7 rfl (lv_at hl 2 rfl) ?_
    refine lv_iconst (v := 0) hx hb dX11_land_8 (by decide) ?_
    refine lv_iconst (v := 2) hx hb dX11_land_9 (by decide) ?_
    refine kJi (wr := [(h, .inr (11, [.ref ys, .ref yk, .ref yt, .int m3, .ref yf, .ref yb, .ref yz, .ref yn, .ref yc, .int m9, .ref yp, .ref yw, .int m12, .int m13, .int m14, .int m15, .int m16, .int m17, .int m18, .int m19, .int m20, .ref ye, .int m22, .int m23, .ref yx])), (ys, .inl (cI, 1201, .inl sI)), (yf, .inl (cI, 6, .inl ff))]) (va_runS (As := [.int b, .int 0, .int 2]) (rest := []) ⟨hx, hb, hml, hown, hT⟩ (c_X11_in l D cI H.size b 0 2) (cwS 3 hT (gS_in mw_1238 mw_1236 mw_1237 mw_12) rfl rfl rfl (by decide +kernel) ⟨Nat.le_of_ble_eq_true rfl, Nat.le_of_ble_eq_true rfl⟩) (kStat hK hP hD hN [] rfl (by decide)) rfl rfl hl.1 rfl (lv_room (Nat.le_of_ble_eq_true rfl)) dX11_land_10 ⟨Nat.le_of_ble_eq_true rfl, Nat.le_of_ble_eq_true rfl⟩) hP hD hS hA [] [0, 1, 2] rfl rfl (by decide) (by decide) (fun r_8 u_10 H locs w_9 hP hD hS => ?_)
    have hP : va_P D vwCl [(h, .inr (11, [.ref ys, .ref yk, .ref yt, .int m3, .ref yf, .ref yb, .ref yz, .ref yn, .ref yc, .int m9, .ref yp, .ref yw, .int m12, .int m13, .int m14, .int m15, .int m16, .int m17, .int m18, .int m19, .int m20, .ref ye, .int m22, .int m23, .ref yx])), (ys, .inl (cI, 1201, .inl sI)), (yf, .inl (cI, 6, .inl ff))] H := hP
    have hD : va_D A [(h, .inr (11, [.ref ys, .ref yk, .ref yt, .int m3, .ref yf, .ref yb, .ref yz, .ref yn, .ref yc, .int m9, .ref yp, .ref yw, .int m12, .int m13, .int m14, .int m15, .int m16, .int m17, .int m18, .int m19, .int m20, .ref ye, .int m22, .int m23, .ref yx])), (ys, .inl (cI, 1201, .inl sI)), (yf, .inl (cI, 6, .inl ff))] := hD
    rcases w_9 with ⟨hr_8, h_11, h_12⟩ | ⟨hr_8, h_13⟩
    · try simp only [zl_0, zl_2] at h_11
      have h_11 : 0 ≤ b.toInt := h_11
      try simp only [zl_0, zl_2] at h_12
      have h_12 : b.toInt ≤ 2 := h_12
      obtain rfl : r_8 = 1 := hr_8.trans (by decide)
      refine b_if_eq hx hb zl_1 (tgt := 26) dX11_land_13 (by decide) (fun c_14 => by exfalso; omega) (fun c_14 => ?_)
      refine lv_iload_n hx hb dX11_land_16 rfl (lv_at hl 3 rfl) ?_
      refine lv_iconst (v := 0) hx hb dX11_land_17 (by decide) ?_
      refine lv_bipush (v := 99) hx hb dX11_land_18 (by decide) ?_
      refine kJi (wr := [(h, .inr (11, [.ref ys, .ref yk, .ref yt, .int m3, .ref yf, .ref yb, .ref yz, .ref yn, .ref yc, .int m9, .ref yp, .ref yw, .int m12, .int m13, .int m14, .int m15, .int m16, .int m17, .int m18, .int m19, .int m20, .ref ye, .int m22, .int m23, .ref yx])), (ys, .inl (cI, 1201, .inl sI)), (yf, .inl (cI, 6, .inl ff))]) (va_runS (As := [.int d, .int 0, .int 99]) (rest := []) ⟨hx, hb, hml, hown, hT⟩ (c_X11_in l D cI H.size d 0 99) (cwS 3 hT (gS_in mw_1238 mw_1236 mw_1237 mw_12) rfl rfl rfl (by decide +kernel) ⟨Nat.le_of_ble_eq_true rfl, Nat.le_of_ble_eq_true rfl⟩) (kStat hK hP hD hN [] rfl (by decide)) rfl rfl hl.1 rfl (lv_room (Nat.le_of_ble_eq_true rfl)) dX11_land_20 ⟨Nat.le_of_ble_eq_true rfl, Nat.le_of_ble_eq_true rfl⟩) hP hD hS hA [] [0, 1, 2] rfl rfl (by decide) (by decide) (fun r_15 u_17 H locs w_16 hP hD hS => ?_)
      have hP : va_P D vwCl [(h, .inr (11, [.ref ys, .ref yk, .ref yt, .int m3, .ref yf, .ref yb, .ref yz, .ref yn, .ref yc, .int m9, .ref yp, .ref yw, .int m12, .int m13, .int m14, .int m15, .int m16, .int m17, .int m18, .int m19, .int m20, .ref ye, .int m22, .int m23, .ref yx])), (ys, .inl (cI, 1201, .inl sI)), (yf, .inl (cI, 6, .inl ff))] H := hP
      have hD : va_D A [(h, .inr (11, [.ref ys, .ref yk, .ref yt, .int m3, .ref yf, .ref yb, .ref yz, .ref yn, .ref yc, .int m9, .ref yp, .ref yw, .int m12, .int m13, .int m14, .int m15, .int m16, .int m17, .int m18, .int m19, .int m20, .ref ye, .int m22, .int m23, .ref yx])), (ys, .inl (cI, 1201, .inl sI)), (yf, .inl (cI, 6, .inl ff))] := hD
      rcases w_16 with ⟨hr_15, h_18, h_19⟩ | ⟨hr_15, h_20⟩
      · try simp only [zl_0, zl_99] at h_18
        have h_18 : 0 ≤ d.toInt := h_18
        try simp only [zl_0, zl_99] at h_19
        have h_19 : d.toInt ≤ 99 := h_19
        obtain rfl : r_15 = 1 := hr_15.trans (by decide)
        refine b_if_ne hx hb zl_1 (tgt := 33) dX11_land_23 (by decide) (fun c_21 => ?_) (fun c_21 => by exfalso; omega)
        refine lv_bipush (v := 100) hx hb dX11_land_33 (by decide) ?_
        refine lv_aload_n hx hb dX11_land_35 rfl (lv_at hl 0 rfl) ?_
        refine va_get (D := D) (ci := 11) (v := .ref ys) (C := RX11) (T := TX11) (N := 25) hx hb hT giX11 hown hK hP 0 rfl rfl 0 (by decide) (hT (Cond.fieldLink RX11 9 "DesertWireModel" "s" "[I") mw_1156) (fun _ h9 => h9) rfl dX11_land_36 ?_
        refine lv_bipush (v := 19) hx hb dX11_land_39 (by decide) ?_
        refine lv_iload_n hx hb dX11_land_41 rfl (lv_at hl 1 rfl) ?_
        refine lv_iadd hx hb dX11_land_42 ?_
        refine lv_topi (fun v_22 ev_22 => ?_)
        have tv_22 : v_22.toInt = 19 + a.toInt := by rw [ev_22]; exact k_addv zl_19 rfl (by omega) (by omega)
        refine k_iald (v := 0) hx hb hK hP 1 0 rfl rfl (k_in (by omega) (by omega)) (k_sI0 (by omega)) dX11_land_43 ?_
        refine k_imul (v := 0) hx hb dX11_land_44 (by decide) ?_
        refine lv_aload_n hx hb dX11_land_45 rfl (lv_at hl 0 rfl) ?_
        refine va_get (D := D) (ci := 11) (v := .ref ys) (C := RX11) (T := TX11) (N := 25) hx hb hT giX11 hown hK hP 0 rfl rfl 0 (by decide) (hT (Cond.fieldLink RX11 9 "DesertWireModel" "s" "[I") mw_1156) (fun _ h9 => h9) rfl dX11_land_46 ?_
        refine lv_bipush (v := 59) hx hb dX11_land_49 (by decide) ?_
        refine lv_iload_n hx hb dX11_land_51 rfl (lv_at hl 1 rfl) ?_
        refine lv_iadd hx hb dX11_land_52 ?_
        refine lv_topi (fun v_23 ev_23 => ?_)
        have tv_23 : v_23.toInt = 59 + a.toInt := by rw [ev_23]; exact k_addv zl_59 rfl (by omega) (by omega)
        refine k_iald (v := 0) hx hb hK hP 1 0 rfl rfl (k_in (by omega) (by omega)) (k_sI0 (by omega)) dX11_land_53 ?_
        refine k_iadd (v := 0) hx hb dX11_land_54 (by decide) ?_
        refine lv_istore (lv' := [(4, .int 0), (0, .ref h), (1, .int a), (2, .int b), (3, .int d)]) hx hb dX11_land_55 hl (by decide) rfl (fun ls hl => ?_)
        refine lv_aload_n hx hb dX11_land_57 rfl (lv_at hl 1 rfl) ?_
        refine va_get (D := D) (ci := 11) (v := .ref ys) (C := RX11) (T := TX11) (N := 25) hx hb hT giX11 hown hK hP 0 rfl rfl 0 (by decide) (hT (Cond.fieldLink RX11 9 "DesertWireModel" "s" "[I") mw_1156) (fun _ h9 => h9) rfl dX11_land_58 ?_
        refine lv_bipush (v := 19) hx hb dX11_land_61 (by decide) ?_
        refine lv_iload_n hx hb dX11_land_63 rfl (lv_at hl 2 rfl) ?_
        refine lv_iadd hx hb dX11_land_64 ?_
        refine lv_topi (fun v_24 ev_24 => ?_)
        have tv_24 : v_24.toInt = 19 + a.toInt := by rw [ev_24]; exact k_addv zl_19 rfl (by omega) (by omega)
        refine lv_iload_n hx hb dX11_land_65 rfl (lv_at hl 3 rfl) ?_
        refine va_iast hx hb hK hP hD hS 1 0 rfl rfl (k_in (by omega) (by omega)) dX11_land_66 (fun H locs hP hD hS => ?_)
        have hP : va_P D vwCl [(h, .inr (11, [.ref ys, .ref yk, .ref yt, .int m3, .ref yf, .ref yb, .ref yz, .ref yn, .ref yc, .int m9, .ref yp, .ref yw, .int m12, .int m13, .int m14, .int m15, .int m16, .int m17, .int m18, .int m19, .int m20, .ref ye, .int m22, .int m23, .ref yx])), (ys, .inl (cI, 1201, .inl (upd sI v_24.toNatClampNeg b))), (yf, .inl (cI, 6, .inl ff))] H := hP
        have hD : va_D A [(h, .inr (11, [.ref ys, .ref yk, .ref yt, .int m3, .ref yf, .ref yb, .ref yz, .ref yn, .ref yc, .int m9, .ref yp, .ref yw, .int m12, .int m13, .int m14, .int m15, .int m16, .int m17, .int m18, .int m19, .int m20, .ref ye, .int m22, .int m23, .ref yx])), (ys, .inl (cI, 1201, .inl (upd sI v_24.toNatClampNeg b))), (yf, .inl (cI, 6, .inl ff))] := hD
        obtain ⟨f_25, ef_25⟩ : ∃ g : Nat → Int32, g = upd sI v_24.toNatClampNeg b := ⟨_, rfl⟩
        rw [← ef_25] at hP hD
        refine lv_aload_n hx hb dX11_land_67 rfl (lv_at hl 1 rfl) ?_
        refine va_get (D := D) (ci := 11) (v := .ref ys) (C := RX11) (T := TX11) (N := 25) hx hb hT giX11 hown hK hP 0 rfl rfl 0 (by decide) (hT (Cond.fieldLink RX11 9 "DesertWireModel" "s" "[I") mw_1156) (fun _ h9 => h9) rfl dX11_land_68 ?_
        refine lv_bipush (v := 59) hx hb dX11_land_71 (by decide) ?_
        refine lv_iload_n hx hb dX11_land_73 rfl (lv_at hl 2 rfl) ?_
        refine lv_iadd hx hb dX11_land_74 ?_
        refine lv_topi (fun v_26 ev_26 => ?_)
        have tv_26 : v_26.toInt = 59 + a.toInt := by rw [ev_26]; exact k_addv zl_59 rfl (by omega) (by omega)
        refine lv_iload_n hx hb dX11_land_75 rfl (lv_at hl 4 rfl) ?_
        refine va_iast hx hb hK hP hD hS 1 0 rfl rfl (k_in (by omega) (by omega)) dX11_land_76 (fun H locs hP hD hS => ?_)
        have hP : va_P D vwCl [(h, .inr (11, [.ref ys, .ref yk, .ref yt, .int m3, .ref yf, .ref yb, .ref yz, .ref yn, .ref yc, .int m9, .ref yp, .ref yw, .int m12, .int m13, .int m14, .int m15, .int m16, .int m17, .int m18, .int m19, .int m20, .ref ye, .int m22, .int m23, .ref yx])), (ys, .inl (cI, 1201, .inl (upd f_25 v_26.toNatClampNeg d))), (yf, .inl (cI, 6, .inl ff))] H := hP
        have hD : va_D A [(h, .inr (11, [.ref ys, .ref yk, .ref yt, .int m3, .ref yf, .ref yb, .ref yz, .ref yn, .ref yc, .int m9, .ref yp, .ref yw, .int m12, .int m13, .int m14, .int m15, .int m16, .int m17, .int m18, .int m19, .int m20, .ref ye, .int m22, .int m23, .ref yx])), (ys, .inl (cI, 1201, .inl (upd f_25 v_26.toNatClampNeg d))), (yf, .inl (cI, 6, .inl ff))] := hD
        obtain ⟨f_27, ef_27⟩ : ∃ g : Nat → Int32, g = upd f_25 v_26.toNatClampNeg d := ⟨_, rfl⟩
        rw [← ef_27] at hP hD
        refine lv_iload hx hb dX11_land_77 (lv_at hl 0 rfl) ?_
        exact hRet () [] (by unfold sp_land; repeat (first | rw [if_pos (by omega)] | rw [if_neg (by omega)])) hP hD (by decide) rfl hS rfl dX11_land_79
      · try simp only [zl_0, zl_99] at h_20
        have h_20 : d.toInt < 0 ∨ 99 < d.toInt := h_20
        obtain rfl : r_15 = 0 := hr_15.trans (by decide)
        refine b_if_ne hx hb zl_0 (tgt := 33) dX11_land_23 (by decide) (fun c_28 => by exfalso; omega) (fun c_28 => ?_)
        refine lv_aload_n hx hb dX11_land_26 rfl (lv_at hl 0 rfl) ?_
        refine lv_ldc (v := (-1000001)) hx hb hown (hT _ mw_1239) dX11_land_27 ?_
        refine kJi (wr := [(ys, .inl (cI, 1201, .inl sI))]) (va_runV (As := [.int (-1000001)]) (rest := []) ⟨hx, hb, hml, hown, hT⟩ (c_X11_finding l D cI h ys yk yt yf yb yz yn yc yp yw ye yx H.size m3 m9 m12 m13 m14 m15 m16 m17 m18 m19 m20 m22 m23 ff (-1000001) (by first | omega | (simp only [zl_m1000001] <;> omega) | decide | assumption | rfl) (by first | omega | (simp only [zl_m1000001] <;> omega) | decide | assumption | rfl)) (cwV 1 hT (gV_in mw_1243 mw_1240 mw_1242 mw_p3_8 mw_12) rfl rfl rfl (by decide +kernel) ⟨Nat.le_of_ble_eq_true rfl, Nat.le_of_ble_eq_true rfl⟩) (kRecv (own := "") (q0 := 0) (ci := 11) hK hP hD hN rfl rfl [0, 2] rfl (by decide)) rfl rfl hl.1 rfl (lv_room (Nat.le_of_ble_eq_true rfl)) dX11_land_29 ⟨Nat.le_of_ble_eq_true rfl, Nat.le_of_ble_eq_true rfl⟩) hP hD hS hA [0, 2] [1] rfl rfl (by decide) (by decide) (fun r_29 u_31 H locs w_30 hP hD hS => ?_)
        have hP : va_P D vwCl [(ys, .inl (cI, 1201, .inl sI))] H := hP
        have hD : va_D A [(ys, .inl (cI, 1201, .inl sI))] := hD
        have hr_29 := w_30
        obtain rfl : r_29 = (-1000001) := hr_29.trans (by decide)
        exact hRet () [] (by unfold sp_land; repeat (first | rw [if_pos (by omega)] | rw [if_neg (by omega)])) hP hD (by decide) rfl hS rfl dX11_land_32
    · try simp only [zl_0, zl_2] at h_13
      have h_13 : b.toInt < 0 ∨ 2 < b.toInt := h_13
      obtain rfl : r_8 = 0 := hr_8.trans (by decide)
      refine b_if_eq hx hb zl_0 (tgt := 26) dX11_land_13 (by decide) (fun c_32 => ?_) (fun c_32 => by exfalso; omega)
      refine lv_aload_n hx hb dX11_land_26 rfl (lv_at hl 0 rfl) ?_
      refine lv_ldc (v := (-1000001)) hx hb hown (hT _ mw_1239) dX11_land_27 ?_
      refine kJi (wr := [(ys, .inl (cI, 1201, .inl sI))]) (va_runV (As := [.int (-1000001)]) (rest := []) ⟨hx, hb, hml, hown, hT⟩ (c_X11_finding l D cI h ys yk yt yf yb yz yn yc yp yw ye yx H.size m3 m9 m12 m13 m14 m15 m16 m17 m18 m19 m20 m22 m23 ff (-1000001) (by first | omega | (simp only [zl_m1000001] <;> omega) | decide | assumption | rfl) (by first | omega | (simp only [zl_m1000001] <;> omega) | decide | assumption | rfl)) (cwV 1 hT (gV_in mw_1243 mw_1240 mw_1242 mw_p3_8 mw_12) rfl rfl rfl (by decide +kernel) ⟨Nat.le_of_ble_eq_true rfl, Nat.le_of_ble_eq_true rfl⟩) (kRecv (own := "") (q0 := 0) (ci := 11) hK hP hD hN rfl rfl [0, 2] rfl (by decide)) rfl rfl hl.1 rfl (lv_room (Nat.le_of_ble_eq_true rfl)) dX11_land_29 ⟨Nat.le_of_ble_eq_true rfl, Nat.le_of_ble_eq_true rfl⟩) hP hD hS hA [0, 2] [1] rfl rfl (by decide) (by decide) (fun r_33 u_35 H locs w_34 hP hD hS => ?_)
      have hP : va_P D vwCl [(ys, .inl (cI, 1201, .inl sI))] H := hP
      have hD : va_D A [(ys, .inl (cI, 1201, .inl sI))] := hD
      have hr_33 := w_34
      obtain rfl : r_33 = (-1000001) := hr_33.trans (by decide)
      exact hRet () [] (by unfold sp_land; repeat (first | rw [if_pos (by omega)] | rw [if_neg (by omega)])) hP hD (by decide) rfl hS rfl dX11_land_32
  · have h_6 : a.toInt < 0 ∨ 39 < a.toInt := h_6
    obtain rfl : r_1 = 0 := hr_1.trans (by decide)
    refine b_if_eq hx hb zl_0 (tgt := 26) dX11_land_4 (by decide) (fun c_36 => ?_) (fun c_36 => by exfalso; omega)
    refine lv_aload_n hx hb dX11_land_26 rfl (lv_at hl 0 rfl) ?_
    refine lv_ldc (v := (-1000001)) hx hb hown (hT _ mw_1239) dX11_land_27 ?_
    refine kJi (wr := [(ys, .inl (cI, 1201, .inl sI))]) (va_runV (As := [.int (-1000001)]) (rest := []) ⟨hx, hb, hml, hown, hT⟩ (c_X11_finding l D cI h ys yk yt yf yb yz yn yc yp yw ye yx H.size m3 m9 m12 m13 m14 m15 m16 m17 m18 m19 m20 m22 m23 ff (-1000001) (by first | omega | (simp only [zl_m1000001] <;> omega) | decide | assumption | rfl) (by first | omega | (simp only [zl_m1000001] <;> omega) | decide | assumption | rfl)) (cwV 1 hT (gV_in mw_1243 mw_1240 mw_1242 mw_p3_8 mw_12) rfl rfl rfl (by decide +kernel) ⟨Nat.le_of_ble_eq_true rfl, Nat.le_of_ble_eq_true rfl⟩) (kRecv (own := "") (q0 := 0) (ci := 11) hK hP hD hN rfl rfl [0, 2] rfl (by decide)) rfl rfl hl.1 rfl (lv_room (Nat.le_of_ble_eq_true rfl)) dX11_land_29 ⟨Nat.le_of_ble_eq_true rfl, Nat.le_of_ble_eq_true rfl⟩) hP hD hS hA [0, 2] [1] rfl rfl (by decide) (by decide) (fun r_37 u_39 H locs w_38 hP hD hS => ?_)
    have hP : va_P D vwCl [(ys, .inl (cI, 1201, .inl sI))] H := hP
    have hD : va_D A [(ys, .inl (cI, 1201, .inl sI))] := hD
    have hr_37 := w_38
    obtain rfl : r_37 = (-1000001) := hr_37.trans (by decide)
    exact hRet () [] (by unfold sp_land; repeat (first | rw [if_pos (by omega)] | rw [if_neg (by omega)])) hP hD (by decide) rfl hS rfl dX11_land_32
set_option maxHeartbeats 4000000 in
set_option maxRecDepth 100000 in
theorem c_X11_work_ (l : Launch) (D : va_G) (cI : ClassId) (h ys yk yt yf yb yz yn yc yp yw ye yx : Nat) (sz : Nat) (m3 : Int32) (m9 : Int32) (m12 : Int32) (m13 : Int32) (m14 : Int32) (m15 : Int32) (m16 : Int32) (m17 : Int32) (m18 : Int32) (m19 : Int32) (m20 : Int32) (m22 : Int32) (m23 : Int32) (ff : Nat → Int32) (a : Int32) (b : Int32) (d : Int32) : Met l yX11_work_ (gW yX11_work_ cX11_work_ 4 (some .int)) ({ frames := 2, cells := 0, slots := 0, locals := 48 } : Room) (kPre D cI [.ref h, .int a, .int b, .int d] [(h, .inr (11, [.ref ys, .ref yk, .ref yt, .int m3, .ref yf, .ref yb, .ref yz, .ref yn, .ref yc, .int m9, .ref yp, .ref yw, .int m12, .int m13, .int m14, .int m15, .int m16, .int m17, .int m18, .int m19, .int m20, .ref ye, .int m22, .int m23, .ref yx])), (ys, .inl (cI, 1201, .inl sI)), (yf, .inl (cI, 6, .inl ff))] sz) (va_Qi (fun (r : Int32) (u : Unit) => r = sp_work a b d) (fun u t => kWd D cI (va_A [(h, .inr (11, [.ref ys, .ref yk, .ref yt, .int m3, .ref yf, .ref yb, .ref yz, .ref yn, .ref yc, .int m9, .ref yp, .ref yw, .int m12, .int m13, .int m14, .int m15, .int m16, .int m17, .int m18, .int m19, .int m20, .ref ye, .int m22, .int m23, .ref yx])), (ys, .inl (cI, 1201, .inl sI)), (yf, .inl (cI, 6, .inl ff))] sz) [] t) (va_A [(h, .inr (11, [.ref ys, .ref yk, .ref yt, .int m3, .ref yf, .ref yb, .ref yz, .ref yn, .ref yc, .int m9, .ref yp, .ref yw, .int m12, .int m13, .int m14, .int m15, .int m16, .int m17, .int m18, .int m19, .int m20, .ref ye, .int m22, .int m23, .ref yx])), (ys, .inl (cI, 1201, .inl sI)), (yf, .inl (cI, 6, .inl ff))] sz)) 0 0 (va_A [(h, .inr (11, [.ref ys, .ref yk, .ref yt, .int m3, .ref yf, .ref yb, .ref yz, .ref yn, .ref yc, .int m9, .ref yp, .ref yw, .int m12, .int m13, .int m14, .int m15, .int m16, .int m17, .int m18, .int m19, .int m20, .ref ye, .int m22, .int m23, .ref yx])), (ys, .inl (cI, 1201, .inl sI)), (yf, .inl (cI, 6, .inl ff))] sz) := by
  refine kMetI (own := RX11) (by decide) rfl (Nat.le_of_ble_eq_true rfl) ?_
  intro p e s m args below meth c hx hb hT hown hname hml A Q hK hP hD hS hA hN hRet ls hl
  have hl : lv_has ls 4 [(0, .ref h), (1, .int a), (2, .int b), (3, .int d)] := hl
  have lo_a := k_lo a
  have hi_a := k_hi a
  have lo_b := k_lo b
  have hi_b := k_hi b
  have lo_d := k_lo d
  have hi_d := k_hi d
  have lo_m3 := k_lo m3
  have hi_m3 := k_hi m3
  have lo_m9 := k_lo m9
  have hi_m9 := k_hi m9
  have lo_m12 := k_lo m12
  have hi_m12 := k_hi m12
  have lo_m13 := k_lo m13
  have hi_m13 := k_hi m13
  have lo_m14 := k_lo m14
  have hi_m14 := k_hi m14
  have lo_m15 := k_lo m15
  have hi_m15 := k_hi m15
  have lo_m16 := k_lo m16
  have hi_m16 := k_hi m16
  have lo_m17 := k_lo m17
  have hi_m17 := k_hi m17
  have lo_m18 := k_lo m18
  have hi_m18 := k_hi m18
  have lo_m19 := k_lo m19
  have hi_m19 := k_hi m19
  have lo_m20 := k_lo m20
  have hi_m20 := k_hi m20
  have lo_m22 := k_lo m22
  have hi_m22 := k_hi m22
  have lo_m23 := k_lo m23
  have hi_m23 := k_hi m23
  refine lv_iload_n hx hb dX11_work__0 rfl (lv_at hl 1 rfl) ?_
  refine lv_iconst (v := 0) hx hb dX11_work__1 (by decide) ?_
  refine lv_iconst (v := 5) hx hb dX11_work__2 (by decide) ?_
  refine kJi (wr := [(h, .inr (11, [.ref ys, .ref yk, .ref yt, .int m3, .ref yf, .ref yb, .ref yz, .ref yn, .ref yc, .int m9, .ref yp, .ref yw, .int m12, .int m13, .int m14, .int m15, .int m16, .int m17, .int m18, .int m19, .int m20, .ref ye, .int m22, .int m23, .ref yx])), (ys, .inl (cI, 1201, .inl sI)), (yf, .inl (cI, 6, .inl ff))]) (va_runS (As := [.int a, .int 0, .int 5]) (rest := []) ⟨hx, hb, hml, hown, hT⟩ (c_X11_in l D cI s.heap.size a 0 5) (cwS 3 hT (gS_in mw_1238 mw_1236 mw_1237 mw_12) rfl rfl rfl (by decide +kernel) ⟨Nat.le_of_ble_eq_true rfl, Nat.le_of_ble_eq_true rfl⟩) (kStat hK hP hD hN [] rfl (by decide)) rfl rfl hl.1 rfl (lv_room (Nat.le_of_ble_eq_true rfl)) dX11_work__3 ⟨Nat.le_of_ble_eq_true rfl, Nat.le_of_ble_eq_true rfl⟩) hP hD hS hA [] [0, 1, 2] rfl rfl (by decide) (by decide) (fun r_1 u_3 H locs w_2 hP hD hS => ?_)
  have hP : va_P D vwCl [(h, .inr (11, [.ref ys, .ref yk, .ref yt, .int m3, .ref yf, .ref yb, .ref yz, .ref yn, .ref yc, .int m9, .ref yp, .ref yw, .int m12, .int m13, .int m14, .int m15, .int m16, .int m17, .int m18, .int m19, .int m20, .ref ye, .int m22, .int m23, .ref yx])), (ys, .inl (cI, 1201, .inl sI)), (yf, .inl (cI, 6, .inl ff))] H := hP
  have hD : va_D A [(h, .inr (11, [.ref ys, .ref yk, .ref yt, .int m3, .ref yf, .ref yb, .ref yz, .ref yn, .ref yc, .int m9, .ref yp, .ref yw, .int m12, .int m13, .int m14, .int m15, .int m16, .int m17, .int m18, .int m19, .int m20, .ref ye, .int m22, .int m23, .ref yx])), (ys, .inl (cI, 1201, .inl sI)), (yf, .inl (cI, 6, .inl ff))] := hD
  rcases w_2 with ⟨hr_1, h_4, h_5⟩ | ⟨hr_1, h_6⟩
  · try simp only [zl_0, zl_5] at h_4
    have h_4 : 0 ≤ a.toInt := h_4
    try simp only [zl_0, zl_5] at h_5
    have h_5 : a.toInt ≤ 5 := h_5
    obtain rfl : r_1 = 1 := hr_1.trans (by decide)
    refine b_if_eq hx hb zl_1 (tgt := 26) dX11_work__6 (by decide) (fun c_7 => by exfalso; omega) (fun c_7 => ?_)
    refine lv_iload_n hx hb dX11_work__9 rfl (lv_at hl 2 rfl) ?_
    refine kJi (wr := [(h, .inr (11, [.ref ys, .ref yk, .ref yt, .int m3, .ref yf, .ref yb, .ref yz, .ref yn, .ref yc, .int m9, .ref yp, .ref yw, .int m12, .int m13, .int m14, .int m15, .int m16, .int m17, .int m18, .int m19, .int m20, .ref ye, .int m22, .int m23, .ref yx])), (ys, .inl (cI, 1201, .inl sI)), (yf, .inl (cI, 6, .inl ff))]) (va_runS (As := [.int b]) (rest := []) ⟨hx, hb, hml, hown, hT⟩ (c_X11_isMile l D cI H.size b) (cwS 1 hT (gS_in mw_1251 mw_1249 mw_1250 mw_12) rfl rfl rfl (by decide +kernel) ⟨Nat.le_of_ble_eq_true rfl, Nat.le_of_ble_eq_true rfl⟩) (kStat hK hP hD hN [] rfl (by decide)) rfl rfl hl.1 rfl (lv_room (Nat.le_of_ble_eq_true rfl)) dX11_work__10 ⟨Nat.le_of_ble_eq_true rfl, Nat.le_of_ble_eq_true rfl⟩) hP hD hS hA [] [0, 1, 2] rfl rfl (by decide) (by decide) (fun r_8 u_10 H locs w_9 hP hD hS => ?_)
    have hP : va_P D vwCl [(h, .inr (11, [.ref ys, .ref yk, .ref yt, .int m3, .ref yf, .ref yb, .ref yz, .ref yn, .ref yc, .int m9, .ref yp, .ref yw, .int m12, .int m13, .int m14, .int m15, .int m16, .int m17, .int m18, .int m19, .int m20, .ref ye, .int m22, .int m23, .ref yx])), (ys, .inl (cI, 1201, .inl sI)), (yf, .inl (cI, 6, .inl ff))] H := hP
    have hD : va_D A [(h, .inr (11, [.ref ys, .ref yk, .ref yt, .int m3, .ref yf, .ref yb, .ref yz, .ref yn, .ref yc, .int m9, .ref yp, .ref yw, .int m12, .int m13, .int m14, .int m15, .int m16, .int m17, .int m18, .int m19, .int m20, .ref ye, .int m22, .int m23, .ref yx])), (ys, .inl (cI, 1201, .inl sI)), (yf, .inl (cI, 6, .inl ff))] := hD
    rcases w_9 with ⟨hr_8, h_11, h_12⟩ | ⟨hr_8, h_13⟩
    · have h_11 : 0 ≤ b.toInt := h_11
      have h_12 : b.toInt ≤ 39 := h_12
      obtain rfl : r_8 = 1 := hr_8.trans (by decide)
      refine b_if_eq hx hb zl_1 (tgt := 26) dX11_work__13 (by decide) (fun c_14 => by exfalso; omega) (fun c_14 => ?_)
      refine lv_iload_n hx hb dX11_work__16 rfl (lv_at hl 3 rfl) ?_
      refine lv_iconst (v := 1) hx hb dX11_work__17 (by decide) ?_
      refine lv_bipush (v := 50) hx hb dX11_work__18 (by decide) ?_
      refine kJi (wr := [(h, .inr (11, [.ref ys, .ref yk, .ref yt, .int m3, .ref yf, .ref yb, .ref yz, .ref yn, .ref yc, .int m9, .ref yp, .ref yw, .int m12, .int m13, .int m14, .int m15, .int m16, .int m17, .int m18, .int m19, .int m20, .ref ye, .int m22, .int m23, .ref yx])), (ys, .inl (cI, 1201, .inl sI)), (yf, .inl (cI, 6, .inl ff))]) (va_runS (As := [.int d, .int 1, .int 50]) (rest := []) ⟨hx, hb, hml, hown, hT⟩ (c_X11_in l D cI H.size d 1 50) (cwS 3 hT (gS_in mw_1238 mw_1236 mw_1237 mw_12) rfl rfl rfl (by decide +kernel) ⟨Nat.le_of_ble_eq_true rfl, Nat.le_of_ble_eq_true rfl⟩) (kStat hK hP hD hN [] rfl (by decide)) rfl rfl hl.1 rfl (lv_room (Nat.le_of_ble_eq_true rfl)) dX11_work__20 ⟨Nat.le_of_ble_eq_true rfl, Nat.le_of_ble_eq_true rfl⟩) hP hD hS hA [] [0, 1, 2] rfl rfl (by decide) (by decide) (fun r_15 u_17 H locs w_16 hP hD hS => ?_)
      have hP : va_P D vwCl [(h, .inr (11, [.ref ys, .ref yk, .ref yt, .int m3, .ref yf, .ref yb, .ref yz, .ref yn, .ref yc, .int m9, .ref yp, .ref yw, .int m12, .int m13, .int m14, .int m15, .int m16, .int m17, .int m18, .int m19, .int m20, .ref ye, .int m22, .int m23, .ref yx])), (ys, .inl (cI, 1201, .inl sI)), (yf, .inl (cI, 6, .inl ff))] H := hP
      have hD : va_D A [(h, .inr (11, [.ref ys, .ref yk, .ref yt, .int m3, .ref yf, .ref yb, .ref yz, .ref yn, .ref yc, .int m9, .ref yp, .ref yw, .int m12, .int m13, .int m14, .int m15, .int m16, .int m17, .int m18, .int m19, .int m20, .ref ye, .int m22, .int m23, .ref yx])), (ys, .inl (cI, 1201, .inl sI)), (yf, .inl (cI, 6, .inl ff))] := hD
      rcases w_16 with ⟨hr_15, h_18, h_19⟩ | ⟨hr_15, h_20⟩
      · try simp only [zl_1, zl_50] at h_18
        have h_18 : 1 ≤ d.toInt := h_18
        try simp only [zl_1, zl_50] at h_19
        have h_19 : d.toInt ≤ 50 := h_19
        obtain rfl : r_15 = 1 := hr_15.trans (by decide)
        refine b_if_ne hx hb zl_1 (tgt := 33) dX11_work__23 (by decide) (fun c_21 => ?_) (fun c_21 => by exfalso; omega)
        refine lv_aload_n hx hb dX11_work__33 rfl (lv_at hl 0 rfl) ?_
        refine va_get (D := D) (ci := 11) (v := .ref ys) (C := RX11) (T := TX11) (N := 25) hx hb hT giX11 hown hK hP 0 rfl rfl 0 (by decide) (hT (Cond.fieldLink RX11 9 "DesertWireModel" "s" "[I") mw_1156) (fun _ h9 => h9) rfl dX11_work__34 ?_
        refine lv_iconst (v := 1) hx hb dX11_work__37 (by decide) ?_
        refine k_iald (v := 0) hx hb hK hP 1 0 rfl rfl (k_inl (by decide)) (by decide +kernel) dX11_work__38 ?_
        refine lv_bipush (v := 60) hx hb dX11_work__39 (by decide) ?_
        refine b_icmp_ne hx hb zl_0 zl_60 (tgt := 53) dX11_work__41 (by decide) (fun c_22 => ?_) (fun c_22 => by exfalso; omega)
        refine lv_aload_n hx hb dX11_work__53 rfl (lv_at hl 0 rfl) ?_
        refine lv_iload_n hx hb dX11_work__54 rfl (lv_at hl 1 rfl) ?_
        refine lv_iload_n hx hb dX11_work__55 rfl (lv_at hl 2 rfl) ?_
        refine lv_iload_n hx hb dX11_work__56 rfl (lv_at hl 3 rfl) ?_
        refine lv_aload_n hx hb dX11_work__57 rfl (lv_at hl 0 rfl) ?_
        refine va_get (D := D) (ci := 11) (v := .ref ys) (C := RX11) (T := TX11) (N := 25) hx hb hT giX11 hown hK hP 0 rfl rfl 0 (by decide) (hT (Cond.fieldLink RX11 9 "DesertWireModel" "s" "[I") mw_1156) (fun _ h9 => h9) rfl dX11_work__58 ?_
        refine lv_iconst (v := 0) hx hb dX11_work__61 (by decide) ?_
        refine k_iald (v := 0) hx hb hK hP 1 0 rfl rfl (k_inl (by decide)) (by decide +kernel) dX11_work__62 ?_
        refine kJi (wr := [(yf, .inl (cI, 6, .inl ff))]) (va_runV (As := [.int a, .int b, .int d, .int 0]) (rest := []) ⟨hx, hb, hml, hown, hT⟩ (c_X11_comes l D cI h ys yk yt yf yb yz yn yc yp yw ye yx H.size m3 m9 m12 m13 m14 m15 m16 m17 m18 m19 m20 m22 m23 sI a b d 0 (by decide +kernel)) (cwV 4 hT (gV_in mw_1260 mw_1257 mw_1259 mw_p3_9 mw_12) rfl rfl rfl (by decide +kernel) ⟨Nat.le_of_ble_eq_true rfl, Nat.le_of_ble_eq_true rfl⟩) (kRecv (own := "") (q0 := 0) (ci := 11) hK hP hD hN rfl rfl [0, 1] rfl (by decide)) rfl rfl hl.1 rfl (lv_room (Nat.le_of_ble_eq_true rfl)) dX11_work__63 ⟨Nat.le_of_ble_eq_true rfl, Nat.le_of_ble_eq_true rfl⟩) hP hD hS hA [0, 1] [2] rfl rfl (by decide) (by decide) (fun r_23 u_25 H locs w_24 hP hD hS => ?_)
        have hP : va_P D vwCl [(yf, .inl (cI, 6, .inl ff))] H := hP
        have hD : va_D A [(yf, .inl (cI, 6, .inl ff))] := hD
        have hr_23 := w_24
        obtain rfl : r_23 = 0 := hr_23.trans (by decide)
        exact hRet () [] (by unfold sp_work; repeat (first | rw [if_pos (by omega)] | rw [if_neg (by omega)])) hP hD (by decide) rfl hS rfl dX11_work__66
      · try simp only [zl_1, zl_50] at h_20
        have h_20 : d.toInt < 1 ∨ 50 < d.toInt := h_20
        obtain rfl : r_15 = 0 := hr_15.trans (by decide)
        refine b_if_ne hx hb zl_0 (tgt := 33) dX11_work__23 (by decide) (fun c_26 => by exfalso; omega) (fun c_26 => ?_)
        refine lv_aload_n hx hb dX11_work__26 rfl (lv_at hl 0 rfl) ?_
        refine lv_ldc (v := (-1000001)) hx hb hown (hT _ mw_1239) dX11_work__27 ?_
        refine kJi (wr := [(ys, .inl (cI, 1201, .inl sI))]) (va_runV (As := [.int (-1000001)]) (rest := []) ⟨hx, hb, hml, hown, hT⟩ (c_X11_finding l D cI h ys yk yt yf yb yz yn yc yp yw ye yx H.size m3 m9 m12 m13 m14 m15 m16 m17 m18 m19 m20 m22 m23 ff (-1000001) (by first | omega | (simp only [zl_m1000001] <;> omega) | decide | assumption | rfl) (by first | omega | (simp only [zl_m1000001] <;> omega) | decide | assumption | rfl)) (cwV 1 hT (gV_in mw_1243 mw_1240 mw_1242 mw_p3_8 mw_12) rfl rfl rfl (by decide +kernel) ⟨Nat.le_of_ble_eq_true rfl, Nat.le_of_ble_eq_true rfl⟩) (kRecv (own := "") (q0 := 0) (ci := 11) hK hP hD hN rfl rfl [0, 2] rfl (by decide)) rfl rfl hl.1 rfl (lv_room (Nat.le_of_ble_eq_true rfl)) dX11_work__29 ⟨Nat.le_of_ble_eq_true rfl, Nat.le_of_ble_eq_true rfl⟩) hP hD hS hA [0, 2] [1] rfl rfl (by decide) (by decide) (fun r_27 u_29 H locs w_28 hP hD hS => ?_)
        have hP : va_P D vwCl [(ys, .inl (cI, 1201, .inl sI))] H := hP
        have hD : va_D A [(ys, .inl (cI, 1201, .inl sI))] := hD
        have hr_27 := w_28
        obtain rfl : r_27 = (-1000001) := hr_27.trans (by decide)
        exact hRet () [] (by unfold sp_work; repeat (first | rw [if_pos (by omega)] | rw [if_neg (by omega)])) hP hD (by decide) rfl hS rfl dX11_work__32
    · have h_13 : b.toInt < 0 ∨ 39 < b.toInt := h_13
      obtain rfl : r_8 = 0 := hr_8.trans (by decide)
      refine b_if_eq hx hb zl_0 (tgt := 26) dX11_work__13 (by decide) (fun c_30 => ?_) (fun c_30 => by exfalso; omega)
      refine lv_aload_n hx hb dX11_work__26 rfl (lv_at hl 0 rfl) ?_
      refine lv_ldc (v := (-1000001)) hx hb hown (hT _ mw_1239) dX11_work__27 ?_
      refine kJi (wr := [(ys, .inl (cI, 1201, .inl sI))]) (va_runV (As := [.int (-1000001)]) (rest := []) ⟨hx, hb, hml, hown, hT⟩ (c_X11_finding l D cI h ys yk yt yf yb yz yn yc yp yw ye yx H.size m3 m9 m12 m13 m14 m15 m16 m17 m18 m19 m20 m22 m23 ff (-1000001) (by first | omega | (simp only [zl_m1000001] <;> omega) | decide | assumption | rfl) (by first | omega | (simp only [zl_m1000001] <;> omega) | decide | assumption | rfl)) (cwV 1 hT (gV_in mw_1243 mw_1240 mw_1242 mw_p3_8 mw_12) rfl rfl rfl (by decide +kernel) ⟨Nat.le_of_ble_eq_true rfl, Nat.le_of_ble_eq_true rfl⟩) (kRecv (own := "") (q0 := 0) (ci := 11) hK hP hD hN rfl rfl [0, 2] rfl (by decide)) rfl rfl hl.1 rfl (lv_room (Nat.le_of_ble_eq_true rfl)) dX11_work__29 ⟨Nat.le_of_ble_eq_true rfl, Nat.le_of_ble_eq_true rfl⟩) hP hD hS hA [0, 2] [1] rfl rfl (by decide) (by decide) (fun r_31 u_33 H locs w_32 hP hD hS => ?_)
      have hP : va_P D vwCl [(ys, .inl (cI, 1201, .inl sI))] H := hP
      have hD : va_D A [(ys, .inl (cI, 1201, .inl sI))] := hD
      have hr_31 := w_32
      obtain rfl : r_31 = (-1000001) := hr_31.trans (by decide)
      exact hRet () [] (by unfold sp_work; repeat (first | rw [if_pos (by omega)] | rw [if_neg (by omega)])) hP hD (by decide) rfl hS rfl dX11_work__32
  · try simp only [zl_0, zl_5] at h_6
    have h_6 : a.toInt < 0 ∨ 5 < a.toInt := h_6
    obtain rfl : r_1 = 0 := hr_1.trans (by decide)
    refine b_if_eq hx hb zl_0 (tgt := 26) dX11_work__6 (by decide) (fun c_34 => ?_) (fun c_34 => by exfalso; omega)
    refine lv_aload_n hx hb dX11_work__26 rfl (lv_at hl 0 rfl) ?_
    refine lv_ldc (v := (-1000001)) hx hb hown (hT _ mw_1239) dX11_work__27 ?_
    refine kJi (wr := [(ys, .inl (cI, 1201, .inl sI))]) (va_runV (As := [.int (-1000001)]) (rest := []) ⟨hx, hb, hml, hown, hT⟩ (c_X11_finding l D cI h ys yk yt yf yb yz yn yc yp yw ye yx H.size m3 m9 m12 m13 m14 m15 m16 m17 m18 m19 m20 m22 m23 ff (-1000001) (by first | omega | (simp only [zl_m1000001] <;> omega) | decide | assumption | rfl) (by first | omega | (simp only [zl_m1000001] <;> omega) | decide | assumption | rfl)) (cwV 1 hT (gV_in mw_1243 mw_1240 mw_1242 mw_p3_8 mw_12) rfl rfl rfl (by decide +kernel) ⟨Nat.le_of_ble_eq_true rfl, Nat.le_of_ble_eq_true rfl⟩) (kRecv (own := "") (q0 := 0) (ci := 11) hK hP hD hN rfl rfl [0, 2] rfl (by decide)) rfl rfl hl.1 rfl (lv_room (Nat.le_of_ble_eq_true rfl)) dX11_work__29 ⟨Nat.le_of_ble_eq_true rfl, Nat.le_of_ble_eq_true rfl⟩) hP hD hS hA [0, 2] [1] rfl rfl (by decide) (by decide) (fun r_35 u_37 H locs w_36 hP hD hS => ?_)
    have hP : va_P D vwCl [(ys, .inl (cI, 1201, .inl sI))] H := hP
    have hD : va_D A [(ys, .inl (cI, 1201, .inl sI))] := hD
    have hr_35 := w_36
    obtain rfl : r_35 = (-1000001) := hr_35.trans (by decide)
    exact hRet () [] (by unfold sp_work; repeat (first | rw [if_pos (by omega)] | rw [if_neg (by omega)])) hP hD (by decide) rfl hS rfl dX11_work__32
set_option maxHeartbeats 4000000 in
set_option maxRecDepth 100000 in
theorem c_X11_as (l : Launch) (D : va_G) (cI : ClassId) (h ys yk yt yf yb yz yn yc yp yw ye yx : Nat) (sz : Nat) (m3 : Int32) (m9 : Int32) (m12 : Int32) (m13 : Int32) (m14 : Int32) (m15 : Int32) (m16 : Int32) (m17 : Int32) (m18 : Int32) (m19 : Int32) (m20 : Int32) (m22 : Int32) (m23 : Int32) (ff : Nat → Int32) (a : Int32) (b : Int32) : Met l yX11_as (gW yX11_as cX11_as 3 (some .int)) ({ frames := 2, cells := 0, slots := 0, locals := 43 } : Room) (kPre D cI [.ref h, .int a, .int b] [(h, .inr (11, [.ref ys, .ref yk, .ref yt, .int m3, .ref yf, .ref yb, .ref yz, .ref yn, .ref yc, .int m9, .ref yp, .ref yw, .int m12, .int m13, .int m14, .int m15, .int m16, .int m17, .int m18, .int m19, .int m20, .ref ye, .int m22, .int m23, .ref yx])), (ys, .inl (cI, 1201, .inl sI)), (yf, .inl (cI, 6, .inl ff))] sz) (va_Qi (fun (r : Int32) (u : Unit) => r = (-1000001)) (fun u t => kWd D cI (va_A [(h, .inr (11, [.ref ys, .ref yk, .ref yt, .int m3, .ref yf, .ref yb, .ref yz, .ref yn, .ref yc, .int m9, .ref yp, .ref yw, .int m12, .int m13, .int m14, .int m15, .int m16, .int m17, .int m18, .int m19, .int m20, .ref ye, .int m22, .int m23, .ref yx])), (ys, .inl (cI, 1201, .inl sI)), (yf, .inl (cI, 6, .inl ff))] sz) [] t) (va_A [(h, .inr (11, [.ref ys, .ref yk, .ref yt, .int m3, .ref yf, .ref yb, .ref yz, .ref yn, .ref yc, .int m9, .ref yp, .ref yw, .int m12, .int m13, .int m14, .int m15, .int m16, .int m17, .int m18, .int m19, .int m20, .ref ye, .int m22, .int m23, .ref yx])), (ys, .inl (cI, 1201, .inl sI)), (yf, .inl (cI, 6, .inl ff))] sz)) 0 0 (va_A [(h, .inr (11, [.ref ys, .ref yk, .ref yt, .int m3, .ref yf, .ref yb, .ref yz, .ref yn, .ref yc, .int m9, .ref yp, .ref yw, .int m12, .int m13, .int m14, .int m15, .int m16, .int m17, .int m18, .int m19, .int m20, .ref ye, .int m22, .int m23, .ref yx])), (ys, .inl (cI, 1201, .inl sI)), (yf, .inl (cI, 6, .inl ff))] sz) := by
  refine kMetI (own := RX11) (by decide) rfl (Nat.le_of_ble_eq_true rfl) ?_
  intro p e s m args below meth c hx hb hT hown hname hml A Q hK hP hD hS hA hN hRet ls hl
  have hl : lv_has ls 3 [(0, .ref h), (1, .int a), (2, .int b)] := hl
  have lo_a := k_lo a
  have hi_a := k_hi a
  have lo_b := k_lo b
  have hi_b := k_hi b
  have lo_m3 := k_lo m3
  have hi_m3 := k_hi m3
  have lo_m9 := k_lo m9
  have hi_m9 := k_hi m9
  have lo_m12 := k_lo m12
  have hi_m12 := k_hi m12
  have lo_m13 := k_lo m13
  have hi_m13 := k_hi m13
  have lo_m14 := k_lo m14
  have hi_m14 := k_hi m14
  have lo_m15 := k_lo m15
  have hi_m15 := k_hi m15
  have lo_m16 := k_lo m16
  have hi_m16 := k_hi m16
  have lo_m17 := k_lo m17
  have hi_m17 := k_hi m17
  have lo_m18 := k_lo m18
  have hi_m18 := k_hi m18
  have lo_m19 := k_lo m19
  have hi_m19 := k_hi m19
  have lo_m20 := k_lo m20
  have hi_m20 := k_hi m20
  have lo_m22 := k_lo m22
  have hi_m22 := k_hi m22
  have lo_m23 := k_lo m23
  have hi_m23 := k_hi m23
  refine lv_aload_n hx hb dX11_as_0 rfl (lv_at hl 0 rfl) ?_
  refine lv_iload_n hx hb dX11_as_1 rfl (lv_at hl 1 rfl) ?_
  refine kJi (wr := [(yf, .inl (cI, 6, .inl ff))]) (va_runV (As := [.int a]) (rest := []) ⟨hx, hb, hml, hown, hT⟩ (c_X11_isWork l D cI h ys yk yt yf yb yz yn yc yp yw ye yx s.heap.size m3 m9 m12 m13 m14 m15 m16 m17 m18 m19 m20 m22 m23 sI a (by decide +kernel)) (cwV 1 hT (gV_in mw_1272 mw_1269 mw_1271 mw_p3_11 mw_12) rfl rfl rfl (by decide +kernel) ⟨Nat.le_of_ble_eq_true rfl, Nat.le_of_ble_eq_true rfl⟩) (kRecv (own := "") (q0 := 0) (ci := 11) hK hP hD hN rfl rfl [0, 1] rfl (by decide)) rfl rfl hl.1 rfl (lv_room (Nat.le_of_ble_eq_true rfl)) dX11_as_2 ⟨Nat.le_of_ble_eq_true rfl, Nat.le_of_ble_eq_true rfl⟩) hP hD hS hA [0, 1] [2] rfl rfl (by decide) (by decide) (fun r_1 u_3 H locs w_2 hP hD hS => ?_)
  have hP : va_P D vwCl [(yf, .inl (cI, 6, .inl ff)), (h, .inr (11, [.ref ys, .ref yk, .ref yt, .int m3, .ref yf, .ref yb, .ref yz, .ref yn, .ref yc, .int m9, .ref yp, .ref yw, .int m12, .int m13, .int m14, .int m15, .int m16, .int m17, .int m18, .int m19, .int m20, .ref ye, .int m22, .int m23, .ref yx])), (ys, .inl (cI, 1201, .inl sI))] H := hP
  have hD : va_D A [(yf, .inl (cI, 6, .inl ff)), (h, .inr (11, [.ref ys, .ref yk, .ref yt, .int m3, .ref yf, .ref yb, .ref yz, .ref yn, .ref yc, .int m9, .ref yp, .ref yw, .int m12, .int m13, .int m14, .int m15, .int m16, .int m17, .int m18, .int m19, .int m20, .ref ye, .int m22, .int m23, .ref yx])), (ys, .inl (cI, 1201, .inl sI))] := hD
  have hr_1 := w_2
  obtain rfl : r_1 = 0 := hr_1.trans (by decide)
  refine b_if_eq hx hb zl_0 (tgt := 17) dX11_as_5 (by decide) (fun c_4 => ?_) (fun c_4 => by exfalso; omega)
  refine lv_aload_n hx hb dX11_as_17 rfl (lv_at hl 0 rfl) ?_
  refine lv_ldc (v := (-1000001)) hx hb hown (hT _ mw_1239) dX11_as_18 ?_
  refine kJi (wr := [(ys, .inl (cI, 1201, .inl sI))]) (va_runV (As := [.int (-1000001)]) (rest := []) ⟨hx, hb, hml, hown, hT⟩ (c_X11_finding l D cI h ys yk yt yf yb yz yn yc yp yw ye yx H.size m3 m9 m12 m13 m14 m15 m16 m17 m18 m19 m20 m22 m23 ff (-1000001) (by first | omega | (simp only [zl_m1000001] <;> omega) | decide | assumption | rfl) (by first | omega | (simp only [zl_m1000001] <;> omega) | decide | assumption | rfl)) (cwV 1 hT (gV_in mw_1243 mw_1240 mw_1242 mw_p3_8 mw_12) rfl rfl rfl (by decide +kernel) ⟨Nat.le_of_ble_eq_true rfl, Nat.le_of_ble_eq_true rfl⟩) (kRecv (own := "") (q0 := 1) (ci := 11) hK hP hD hN rfl rfl [1, 0] rfl (by decide)) rfl rfl hl.1 rfl (lv_room (Nat.le_of_ble_eq_true rfl)) dX11_as_20 ⟨Nat.le_of_ble_eq_true rfl, Nat.le_of_ble_eq_true rfl⟩) hP hD hS hA [1, 0] [2] rfl rfl (by decide) (by decide) (fun r_5 u_7 H locs w_6 hP hD hS => ?_)
  have hP : va_P D vwCl [(ys, .inl (cI, 1201, .inl sI))] H := hP
  have hD : va_D A [(ys, .inl (cI, 1201, .inl sI))] := hD
  have hr_5 := w_6
  obtain rfl : r_5 = (-1000001) := hr_5.trans (by decide)
  exact hRet () [] rfl hP hD (by decide) rfl hS rfl dX11_as_23
set_option maxHeartbeats 4000000 in
set_option maxRecDepth 100000 in
theorem c_X11_workIs (l : Launch) (D : va_G) (cI : ClassId) (h ys yk yt yf yb yz yn yc yp yw ye yx : Nat) (sz : Nat) (m3 : Int32) (m9 : Int32) (m12 : Int32) (m13 : Int32) (m14 : Int32) (m15 : Int32) (m16 : Int32) (m17 : Int32) (m18 : Int32) (m19 : Int32) (m20 : Int32) (m22 : Int32) (m23 : Int32) (ff : Nat → Int32) (a : Int32) (b : Int32) : Met l yX11_workIs (gW yX11_workIs cX11_workIs 3 (some .int)) ({ frames := 2, cells := 0, slots := 0, locals := 43 } : Room) (kPre D cI [.ref h, .int a, .int b] [(h, .inr (11, [.ref ys, .ref yk, .ref yt, .int m3, .ref yf, .ref yb, .ref yz, .ref yn, .ref yc, .int m9, .ref yp, .ref yw, .int m12, .int m13, .int m14, .int m15, .int m16, .int m17, .int m18, .int m19, .int m20, .ref ye, .int m22, .int m23, .ref yx])), (ys, .inl (cI, 1201, .inl sI)), (yf, .inl (cI, 6, .inl ff))] sz) (va_Qi (fun (r : Int32) (u : Unit) => r = (-1000001)) (fun u t => kWd D cI (va_A [(h, .inr (11, [.ref ys, .ref yk, .ref yt, .int m3, .ref yf, .ref yb, .ref yz, .ref yn, .ref yc, .int m9, .ref yp, .ref yw, .int m12, .int m13, .int m14, .int m15, .int m16, .int m17, .int m18, .int m19, .int m20, .ref ye, .int m22, .int m23, .ref yx])), (ys, .inl (cI, 1201, .inl sI)), (yf, .inl (cI, 6, .inl ff))] sz) [] t) (va_A [(h, .inr (11, [.ref ys, .ref yk, .ref yt, .int m3, .ref yf, .ref yb, .ref yz, .ref yn, .ref yc, .int m9, .ref yp, .ref yw, .int m12, .int m13, .int m14, .int m15, .int m16, .int m17, .int m18, .int m19, .int m20, .ref ye, .int m22, .int m23, .ref yx])), (ys, .inl (cI, 1201, .inl sI)), (yf, .inl (cI, 6, .inl ff))] sz)) 0 0 (va_A [(h, .inr (11, [.ref ys, .ref yk, .ref yt, .int m3, .ref yf, .ref yb, .ref yz, .ref yn, .ref yc, .int m9, .ref yp, .ref yw, .int m12, .int m13, .int m14, .int m15, .int m16, .int m17, .int m18, .int m19, .int m20, .ref ye, .int m22, .int m23, .ref yx])), (ys, .inl (cI, 1201, .inl sI)), (yf, .inl (cI, 6, .inl ff))] sz) := by
  refine kMetI (own := RX11) (by decide) rfl (Nat.le_of_ble_eq_true rfl) ?_
  intro p e s m args below meth c hx hb hT hown hname hml A Q hK hP hD hS hA hN hRet ls hl
  have hl : lv_has ls 3 [(0, .ref h), (1, .int a), (2, .int b)] := hl
  have lo_a := k_lo a
  have hi_a := k_hi a
  have lo_b := k_lo b
  have hi_b := k_hi b
  have lo_m3 := k_lo m3
  have hi_m3 := k_hi m3
  have lo_m9 := k_lo m9
  have hi_m9 := k_hi m9
  have lo_m12 := k_lo m12
  have hi_m12 := k_hi m12
  have lo_m13 := k_lo m13
  have hi_m13 := k_hi m13
  have lo_m14 := k_lo m14
  have hi_m14 := k_hi m14
  have lo_m15 := k_lo m15
  have hi_m15 := k_hi m15
  have lo_m16 := k_lo m16
  have hi_m16 := k_hi m16
  have lo_m17 := k_lo m17
  have hi_m17 := k_hi m17
  have lo_m18 := k_lo m18
  have hi_m18 := k_hi m18
  have lo_m19 := k_lo m19
  have hi_m19 := k_hi m19
  have lo_m20 := k_lo m20
  have hi_m20 := k_hi m20
  have lo_m22 := k_lo m22
  have hi_m22 := k_hi m22
  have lo_m23 := k_lo m23
  have hi_m23 := k_hi m23
  refine lv_aload_n hx hb dX11_workIs_0 rfl (lv_at hl 0 rfl) ?_
  refine lv_iload_n hx hb dX11_workIs_1 rfl (lv_at hl 1 rfl) ?_
  refine kJi (wr := [(yf, .inl (cI, 6, .inl ff))]) (va_runV (As := [.int a]) (rest := []) ⟨hx, hb, hml, hown, hT⟩ (c_X11_isWork l D cI h ys yk yt yf yb yz yn yc yp yw ye yx s.heap.size m3 m9 m12 m13 m14 m15 m16 m17 m18 m19 m20 m22 m23 sI a (by decide +kernel)) (cwV 1 hT (gV_in mw_1272 mw_1269 mw_1271 mw_p3_11 mw_12) rfl rfl rfl (by decide +kernel) ⟨Nat.le_of_ble_eq_true rfl, Nat.le_of_ble_eq_true rfl⟩) (kRecv (own := "") (q0 := 0) (ci := 11) hK hP hD hN rfl rfl [0, 1] rfl (by decide)) rfl rfl hl.1 rfl (lv_room (Nat.le_of_ble_eq_true rfl)) dX11_workIs_2 ⟨Nat.le_of_ble_eq_true rfl, Nat.le_of_ble_eq_true rfl⟩) hP hD hS hA [0, 1] [2] rfl rfl (by decide) (by decide) (fun r_1 u_3 H locs w_2 hP hD hS => ?_)
  have hP : va_P D vwCl [(yf, .inl (cI, 6, .inl ff)), (h, .inr (11, [.ref ys, .ref yk, .ref yt, .int m3, .ref yf, .ref yb, .ref yz, .ref yn, .ref yc, .int m9, .ref yp, .ref yw, .int m12, .int m13, .int m14, .int m15, .int m16, .int m17, .int m18, .int m19, .int m20, .ref ye, .int m22, .int m23, .ref yx])), (ys, .inl (cI, 1201, .inl sI))] H := hP
  have hD : va_D A [(yf, .inl (cI, 6, .inl ff)), (h, .inr (11, [.ref ys, .ref yk, .ref yt, .int m3, .ref yf, .ref yb, .ref yz, .ref yn, .ref yc, .int m9, .ref yp, .ref yw, .int m12, .int m13, .int m14, .int m15, .int m16, .int m17, .int m18, .int m19, .int m20, .ref ye, .int m22, .int m23, .ref yx])), (ys, .inl (cI, 1201, .inl sI))] := hD
  have hr_1 := w_2
  obtain rfl : r_1 = 0 := hr_1.trans (by decide)
  refine b_if_eq hx hb zl_0 (tgt := 18) dX11_workIs_5 (by decide) (fun c_4 => ?_) (fun c_4 => by exfalso; omega)
  refine lv_aload_n hx hb dX11_workIs_18 rfl (lv_at hl 0 rfl) ?_
  refine lv_ldc (v := (-1000001)) hx hb hown (hT _ mw_1239) dX11_workIs_19 ?_
  refine kJi (wr := [(ys, .inl (cI, 1201, .inl sI))]) (va_runV (As := [.int (-1000001)]) (rest := []) ⟨hx, hb, hml, hown, hT⟩ (c_X11_finding l D cI h ys yk yt yf yb yz yn yc yp yw ye yx H.size m3 m9 m12 m13 m14 m15 m16 m17 m18 m19 m20 m22 m23 ff (-1000001) (by first | omega | (simp only [zl_m1000001] <;> omega) | decide | assumption | rfl) (by first | omega | (simp only [zl_m1000001] <;> omega) | decide | assumption | rfl)) (cwV 1 hT (gV_in mw_1243 mw_1240 mw_1242 mw_p3_8 mw_12) rfl rfl rfl (by decide +kernel) ⟨Nat.le_of_ble_eq_true rfl, Nat.le_of_ble_eq_true rfl⟩) (kRecv (own := "") (q0 := 1) (ci := 11) hK hP hD hN rfl rfl [1, 0] rfl (by decide)) rfl rfl hl.1 rfl (lv_room (Nat.le_of_ble_eq_true rfl)) dX11_workIs_21 ⟨Nat.le_of_ble_eq_true rfl, Nat.le_of_ble_eq_true rfl⟩) hP hD hS hA [1, 0] [2] rfl rfl (by decide) (by decide) (fun r_5 u_7 H locs w_6 hP hD hS => ?_)
  have hP : va_P D vwCl [(ys, .inl (cI, 1201, .inl sI))] H := hP
  have hD : va_D A [(ys, .inl (cI, 1201, .inl sI))] := hD
  have hr_5 := w_6
  obtain rfl : r_5 = (-1000001) := hr_5.trans (by decide)
  exact hRet () [] rfl hP hD (by decide) rfl hS rfl dX11_workIs_24
set_option maxHeartbeats 4000000 in
set_option maxRecDepth 100000 in
theorem c_X11_fell (l : Launch) (D : va_G) (cI : ClassId) (h ys yk yt yf yb yz yn yc yp yw ye yx : Nat) (sz : Nat) (m3 : Int32) (m9 : Int32) (m12 : Int32) (m13 : Int32) (m14 : Int32) (m15 : Int32) (m16 : Int32) (m17 : Int32) (m18 : Int32) (m19 : Int32) (m20 : Int32) (m22 : Int32) (m23 : Int32) (ff : Nat → Int32) (a : Int32) : Met l yX11_fell (gW yX11_fell cX11_fell 2 (some .int)) ({ frames := 2, cells := 0, slots := 0, locals := 43 } : Room) (kPre D cI [.ref h, .int a] [(h, .inr (11, [.ref ys, .ref yk, .ref yt, .int m3, .ref yf, .ref yb, .ref yz, .ref yn, .ref yc, .int m9, .ref yp, .ref yw, .int m12, .int m13, .int m14, .int m15, .int m16, .int m17, .int m18, .int m19, .int m20, .ref ye, .int m22, .int m23, .ref yx])), (ys, .inl (cI, 1201, .inl sI)), (yf, .inl (cI, 6, .inl ff))] sz) (va_Qi (fun (r : Int32) (u : Unit) => r = (-1000001)) (fun u t => kWd D cI (va_A [(h, .inr (11, [.ref ys, .ref yk, .ref yt, .int m3, .ref yf, .ref yb, .ref yz, .ref yn, .ref yc, .int m9, .ref yp, .ref yw, .int m12, .int m13, .int m14, .int m15, .int m16, .int m17, .int m18, .int m19, .int m20, .ref ye, .int m22, .int m23, .ref yx])), (ys, .inl (cI, 1201, .inl sI)), (yf, .inl (cI, 6, .inl ff))] sz) [] t) (va_A [(h, .inr (11, [.ref ys, .ref yk, .ref yt, .int m3, .ref yf, .ref yb, .ref yz, .ref yn, .ref yc, .int m9, .ref yp, .ref yw, .int m12, .int m13, .int m14, .int m15, .int m16, .int m17, .int m18, .int m19, .int m20, .ref ye, .int m22, .int m23, .ref yx])), (ys, .inl (cI, 1201, .inl sI)), (yf, .inl (cI, 6, .inl ff))] sz)) 0 0 (va_A [(h, .inr (11, [.ref ys, .ref yk, .ref yt, .int m3, .ref yf, .ref yb, .ref yz, .ref yn, .ref yc, .int m9, .ref yp, .ref yw, .int m12, .int m13, .int m14, .int m15, .int m16, .int m17, .int m18, .int m19, .int m20, .ref ye, .int m22, .int m23, .ref yx])), (ys, .inl (cI, 1201, .inl sI)), (yf, .inl (cI, 6, .inl ff))] sz) := by
  refine kMetI (own := RX11) (by decide) rfl (Nat.le_of_ble_eq_true rfl) ?_
  intro p e s m args below meth c hx hb hT hown hname hml A Q hK hP hD hS hA hN hRet ls hl
  have hl : lv_has ls 2 [(0, .ref h), (1, .int a)] := hl
  have lo_a := k_lo a
  have hi_a := k_hi a
  have lo_m3 := k_lo m3
  have hi_m3 := k_hi m3
  have lo_m9 := k_lo m9
  have hi_m9 := k_hi m9
  have lo_m12 := k_lo m12
  have hi_m12 := k_hi m12
  have lo_m13 := k_lo m13
  have hi_m13 := k_hi m13
  have lo_m14 := k_lo m14
  have hi_m14 := k_hi m14
  have lo_m15 := k_lo m15
  have hi_m15 := k_hi m15
  have lo_m16 := k_lo m16
  have hi_m16 := k_hi m16
  have lo_m17 := k_lo m17
  have hi_m17 := k_hi m17
  have lo_m18 := k_lo m18
  have hi_m18 := k_hi m18
  have lo_m19 := k_lo m19
  have hi_m19 := k_hi m19
  have lo_m20 := k_lo m20
  have hi_m20 := k_hi m20
  have lo_m22 := k_lo m22
  have hi_m22 := k_hi m22
  have lo_m23 := k_lo m23
  have hi_m23 := k_hi m23
  refine lv_aload_n hx hb dX11_fell_0 rfl (lv_at hl 0 rfl) ?_
  refine lv_iload_n hx hb dX11_fell_1 rfl (lv_at hl 1 rfl) ?_
  refine kJi (wr := [(yf, .inl (cI, 6, .inl ff))]) (va_runV (As := [.int a]) (rest := []) ⟨hx, hb, hml, hown, hT⟩ (c_X11_isWork l D cI h ys yk yt yf yb yz yn yc yp yw ye yx s.heap.size m3 m9 m12 m13 m14 m15 m16 m17 m18 m19 m20 m22 m23 sI a (by decide +kernel)) (cwV 1 hT (gV_in mw_1272 mw_1269 mw_1271 mw_p3_11 mw_12) rfl rfl rfl (by decide +kernel) ⟨Nat.le_of_ble_eq_true rfl, Nat.le_of_ble_eq_true rfl⟩) (kRecv (own := "") (q0 := 0) (ci := 11) hK hP hD hN rfl rfl [0, 1] rfl (by decide)) rfl rfl hl.1 rfl (lv_room (Nat.le_of_ble_eq_true rfl)) dX11_fell_2 ⟨Nat.le_of_ble_eq_true rfl, Nat.le_of_ble_eq_true rfl⟩) hP hD hS hA [0, 1] [2] rfl rfl (by decide) (by decide) (fun r_1 u_3 H locs w_2 hP hD hS => ?_)
  have hP : va_P D vwCl [(yf, .inl (cI, 6, .inl ff)), (h, .inr (11, [.ref ys, .ref yk, .ref yt, .int m3, .ref yf, .ref yb, .ref yz, .ref yn, .ref yc, .int m9, .ref yp, .ref yw, .int m12, .int m13, .int m14, .int m15, .int m16, .int m17, .int m18, .int m19, .int m20, .ref ye, .int m22, .int m23, .ref yx])), (ys, .inl (cI, 1201, .inl sI))] H := hP
  have hD : va_D A [(yf, .inl (cI, 6, .inl ff)), (h, .inr (11, [.ref ys, .ref yk, .ref yt, .int m3, .ref yf, .ref yb, .ref yz, .ref yn, .ref yc, .int m9, .ref yp, .ref yw, .int m12, .int m13, .int m14, .int m15, .int m16, .int m17, .int m18, .int m19, .int m20, .ref ye, .int m22, .int m23, .ref yx])), (ys, .inl (cI, 1201, .inl sI))] := hD
  have hr_1 := w_2
  obtain rfl : r_1 = 0 := hr_1.trans (by decide)
  refine b_if_ne hx hb zl_0 (tgt := 15) dX11_fell_5 (by decide) (fun c_4 => by exfalso; omega) (fun c_4 => ?_)
  refine lv_aload_n hx hb dX11_fell_8 rfl (lv_at hl 0 rfl) ?_
  refine lv_ldc (v := (-1000001)) hx hb hown (hT _ mw_1239) dX11_fell_9 ?_
  refine kJi (wr := [(ys, .inl (cI, 1201, .inl sI))]) (va_runV (As := [.int (-1000001)]) (rest := []) ⟨hx, hb, hml, hown, hT⟩ (c_X11_finding l D cI h ys yk yt yf yb yz yn yc yp yw ye yx H.size m3 m9 m12 m13 m14 m15 m16 m17 m18 m19 m20 m22 m23 ff (-1000001) (by first | omega | (simp only [zl_m1000001] <;> omega) | decide | assumption | rfl) (by first | omega | (simp only [zl_m1000001] <;> omega) | decide | assumption | rfl)) (cwV 1 hT (gV_in mw_1243 mw_1240 mw_1242 mw_p3_8 mw_12) rfl rfl rfl (by decide +kernel) ⟨Nat.le_of_ble_eq_true rfl, Nat.le_of_ble_eq_true rfl⟩) (kRecv (own := "") (q0 := 1) (ci := 11) hK hP hD hN rfl rfl [1, 0] rfl (by decide)) rfl rfl hl.1 rfl (lv_room (Nat.le_of_ble_eq_true rfl)) dX11_fell_11 ⟨Nat.le_of_ble_eq_true rfl, Nat.le_of_ble_eq_true rfl⟩) hP hD hS hA [1, 0] [2] rfl rfl (by decide) (by decide) (fun r_5 u_7 H locs w_6 hP hD hS => ?_)
  have hP : va_P D vwCl [(ys, .inl (cI, 1201, .inl sI))] H := hP
  have hD : va_D A [(ys, .inl (cI, 1201, .inl sI))] := hD
  have hr_5 := w_6
  obtain rfl : r_5 = (-1000001) := hr_5.trans (by decide)
  exact hRet () [] rfl hP hD (by decide) rfl hS rfl dX11_fell_14
set_option maxHeartbeats 4000000 in
set_option maxRecDepth 100000 in
theorem c_X11_lay (l : Launch) (D : va_G) (cI : ClassId) (h ys yk yt yf yb yz yn yc yp yw ye yx : Nat) (sz : Nat) (m3 : Int32) (m9 : Int32) (m12 : Int32) (m13 : Int32) (m14 : Int32) (m15 : Int32) (m16 : Int32) (m17 : Int32) (m18 : Int32) (m19 : Int32) (m20 : Int32) (m22 : Int32) (m23 : Int32) (ff : Nat → Int32) (a : Int32) (b : Int32) : Met l yX11_lay (gW yX11_lay cX11_lay 3 (some .int)) ({ frames := 2, cells := 0, slots := 0, locals := 43 } : Room) (kPre D cI [.ref h, .int a, .int b] [(h, .inr (11, [.ref ys, .ref yk, .ref yt, .int m3, .ref yf, .ref yb, .ref yz, .ref yn, .ref yc, .int m9, .ref yp, .ref yw, .int m12, .int m13, .int m14, .int m15, .int m16, .int m17, .int m18, .int m19, .int m20, .ref ye, .int m22, .int m23, .ref yx])), (ys, .inl (cI, 1201, .inl sI)), (yf, .inl (cI, 6, .inl ff))] sz) (va_Qi (fun (r : Int32) (u : Unit) => r = (-1000001)) (fun u t => kWd D cI (va_A [(h, .inr (11, [.ref ys, .ref yk, .ref yt, .int m3, .ref yf, .ref yb, .ref yz, .ref yn, .ref yc, .int m9, .ref yp, .ref yw, .int m12, .int m13, .int m14, .int m15, .int m16, .int m17, .int m18, .int m19, .int m20, .ref ye, .int m22, .int m23, .ref yx])), (ys, .inl (cI, 1201, .inl sI)), (yf, .inl (cI, 6, .inl ff))] sz) [] t) (va_A [(h, .inr (11, [.ref ys, .ref yk, .ref yt, .int m3, .ref yf, .ref yb, .ref yz, .ref yn, .ref yc, .int m9, .ref yp, .ref yw, .int m12, .int m13, .int m14, .int m15, .int m16, .int m17, .int m18, .int m19, .int m20, .ref ye, .int m22, .int m23, .ref yx])), (ys, .inl (cI, 1201, .inl sI)), (yf, .inl (cI, 6, .inl ff))] sz)) 0 0 (va_A [(h, .inr (11, [.ref ys, .ref yk, .ref yt, .int m3, .ref yf, .ref yb, .ref yz, .ref yn, .ref yc, .int m9, .ref yp, .ref yw, .int m12, .int m13, .int m14, .int m15, .int m16, .int m17, .int m18, .int m19, .int m20, .ref ye, .int m22, .int m23, .ref yx])), (ys, .inl (cI, 1201, .inl sI)), (yf, .inl (cI, 6, .inl ff))] sz) := by
  refine kMetI (own := RX11) (by decide) rfl (Nat.le_of_ble_eq_true rfl) ?_
  intro p e s m args below meth c hx hb hT hown hname hml A Q hK hP hD hS hA hN hRet ls hl
  have hl : lv_has ls 3 [(0, .ref h), (1, .int a), (2, .int b)] := hl
  have lo_a := k_lo a
  have hi_a := k_hi a
  have lo_b := k_lo b
  have hi_b := k_hi b
  have lo_m3 := k_lo m3
  have hi_m3 := k_hi m3
  have lo_m9 := k_lo m9
  have hi_m9 := k_hi m9
  have lo_m12 := k_lo m12
  have hi_m12 := k_hi m12
  have lo_m13 := k_lo m13
  have hi_m13 := k_hi m13
  have lo_m14 := k_lo m14
  have hi_m14 := k_hi m14
  have lo_m15 := k_lo m15
  have hi_m15 := k_hi m15
  have lo_m16 := k_lo m16
  have hi_m16 := k_hi m16
  have lo_m17 := k_lo m17
  have hi_m17 := k_hi m17
  have lo_m18 := k_lo m18
  have hi_m18 := k_hi m18
  have lo_m19 := k_lo m19
  have hi_m19 := k_hi m19
  have lo_m20 := k_lo m20
  have hi_m20 := k_hi m20
  have lo_m22 := k_lo m22
  have hi_m22 := k_hi m22
  have lo_m23 := k_lo m23
  have hi_m23 := k_hi m23
  refine lv_aload_n hx hb dX11_lay_0 rfl (lv_at hl 0 rfl) ?_
  refine lv_iload_n hx hb dX11_lay_1 rfl (lv_at hl 1 rfl) ?_
  refine kJi (wr := [(yf, .inl (cI, 6, .inl ff))]) (va_runV (As := [.int a]) (rest := []) ⟨hx, hb, hml, hown, hT⟩ (c_X11_isWork l D cI h ys yk yt yf yb yz yn yc yp yw ye yx s.heap.size m3 m9 m12 m13 m14 m15 m16 m17 m18 m19 m20 m22 m23 sI a (by decide +kernel)) (cwV 1 hT (gV_in mw_1272 mw_1269 mw_1271 mw_p3_11 mw_12) rfl rfl rfl (by decide +kernel) ⟨Nat.le_of_ble_eq_true rfl, Nat.le_of_ble_eq_true rfl⟩) (kRecv (own := "") (q0 := 0) (ci := 11) hK hP hD hN rfl rfl [0, 1] rfl (by decide)) rfl rfl hl.1 rfl (lv_room (Nat.le_of_ble_eq_true rfl)) dX11_lay_2 ⟨Nat.le_of_ble_eq_true rfl, Nat.le_of_ble_eq_true rfl⟩) hP hD hS hA [0, 1] [2] rfl rfl (by decide) (by decide) (fun r_1 u_3 H locs w_2 hP hD hS => ?_)
  have hP : va_P D vwCl [(yf, .inl (cI, 6, .inl ff)), (h, .inr (11, [.ref ys, .ref yk, .ref yt, .int m3, .ref yf, .ref yb, .ref yz, .ref yn, .ref yc, .int m9, .ref yp, .ref yw, .int m12, .int m13, .int m14, .int m15, .int m16, .int m17, .int m18, .int m19, .int m20, .ref ye, .int m22, .int m23, .ref yx])), (ys, .inl (cI, 1201, .inl sI))] H := hP
  have hD : va_D A [(yf, .inl (cI, 6, .inl ff)), (h, .inr (11, [.ref ys, .ref yk, .ref yt, .int m3, .ref yf, .ref yb, .ref yz, .ref yn, .ref yc, .int m9, .ref yp, .ref yw, .int m12, .int m13, .int m14, .int m15, .int m16, .int m17, .int m18, .int m19, .int m20, .ref ye, .int m22, .int m23, .ref yx])), (ys, .inl (cI, 1201, .inl sI))] := hD
  have hr_1 := w_2
  obtain rfl : r_1 = 0 := hr_1.trans (by decide)
  refine b_if_eq hx hb zl_0 (tgt := 19) dX11_lay_5 (by decide) (fun c_4 => ?_) (fun c_4 => by exfalso; omega)
  refine lv_aload_n hx hb dX11_lay_19 rfl (lv_at hl 0 rfl) ?_
  refine lv_ldc (v := (-1000001)) hx hb hown (hT _ mw_1239) dX11_lay_20 ?_
  refine kJi (wr := [(ys, .inl (cI, 1201, .inl sI))]) (va_runV (As := [.int (-1000001)]) (rest := []) ⟨hx, hb, hml, hown, hT⟩ (c_X11_finding l D cI h ys yk yt yf yb yz yn yc yp yw ye yx H.size m3 m9 m12 m13 m14 m15 m16 m17 m18 m19 m20 m22 m23 ff (-1000001) (by first | omega | (simp only [zl_m1000001] <;> omega) | decide | assumption | rfl) (by first | omega | (simp only [zl_m1000001] <;> omega) | decide | assumption | rfl)) (cwV 1 hT (gV_in mw_1243 mw_1240 mw_1242 mw_p3_8 mw_12) rfl rfl rfl (by decide +kernel) ⟨Nat.le_of_ble_eq_true rfl, Nat.le_of_ble_eq_true rfl⟩) (kRecv (own := "") (q0 := 1) (ci := 11) hK hP hD hN rfl rfl [1, 0] rfl (by decide)) rfl rfl hl.1 rfl (lv_room (Nat.le_of_ble_eq_true rfl)) dX11_lay_22 ⟨Nat.le_of_ble_eq_true rfl, Nat.le_of_ble_eq_true rfl⟩) hP hD hS hA [1, 0] [2] rfl rfl (by decide) (by decide) (fun r_5 u_7 H locs w_6 hP hD hS => ?_)
  have hP : va_P D vwCl [(ys, .inl (cI, 1201, .inl sI))] H := hP
  have hD : va_D A [(ys, .inl (cI, 1201, .inl sI))] := hD
  have hr_5 := w_6
  obtain rfl : r_5 = (-1000001) := hr_5.trans (by decide)
  exact hRet () [] rfl hP hD (by decide) rfl hS rfl dX11_lay_25
set_option maxHeartbeats 4000000 in
set_option maxRecDepth 100000 in
theorem c_X11_partyIs (l : Launch) (D : va_G) (cI : ClassId) (h ys yk yt yf yb yz yn yc yp yw ye yx : Nat) (sz : Nat) (m3 : Int32) (m9 : Int32) (m12 : Int32) (m13 : Int32) (m14 : Int32) (m15 : Int32) (m16 : Int32) (m17 : Int32) (m18 : Int32) (m19 : Int32) (m20 : Int32) (m22 : Int32) (m23 : Int32) (ff : Nat → Int32) (a : Int32) (b : Int32) : Met l yX11_partyIs (gW yX11_partyIs cX11_partyIs 3 (some .int)) ({ frames := 2, cells := 0, slots := 0, locals := 43 } : Room) (kPre D cI [.ref h, .int a, .int b] [(h, .inr (11, [.ref ys, .ref yk, .ref yt, .int m3, .ref yf, .ref yb, .ref yz, .ref yn, .ref yc, .int m9, .ref yp, .ref yw, .int m12, .int m13, .int m14, .int m15, .int m16, .int m17, .int m18, .int m19, .int m20, .ref ye, .int m22, .int m23, .ref yx])), (ys, .inl (cI, 1201, .inl sI)), (yf, .inl (cI, 6, .inl ff))] sz) (va_Qi (fun (r : Int32) (u : Unit) => r = (-1000001)) (fun u t => kWd D cI (va_A [(h, .inr (11, [.ref ys, .ref yk, .ref yt, .int m3, .ref yf, .ref yb, .ref yz, .ref yn, .ref yc, .int m9, .ref yp, .ref yw, .int m12, .int m13, .int m14, .int m15, .int m16, .int m17, .int m18, .int m19, .int m20, .ref ye, .int m22, .int m23, .ref yx])), (ys, .inl (cI, 1201, .inl sI)), (yf, .inl (cI, 6, .inl ff))] sz) [] t) (va_A [(h, .inr (11, [.ref ys, .ref yk, .ref yt, .int m3, .ref yf, .ref yb, .ref yz, .ref yn, .ref yc, .int m9, .ref yp, .ref yw, .int m12, .int m13, .int m14, .int m15, .int m16, .int m17, .int m18, .int m19, .int m20, .ref ye, .int m22, .int m23, .ref yx])), (ys, .inl (cI, 1201, .inl sI)), (yf, .inl (cI, 6, .inl ff))] sz)) 0 0 (va_A [(h, .inr (11, [.ref ys, .ref yk, .ref yt, .int m3, .ref yf, .ref yb, .ref yz, .ref yn, .ref yc, .int m9, .ref yp, .ref yw, .int m12, .int m13, .int m14, .int m15, .int m16, .int m17, .int m18, .int m19, .int m20, .ref ye, .int m22, .int m23, .ref yx])), (ys, .inl (cI, 1201, .inl sI)), (yf, .inl (cI, 6, .inl ff))] sz) := by
  refine kMetI (own := RX11) (by decide) rfl (Nat.le_of_ble_eq_true rfl) ?_
  intro p e s m args below meth c hx hb hT hown hname hml A Q hK hP hD hS hA hN hRet ls hl
  have hl : lv_has ls 3 [(0, .ref h), (1, .int a), (2, .int b)] := hl
  have lo_a := k_lo a
  have hi_a := k_hi a
  have lo_b := k_lo b
  have hi_b := k_hi b
  have lo_m3 := k_lo m3
  have hi_m3 := k_hi m3
  have lo_m9 := k_lo m9
  have hi_m9 := k_hi m9
  have lo_m12 := k_lo m12
  have hi_m12 := k_hi m12
  have lo_m13 := k_lo m13
  have hi_m13 := k_hi m13
  have lo_m14 := k_lo m14
  have hi_m14 := k_hi m14
  have lo_m15 := k_lo m15
  have hi_m15 := k_hi m15
  have lo_m16 := k_lo m16
  have hi_m16 := k_hi m16
  have lo_m17 := k_lo m17
  have hi_m17 := k_hi m17
  have lo_m18 := k_lo m18
  have hi_m18 := k_hi m18
  have lo_m19 := k_lo m19
  have hi_m19 := k_hi m19
  have lo_m20 := k_lo m20
  have hi_m20 := k_hi m20
  have lo_m22 := k_lo m22
  have hi_m22 := k_hi m22
  have lo_m23 := k_lo m23
  have hi_m23 := k_hi m23
  refine lv_aload_n hx hb dX11_partyIs_0 rfl (lv_at hl 0 rfl) ?_
  refine lv_iload_n hx hb dX11_partyIs_1 rfl (lv_at hl 1 rfl) ?_
  refine kJi (wr := [(yf, .inl (cI, 6, .inl ff))]) (va_runV (As := [.int a]) (rest := []) ⟨hx, hb, hml, hown, hT⟩ (c_X11_isParty l D cI h ys yk yt yf yb yz yn yc yp yw ye yx s.heap.size m3 m9 m12 m13 m14 m15 m16 m17 m18 m19 m20 m22 m23 sI a (by decide +kernel)) (cwV 1 hT (gV_in mw_1412 mw_1409 mw_1411 mw_p5_4 mw_12) rfl rfl rfl (by decide +kernel) ⟨Nat.le_of_ble_eq_true rfl, Nat.le_of_ble_eq_true rfl⟩) (kRecv (own := "") (q0 := 0) (ci := 11) hK hP hD hN rfl rfl [0, 1] rfl (by decide)) rfl rfl hl.1 rfl (lv_room (Nat.le_of_ble_eq_true rfl)) dX11_partyIs_2 ⟨Nat.le_of_ble_eq_true rfl, Nat.le_of_ble_eq_true rfl⟩) hP hD hS hA [0, 1] [2] rfl rfl (by decide) (by decide) (fun r_1 u_3 H locs w_2 hP hD hS => ?_)
  have hP : va_P D vwCl [(yf, .inl (cI, 6, .inl ff)), (h, .inr (11, [.ref ys, .ref yk, .ref yt, .int m3, .ref yf, .ref yb, .ref yz, .ref yn, .ref yc, .int m9, .ref yp, .ref yw, .int m12, .int m13, .int m14, .int m15, .int m16, .int m17, .int m18, .int m19, .int m20, .ref ye, .int m22, .int m23, .ref yx])), (ys, .inl (cI, 1201, .inl sI))] H := hP
  have hD : va_D A [(yf, .inl (cI, 6, .inl ff)), (h, .inr (11, [.ref ys, .ref yk, .ref yt, .int m3, .ref yf, .ref yb, .ref yz, .ref yn, .ref yc, .int m9, .ref yp, .ref yw, .int m12, .int m13, .int m14, .int m15, .int m16, .int m17, .int m18, .int m19, .int m20, .ref ye, .int m22, .int m23, .ref yx])), (ys, .inl (cI, 1201, .inl sI))] := hD
  have hr_1 := w_2
  obtain rfl : r_1 = 0 := hr_1.trans (by decide)
  refine b_if_eq hx hb zl_0 (tgt := 27) dX11_partyIs_5 (by decide) (fun c_4 => ?_) (fun c_4 => by exfalso; omega)
  refine lv_aload_n hx hb dX11_partyIs_27 rfl (lv_at hl 0 rfl) ?_
  refine lv_ldc (v := (-1000001)) hx hb hown (hT _ mw_1239) dX11_partyIs_28 ?_
  refine kJi (wr := [(ys, .inl (cI, 1201, .inl sI))]) (va_runV (As := [.int (-1000001)]) (rest := []) ⟨hx, hb, hml, hown, hT⟩ (c_X11_finding l D cI h ys yk yt yf yb yz yn yc yp yw ye yx H.size m3 m9 m12 m13 m14 m15 m16 m17 m18 m19 m20 m22 m23 ff (-1000001) (by first | omega | (simp only [zl_m1000001] <;> omega) | decide | assumption | rfl) (by first | omega | (simp only [zl_m1000001] <;> omega) | decide | assumption | rfl)) (cwV 1 hT (gV_in mw_1243 mw_1240 mw_1242 mw_p3_8 mw_12) rfl rfl rfl (by decide +kernel) ⟨Nat.le_of_ble_eq_true rfl, Nat.le_of_ble_eq_true rfl⟩) (kRecv (own := "") (q0 := 1) (ci := 11) hK hP hD hN rfl rfl [1, 0] rfl (by decide)) rfl rfl hl.1 rfl (lv_room (Nat.le_of_ble_eq_true rfl)) dX11_partyIs_30 ⟨Nat.le_of_ble_eq_true rfl, Nat.le_of_ble_eq_true rfl⟩) hP hD hS hA [1, 0] [2] rfl rfl (by decide) (by decide) (fun r_5 u_7 H locs w_6 hP hD hS => ?_)
  have hP : va_P D vwCl [(ys, .inl (cI, 1201, .inl sI))] H := hP
  have hD : va_D A [(ys, .inl (cI, 1201, .inl sI))] := hD
  have hr_5 := w_6
  obtain rfl : r_5 = (-1000001) := hr_5.trans (by decide)
  exact hRet () [] rfl hP hD (by decide) rfl hS rfl dX11_partyIs_33
set_option maxHeartbeats 4000000 in
set_option maxRecDepth 100000 in
theorem c_X11_give (l : Launch) (D : va_G) (cI : ClassId) (h ys yk yt yf yb yz yn yc yp yw ye yx : Nat) (sz : Nat) (m3 : Int32) (m9 : Int32) (m12 : Int32) (m13 : Int32) (m14 : Int32) (m15 : Int32) (m16 : Int32) (m17 : Int32) (m18 : Int32) (m19 : Int32) (m20 : Int32) (m22 : Int32) (m23 : Int32) (ff : Nat → Int32) (a : Int32) (b : Int32) (d : Int32) : Met l yX11_give (gW yX11_give cX11_give 5 (some .int)) ({ frames := 2, cells := 0, slots := 0, locals := 43 } : Room) (kPre D cI [.ref h, .int a, .int b, .int d] [(h, .inr (11, [.ref ys, .ref yk, .ref yt, .int m3, .ref yf, .ref yb, .ref yz, .ref yn, .ref yc, .int m9, .ref yp, .ref yw, .int m12, .int m13, .int m14, .int m15, .int m16, .int m17, .int m18, .int m19, .int m20, .ref ye, .int m22, .int m23, .ref yx])), (ys, .inl (cI, 1201, .inl sI)), (yf, .inl (cI, 6, .inl ff))] sz) (va_Qi (fun (r : Int32) (u : Unit) => r = (-1000001)) (fun u t => kWd D cI (va_A [(h, .inr (11, [.ref ys, .ref yk, .ref yt, .int m3, .ref yf, .ref yb, .ref yz, .ref yn, .ref yc, .int m9, .ref yp, .ref yw, .int m12, .int m13, .int m14, .int m15, .int m16, .int m17, .int m18, .int m19, .int m20, .ref ye, .int m22, .int m23, .ref yx])), (ys, .inl (cI, 1201, .inl sI)), (yf, .inl (cI, 6, .inl ff))] sz) [] t) (va_A [(h, .inr (11, [.ref ys, .ref yk, .ref yt, .int m3, .ref yf, .ref yb, .ref yz, .ref yn, .ref yc, .int m9, .ref yp, .ref yw, .int m12, .int m13, .int m14, .int m15, .int m16, .int m17, .int m18, .int m19, .int m20, .ref ye, .int m22, .int m23, .ref yx])), (ys, .inl (cI, 1201, .inl sI)), (yf, .inl (cI, 6, .inl ff))] sz)) 0 0 (va_A [(h, .inr (11, [.ref ys, .ref yk, .ref yt, .int m3, .ref yf, .ref yb, .ref yz, .ref yn, .ref yc, .int m9, .ref yp, .ref yw, .int m12, .int m13, .int m14, .int m15, .int m16, .int m17, .int m18, .int m19, .int m20, .ref ye, .int m22, .int m23, .ref yx])), (ys, .inl (cI, 1201, .inl sI)), (yf, .inl (cI, 6, .inl ff))] sz) := by
  refine kMetI (own := RX11) (by decide) rfl (Nat.le_of_ble_eq_true rfl) ?_
  intro p e s m args below meth c hx hb hT hown hname hml A Q hK hP hD hS hA hN hRet ls hl
  have hl : lv_has ls 5 [(0, .ref h), (1, .int a), (2, .int b), (3, .int d)] := hl
  have lo_a := k_lo a
  have hi_a := k_hi a
  have lo_b := k_lo b
  have hi_b := k_hi b
  have lo_d := k_lo d
  have hi_d := k_hi d
  have lo_m3 := k_lo m3
  have hi_m3 := k_hi m3
  have lo_m9 := k_lo m9
  have hi_m9 := k_hi m9
  have lo_m12 := k_lo m12
  have hi_m12 := k_hi m12
  have lo_m13 := k_lo m13
  have hi_m13 := k_hi m13
  have lo_m14 := k_lo m14
  have hi_m14 := k_hi m14
  have lo_m15 := k_lo m15
  have hi_m15 := k_hi m15
  have lo_m16 := k_lo m16
  have hi_m16 := k_hi m16
  have lo_m17 := k_lo m17
  have hi_m17 := k_hi m17
  have lo_m18 := k_lo m18
  have hi_m18 := k_hi m18
  have lo_m19 := k_lo m19
  have hi_m19 := k_hi m19
  have lo_m20 := k_lo m20
  have hi_m20 := k_hi m20
  have lo_m22 := k_lo m22
  have hi_m22 := k_hi m22
  have lo_m23 := k_lo m23
  have hi_m23 := k_hi m23
  refine lv_aload_n hx hb dX11_give_0 rfl (lv_at hl 0 rfl) ?_
  refine lv_iload_n hx hb dX11_give_1 rfl (lv_at hl 1 rfl) ?_
  refine kJi (wr := [(yf, .inl (cI, 6, .inl ff))]) (va_runV (As := [.int a]) (rest := []) ⟨hx, hb, hml, hown, hT⟩ (c_X11_isParty l D cI h ys yk yt yf yb yz yn yc yp yw ye yx s.heap.size m3 m9 m12 m13 m14 m15 m16 m17 m18 m19 m20 m22 m23 sI a (by decide +kernel)) (cwV 1 hT (gV_in mw_1412 mw_1409 mw_1411 mw_p5_4 mw_12) rfl rfl rfl (by decide +kernel) ⟨Nat.le_of_ble_eq_true rfl, Nat.le_of_ble_eq_true rfl⟩) (kRecv (own := "") (q0 := 0) (ci := 11) hK hP hD hN rfl rfl [0, 1] rfl (by decide)) rfl rfl hl.1 rfl (lv_room (Nat.le_of_ble_eq_true rfl)) dX11_give_2 ⟨Nat.le_of_ble_eq_true rfl, Nat.le_of_ble_eq_true rfl⟩) hP hD hS hA [0, 1] [2] rfl rfl (by decide) (by decide) (fun r_1 u_3 H locs w_2 hP hD hS => ?_)
  have hP : va_P D vwCl [(yf, .inl (cI, 6, .inl ff)), (h, .inr (11, [.ref ys, .ref yk, .ref yt, .int m3, .ref yf, .ref yb, .ref yz, .ref yn, .ref yc, .int m9, .ref yp, .ref yw, .int m12, .int m13, .int m14, .int m15, .int m16, .int m17, .int m18, .int m19, .int m20, .ref ye, .int m22, .int m23, .ref yx])), (ys, .inl (cI, 1201, .inl sI))] H := hP
  have hD : va_D A [(yf, .inl (cI, 6, .inl ff)), (h, .inr (11, [.ref ys, .ref yk, .ref yt, .int m3, .ref yf, .ref yb, .ref yz, .ref yn, .ref yc, .int m9, .ref yp, .ref yw, .int m12, .int m13, .int m14, .int m15, .int m16, .int m17, .int m18, .int m19, .int m20, .ref ye, .int m22, .int m23, .ref yx])), (ys, .inl (cI, 1201, .inl sI))] := hD
  have hr_1 := w_2
  obtain rfl : r_1 = 0 := hr_1.trans (by decide)
  refine b_if_eq hx hb zl_0 (tgt := 38) dX11_give_5 (by decide) (fun c_4 => ?_) (fun c_4 => by exfalso; omega)
  refine lv_aload_n hx hb dX11_give_38 rfl (lv_at hl 0 rfl) ?_
  refine lv_ldc (v := (-1000001)) hx hb hown (hT _ mw_1239) dX11_give_39 ?_
  refine kJi (wr := [(ys, .inl (cI, 1201, .inl sI))]) (va_runV (As := [.int (-1000001)]) (rest := []) ⟨hx, hb, hml, hown, hT⟩ (c_X11_finding l D cI h ys yk yt yf yb yz yn yc yp yw ye yx H.size m3 m9 m12 m13 m14 m15 m16 m17 m18 m19 m20 m22 m23 ff (-1000001) (by first | omega | (simp only [zl_m1000001] <;> omega) | decide | assumption | rfl) (by first | omega | (simp only [zl_m1000001] <;> omega) | decide | assumption | rfl)) (cwV 1 hT (gV_in mw_1243 mw_1240 mw_1242 mw_p3_8 mw_12) rfl rfl rfl (by decide +kernel) ⟨Nat.le_of_ble_eq_true rfl, Nat.le_of_ble_eq_true rfl⟩) (kRecv (own := "") (q0 := 1) (ci := 11) hK hP hD hN rfl rfl [1, 0] rfl (by decide)) rfl rfl hl.1 rfl (lv_room (Nat.le_of_ble_eq_true rfl)) dX11_give_41 ⟨Nat.le_of_ble_eq_true rfl, Nat.le_of_ble_eq_true rfl⟩) hP hD hS hA [1, 0] [2] rfl rfl (by decide) (by decide) (fun r_5 u_7 H locs w_6 hP hD hS => ?_)
  have hP : va_P D vwCl [(ys, .inl (cI, 1201, .inl sI))] H := hP
  have hD : va_D A [(ys, .inl (cI, 1201, .inl sI))] := hD
  have hr_5 := w_6
  obtain rfl : r_5 = (-1000001) := hr_5.trans (by decide)
  exact hRet () [] rfl hP hD (by decide) rfl hS rfl dX11_give_44
set_option maxHeartbeats 4000000 in
set_option maxRecDepth 100000 in
theorem c_X11_turn (l : Launch) (D : va_G) (cI : ClassId) (h ys yk yt yf yb yz yn yc yp yw ye yx : Nat) (sz : Nat) (m3 : Int32) (m9 : Int32) (m12 : Int32) (m13 : Int32) (m14 : Int32) (m15 : Int32) (m16 : Int32) (m17 : Int32) (m18 : Int32) (m19 : Int32) (m20 : Int32) (m22 : Int32) (m23 : Int32) (ff : Nat → Int32) (a : Int32) : Met l yX11_turn (gW yX11_turn cX11_turn 2 (some .int)) ({ frames := 2, cells := 0, slots := 0, locals := 43 } : Room) (kPre D cI [.ref h, .int a] [(h, .inr (11, [.ref ys, .ref yk, .ref yt, .int m3, .ref yf, .ref yb, .ref yz, .ref yn, .ref yc, .int m9, .ref yp, .ref yw, .int m12, .int m13, .int m14, .int m15, .int m16, .int m17, .int m18, .int m19, .int m20, .ref ye, .int m22, .int m23, .ref yx])), (ys, .inl (cI, 1201, .inl sI)), (yf, .inl (cI, 6, .inl ff))] sz) (va_Qi (fun (r : Int32) (u : Unit) => r = (-1000001)) (fun u t => kWd D cI (va_A [(h, .inr (11, [.ref ys, .ref yk, .ref yt, .int m3, .ref yf, .ref yb, .ref yz, .ref yn, .ref yc, .int m9, .ref yp, .ref yw, .int m12, .int m13, .int m14, .int m15, .int m16, .int m17, .int m18, .int m19, .int m20, .ref ye, .int m22, .int m23, .ref yx])), (ys, .inl (cI, 1201, .inl sI)), (yf, .inl (cI, 6, .inl ff))] sz) [] t) (va_A [(h, .inr (11, [.ref ys, .ref yk, .ref yt, .int m3, .ref yf, .ref yb, .ref yz, .ref yn, .ref yc, .int m9, .ref yp, .ref yw, .int m12, .int m13, .int m14, .int m15, .int m16, .int m17, .int m18, .int m19, .int m20, .ref ye, .int m22, .int m23, .ref yx])), (ys, .inl (cI, 1201, .inl sI)), (yf, .inl (cI, 6, .inl ff))] sz)) 0 0 (va_A [(h, .inr (11, [.ref ys, .ref yk, .ref yt, .int m3, .ref yf, .ref yb, .ref yz, .ref yn, .ref yc, .int m9, .ref yp, .ref yw, .int m12, .int m13, .int m14, .int m15, .int m16, .int m17, .int m18, .int m19, .int m20, .ref ye, .int m22, .int m23, .ref yx])), (ys, .inl (cI, 1201, .inl sI)), (yf, .inl (cI, 6, .inl ff))] sz) := by
  refine kMetI (own := RX11) (by decide) rfl (Nat.le_of_ble_eq_true rfl) ?_
  intro p e s m args below meth c hx hb hT hown hname hml A Q hK hP hD hS hA hN hRet ls hl
  have hl : lv_has ls 2 [(0, .ref h), (1, .int a)] := hl
  have lo_a := k_lo a
  have hi_a := k_hi a
  have lo_m3 := k_lo m3
  have hi_m3 := k_hi m3
  have lo_m9 := k_lo m9
  have hi_m9 := k_hi m9
  have lo_m12 := k_lo m12
  have hi_m12 := k_hi m12
  have lo_m13 := k_lo m13
  have hi_m13 := k_hi m13
  have lo_m14 := k_lo m14
  have hi_m14 := k_hi m14
  have lo_m15 := k_lo m15
  have hi_m15 := k_hi m15
  have lo_m16 := k_lo m16
  have hi_m16 := k_hi m16
  have lo_m17 := k_lo m17
  have hi_m17 := k_hi m17
  have lo_m18 := k_lo m18
  have hi_m18 := k_hi m18
  have lo_m19 := k_lo m19
  have hi_m19 := k_hi m19
  have lo_m20 := k_lo m20
  have hi_m20 := k_hi m20
  have lo_m22 := k_lo m22
  have hi_m22 := k_hi m22
  have lo_m23 := k_lo m23
  have hi_m23 := k_hi m23
  refine lv_aload_n hx hb dX11_turn_0 rfl (lv_at hl 0 rfl) ?_
  refine lv_iload_n hx hb dX11_turn_1 rfl (lv_at hl 1 rfl) ?_
  refine kJi (wr := [(yf, .inl (cI, 6, .inl ff))]) (va_runV (As := [.int a]) (rest := []) ⟨hx, hb, hml, hown, hT⟩ (c_X11_isParty l D cI h ys yk yt yf yb yz yn yc yp yw ye yx s.heap.size m3 m9 m12 m13 m14 m15 m16 m17 m18 m19 m20 m22 m23 sI a (by decide +kernel)) (cwV 1 hT (gV_in mw_1412 mw_1409 mw_1411 mw_p5_4 mw_12) rfl rfl rfl (by decide +kernel) ⟨Nat.le_of_ble_eq_true rfl, Nat.le_of_ble_eq_true rfl⟩) (kRecv (own := "") (q0 := 0) (ci := 11) hK hP hD hN rfl rfl [0, 1] rfl (by decide)) rfl rfl hl.1 rfl (lv_room (Nat.le_of_ble_eq_true rfl)) dX11_turn_2 ⟨Nat.le_of_ble_eq_true rfl, Nat.le_of_ble_eq_true rfl⟩) hP hD hS hA [0, 1] [2] rfl rfl (by decide) (by decide) (fun r_1 u_3 H locs w_2 hP hD hS => ?_)
  have hP : va_P D vwCl [(yf, .inl (cI, 6, .inl ff)), (h, .inr (11, [.ref ys, .ref yk, .ref yt, .int m3, .ref yf, .ref yb, .ref yz, .ref yn, .ref yc, .int m9, .ref yp, .ref yw, .int m12, .int m13, .int m14, .int m15, .int m16, .int m17, .int m18, .int m19, .int m20, .ref ye, .int m22, .int m23, .ref yx])), (ys, .inl (cI, 1201, .inl sI))] H := hP
  have hD : va_D A [(yf, .inl (cI, 6, .inl ff)), (h, .inr (11, [.ref ys, .ref yk, .ref yt, .int m3, .ref yf, .ref yb, .ref yz, .ref yn, .ref yc, .int m9, .ref yp, .ref yw, .int m12, .int m13, .int m14, .int m15, .int m16, .int m17, .int m18, .int m19, .int m20, .ref ye, .int m22, .int m23, .ref yx])), (ys, .inl (cI, 1201, .inl sI))] := hD
  have hr_1 := w_2
  obtain rfl : r_1 = 0 := hr_1.trans (by decide)
  refine b_if_ne hx hb zl_0 (tgt := 15) dX11_turn_5 (by decide) (fun c_4 => by exfalso; omega) (fun c_4 => ?_)
  refine lv_aload_n hx hb dX11_turn_8 rfl (lv_at hl 0 rfl) ?_
  refine lv_ldc (v := (-1000001)) hx hb hown (hT _ mw_1239) dX11_turn_9 ?_
  refine kJi (wr := [(ys, .inl (cI, 1201, .inl sI))]) (va_runV (As := [.int (-1000001)]) (rest := []) ⟨hx, hb, hml, hown, hT⟩ (c_X11_finding l D cI h ys yk yt yf yb yz yn yc yp yw ye yx H.size m3 m9 m12 m13 m14 m15 m16 m17 m18 m19 m20 m22 m23 ff (-1000001) (by first | omega | (simp only [zl_m1000001] <;> omega) | decide | assumption | rfl) (by first | omega | (simp only [zl_m1000001] <;> omega) | decide | assumption | rfl)) (cwV 1 hT (gV_in mw_1243 mw_1240 mw_1242 mw_p3_8 mw_12) rfl rfl rfl (by decide +kernel) ⟨Nat.le_of_ble_eq_true rfl, Nat.le_of_ble_eq_true rfl⟩) (kRecv (own := "") (q0 := 1) (ci := 11) hK hP hD hN rfl rfl [1, 0] rfl (by decide)) rfl rfl hl.1 rfl (lv_room (Nat.le_of_ble_eq_true rfl)) dX11_turn_11 ⟨Nat.le_of_ble_eq_true rfl, Nat.le_of_ble_eq_true rfl⟩) hP hD hS hA [1, 0] [2] rfl rfl (by decide) (by decide) (fun r_5 u_7 H locs w_6 hP hD hS => ?_)
  have hP : va_P D vwCl [(ys, .inl (cI, 1201, .inl sI))] H := hP
  have hD : va_D A [(ys, .inl (cI, 1201, .inl sI))] := hD
  have hr_5 := w_6
  obtain rfl : r_5 = (-1000001) := hr_5.trans (by decide)
  exact hRet () [] rfl hP hD (by decide) rfl hS rfl dX11_turn_14
set_option maxHeartbeats 4000000 in
set_option maxRecDepth 100000 in
theorem c_X11_hand (l : Launch) (D : va_G) (cI : ClassId) (h ys yk yt yf yb yz yn yc yp yw ye yx : Nat) (sz : Nat) (m3 : Int32) (m9 : Int32) (m12 : Int32) (m13 : Int32) (m14 : Int32) (m15 : Int32) (m16 : Int32) (m17 : Int32) (m18 : Int32) (m19 : Int32) (m20 : Int32) (m22 : Int32) (m23 : Int32) (ff : Nat → Int32) (a : Int32) (b : Int32) (d : Int32) : Met l yX11_hand (gW yX11_hand cX11_hand 4 (some .int)) ({ frames := 2, cells := 0, slots := 0, locals := 43 } : Room) (kPre D cI [.ref h, .int a, .int b, .int d] [(h, .inr (11, [.ref ys, .ref yk, .ref yt, .int m3, .ref yf, .ref yb, .ref yz, .ref yn, .ref yc, .int m9, .ref yp, .ref yw, .int m12, .int m13, .int m14, .int m15, .int m16, .int m17, .int m18, .int m19, .int m20, .ref ye, .int m22, .int m23, .ref yx])), (ys, .inl (cI, 1201, .inl sI)), (yf, .inl (cI, 6, .inl ff))] sz) (va_Qi (fun (r : Int32) (u : Unit) => r = (-1000001)) (fun u t => kWd D cI (va_A [(h, .inr (11, [.ref ys, .ref yk, .ref yt, .int m3, .ref yf, .ref yb, .ref yz, .ref yn, .ref yc, .int m9, .ref yp, .ref yw, .int m12, .int m13, .int m14, .int m15, .int m16, .int m17, .int m18, .int m19, .int m20, .ref ye, .int m22, .int m23, .ref yx])), (ys, .inl (cI, 1201, .inl sI)), (yf, .inl (cI, 6, .inl ff))] sz) [] t) (va_A [(h, .inr (11, [.ref ys, .ref yk, .ref yt, .int m3, .ref yf, .ref yb, .ref yz, .ref yn, .ref yc, .int m9, .ref yp, .ref yw, .int m12, .int m13, .int m14, .int m15, .int m16, .int m17, .int m18, .int m19, .int m20, .ref ye, .int m22, .int m23, .ref yx])), (ys, .inl (cI, 1201, .inl sI)), (yf, .inl (cI, 6, .inl ff))] sz)) 0 0 (va_A [(h, .inr (11, [.ref ys, .ref yk, .ref yt, .int m3, .ref yf, .ref yb, .ref yz, .ref yn, .ref yc, .int m9, .ref yp, .ref yw, .int m12, .int m13, .int m14, .int m15, .int m16, .int m17, .int m18, .int m19, .int m20, .ref ye, .int m22, .int m23, .ref yx])), (ys, .inl (cI, 1201, .inl sI)), (yf, .inl (cI, 6, .inl ff))] sz) := by
  refine kMetI (own := RX11) (by decide) rfl (Nat.le_of_ble_eq_true rfl) ?_
  intro p e s m args below meth c hx hb hT hown hname hml A Q hK hP hD hS hA hN hRet ls hl
  have hl : lv_has ls 4 [(0, .ref h), (1, .int a), (2, .int b), (3, .int d)] := hl
  have lo_a := k_lo a
  have hi_a := k_hi a
  have lo_b := k_lo b
  have hi_b := k_hi b
  have lo_d := k_lo d
  have hi_d := k_hi d
  have lo_m3 := k_lo m3
  have hi_m3 := k_hi m3
  have lo_m9 := k_lo m9
  have hi_m9 := k_hi m9
  have lo_m12 := k_lo m12
  have hi_m12 := k_hi m12
  have lo_m13 := k_lo m13
  have hi_m13 := k_hi m13
  have lo_m14 := k_lo m14
  have hi_m14 := k_hi m14
  have lo_m15 := k_lo m15
  have hi_m15 := k_hi m15
  have lo_m16 := k_lo m16
  have hi_m16 := k_hi m16
  have lo_m17 := k_lo m17
  have hi_m17 := k_hi m17
  have lo_m18 := k_lo m18
  have hi_m18 := k_hi m18
  have lo_m19 := k_lo m19
  have hi_m19 := k_hi m19
  have lo_m20 := k_lo m20
  have hi_m20 := k_hi m20
  have lo_m22 := k_lo m22
  have hi_m22 := k_hi m22
  have lo_m23 := k_lo m23
  have hi_m23 := k_hi m23
  refine lv_aload_n hx hb dX11_hand_0 rfl (lv_at hl 0 rfl) ?_
  refine lv_iload_n hx hb dX11_hand_1 rfl (lv_at hl 1 rfl) ?_
  refine kJi (wr := [(yf, .inl (cI, 6, .inl ff))]) (va_runV (As := [.int a]) (rest := []) ⟨hx, hb, hml, hown, hT⟩ (c_X11_isParty l D cI h ys yk yt yf yb yz yn yc yp yw ye yx s.heap.size m3 m9 m12 m13 m14 m15 m16 m17 m18 m19 m20 m22 m23 sI a (by decide +kernel)) (cwV 1 hT (gV_in mw_1412 mw_1409 mw_1411 mw_p5_4 mw_12) rfl rfl rfl (by decide +kernel) ⟨Nat.le_of_ble_eq_true rfl, Nat.le_of_ble_eq_true rfl⟩) (kRecv (own := "") (q0 := 0) (ci := 11) hK hP hD hN rfl rfl [0, 1] rfl (by decide)) rfl rfl hl.1 rfl (lv_room (Nat.le_of_ble_eq_true rfl)) dX11_hand_2 ⟨Nat.le_of_ble_eq_true rfl, Nat.le_of_ble_eq_true rfl⟩) hP hD hS hA [0, 1] [2] rfl rfl (by decide) (by decide) (fun r_1 u_3 H locs w_2 hP hD hS => ?_)
  have hP : va_P D vwCl [(yf, .inl (cI, 6, .inl ff)), (h, .inr (11, [.ref ys, .ref yk, .ref yt, .int m3, .ref yf, .ref yb, .ref yz, .ref yn, .ref yc, .int m9, .ref yp, .ref yw, .int m12, .int m13, .int m14, .int m15, .int m16, .int m17, .int m18, .int m19, .int m20, .ref ye, .int m22, .int m23, .ref yx])), (ys, .inl (cI, 1201, .inl sI))] H := hP
  have hD : va_D A [(yf, .inl (cI, 6, .inl ff)), (h, .inr (11, [.ref ys, .ref yk, .ref yt, .int m3, .ref yf, .ref yb, .ref yz, .ref yn, .ref yc, .int m9, .ref yp, .ref yw, .int m12, .int m13, .int m14, .int m15, .int m16, .int m17, .int m18, .int m19, .int m20, .ref ye, .int m22, .int m23, .ref yx])), (ys, .inl (cI, 1201, .inl sI))] := hD
  have hr_1 := w_2
  obtain rfl : r_1 = 0 := hr_1.trans (by decide)
  refine b_if_eq hx hb zl_0 (tgt := 31) dX11_hand_5 (by decide) (fun c_4 => ?_) (fun c_4 => by exfalso; omega)
  refine lv_aload_n hx hb dX11_hand_31 rfl (lv_at hl 0 rfl) ?_
  refine lv_ldc (v := (-1000001)) hx hb hown (hT _ mw_1239) dX11_hand_32 ?_
  refine kJi (wr := [(ys, .inl (cI, 1201, .inl sI))]) (va_runV (As := [.int (-1000001)]) (rest := []) ⟨hx, hb, hml, hown, hT⟩ (c_X11_finding l D cI h ys yk yt yf yb yz yn yc yp yw ye yx H.size m3 m9 m12 m13 m14 m15 m16 m17 m18 m19 m20 m22 m23 ff (-1000001) (by first | omega | (simp only [zl_m1000001] <;> omega) | decide | assumption | rfl) (by first | omega | (simp only [zl_m1000001] <;> omega) | decide | assumption | rfl)) (cwV 1 hT (gV_in mw_1243 mw_1240 mw_1242 mw_p3_8 mw_12) rfl rfl rfl (by decide +kernel) ⟨Nat.le_of_ble_eq_true rfl, Nat.le_of_ble_eq_true rfl⟩) (kRecv (own := "") (q0 := 1) (ci := 11) hK hP hD hN rfl rfl [1, 0] rfl (by decide)) rfl rfl hl.1 rfl (lv_room (Nat.le_of_ble_eq_true rfl)) dX11_hand_34 ⟨Nat.le_of_ble_eq_true rfl, Nat.le_of_ble_eq_true rfl⟩) hP hD hS hA [1, 0] [2] rfl rfl (by decide) (by decide) (fun r_5 u_7 H locs w_6 hP hD hS => ?_)
  have hP : va_P D vwCl [(ys, .inl (cI, 1201, .inl sI))] H := hP
  have hD : va_D A [(ys, .inl (cI, 1201, .inl sI))] := hD
  have hr_5 := w_6
  obtain rfl : r_5 = (-1000001) := hr_5.trans (by decide)
  exact hRet () [] rfl hP hD (by decide) rfl hS rfl dX11_hand_37
set_option maxHeartbeats 4000000 in
set_option maxRecDepth 100000 in
theorem c_X11_reads (l : Launch) (D : va_G) (cI : ClassId) (h ys yk yt yf yb yz yn yc yp yw ye yx : Nat) (sz : Nat) (m3 : Int32) (m9 : Int32) (m12 : Int32) (m13 : Int32) (m14 : Int32) (m15 : Int32) (m16 : Int32) (m17 : Int32) (m18 : Int32) (m19 : Int32) (m20 : Int32) (m22 : Int32) (m23 : Int32) (ff : Nat → Int32) (a : Int32) (b : Int32) : Met l yX11_reads (gW yX11_reads cX11_reads 3 (some .int)) ({ frames := 2, cells := 0, slots := 0, locals := 43 } : Room) (kPre D cI [.ref h, .int a, .int b] [(h, .inr (11, [.ref ys, .ref yk, .ref yt, .int m3, .ref yf, .ref yb, .ref yz, .ref yn, .ref yc, .int m9, .ref yp, .ref yw, .int m12, .int m13, .int m14, .int m15, .int m16, .int m17, .int m18, .int m19, .int m20, .ref ye, .int m22, .int m23, .ref yx])), (ys, .inl (cI, 1201, .inl sI)), (yf, .inl (cI, 6, .inl ff))] sz) (va_Qi (fun (r : Int32) (u : Unit) => r = (-1000001)) (fun u t => kWd D cI (va_A [(h, .inr (11, [.ref ys, .ref yk, .ref yt, .int m3, .ref yf, .ref yb, .ref yz, .ref yn, .ref yc, .int m9, .ref yp, .ref yw, .int m12, .int m13, .int m14, .int m15, .int m16, .int m17, .int m18, .int m19, .int m20, .ref ye, .int m22, .int m23, .ref yx])), (ys, .inl (cI, 1201, .inl sI)), (yf, .inl (cI, 6, .inl ff))] sz) [] t) (va_A [(h, .inr (11, [.ref ys, .ref yk, .ref yt, .int m3, .ref yf, .ref yb, .ref yz, .ref yn, .ref yc, .int m9, .ref yp, .ref yw, .int m12, .int m13, .int m14, .int m15, .int m16, .int m17, .int m18, .int m19, .int m20, .ref ye, .int m22, .int m23, .ref yx])), (ys, .inl (cI, 1201, .inl sI)), (yf, .inl (cI, 6, .inl ff))] sz)) 0 0 (va_A [(h, .inr (11, [.ref ys, .ref yk, .ref yt, .int m3, .ref yf, .ref yb, .ref yz, .ref yn, .ref yc, .int m9, .ref yp, .ref yw, .int m12, .int m13, .int m14, .int m15, .int m16, .int m17, .int m18, .int m19, .int m20, .ref ye, .int m22, .int m23, .ref yx])), (ys, .inl (cI, 1201, .inl sI)), (yf, .inl (cI, 6, .inl ff))] sz) := by
  refine kMetI (own := RX11) (by decide) rfl (Nat.le_of_ble_eq_true rfl) ?_
  intro p e s m args below meth c hx hb hT hown hname hml A Q hK hP hD hS hA hN hRet ls hl
  have hl : lv_has ls 3 [(0, .ref h), (1, .int a), (2, .int b)] := hl
  have lo_a := k_lo a
  have hi_a := k_hi a
  have lo_b := k_lo b
  have hi_b := k_hi b
  have lo_m3 := k_lo m3
  have hi_m3 := k_hi m3
  have lo_m9 := k_lo m9
  have hi_m9 := k_hi m9
  have lo_m12 := k_lo m12
  have hi_m12 := k_hi m12
  have lo_m13 := k_lo m13
  have hi_m13 := k_hi m13
  have lo_m14 := k_lo m14
  have hi_m14 := k_hi m14
  have lo_m15 := k_lo m15
  have hi_m15 := k_hi m15
  have lo_m16 := k_lo m16
  have hi_m16 := k_hi m16
  have lo_m17 := k_lo m17
  have hi_m17 := k_hi m17
  have lo_m18 := k_lo m18
  have hi_m18 := k_hi m18
  have lo_m19 := k_lo m19
  have hi_m19 := k_hi m19
  have lo_m20 := k_lo m20
  have hi_m20 := k_hi m20
  have lo_m22 := k_lo m22
  have hi_m22 := k_hi m22
  have lo_m23 := k_lo m23
  have hi_m23 := k_hi m23
  refine lv_aload_n hx hb dX11_reads_0 rfl (lv_at hl 0 rfl) ?_
  refine lv_iload_n hx hb dX11_reads_1 rfl (lv_at hl 1 rfl) ?_
  refine kJi (wr := [(yf, .inl (cI, 6, .inl ff))]) (va_runV (As := [.int a]) (rest := []) ⟨hx, hb, hml, hown, hT⟩ (c_X11_isWork l D cI h ys yk yt yf yb yz yn yc yp yw ye yx s.heap.size m3 m9 m12 m13 m14 m15 m16 m17 m18 m19 m20 m22 m23 sI a (by decide +kernel)) (cwV 1 hT (gV_in mw_1272 mw_1269 mw_1271 mw_p3_11 mw_12) rfl rfl rfl (by decide +kernel) ⟨Nat.le_of_ble_eq_true rfl, Nat.le_of_ble_eq_true rfl⟩) (kRecv (own := "") (q0 := 0) (ci := 11) hK hP hD hN rfl rfl [0, 1] rfl (by decide)) rfl rfl hl.1 rfl (lv_room (Nat.le_of_ble_eq_true rfl)) dX11_reads_2 ⟨Nat.le_of_ble_eq_true rfl, Nat.le_of_ble_eq_true rfl⟩) hP hD hS hA [0, 1] [2] rfl rfl (by decide) (by decide) (fun r_1 u_3 H locs w_2 hP hD hS => ?_)
  have hP : va_P D vwCl [(yf, .inl (cI, 6, .inl ff)), (h, .inr (11, [.ref ys, .ref yk, .ref yt, .int m3, .ref yf, .ref yb, .ref yz, .ref yn, .ref yc, .int m9, .ref yp, .ref yw, .int m12, .int m13, .int m14, .int m15, .int m16, .int m17, .int m18, .int m19, .int m20, .ref ye, .int m22, .int m23, .ref yx])), (ys, .inl (cI, 1201, .inl sI))] H := hP
  have hD : va_D A [(yf, .inl (cI, 6, .inl ff)), (h, .inr (11, [.ref ys, .ref yk, .ref yt, .int m3, .ref yf, .ref yb, .ref yz, .ref yn, .ref yc, .int m9, .ref yp, .ref yw, .int m12, .int m13, .int m14, .int m15, .int m16, .int m17, .int m18, .int m19, .int m20, .ref ye, .int m22, .int m23, .ref yx])), (ys, .inl (cI, 1201, .inl sI))] := hD
  have hr_1 := w_2
  obtain rfl : r_1 = 0 := hr_1.trans (by decide)
  refine b_if_eq hx hb zl_0 (tgt := 21) dX11_reads_5 (by decide) (fun c_4 => ?_) (fun c_4 => by exfalso; omega)
  refine lv_aload_n hx hb dX11_reads_21 rfl (lv_at hl 0 rfl) ?_
  refine lv_ldc (v := (-1000001)) hx hb hown (hT _ mw_1239) dX11_reads_22 ?_
  refine kJi (wr := [(ys, .inl (cI, 1201, .inl sI))]) (va_runV (As := [.int (-1000001)]) (rest := []) ⟨hx, hb, hml, hown, hT⟩ (c_X11_finding l D cI h ys yk yt yf yb yz yn yc yp yw ye yx H.size m3 m9 m12 m13 m14 m15 m16 m17 m18 m19 m20 m22 m23 ff (-1000001) (by first | omega | (simp only [zl_m1000001] <;> omega) | decide | assumption | rfl) (by first | omega | (simp only [zl_m1000001] <;> omega) | decide | assumption | rfl)) (cwV 1 hT (gV_in mw_1243 mw_1240 mw_1242 mw_p3_8 mw_12) rfl rfl rfl (by decide +kernel) ⟨Nat.le_of_ble_eq_true rfl, Nat.le_of_ble_eq_true rfl⟩) (kRecv (own := "") (q0 := 1) (ci := 11) hK hP hD hN rfl rfl [1, 0] rfl (by decide)) rfl rfl hl.1 rfl (lv_room (Nat.le_of_ble_eq_true rfl)) dX11_reads_24 ⟨Nat.le_of_ble_eq_true rfl, Nat.le_of_ble_eq_true rfl⟩) hP hD hS hA [1, 0] [2] rfl rfl (by decide) (by decide) (fun r_5 u_7 H locs w_6 hP hD hS => ?_)
  have hP : va_P D vwCl [(ys, .inl (cI, 1201, .inl sI))] H := hP
  have hD : va_D A [(ys, .inl (cI, 1201, .inl sI))] := hD
  have hr_5 := w_6
  obtain rfl : r_5 = (-1000001) := hr_5.trans (by decide)
  exact hRet () [] rfl hP hD (by decide) rfl hS rfl dX11_reads_27
set_option maxHeartbeats 4000000 in
set_option maxRecDepth 100000 in
theorem c_X11_hands (l : Launch) (D : va_G) (cI : ClassId) (h ys yk yt yf yb yz yn yc yp yw ye yx : Nat) (sz : Nat) (m3 : Int32) (m9 : Int32) (m12 : Int32) (m13 : Int32) (m14 : Int32) (m15 : Int32) (m16 : Int32) (m17 : Int32) (m18 : Int32) (m19 : Int32) (m20 : Int32) (m22 : Int32) (m23 : Int32) (ff : Nat → Int32) (a : Int32) (b : Int32) (d : Int32) : Met l yX11_hands (gW yX11_hands cX11_hands 5 (some .int)) ({ frames := 2, cells := 0, slots := 0, locals := 43 } : Room) (kPre D cI [.ref h, .int a, .int b, .int d] [(h, .inr (11, [.ref ys, .ref yk, .ref yt, .int m3, .ref yf, .ref yb, .ref yz, .ref yn, .ref yc, .int m9, .ref yp, .ref yw, .int m12, .int m13, .int m14, .int m15, .int m16, .int m17, .int m18, .int m19, .int m20, .ref ye, .int m22, .int m23, .ref yx])), (ys, .inl (cI, 1201, .inl sI)), (yf, .inl (cI, 6, .inl ff))] sz) (va_Qi (fun (r : Int32) (u : Unit) => r = (-1000001)) (fun u t => kWd D cI (va_A [(h, .inr (11, [.ref ys, .ref yk, .ref yt, .int m3, .ref yf, .ref yb, .ref yz, .ref yn, .ref yc, .int m9, .ref yp, .ref yw, .int m12, .int m13, .int m14, .int m15, .int m16, .int m17, .int m18, .int m19, .int m20, .ref ye, .int m22, .int m23, .ref yx])), (ys, .inl (cI, 1201, .inl sI)), (yf, .inl (cI, 6, .inl ff))] sz) [] t) (va_A [(h, .inr (11, [.ref ys, .ref yk, .ref yt, .int m3, .ref yf, .ref yb, .ref yz, .ref yn, .ref yc, .int m9, .ref yp, .ref yw, .int m12, .int m13, .int m14, .int m15, .int m16, .int m17, .int m18, .int m19, .int m20, .ref ye, .int m22, .int m23, .ref yx])), (ys, .inl (cI, 1201, .inl sI)), (yf, .inl (cI, 6, .inl ff))] sz)) 0 0 (va_A [(h, .inr (11, [.ref ys, .ref yk, .ref yt, .int m3, .ref yf, .ref yb, .ref yz, .ref yn, .ref yc, .int m9, .ref yp, .ref yw, .int m12, .int m13, .int m14, .int m15, .int m16, .int m17, .int m18, .int m19, .int m20, .ref ye, .int m22, .int m23, .ref yx])), (ys, .inl (cI, 1201, .inl sI)), (yf, .inl (cI, 6, .inl ff))] sz) := by
  refine kMetI (own := RX11) (by decide) rfl (Nat.le_of_ble_eq_true rfl) ?_
  intro p e s m args below meth c hx hb hT hown hname hml A Q hK hP hD hS hA hN hRet ls hl
  have hl : lv_has ls 5 [(0, .ref h), (1, .int a), (2, .int b), (3, .int d)] := hl
  have lo_a := k_lo a
  have hi_a := k_hi a
  have lo_b := k_lo b
  have hi_b := k_hi b
  have lo_d := k_lo d
  have hi_d := k_hi d
  have lo_m3 := k_lo m3
  have hi_m3 := k_hi m3
  have lo_m9 := k_lo m9
  have hi_m9 := k_hi m9
  have lo_m12 := k_lo m12
  have hi_m12 := k_hi m12
  have lo_m13 := k_lo m13
  have hi_m13 := k_hi m13
  have lo_m14 := k_lo m14
  have hi_m14 := k_hi m14
  have lo_m15 := k_lo m15
  have hi_m15 := k_hi m15
  have lo_m16 := k_lo m16
  have hi_m16 := k_hi m16
  have lo_m17 := k_lo m17
  have hi_m17 := k_hi m17
  have lo_m18 := k_lo m18
  have hi_m18 := k_hi m18
  have lo_m19 := k_lo m19
  have hi_m19 := k_hi m19
  have lo_m20 := k_lo m20
  have hi_m20 := k_hi m20
  have lo_m22 := k_lo m22
  have hi_m22 := k_hi m22
  have lo_m23 := k_lo m23
  have hi_m23 := k_hi m23
  refine lv_aload_n hx hb dX11_hands_0 rfl (lv_at hl 0 rfl) ?_
  refine lv_iload_n hx hb dX11_hands_1 rfl (lv_at hl 1 rfl) ?_
  refine kJi (wr := [(yf, .inl (cI, 6, .inl ff))]) (va_runV (As := [.int a]) (rest := []) ⟨hx, hb, hml, hown, hT⟩ (c_X11_isWork l D cI h ys yk yt yf yb yz yn yc yp yw ye yx s.heap.size m3 m9 m12 m13 m14 m15 m16 m17 m18 m19 m20 m22 m23 sI a (by decide +kernel)) (cwV 1 hT (gV_in mw_1272 mw_1269 mw_1271 mw_p3_11 mw_12) rfl rfl rfl (by decide +kernel) ⟨Nat.le_of_ble_eq_true rfl, Nat.le_of_ble_eq_true rfl⟩) (kRecv (own := "") (q0 := 0) (ci := 11) hK hP hD hN rfl rfl [0, 1] rfl (by decide)) rfl rfl hl.1 rfl (lv_room (Nat.le_of_ble_eq_true rfl)) dX11_hands_2 ⟨Nat.le_of_ble_eq_true rfl, Nat.le_of_ble_eq_true rfl⟩) hP hD hS hA [0, 1] [2] rfl rfl (by decide) (by decide) (fun r_1 u_3 H locs w_2 hP hD hS => ?_)
  have hP : va_P D vwCl [(yf, .inl (cI, 6, .inl ff)), (h, .inr (11, [.ref ys, .ref yk, .ref yt, .int m3, .ref yf, .ref yb, .ref yz, .ref yn, .ref yc, .int m9, .ref yp, .ref yw, .int m12, .int m13, .int m14, .int m15, .int m16, .int m17, .int m18, .int m19, .int m20, .ref ye, .int m22, .int m23, .ref yx])), (ys, .inl (cI, 1201, .inl sI))] H := hP
  have hD : va_D A [(yf, .inl (cI, 6, .inl ff)), (h, .inr (11, [.ref ys, .ref yk, .ref yt, .int m3, .ref yf, .ref yb, .ref yz, .ref yn, .ref yc, .int m9, .ref yp, .ref yw, .int m12, .int m13, .int m14, .int m15, .int m16, .int m17, .int m18, .int m19, .int m20, .ref ye, .int m22, .int m23, .ref yx])), (ys, .inl (cI, 1201, .inl sI))] := hD
  have hr_1 := w_2
  obtain rfl : r_1 = 0 := hr_1.trans (by decide)
  refine b_if_eq hx hb zl_0 (tgt := 26) dX11_hands_5 (by decide) (fun c_4 => ?_) (fun c_4 => by exfalso; omega)
  refine lv_aload_n hx hb dX11_hands_26 rfl (lv_at hl 0 rfl) ?_
  refine lv_ldc (v := (-1000001)) hx hb hown (hT _ mw_1239) dX11_hands_27 ?_
  refine kJi (wr := [(ys, .inl (cI, 1201, .inl sI))]) (va_runV (As := [.int (-1000001)]) (rest := []) ⟨hx, hb, hml, hown, hT⟩ (c_X11_finding l D cI h ys yk yt yf yb yz yn yc yp yw ye yx H.size m3 m9 m12 m13 m14 m15 m16 m17 m18 m19 m20 m22 m23 ff (-1000001) (by first | omega | (simp only [zl_m1000001] <;> omega) | decide | assumption | rfl) (by first | omega | (simp only [zl_m1000001] <;> omega) | decide | assumption | rfl)) (cwV 1 hT (gV_in mw_1243 mw_1240 mw_1242 mw_p3_8 mw_12) rfl rfl rfl (by decide +kernel) ⟨Nat.le_of_ble_eq_true rfl, Nat.le_of_ble_eq_true rfl⟩) (kRecv (own := "") (q0 := 1) (ci := 11) hK hP hD hN rfl rfl [1, 0] rfl (by decide)) rfl rfl hl.1 rfl (lv_room (Nat.le_of_ble_eq_true rfl)) dX11_hands_29 ⟨Nat.le_of_ble_eq_true rfl, Nat.le_of_ble_eq_true rfl⟩) hP hD hS hA [1, 0] [2] rfl rfl (by decide) (by decide) (fun r_5 u_7 H locs w_6 hP hD hS => ?_)
  have hP : va_P D vwCl [(ys, .inl (cI, 1201, .inl sI))] H := hP
  have hD : va_D A [(ys, .inl (cI, 1201, .inl sI))] := hD
  have hr_5 := w_6
  obtain rfl : r_5 = (-1000001) := hr_5.trans (by decide)
  exact hRet () [] rfl hP hD (by decide) rfl hS rfl dX11_hands_32
set_option maxHeartbeats 4000000 in
set_option maxRecDepth 100000 in
theorem c_X11_voice (l : Launch) (D : va_G) (cI : ClassId) (h ys yk yt yf yb yz yn yc yp yw ye yx : Nat) (sz : Nat) (m3 : Int32) (m9 : Int32) (m12 : Int32) (m13 : Int32) (m14 : Int32) (m15 : Int32) (m16 : Int32) (m17 : Int32) (m18 : Int32) (m19 : Int32) (m20 : Int32) (m22 : Int32) (m23 : Int32) (ff : Nat → Int32) (a : Int32) (b : Int32) (d : Int32) : Met l yX11_voice (gW yX11_voice cX11_voice 4 (some .int)) ({ frames := 2, cells := 0, slots := 0, locals := 43 } : Room) (kPre D cI [.ref h, .int a, .int b, .int d] [(h, .inr (11, [.ref ys, .ref yk, .ref yt, .int m3, .ref yf, .ref yb, .ref yz, .ref yn, .ref yc, .int m9, .ref yp, .ref yw, .int m12, .int m13, .int m14, .int m15, .int m16, .int m17, .int m18, .int m19, .int m20, .ref ye, .int m22, .int m23, .ref yx])), (ys, .inl (cI, 1201, .inl sI)), (yf, .inl (cI, 6, .inl ff))] sz) (va_Qi (fun (r : Int32) (u : Unit) => r = (-1000001)) (fun u t => kWd D cI (va_A [(h, .inr (11, [.ref ys, .ref yk, .ref yt, .int m3, .ref yf, .ref yb, .ref yz, .ref yn, .ref yc, .int m9, .ref yp, .ref yw, .int m12, .int m13, .int m14, .int m15, .int m16, .int m17, .int m18, .int m19, .int m20, .ref ye, .int m22, .int m23, .ref yx])), (ys, .inl (cI, 1201, .inl sI)), (yf, .inl (cI, 6, .inl ff))] sz) [] t) (va_A [(h, .inr (11, [.ref ys, .ref yk, .ref yt, .int m3, .ref yf, .ref yb, .ref yz, .ref yn, .ref yc, .int m9, .ref yp, .ref yw, .int m12, .int m13, .int m14, .int m15, .int m16, .int m17, .int m18, .int m19, .int m20, .ref ye, .int m22, .int m23, .ref yx])), (ys, .inl (cI, 1201, .inl sI)), (yf, .inl (cI, 6, .inl ff))] sz)) 0 0 (va_A [(h, .inr (11, [.ref ys, .ref yk, .ref yt, .int m3, .ref yf, .ref yb, .ref yz, .ref yn, .ref yc, .int m9, .ref yp, .ref yw, .int m12, .int m13, .int m14, .int m15, .int m16, .int m17, .int m18, .int m19, .int m20, .ref ye, .int m22, .int m23, .ref yx])), (ys, .inl (cI, 1201, .inl sI)), (yf, .inl (cI, 6, .inl ff))] sz) := by
  refine kMetI (own := RX11) (by decide) rfl (Nat.le_of_ble_eq_true rfl) ?_
  intro p e s m args below meth c hx hb hT hown hname hml A Q hK hP hD hS hA hN hRet ls hl
  have hl : lv_has ls 4 [(0, .ref h), (1, .int a), (2, .int b), (3, .int d)] := hl
  have lo_a := k_lo a
  have hi_a := k_hi a
  have lo_b := k_lo b
  have hi_b := k_hi b
  have lo_d := k_lo d
  have hi_d := k_hi d
  have lo_m3 := k_lo m3
  have hi_m3 := k_hi m3
  have lo_m9 := k_lo m9
  have hi_m9 := k_hi m9
  have lo_m12 := k_lo m12
  have hi_m12 := k_hi m12
  have lo_m13 := k_lo m13
  have hi_m13 := k_hi m13
  have lo_m14 := k_lo m14
  have hi_m14 := k_hi m14
  have lo_m15 := k_lo m15
  have hi_m15 := k_hi m15
  have lo_m16 := k_lo m16
  have hi_m16 := k_hi m16
  have lo_m17 := k_lo m17
  have hi_m17 := k_hi m17
  have lo_m18 := k_lo m18
  have hi_m18 := k_hi m18
  have lo_m19 := k_lo m19
  have hi_m19 := k_hi m19
  have lo_m20 := k_lo m20
  have hi_m20 := k_hi m20
  have lo_m22 := k_lo m22
  have hi_m22 := k_hi m22
  have lo_m23 := k_lo m23
  have hi_m23 := k_hi m23
  refine lv_aload_n hx hb dX11_voice_0 rfl (lv_at hl 0 rfl) ?_
  refine lv_iload_n hx hb dX11_voice_1 rfl (lv_at hl 1 rfl) ?_
  refine kJi (wr := [(yf, .inl (cI, 6, .inl ff))]) (va_runV (As := [.int a]) (rest := []) ⟨hx, hb, hml, hown, hT⟩ (c_X11_isWork l D cI h ys yk yt yf yb yz yn yc yp yw ye yx s.heap.size m3 m9 m12 m13 m14 m15 m16 m17 m18 m19 m20 m22 m23 sI a (by decide +kernel)) (cwV 1 hT (gV_in mw_1272 mw_1269 mw_1271 mw_p3_11 mw_12) rfl rfl rfl (by decide +kernel) ⟨Nat.le_of_ble_eq_true rfl, Nat.le_of_ble_eq_true rfl⟩) (kRecv (own := "") (q0 := 0) (ci := 11) hK hP hD hN rfl rfl [0, 1] rfl (by decide)) rfl rfl hl.1 rfl (lv_room (Nat.le_of_ble_eq_true rfl)) dX11_voice_2 ⟨Nat.le_of_ble_eq_true rfl, Nat.le_of_ble_eq_true rfl⟩) hP hD hS hA [0, 1] [2] rfl rfl (by decide) (by decide) (fun r_1 u_3 H locs w_2 hP hD hS => ?_)
  have hP : va_P D vwCl [(yf, .inl (cI, 6, .inl ff)), (h, .inr (11, [.ref ys, .ref yk, .ref yt, .int m3, .ref yf, .ref yb, .ref yz, .ref yn, .ref yc, .int m9, .ref yp, .ref yw, .int m12, .int m13, .int m14, .int m15, .int m16, .int m17, .int m18, .int m19, .int m20, .ref ye, .int m22, .int m23, .ref yx])), (ys, .inl (cI, 1201, .inl sI))] H := hP
  have hD : va_D A [(yf, .inl (cI, 6, .inl ff)), (h, .inr (11, [.ref ys, .ref yk, .ref yt, .int m3, .ref yf, .ref yb, .ref yz, .ref yn, .ref yc, .int m9, .ref yp, .ref yw, .int m12, .int m13, .int m14, .int m15, .int m16, .int m17, .int m18, .int m19, .int m20, .ref ye, .int m22, .int m23, .ref yx])), (ys, .inl (cI, 1201, .inl sI))] := hD
  have hr_1 := w_2
  obtain rfl : r_1 = 0 := hr_1.trans (by decide)
  refine b_if_eq hx hb zl_0 (tgt := 17) dX11_voice_5 (by decide) (fun c_4 => ?_) (fun c_4 => by exfalso; omega)
  refine lv_aload_n hx hb dX11_voice_17 rfl (lv_at hl 0 rfl) ?_
  refine lv_ldc (v := (-1000001)) hx hb hown (hT _ mw_1239) dX11_voice_18 ?_
  refine kJi (wr := [(ys, .inl (cI, 1201, .inl sI))]) (va_runV (As := [.int (-1000001)]) (rest := []) ⟨hx, hb, hml, hown, hT⟩ (c_X11_finding l D cI h ys yk yt yf yb yz yn yc yp yw ye yx H.size m3 m9 m12 m13 m14 m15 m16 m17 m18 m19 m20 m22 m23 ff (-1000001) (by first | omega | (simp only [zl_m1000001] <;> omega) | decide | assumption | rfl) (by first | omega | (simp only [zl_m1000001] <;> omega) | decide | assumption | rfl)) (cwV 1 hT (gV_in mw_1243 mw_1240 mw_1242 mw_p3_8 mw_12) rfl rfl rfl (by decide +kernel) ⟨Nat.le_of_ble_eq_true rfl, Nat.le_of_ble_eq_true rfl⟩) (kRecv (own := "") (q0 := 1) (ci := 11) hK hP hD hN rfl rfl [1, 0] rfl (by decide)) rfl rfl hl.1 rfl (lv_room (Nat.le_of_ble_eq_true rfl)) dX11_voice_20 ⟨Nat.le_of_ble_eq_true rfl, Nat.le_of_ble_eq_true rfl⟩) hP hD hS hA [1, 0] [2] rfl rfl (by decide) (by decide) (fun r_5 u_7 H locs w_6 hP hD hS => ?_)
  have hP : va_P D vwCl [(ys, .inl (cI, 1201, .inl sI))] H := hP
  have hD : va_D A [(ys, .inl (cI, 1201, .inl sI))] := hD
  have hr_5 := w_6
  obtain rfl : r_5 = (-1000001) := hr_5.trans (by decide)
  exact hRet () [] rfl hP hD (by decide) rfl hS rfl dX11_voice_23
set_option maxHeartbeats 4000000 in
set_option maxRecDepth 100000 in
theorem c_X11_slip (l : Launch) (D : va_G) (cI : ClassId) (h ys yk yt yf yb yz yn yc yp yw ye yx : Nat) (sz : Nat) (m3 : Int32) (m9 : Int32) (m12 : Int32) (m13 : Int32) (m14 : Int32) (m15 : Int32) (m16 : Int32) (m17 : Int32) (m18 : Int32) (m19 : Int32) (m20 : Int32) (m22 : Int32) (m23 : Int32) (ff : Nat → Int32) (a : Int32) (b : Int32) (d : Int32) (g : Int32) : Met l yX11_slip (gW yX11_slip cX11_slip 9 (some .int)) ({ frames := 2, cells := 0, slots := 0, locals := 43 } : Room) (kPre D cI [.ref h, .int a, .int b, .int d, .int g] [(h, .inr (11, [.ref ys, .ref yk, .ref yt, .int m3, .ref yf, .ref yb, .ref yz, .ref yn, .ref yc, .int m9, .ref yp, .ref yw, .int m12, .int m13, .int m14, .int m15, .int m16, .int m17, .int m18, .int m19, .int m20, .ref ye, .int m22, .int m23, .ref yx])), (ys, .inl (cI, 1201, .inl sI)), (yf, .inl (cI, 6, .inl ff))] sz) (va_Qi (fun (r : Int32) (u : Unit) => r = (-1000001)) (fun u t => kWd D cI (va_A [(h, .inr (11, [.ref ys, .ref yk, .ref yt, .int m3, .ref yf, .ref yb, .ref yz, .ref yn, .ref yc, .int m9, .ref yp, .ref yw, .int m12, .int m13, .int m14, .int m15, .int m16, .int m17, .int m18, .int m19, .int m20, .ref ye, .int m22, .int m23, .ref yx])), (ys, .inl (cI, 1201, .inl sI)), (yf, .inl (cI, 6, .inl ff))] sz) [] t) (va_A [(h, .inr (11, [.ref ys, .ref yk, .ref yt, .int m3, .ref yf, .ref yb, .ref yz, .ref yn, .ref yc, .int m9, .ref yp, .ref yw, .int m12, .int m13, .int m14, .int m15, .int m16, .int m17, .int m18, .int m19, .int m20, .ref ye, .int m22, .int m23, .ref yx])), (ys, .inl (cI, 1201, .inl sI)), (yf, .inl (cI, 6, .inl ff))] sz)) 0 0 (va_A [(h, .inr (11, [.ref ys, .ref yk, .ref yt, .int m3, .ref yf, .ref yb, .ref yz, .ref yn, .ref yc, .int m9, .ref yp, .ref yw, .int m12, .int m13, .int m14, .int m15, .int m16, .int m17, .int m18, .int m19, .int m20, .ref ye, .int m22, .int m23, .ref yx])), (ys, .inl (cI, 1201, .inl sI)), (yf, .inl (cI, 6, .inl ff))] sz) := by
  refine kMetI (own := RX11) (by decide) rfl (Nat.le_of_ble_eq_true rfl) ?_
  intro p e s m args below meth c hx hb hT hown hname hml A Q hK hP hD hS hA hN hRet ls hl
  have hl : lv_has ls 9 [(0, .ref h), (1, .int a), (2, .int b), (3, .int d), (4, .int g)] := hl
  have lo_a := k_lo a
  have hi_a := k_hi a
  have lo_b := k_lo b
  have hi_b := k_hi b
  have lo_d := k_lo d
  have hi_d := k_hi d
  have lo_g := k_lo g
  have hi_g := k_hi g
  have lo_m3 := k_lo m3
  have hi_m3 := k_hi m3
  have lo_m9 := k_lo m9
  have hi_m9 := k_hi m9
  have lo_m12 := k_lo m12
  have hi_m12 := k_hi m12
  have lo_m13 := k_lo m13
  have hi_m13 := k_hi m13
  have lo_m14 := k_lo m14
  have hi_m14 := k_hi m14
  have lo_m15 := k_lo m15
  have hi_m15 := k_hi m15
  have lo_m16 := k_lo m16
  have hi_m16 := k_hi m16
  have lo_m17 := k_lo m17
  have hi_m17 := k_hi m17
  have lo_m18 := k_lo m18
  have hi_m18 := k_hi m18
  have lo_m19 := k_lo m19
  have hi_m19 := k_hi m19
  have lo_m20 := k_lo m20
  have hi_m20 := k_hi m20
  have lo_m22 := k_lo m22
  have hi_m22 := k_hi m22
  have lo_m23 := k_lo m23
  have hi_m23 := k_hi m23
  refine lv_iload_n hx hb dX11_slip_0 rfl (lv_at hl 1 rfl) ?_
  refine kJi (wr := [(h, .inr (11, [.ref ys, .ref yk, .ref yt, .int m3, .ref yf, .ref yb, .ref yz, .ref yn, .ref yc, .int m9, .ref yp, .ref yw, .int m12, .int m13, .int m14, .int m15, .int m16, .int m17, .int m18, .int m19, .int m20, .ref ye, .int m22, .int m23, .ref yx])), (ys, .inl (cI, 1201, .inl sI)), (yf, .inl (cI, 6, .inl ff))]) (va_runS (As := [.int a]) (rest := []) ⟨hx, hb, hml, hown, hT⟩ (c_X11_isSheet l D cI s.heap.size a) (cwS 1 hT (gS_in mw_1391 mw_1389 mw_1390 mw_12) rfl rfl rfl (by decide +kernel) ⟨Nat.le_of_ble_eq_true rfl, Nat.le_of_ble_eq_true rfl⟩) (kStat hK hP hD hN [] rfl (by decide)) rfl rfl hl.1 rfl (lv_room (Nat.le_of_ble_eq_true rfl)) dX11_slip_1 ⟨Nat.le_of_ble_eq_true rfl, Nat.le_of_ble_eq_true rfl⟩) hP hD hS hA [] [0, 1, 2] rfl rfl (by decide) (by decide) (fun r_1 u_3 H locs w_2 hP hD hS => ?_)
  have hP : va_P D vwCl [(h, .inr (11, [.ref ys, .ref yk, .ref yt, .int m3, .ref yf, .ref yb, .ref yz, .ref yn, .ref yc, .int m9, .ref yp, .ref yw, .int m12, .int m13, .int m14, .int m15, .int m16, .int m17, .int m18, .int m19, .int m20, .ref ye, .int m22, .int m23, .ref yx])), (ys, .inl (cI, 1201, .inl sI)), (yf, .inl (cI, 6, .inl ff))] H := hP
  have hD : va_D A [(h, .inr (11, [.ref ys, .ref yk, .ref yt, .int m3, .ref yf, .ref yb, .ref yz, .ref yn, .ref yc, .int m9, .ref yp, .ref yw, .int m12, .int m13, .int m14, .int m15, .int m16, .int m17, .int m18, .int m19, .int m20, .ref ye, .int m22, .int m23, .ref yx])), (ys, .inl (cI, 1201, .inl sI)), (yf, .inl (cI, 6, .inl ff))] := hD
  rcases w_2 with ⟨hr_1, h_4, h_5⟩ | ⟨hr_1, h_6⟩
  · have h_4 : 0 ≤ a.toInt := h_4
    have h_5 : a.toInt ≤ 3 := h_5
    obtain rfl : r_1 = 1 := hr_1.trans (by decide)
    refine b_if_eq hx hb zl_1 (tgt := 34) dX11_slip_4 (by decide) (fun c_7 => by exfalso; omega) (fun c_7 => ?_)
    refine lv_aload_n hx hb dX11_slip_7 rfl (lv_at hl 0 rfl) ?_
    refine lv_iload_n hx hb dX11_slip_8 rfl (lv_at hl 2 rfl) ?_
    refine kJi (wr := [(yf, .inl (cI, 6, .inl ff))]) (va_runV (As := [.int b]) (rest := []) ⟨hx, hb, hml, hown, hT⟩ (c_X11_isWork l D cI h ys yk yt yf yb yz yn yc yp yw ye yx H.size m3 m9 m12 m13 m14 m15 m16 m17 m18 m19 m20 m22 m23 sI b (by decide +kernel)) (cwV 1 hT (gV_in mw_1272 mw_1269 mw_1271 mw_p3_11 mw_12) rfl rfl rfl (by decide +kernel) ⟨Nat.le_of_ble_eq_true rfl, Nat.le_of_ble_eq_true rfl⟩) (kRecv (own := "") (q0 := 0) (ci := 11) hK hP hD hN rfl rfl [0, 1] rfl (by decide)) rfl rfl hl.1 rfl (lv_room (Nat.le_of_ble_eq_true rfl)) dX11_slip_9 ⟨Nat.le_of_ble_eq_true rfl, Nat.le_of_ble_eq_true rfl⟩) hP hD hS hA [0, 1] [2] rfl rfl (by decide) (by decide) (fun r_8 u_10 H locs w_9 hP hD hS => ?_)
    have hP : va_P D vwCl [(yf, .inl (cI, 6, .inl ff)), (h, .inr (11, [.ref ys, .ref yk, .ref yt, .int m3, .ref yf, .ref yb, .ref yz, .ref yn, .ref yc, .int m9, .ref yp, .ref yw, .int m12, .int m13, .int m14, .int m15, .int m16, .int m17, .int m18, .int m19, .int m20, .ref ye, .int m22, .int m23, .ref yx])), (ys, .inl (cI, 1201, .inl sI))] H := hP
    have hD : va_D A [(yf, .inl (cI, 6, .inl ff)), (h, .inr (11, [.ref ys, .ref yk, .ref yt, .int m3, .ref yf, .ref yb, .ref yz, .ref yn, .ref yc, .int m9, .ref yp, .ref yw, .int m12, .int m13, .int m14, .int m15, .int m16, .int m17, .int m18, .int m19, .int m20, .ref ye, .int m22, .int m23, .ref yx])), (ys, .inl (cI, 1201, .inl sI))] := hD
    have hr_8 := w_9
    obtain rfl : r_8 = 0 := hr_8.trans (by decide)
    refine b_if_eq hx hb zl_0 (tgt := 34) dX11_slip_12 (by decide) (fun c_11 => ?_) (fun c_11 => by exfalso; omega)
    refine lv_aload_n hx hb dX11_slip_34 rfl (lv_at hl 0 rfl) ?_
    refine lv_ldc (v := (-1000001)) hx hb hown (hT _ mw_1239) dX11_slip_35 ?_
    refine kJi (wr := [(ys, .inl (cI, 1201, .inl sI))]) (va_runV (As := [.int (-1000001)]) (rest := []) ⟨hx, hb, hml, hown, hT⟩ (c_X11_finding l D cI h ys yk yt yf yb yz yn yc yp yw ye yx H.size m3 m9 m12 m13 m14 m15 m16 m17 m18 m19 m20 m22 m23 ff (-1000001) (by first | omega | (simp only [zl_m1000001] <;> omega) | decide | assumption | rfl) (by first | omega | (simp only [zl_m1000001] <;> omega) | decide | assumption | rfl)) (cwV 1 hT (gV_in mw_1243 mw_1240 mw_1242 mw_p3_8 mw_12) rfl rfl rfl (by decide +kernel) ⟨Nat.le_of_ble_eq_true rfl, Nat.le_of_ble_eq_true rfl⟩) (kRecv (own := "") (q0 := 1) (ci := 11) hK hP hD hN rfl rfl [1, 0] rfl (by decide)) rfl rfl hl.1 rfl (lv_room (Nat.le_of_ble_eq_true rfl)) dX11_slip_37 ⟨Nat.le_of_ble_eq_true rfl, Nat.le_of_ble_eq_true rfl⟩) hP hD hS hA [1, 0] [2] rfl rfl (by decide) (by decide) (fun r_12 u_14 H locs w_13 hP hD hS => ?_)
    have hP : va_P D vwCl [(ys, .inl (cI, 1201, .inl sI))] H := hP
    have hD : va_D A [(ys, .inl (cI, 1201, .inl sI))] := hD
    have hr_12 := w_13
    obtain rfl : r_12 = (-1000001) := hr_12.trans (by decide)
    exact hRet () [] rfl hP hD (by decide) rfl hS rfl dX11_slip_40
  · have h_6 : a.toInt < 0 ∨ 3 < a.toInt := h_6
    obtain rfl : r_1 = 0 := hr_1.trans (by decide)
    refine b_if_eq hx hb zl_0 (tgt := 34) dX11_slip_4 (by decide) (fun c_15 => ?_) (fun c_15 => by exfalso; omega)
    refine lv_aload_n hx hb dX11_slip_34 rfl (lv_at hl 0 rfl) ?_
    refine lv_ldc (v := (-1000001)) hx hb hown (hT _ mw_1239) dX11_slip_35 ?_
    refine kJi (wr := [(ys, .inl (cI, 1201, .inl sI))]) (va_runV (As := [.int (-1000001)]) (rest := []) ⟨hx, hb, hml, hown, hT⟩ (c_X11_finding l D cI h ys yk yt yf yb yz yn yc yp yw ye yx H.size m3 m9 m12 m13 m14 m15 m16 m17 m18 m19 m20 m22 m23 ff (-1000001) (by first | omega | (simp only [zl_m1000001] <;> omega) | decide | assumption | rfl) (by first | omega | (simp only [zl_m1000001] <;> omega) | decide | assumption | rfl)) (cwV 1 hT (gV_in mw_1243 mw_1240 mw_1242 mw_p3_8 mw_12) rfl rfl rfl (by decide +kernel) ⟨Nat.le_of_ble_eq_true rfl, Nat.le_of_ble_eq_true rfl⟩) (kRecv (own := "") (q0 := 0) (ci := 11) hK hP hD hN rfl rfl [0, 2] rfl (by decide)) rfl rfl hl.1 rfl (lv_room (Nat.le_of_ble_eq_true rfl)) dX11_slip_37 ⟨Nat.le_of_ble_eq_true rfl, Nat.le_of_ble_eq_true rfl⟩) hP hD hS hA [0, 2] [1] rfl rfl (by decide) (by decide) (fun r_16 u_18 H locs w_17 hP hD hS => ?_)
    have hP : va_P D vwCl [(ys, .inl (cI, 1201, .inl sI))] H := hP
    have hD : va_D A [(ys, .inl (cI, 1201, .inl sI))] := hD
    have hr_16 := w_17
    obtain rfl : r_16 = (-1000001) := hr_16.trans (by decide)
    exact hRet () [] rfl hP hD (by decide) rfl hS rfl dX11_slip_40
set_option maxHeartbeats 4000000 in
set_option maxRecDepth 100000 in
theorem c_X11_load (l : Launch) (D : va_G) (cI : ClassId) (h ys yk yt yf yb yz yn yc yp yw ye yx : Nat) (sz : Nat) (m3 : Int32) (m9 : Int32) (m12 : Int32) (m13 : Int32) (m14 : Int32) (m15 : Int32) (m16 : Int32) (m17 : Int32) (m18 : Int32) (m19 : Int32) (m20 : Int32) (m22 : Int32) (m23 : Int32) (ff : Nat → Int32) (a : Int32) (b : Int32) (d : Int32) : Met l yX11_load (gW yX11_load cX11_load 4 (some .int)) ({ frames := 2, cells := 0, slots := 0, locals := 43 } : Room) (kPre D cI [.ref h, .int a, .int b, .int d] [(h, .inr (11, [.ref ys, .ref yk, .ref yt, .int m3, .ref yf, .ref yb, .ref yz, .ref yn, .ref yc, .int m9, .ref yp, .ref yw, .int m12, .int m13, .int m14, .int m15, .int m16, .int m17, .int m18, .int m19, .int m20, .ref ye, .int m22, .int m23, .ref yx])), (ys, .inl (cI, 1201, .inl sI)), (yf, .inl (cI, 6, .inl ff))] sz) (va_Qi (fun (r : Int32) (u : Unit) => r = (-1000001)) (fun u t => kWd D cI (va_A [(h, .inr (11, [.ref ys, .ref yk, .ref yt, .int m3, .ref yf, .ref yb, .ref yz, .ref yn, .ref yc, .int m9, .ref yp, .ref yw, .int m12, .int m13, .int m14, .int m15, .int m16, .int m17, .int m18, .int m19, .int m20, .ref ye, .int m22, .int m23, .ref yx])), (ys, .inl (cI, 1201, .inl sI)), (yf, .inl (cI, 6, .inl ff))] sz) [] t) (va_A [(h, .inr (11, [.ref ys, .ref yk, .ref yt, .int m3, .ref yf, .ref yb, .ref yz, .ref yn, .ref yc, .int m9, .ref yp, .ref yw, .int m12, .int m13, .int m14, .int m15, .int m16, .int m17, .int m18, .int m19, .int m20, .ref ye, .int m22, .int m23, .ref yx])), (ys, .inl (cI, 1201, .inl sI)), (yf, .inl (cI, 6, .inl ff))] sz)) 0 0 (va_A [(h, .inr (11, [.ref ys, .ref yk, .ref yt, .int m3, .ref yf, .ref yb, .ref yz, .ref yn, .ref yc, .int m9, .ref yp, .ref yw, .int m12, .int m13, .int m14, .int m15, .int m16, .int m17, .int m18, .int m19, .int m20, .ref ye, .int m22, .int m23, .ref yx])), (ys, .inl (cI, 1201, .inl sI)), (yf, .inl (cI, 6, .inl ff))] sz) := by
  refine kMetI (own := RX11) (by decide) rfl (Nat.le_of_ble_eq_true rfl) ?_
  intro p e s m args below meth c hx hb hT hown hname hml A Q hK hP hD hS hA hN hRet ls hl
  have hl : lv_has ls 4 [(0, .ref h), (1, .int a), (2, .int b), (3, .int d)] := hl
  have lo_a := k_lo a
  have hi_a := k_hi a
  have lo_b := k_lo b
  have hi_b := k_hi b
  have lo_d := k_lo d
  have hi_d := k_hi d
  have lo_m3 := k_lo m3
  have hi_m3 := k_hi m3
  have lo_m9 := k_lo m9
  have hi_m9 := k_hi m9
  have lo_m12 := k_lo m12
  have hi_m12 := k_hi m12
  have lo_m13 := k_lo m13
  have hi_m13 := k_hi m13
  have lo_m14 := k_lo m14
  have hi_m14 := k_hi m14
  have lo_m15 := k_lo m15
  have hi_m15 := k_hi m15
  have lo_m16 := k_lo m16
  have hi_m16 := k_hi m16
  have lo_m17 := k_lo m17
  have hi_m17 := k_hi m17
  have lo_m18 := k_lo m18
  have hi_m18 := k_hi m18
  have lo_m19 := k_lo m19
  have hi_m19 := k_hi m19
  have lo_m20 := k_lo m20
  have hi_m20 := k_hi m20
  have lo_m22 := k_lo m22
  have hi_m22 := k_hi m22
  have lo_m23 := k_lo m23
  have hi_m23 := k_hi m23
  refine lv_aload_n hx hb dX11_load_0 rfl (lv_at hl 0 rfl) ?_
  refine lv_iload_n hx hb dX11_load_1 rfl (lv_at hl 1 rfl) ?_
  refine kJi (wr := [(yf, .inl (cI, 6, .inl ff))]) (va_runV (As := [.int a]) (rest := []) ⟨hx, hb, hml, hown, hT⟩ (c_X11_isParty l D cI h ys yk yt yf yb yz yn yc yp yw ye yx s.heap.size m3 m9 m12 m13 m14 m15 m16 m17 m18 m19 m20 m22 m23 sI a (by decide +kernel)) (cwV 1 hT (gV_in mw_1412 mw_1409 mw_1411 mw_p5_4 mw_12) rfl rfl rfl (by decide +kernel) ⟨Nat.le_of_ble_eq_true rfl, Nat.le_of_ble_eq_true rfl⟩) (kRecv (own := "") (q0 := 0) (ci := 11) hK hP hD hN rfl rfl [0, 1] rfl (by decide)) rfl rfl hl.1 rfl (lv_room (Nat.le_of_ble_eq_true rfl)) dX11_load_2 ⟨Nat.le_of_ble_eq_true rfl, Nat.le_of_ble_eq_true rfl⟩) hP hD hS hA [0, 1] [2] rfl rfl (by decide) (by decide) (fun r_1 u_3 H locs w_2 hP hD hS => ?_)
  have hP : va_P D vwCl [(yf, .inl (cI, 6, .inl ff)), (h, .inr (11, [.ref ys, .ref yk, .ref yt, .int m3, .ref yf, .ref yb, .ref yz, .ref yn, .ref yc, .int m9, .ref yp, .ref yw, .int m12, .int m13, .int m14, .int m15, .int m16, .int m17, .int m18, .int m19, .int m20, .ref ye, .int m22, .int m23, .ref yx])), (ys, .inl (cI, 1201, .inl sI))] H := hP
  have hD : va_D A [(yf, .inl (cI, 6, .inl ff)), (h, .inr (11, [.ref ys, .ref yk, .ref yt, .int m3, .ref yf, .ref yb, .ref yz, .ref yn, .ref yc, .int m9, .ref yp, .ref yw, .int m12, .int m13, .int m14, .int m15, .int m16, .int m17, .int m18, .int m19, .int m20, .ref ye, .int m22, .int m23, .ref yx])), (ys, .inl (cI, 1201, .inl sI))] := hD
  have hr_1 := w_2
  obtain rfl : r_1 = 0 := hr_1.trans (by decide)
  refine b_if_eq hx hb zl_0 (tgt := 21) dX11_load_5 (by decide) (fun c_4 => ?_) (fun c_4 => by exfalso; omega)
  refine lv_aload_n hx hb dX11_load_21 rfl (lv_at hl 0 rfl) ?_
  refine lv_ldc (v := (-1000001)) hx hb hown (hT _ mw_1239) dX11_load_22 ?_
  refine kJi (wr := [(ys, .inl (cI, 1201, .inl sI))]) (va_runV (As := [.int (-1000001)]) (rest := []) ⟨hx, hb, hml, hown, hT⟩ (c_X11_finding l D cI h ys yk yt yf yb yz yn yc yp yw ye yx H.size m3 m9 m12 m13 m14 m15 m16 m17 m18 m19 m20 m22 m23 ff (-1000001) (by first | omega | (simp only [zl_m1000001] <;> omega) | decide | assumption | rfl) (by first | omega | (simp only [zl_m1000001] <;> omega) | decide | assumption | rfl)) (cwV 1 hT (gV_in mw_1243 mw_1240 mw_1242 mw_p3_8 mw_12) rfl rfl rfl (by decide +kernel) ⟨Nat.le_of_ble_eq_true rfl, Nat.le_of_ble_eq_true rfl⟩) (kRecv (own := "") (q0 := 1) (ci := 11) hK hP hD hN rfl rfl [1, 0] rfl (by decide)) rfl rfl hl.1 rfl (lv_room (Nat.le_of_ble_eq_true rfl)) dX11_load_24 ⟨Nat.le_of_ble_eq_true rfl, Nat.le_of_ble_eq_true rfl⟩) hP hD hS hA [1, 0] [2] rfl rfl (by decide) (by decide) (fun r_5 u_7 H locs w_6 hP hD hS => ?_)
  have hP : va_P D vwCl [(ys, .inl (cI, 1201, .inl sI))] H := hP
  have hD : va_D A [(ys, .inl (cI, 1201, .inl sI))] := hD
  have hr_5 := w_6
  obtain rfl : r_5 = (-1000001) := hr_5.trans (by decide)
  exact hRet () [] rfl hP hD (by decide) rfl hS rfl dX11_load_27
set_option maxHeartbeats 4000000 in
set_option maxRecDepth 100000 in
theorem c_X11_rest (l : Launch) (D : va_G) (cI : ClassId) (h ys yk yt yf yb yz yn yc yp yw ye yx : Nat) (sz : Nat) (m3 : Int32) (m9 : Int32) (m12 : Int32) (m13 : Int32) (m14 : Int32) (m15 : Int32) (m16 : Int32) (m17 : Int32) (m18 : Int32) (m19 : Int32) (m20 : Int32) (m22 : Int32) (m23 : Int32) (ff : Nat → Int32) (a : Int32) (b : Int32) : Met l yX11_rest (gW yX11_rest cX11_rest 5 (some .int)) ({ frames := 2, cells := 0, slots := 0, locals := 43 } : Room) (kPre D cI [.ref h, .int a, .int b] [(h, .inr (11, [.ref ys, .ref yk, .ref yt, .int m3, .ref yf, .ref yb, .ref yz, .ref yn, .ref yc, .int m9, .ref yp, .ref yw, .int m12, .int m13, .int m14, .int m15, .int m16, .int m17, .int m18, .int m19, .int m20, .ref ye, .int m22, .int m23, .ref yx])), (ys, .inl (cI, 1201, .inl sI)), (yf, .inl (cI, 6, .inl ff))] sz) (va_Qi (fun (r : Int32) (u : Unit) => r = (-1000001)) (fun u t => kWd D cI (va_A [(h, .inr (11, [.ref ys, .ref yk, .ref yt, .int m3, .ref yf, .ref yb, .ref yz, .ref yn, .ref yc, .int m9, .ref yp, .ref yw, .int m12, .int m13, .int m14, .int m15, .int m16, .int m17, .int m18, .int m19, .int m20, .ref ye, .int m22, .int m23, .ref yx])), (ys, .inl (cI, 1201, .inl sI)), (yf, .inl (cI, 6, .inl ff))] sz) [] t) (va_A [(h, .inr (11, [.ref ys, .ref yk, .ref yt, .int m3, .ref yf, .ref yb, .ref yz, .ref yn, .ref yc, .int m9, .ref yp, .ref yw, .int m12, .int m13, .int m14, .int m15, .int m16, .int m17, .int m18, .int m19, .int m20, .ref ye, .int m22, .int m23, .ref yx])), (ys, .inl (cI, 1201, .inl sI)), (yf, .inl (cI, 6, .inl ff))] sz)) 0 0 (va_A [(h, .inr (11, [.ref ys, .ref yk, .ref yt, .int m3, .ref yf, .ref yb, .ref yz, .ref yn, .ref yc, .int m9, .ref yp, .ref yw, .int m12, .int m13, .int m14, .int m15, .int m16, .int m17, .int m18, .int m19, .int m20, .ref ye, .int m22, .int m23, .ref yx])), (ys, .inl (cI, 1201, .inl sI)), (yf, .inl (cI, 6, .inl ff))] sz) := by
  refine kMetI (own := RX11) (by decide) rfl (Nat.le_of_ble_eq_true rfl) ?_
  intro p e s m args below meth c hx hb hT hown hname hml A Q hK hP hD hS hA hN hRet ls hl
  have hl : lv_has ls 5 [(0, .ref h), (1, .int a), (2, .int b)] := hl
  have lo_a := k_lo a
  have hi_a := k_hi a
  have lo_b := k_lo b
  have hi_b := k_hi b
  have lo_m3 := k_lo m3
  have hi_m3 := k_hi m3
  have lo_m9 := k_lo m9
  have hi_m9 := k_hi m9
  have lo_m12 := k_lo m12
  have hi_m12 := k_hi m12
  have lo_m13 := k_lo m13
  have hi_m13 := k_hi m13
  have lo_m14 := k_lo m14
  have hi_m14 := k_hi m14
  have lo_m15 := k_lo m15
  have hi_m15 := k_hi m15
  have lo_m16 := k_lo m16
  have hi_m16 := k_hi m16
  have lo_m17 := k_lo m17
  have hi_m17 := k_hi m17
  have lo_m18 := k_lo m18
  have hi_m18 := k_hi m18
  have lo_m19 := k_lo m19
  have hi_m19 := k_hi m19
  have lo_m20 := k_lo m20
  have hi_m20 := k_hi m20
  have lo_m22 := k_lo m22
  have hi_m22 := k_hi m22
  have lo_m23 := k_lo m23
  have hi_m23 := k_hi m23
  refine lv_aload_n hx hb dX11_rest_0 rfl (lv_at hl 0 rfl) ?_
  refine lv_iload_n hx hb dX11_rest_1 rfl (lv_at hl 1 rfl) ?_
  refine kJi (wr := [(yf, .inl (cI, 6, .inl ff))]) (va_runV (As := [.int a]) (rest := []) ⟨hx, hb, hml, hown, hT⟩ (c_X11_isParty l D cI h ys yk yt yf yb yz yn yc yp yw ye yx s.heap.size m3 m9 m12 m13 m14 m15 m16 m17 m18 m19 m20 m22 m23 sI a (by decide +kernel)) (cwV 1 hT (gV_in mw_1412 mw_1409 mw_1411 mw_p5_4 mw_12) rfl rfl rfl (by decide +kernel) ⟨Nat.le_of_ble_eq_true rfl, Nat.le_of_ble_eq_true rfl⟩) (kRecv (own := "") (q0 := 0) (ci := 11) hK hP hD hN rfl rfl [0, 1] rfl (by decide)) rfl rfl hl.1 rfl (lv_room (Nat.le_of_ble_eq_true rfl)) dX11_rest_2 ⟨Nat.le_of_ble_eq_true rfl, Nat.le_of_ble_eq_true rfl⟩) hP hD hS hA [0, 1] [2] rfl rfl (by decide) (by decide) (fun r_1 u_3 H locs w_2 hP hD hS => ?_)
  have hP : va_P D vwCl [(yf, .inl (cI, 6, .inl ff)), (h, .inr (11, [.ref ys, .ref yk, .ref yt, .int m3, .ref yf, .ref yb, .ref yz, .ref yn, .ref yc, .int m9, .ref yp, .ref yw, .int m12, .int m13, .int m14, .int m15, .int m16, .int m17, .int m18, .int m19, .int m20, .ref ye, .int m22, .int m23, .ref yx])), (ys, .inl (cI, 1201, .inl sI))] H := hP
  have hD : va_D A [(yf, .inl (cI, 6, .inl ff)), (h, .inr (11, [.ref ys, .ref yk, .ref yt, .int m3, .ref yf, .ref yb, .ref yz, .ref yn, .ref yc, .int m9, .ref yp, .ref yw, .int m12, .int m13, .int m14, .int m15, .int m16, .int m17, .int m18, .int m19, .int m20, .ref ye, .int m22, .int m23, .ref yx])), (ys, .inl (cI, 1201, .inl sI))] := hD
  have hr_1 := w_2
  obtain rfl : r_1 = 0 := hr_1.trans (by decide)
  refine b_if_ne hx hb zl_0 (tgt := 15) dX11_rest_5 (by decide) (fun c_4 => by exfalso; omega) (fun c_4 => ?_)
  refine lv_aload_n hx hb dX11_rest_8 rfl (lv_at hl 0 rfl) ?_
  refine lv_ldc (v := (-1000001)) hx hb hown (hT _ mw_1239) dX11_rest_9 ?_
  refine kJi (wr := [(ys, .inl (cI, 1201, .inl sI))]) (va_runV (As := [.int (-1000001)]) (rest := []) ⟨hx, hb, hml, hown, hT⟩ (c_X11_finding l D cI h ys yk yt yf yb yz yn yc yp yw ye yx H.size m3 m9 m12 m13 m14 m15 m16 m17 m18 m19 m20 m22 m23 ff (-1000001) (by first | omega | (simp only [zl_m1000001] <;> omega) | decide | assumption | rfl) (by first | omega | (simp only [zl_m1000001] <;> omega) | decide | assumption | rfl)) (cwV 1 hT (gV_in mw_1243 mw_1240 mw_1242 mw_p3_8 mw_12) rfl rfl rfl (by decide +kernel) ⟨Nat.le_of_ble_eq_true rfl, Nat.le_of_ble_eq_true rfl⟩) (kRecv (own := "") (q0 := 1) (ci := 11) hK hP hD hN rfl rfl [1, 0] rfl (by decide)) rfl rfl hl.1 rfl (lv_room (Nat.le_of_ble_eq_true rfl)) dX11_rest_11 ⟨Nat.le_of_ble_eq_true rfl, Nat.le_of_ble_eq_true rfl⟩) hP hD hS hA [1, 0] [2] rfl rfl (by decide) (by decide) (fun r_5 u_7 H locs w_6 hP hD hS => ?_)
  have hP : va_P D vwCl [(ys, .inl (cI, 1201, .inl sI))] H := hP
  have hD : va_D A [(ys, .inl (cI, 1201, .inl sI))] := hD
  have hr_5 := w_6
  obtain rfl : r_5 = (-1000001) := hr_5.trans (by decide)
  exact hRet () [] rfl hP hD (by decide) rfl hS rfl dX11_rest_14
set_option maxHeartbeats 4000000 in
set_option maxRecDepth 100000 in
theorem c_X11_noMeeting (l : Launch) (D : va_G) (cI : ClassId) (h ys yk yt yf yb yz yn yc yp yw ye yx : Nat) (sz : Nat) (m3 : Int32) (m9 : Int32) (m12 : Int32) (m13 : Int32) (m14 : Int32) (m15 : Int32) (m16 : Int32) (m17 : Int32) (m18 : Int32) (m19 : Int32) (m20 : Int32) (m22 : Int32) (m23 : Int32) (a : Int32) (b : Int32) (d : Int32) (g : Int32) : Met l yX11_noMeeting (gW yX11_noMeeting cX11_noMeeting 7 (some .int)) ({ frames := 2, cells := 0, slots := 0, locals := 43 } : Room) (kPre D cI [.ref h, .int a, .int b, .int d, .int g] [(h, .inr (11, [.ref ys, .ref yk, .ref yt, .int m3, .ref yf, .ref yb, .ref yz, .ref yn, .ref yc, .int m9, .ref yp, .ref yw, .int m12, .int m13, .int m14, .int m15, .int m16, .int m17, .int m18, .int m19, .int m20, .ref ye, .int m22, .int m23, .ref yx])), (ys, .inl (cI, 1201, .inl sI))] sz) (va_Qi (fun (r : Int32) (u : Unit) => r = (-1000001)) (fun u t => kWd D cI (va_A [(h, .inr (11, [.ref ys, .ref yk, .ref yt, .int m3, .ref yf, .ref yb, .ref yz, .ref yn, .ref yc, .int m9, .ref yp, .ref yw, .int m12, .int m13, .int m14, .int m15, .int m16, .int m17, .int m18, .int m19, .int m20, .ref ye, .int m22, .int m23, .ref yx])), (ys, .inl (cI, 1201, .inl sI))] sz) [(h, .inr (11, [.ref ys, .ref yk, .ref yt, .int m3, .ref yf, .ref yb, .ref yz, .ref yn, .ref yc, .int m9, .ref yp, .ref yw, .int m12, .int m13, .int m14, .int m15, .int m16, .int m17, .int m18, .int m19, .int m20, .ref ye, .int m22, .int m23, .ref yx])), (ys, .inl (cI, 1201, .inl sI))] t) (va_A [(h, .inr (11, [.ref ys, .ref yk, .ref yt, .int m3, .ref yf, .ref yb, .ref yz, .ref yn, .ref yc, .int m9, .ref yp, .ref yw, .int m12, .int m13, .int m14, .int m15, .int m16, .int m17, .int m18, .int m19, .int m20, .ref ye, .int m22, .int m23, .ref yx])), (ys, .inl (cI, 1201, .inl sI))] sz)) 0 0 (va_A [(h, .inr (11, [.ref ys, .ref yk, .ref yt, .int m3, .ref yf, .ref yb, .ref yz, .ref yn, .ref yc, .int m9, .ref yp, .ref yw, .int m12, .int m13, .int m14, .int m15, .int m16, .int m17, .int m18, .int m19, .int m20, .ref ye, .int m22, .int m23, .ref yx])), (ys, .inl (cI, 1201, .inl sI))] sz) := by
  refine kMetI (own := RX11) (by decide) rfl (Nat.le_of_ble_eq_true rfl) ?_
  intro p e s m args below meth c hx hb hT hown hname hml A Q hK hP hD hS hA hN hRet ls hl
  have hl : lv_has ls 7 [(0, .ref h), (1, .int a), (2, .int b), (3, .int d), (4, .int g)] := hl
  have lo_a := k_lo a
  have hi_a := k_hi a
  have lo_b := k_lo b
  have hi_b := k_hi b
  have lo_d := k_lo d
  have hi_d := k_hi d
  have lo_g := k_lo g
  have hi_g := k_hi g
  have lo_m3 := k_lo m3
  have hi_m3 := k_hi m3
  have lo_m9 := k_lo m9
  have hi_m9 := k_hi m9
  have lo_m12 := k_lo m12
  have hi_m12 := k_hi m12
  have lo_m13 := k_lo m13
  have hi_m13 := k_hi m13
  have lo_m14 := k_lo m14
  have hi_m14 := k_hi m14
  have lo_m15 := k_lo m15
  have hi_m15 := k_hi m15
  have lo_m16 := k_lo m16
  have hi_m16 := k_hi m16
  have lo_m17 := k_lo m17
  have hi_m17 := k_hi m17
  have lo_m18 := k_lo m18
  have hi_m18 := k_hi m18
  have lo_m19 := k_lo m19
  have hi_m19 := k_hi m19
  have lo_m20 := k_lo m20
  have hi_m20 := k_hi m20
  have lo_m22 := k_lo m22
  have hi_m22 := k_hi m22
  have lo_m23 := k_lo m23
  have hi_m23 := k_hi m23
  refine lv_aload_n hx hb dX11_noMeeting_0 rfl (lv_at hl 0 rfl) ?_
  refine lv_iload_n hx hb dX11_noMeeting_1 rfl (lv_at hl 1 rfl) ?_
  refine kJi (wr := []) (va_runV (As := [.int a]) (rest := []) ⟨hx, hb, hml, hown, hT⟩ (c_X11_isParty l D cI h ys yk yt yf yb yz yn yc yp yw ye yx s.heap.size m3 m9 m12 m13 m14 m15 m16 m17 m18 m19 m20 m22 m23 sI a (by decide +kernel)) (cwV 1 hT (gV_in mw_1412 mw_1409 mw_1411 mw_p5_4 mw_12) rfl rfl rfl (by decide +kernel) ⟨Nat.le_of_ble_eq_true rfl, Nat.le_of_ble_eq_true rfl⟩) (kRecv (own := "") (q0 := 0) (ci := 11) hK hP hD hN rfl rfl [0, 1] rfl (by decide)) rfl rfl hl.1 rfl (lv_room (Nat.le_of_ble_eq_true rfl)) dX11_noMeeting_2 ⟨Nat.le_of_ble_eq_true rfl, Nat.le_of_ble_eq_true rfl⟩) hP hD hS hA [0, 1] [] rfl rfl (by decide) (by decide) (fun r_1 u_3 H locs w_2 hP hD hS => ?_)
  have hP : va_P D vwCl [(h, .inr (11, [.ref ys, .ref yk, .ref yt, .int m3, .ref yf, .ref yb, .ref yz, .ref yn, .ref yc, .int m9, .ref yp, .ref yw, .int m12, .int m13, .int m14, .int m15, .int m16, .int m17, .int m18, .int m19, .int m20, .ref ye, .int m22, .int m23, .ref yx])), (ys, .inl (cI, 1201, .inl sI))] H := hP
  have hD : va_D A [(h, .inr (11, [.ref ys, .ref yk, .ref yt, .int m3, .ref yf, .ref yb, .ref yz, .ref yn, .ref yc, .int m9, .ref yp, .ref yw, .int m12, .int m13, .int m14, .int m15, .int m16, .int m17, .int m18, .int m19, .int m20, .ref ye, .int m22, .int m23, .ref yx])), (ys, .inl (cI, 1201, .inl sI))] := hD
  have hr_1 := w_2
  obtain rfl : r_1 = 0 := hr_1.trans (by decide)
  refine b_if_eq hx hb zl_0 (tgt := 28) dX11_noMeeting_5 (by decide) (fun c_4 => ?_) (fun c_4 => by exfalso; omega)
  refine lv_ldc (v := (-1000001)) hx hb hown (hT _ mw_1239) dX11_noMeeting_28 ?_
  exact hRet () [0, 1] rfl hP hD (by decide) rfl hS rfl dX11_noMeeting_30
set_option maxHeartbeats 4000000 in
set_option maxRecDepth 100000 in
theorem c_X11_meeting (l : Launch) (D : va_G) (cI : ClassId) (h ys yk yt yf yb yz yn yc yp yw ye yx : Nat) (sz : Nat) (m3 : Int32) (m9 : Int32) (m12 : Int32) (m13 : Int32) (m14 : Int32) (m15 : Int32) (m16 : Int32) (m17 : Int32) (m18 : Int32) (m19 : Int32) (m20 : Int32) (m22 : Int32) (m23 : Int32) (ff : Nat → Int32) (a : Int32) (b : Int32) (d : Int32) (g : Int32) : Met l yX11_meeting (gW yX11_meeting cX11_meeting 10 (some .int)) ({ frames := 3, cells := 0, slots := 0, locals := 69 } : Room) (kPre D cI [.ref h, .int a, .int b, .int d, .int g] [(h, .inr (11, [.ref ys, .ref yk, .ref yt, .int m3, .ref yf, .ref yb, .ref yz, .ref yn, .ref yc, .int m9, .ref yp, .ref yw, .int m12, .int m13, .int m14, .int m15, .int m16, .int m17, .int m18, .int m19, .int m20, .ref ye, .int m22, .int m23, .ref yx])), (ys, .inl (cI, 1201, .inl sI)), (yf, .inl (cI, 6, .inl ff))] sz) (va_Qi (fun (r : Int32) (u : Unit) => r = (-1000001)) (fun u t => kWd D cI (va_A [(h, .inr (11, [.ref ys, .ref yk, .ref yt, .int m3, .ref yf, .ref yb, .ref yz, .ref yn, .ref yc, .int m9, .ref yp, .ref yw, .int m12, .int m13, .int m14, .int m15, .int m16, .int m17, .int m18, .int m19, .int m20, .ref ye, .int m22, .int m23, .ref yx])), (ys, .inl (cI, 1201, .inl sI)), (yf, .inl (cI, 6, .inl ff))] sz) [] t) (va_A [(h, .inr (11, [.ref ys, .ref yk, .ref yt, .int m3, .ref yf, .ref yb, .ref yz, .ref yn, .ref yc, .int m9, .ref yp, .ref yw, .int m12, .int m13, .int m14, .int m15, .int m16, .int m17, .int m18, .int m19, .int m20, .ref ye, .int m22, .int m23, .ref yx])), (ys, .inl (cI, 1201, .inl sI)), (yf, .inl (cI, 6, .inl ff))] sz)) 0 0 (va_A [(h, .inr (11, [.ref ys, .ref yk, .ref yt, .int m3, .ref yf, .ref yb, .ref yz, .ref yn, .ref yc, .int m9, .ref yp, .ref yw, .int m12, .int m13, .int m14, .int m15, .int m16, .int m17, .int m18, .int m19, .int m20, .ref ye, .int m22, .int m23, .ref yx])), (ys, .inl (cI, 1201, .inl sI)), (yf, .inl (cI, 6, .inl ff))] sz) := by
  refine kMetI (own := RX11) (by decide) rfl (Nat.le_of_ble_eq_true rfl) ?_
  intro p e s m args below meth c hx hb hT hown hname hml A Q hK hP hD hS hA hN hRet ls hl
  have hl : lv_has ls 10 [(0, .ref h), (1, .int a), (2, .int b), (3, .int d), (4, .int g)] := hl
  have lo_a := k_lo a
  have hi_a := k_hi a
  have lo_b := k_lo b
  have hi_b := k_hi b
  have lo_d := k_lo d
  have hi_d := k_hi d
  have lo_g := k_lo g
  have hi_g := k_hi g
  have lo_m3 := k_lo m3
  have hi_m3 := k_hi m3
  have lo_m9 := k_lo m9
  have hi_m9 := k_hi m9
  have lo_m12 := k_lo m12
  have hi_m12 := k_hi m12
  have lo_m13 := k_lo m13
  have hi_m13 := k_hi m13
  have lo_m14 := k_lo m14
  have hi_m14 := k_hi m14
  have lo_m15 := k_lo m15
  have hi_m15 := k_hi m15
  have lo_m16 := k_lo m16
  have hi_m16 := k_hi m16
  have lo_m17 := k_lo m17
  have hi_m17 := k_hi m17
  have lo_m18 := k_lo m18
  have hi_m18 := k_hi m18
  have lo_m19 := k_lo m19
  have hi_m19 := k_hi m19
  have lo_m20 := k_lo m20
  have hi_m20 := k_hi m20
  have lo_m22 := k_lo m22
  have hi_m22 := k_hi m22
  have lo_m23 := k_lo m23
  have hi_m23 := k_hi m23
  refine lv_aload_n hx hb dX11_meeting_0 rfl (lv_at hl 0 rfl) ?_
  refine lv_iload_n hx hb dX11_meeting_1 rfl (lv_at hl 1 rfl) ?_
  refine lv_iload_n hx hb dX11_meeting_2 rfl (lv_at hl 2 rfl) ?_
  refine lv_iload_n hx hb dX11_meeting_3 rfl (lv_at hl 3 rfl) ?_
  refine lv_iload hx hb dX11_meeting_4 (lv_at hl 4 rfl) ?_
  refine lv_iconst (v := 0) hx hb dX11_meeting_6 (by decide) ?_
  refine lv_iconst (v := 1) hx hb dX11_meeting_7 (by decide) ?_
  refine kJi (wr := [(h, .inr (11, [.ref ys, .ref yk, .ref yt, .int m3, .ref yf, .ref yb, .ref yz, .ref yn, .ref yc, .int m9, .ref yp, .ref yw, .int m12, .int m13, .int m14, .int m15, .int m16, .int m17, .int m18, .int m19, .int m20, .ref ye, .int m22, .int m23, .ref yx])), (ys, .inl (cI, 1201, .inl sI)), (yf, .inl (cI, 6, .inl ff))]) (va_runS (As := [.int g, .int 0, .int 1]) (rest := [.int d, .int b, .int a, .ref h]) ⟨hx, hb, hml, hown, hT⟩ (c_X11_in l D cI s.heap.size g 0 1) (cwS 3 hT (gS_in mw_1238 mw_1236 mw_1237 mw_12) rfl rfl rfl (by decide +kernel) ⟨Nat.le_of_ble_eq_true rfl, Nat.le_of_ble_eq_true rfl⟩) (kStat hK hP hD hN [] rfl (by decide)) rfl rfl hl.1 rfl (lv_room (Nat.le_of_ble_eq_true rfl)) dX11_meeting_8 ⟨Nat.le_of_ble_eq_true rfl, Nat.le_of_ble_eq_true rfl⟩) hP hD hS hA [] [0, 1, 2] rfl rfl (by decide) (by decide) (fun r_1 u_3 H locs w_2 hP hD hS => ?_)
  have hP : va_P D vwCl [(h, .inr (11, [.ref ys, .ref yk, .ref yt, .int m3, .ref yf, .ref yb, .ref yz, .ref yn, .ref yc, .int m9, .ref yp, .ref yw, .int m12, .int m13, .int m14, .int m15, .int m16, .int m17, .int m18, .int m19, .int m20, .ref ye, .int m22, .int m23, .ref yx])), (ys, .inl (cI, 1201, .inl sI)), (yf, .inl (cI, 6, .inl ff))] H := hP
  have hD : va_D A [(h, .inr (11, [.ref ys, .ref yk, .ref yt, .int m3, .ref yf, .ref yb, .ref yz, .ref yn, .ref yc, .int m9, .ref yp, .ref yw, .int m12, .int m13, .int m14, .int m15, .int m16, .int m17, .int m18, .int m19, .int m20, .ref ye, .int m22, .int m23, .ref yx])), (ys, .inl (cI, 1201, .inl sI)), (yf, .inl (cI, 6, .inl ff))] := hD
  rcases w_2 with ⟨hr_1, h_4, h_5⟩ | ⟨hr_1, h_6⟩
  · try simp only [zl_0, zl_1] at h_4
    have h_4 : 0 ≤ g.toInt := h_4
    try simp only [zl_0, zl_1] at h_5
    have h_5 : g.toInt ≤ 1 := h_5
    obtain rfl : r_1 = 1 := hr_1.trans (by decide)
    refine kJi (wr := [(yf, .inl (cI, 6, .inl ff))]) (va_runV (As := [.int a, .int b, .int d, .int 1]) (rest := []) ⟨hx, hb, hml, hown, hT⟩ (c_X11_noMeeting l D cI h ys yk yt yf yb yz yn yc yp yw ye yx H.size m3 m9 m12 m13 m14 m15 m16 m17 m18 m19 m20 m22 m23 a b d 1) (cwV 4 hT (gV_in mw_1515 mw_1512 mw_1514 mw_p5_12 mw_12) rfl rfl rfl (by decide +kernel) ⟨Nat.le_of_ble_eq_true rfl, Nat.le_of_ble_eq_true rfl⟩) (kRecv (own := "") (q0 := 0) (ci := 11) hK hP hD hN rfl rfl [0, 1] rfl (by decide)) rfl rfl hl.1 rfl (lv_room (Nat.le_of_ble_eq_true rfl)) dX11_meeting_11 ⟨Nat.le_of_ble_eq_true rfl, Nat.le_of_ble_eq_true rfl⟩) hP hD hS hA [0, 1] [2] rfl rfl (by decide) (by decide) (fun r_7 u_9 H locs w_8 hP hD hS => ?_)
    have hP : va_P D vwCl [(yf, .inl (cI, 6, .inl ff)), (h, .inr (11, [.ref ys, .ref yk, .ref yt, .int m3, .ref yf, .ref yb, .ref yz, .ref yn, .ref yc, .int m9, .ref yp, .ref yw, .int m12, .int m13, .int m14, .int m15, .int m16, .int m17, .int m18, .int m19, .int m20, .ref ye, .int m22, .int m23, .ref yx])), (ys, .inl (cI, 1201, .inl sI))] H := hP
    have hD : va_D A [(yf, .inl (cI, 6, .inl ff)), (h, .inr (11, [.ref ys, .ref yk, .ref yt, .int m3, .ref yf, .ref yb, .ref yz, .ref yn, .ref yc, .int m9, .ref yp, .ref yw, .int m12, .int m13, .int m14, .int m15, .int m16, .int m17, .int m18, .int m19, .int m20, .ref ye, .int m22, .int m23, .ref yx])), (ys, .inl (cI, 1201, .inl sI))] := hD
    have hr_7 := w_8
    obtain rfl : r_7 = (-1000001) := hr_7.trans (by decide)
    refine lv_istore (lv' := [(5, .int (-1000001)), (0, .ref h), (1, .int a), (2, .int b), (3, .int d), (4, .int g)]) hx hb dX11_meeting_14 hl (by decide) rfl (fun ls hl => ?_)
    refine lv_iload hx hb dX11_meeting_16 (lv_at hl 0 rfl) ?_
    refine b_if_eq hx hb zl_m1000001 (tgt := 28) dX11_meeting_18 (by decide) (fun c_10 => by exfalso; omega) (fun c_10 => ?_)
    refine lv_aload_n hx hb dX11_meeting_21 rfl (lv_at hl 1 rfl) ?_
    refine lv_iload hx hb dX11_meeting_22 (lv_at hl 0 rfl) ?_
    refine kJi (wr := [(ys, .inl (cI, 1201, .inl sI))]) (va_runV (As := [.int (-1000001)]) (rest := []) ⟨hx, hb, hml, hown, hT⟩ (c_X11_finding l D cI h ys yk yt yf yb yz yn yc yp yw ye yx H.size m3 m9 m12 m13 m14 m15 m16 m17 m18 m19 m20 m22 m23 ff (-1000001) (by first | omega | (simp only [zl_m1000001] <;> omega) | decide | assumption | rfl) (by first | omega | (simp only [zl_m1000001] <;> omega) | decide | assumption | rfl)) (cwV 1 hT (gV_in mw_1243 mw_1240 mw_1242 mw_p3_8 mw_12) rfl rfl rfl (by decide +kernel) ⟨Nat.le_of_ble_eq_true rfl, Nat.le_of_ble_eq_true rfl⟩) (kRecv (own := "") (q0 := 1) (ci := 11) hK hP hD hN rfl rfl [1, 0] rfl (by decide)) rfl rfl hl.1 rfl (lv_room (Nat.le_of_ble_eq_true rfl)) dX11_meeting_24 ⟨Nat.le_of_ble_eq_true rfl, Nat.le_of_ble_eq_true rfl⟩) hP hD hS hA [1, 0] [2] rfl rfl (by decide) (by decide) (fun r_11 u_13 H locs w_12 hP hD hS => ?_)
    have hP : va_P D vwCl [(ys, .inl (cI, 1201, .inl sI))] H := hP
    have hD : va_D A [(ys, .inl (cI, 1201, .inl sI))] := hD
    have hr_11 := w_12
    obtain rfl : r_11 = (-1000001) := hr_11.trans (by decide)
    exact hRet () [] rfl hP hD (by decide) rfl hS rfl dX11_meeting_27
  · try simp only [zl_0, zl_1] at h_6
    have h_6 : g.toInt < 0 ∨ 1 < g.toInt := h_6
    obtain rfl : r_1 = 0 := hr_1.trans (by decide)
    refine kJi (wr := [(yf, .inl (cI, 6, .inl ff))]) (va_runV (As := [.int a, .int b, .int d, .int 0]) (rest := []) ⟨hx, hb, hml, hown, hT⟩ (c_X11_noMeeting l D cI h ys yk yt yf yb yz yn yc yp yw ye yx H.size m3 m9 m12 m13 m14 m15 m16 m17 m18 m19 m20 m22 m23 a b d 0) (cwV 4 hT (gV_in mw_1515 mw_1512 mw_1514 mw_p5_12 mw_12) rfl rfl rfl (by decide +kernel) ⟨Nat.le_of_ble_eq_true rfl, Nat.le_of_ble_eq_true rfl⟩) (kRecv (own := "") (q0 := 0) (ci := 11) hK hP hD hN rfl rfl [0, 1] rfl (by decide)) rfl rfl hl.1 rfl (lv_room (Nat.le_of_ble_eq_true rfl)) dX11_meeting_11 ⟨Nat.le_of_ble_eq_true rfl, Nat.le_of_ble_eq_true rfl⟩) hP hD hS hA [0, 1] [2] rfl rfl (by decide) (by decide) (fun r_14 u_16 H locs w_15 hP hD hS => ?_)
    have hP : va_P D vwCl [(yf, .inl (cI, 6, .inl ff)), (h, .inr (11, [.ref ys, .ref yk, .ref yt, .int m3, .ref yf, .ref yb, .ref yz, .ref yn, .ref yc, .int m9, .ref yp, .ref yw, .int m12, .int m13, .int m14, .int m15, .int m16, .int m17, .int m18, .int m19, .int m20, .ref ye, .int m22, .int m23, .ref yx])), (ys, .inl (cI, 1201, .inl sI))] H := hP
    have hD : va_D A [(yf, .inl (cI, 6, .inl ff)), (h, .inr (11, [.ref ys, .ref yk, .ref yt, .int m3, .ref yf, .ref yb, .ref yz, .ref yn, .ref yc, .int m9, .ref yp, .ref yw, .int m12, .int m13, .int m14, .int m15, .int m16, .int m17, .int m18, .int m19, .int m20, .ref ye, .int m22, .int m23, .ref yx])), (ys, .inl (cI, 1201, .inl sI))] := hD
    have hr_14 := w_15
    obtain rfl : r_14 = (-1000001) := hr_14.trans (by decide)
    refine lv_istore (lv' := [(5, .int (-1000001)), (0, .ref h), (1, .int a), (2, .int b), (3, .int d), (4, .int g)]) hx hb dX11_meeting_14 hl (by decide) rfl (fun ls hl => ?_)
    refine lv_iload hx hb dX11_meeting_16 (lv_at hl 0 rfl) ?_
    refine b_if_eq hx hb zl_m1000001 (tgt := 28) dX11_meeting_18 (by decide) (fun c_17 => by exfalso; omega) (fun c_17 => ?_)
    refine lv_aload_n hx hb dX11_meeting_21 rfl (lv_at hl 1 rfl) ?_
    refine lv_iload hx hb dX11_meeting_22 (lv_at hl 0 rfl) ?_
    refine kJi (wr := [(ys, .inl (cI, 1201, .inl sI))]) (va_runV (As := [.int (-1000001)]) (rest := []) ⟨hx, hb, hml, hown, hT⟩ (c_X11_finding l D cI h ys yk yt yf yb yz yn yc yp yw ye yx H.size m3 m9 m12 m13 m14 m15 m16 m17 m18 m19 m20 m22 m23 ff (-1000001) (by first | omega | (simp only [zl_m1000001] <;> omega) | decide | assumption | rfl) (by first | omega | (simp only [zl_m1000001] <;> omega) | decide | assumption | rfl)) (cwV 1 hT (gV_in mw_1243 mw_1240 mw_1242 mw_p3_8 mw_12) rfl rfl rfl (by decide +kernel) ⟨Nat.le_of_ble_eq_true rfl, Nat.le_of_ble_eq_true rfl⟩) (kRecv (own := "") (q0 := 1) (ci := 11) hK hP hD hN rfl rfl [1, 0] rfl (by decide)) rfl rfl hl.1 rfl (lv_room (Nat.le_of_ble_eq_true rfl)) dX11_meeting_24 ⟨Nat.le_of_ble_eq_true rfl, Nat.le_of_ble_eq_true rfl⟩) hP hD hS hA [1, 0] [2] rfl rfl (by decide) (by decide) (fun r_18 u_20 H locs w_19 hP hD hS => ?_)
    have hP : va_P D vwCl [(ys, .inl (cI, 1201, .inl sI))] H := hP
    have hD : va_D A [(ys, .inl (cI, 1201, .inl sI))] := hD
    have hr_18 := w_19
    obtain rfl : r_18 = (-1000001) := hr_18.trans (by decide)
    exact hRet () [] rfl hP hD (by decide) rfl hS rfl dX11_meeting_27
set_option maxHeartbeats 4000000 in
set_option maxRecDepth 100000 in
theorem c_X11_judge (l : Launch) (D : va_G) (cI : ClassId) (h ys yk yt yf yb yz yn yc yp yw ye yx : Nat) (sz : Nat) (m3 : Int32) (m9 : Int32) (m12 : Int32) (m13 : Int32) (m14 : Int32) (m15 : Int32) (m16 : Int32) (m17 : Int32) (m18 : Int32) (m19 : Int32) (m20 : Int32) (m22 : Int32) (m23 : Int32) (ff : Nat → Int32) (a : Int32) (b : Int32) (d : Int32) (g : Int32) (i0 : Int32) : Met l yX11_judge (gW yX11_judge cX11_judge 8 (some .int)) ({ frames := 3, cells := 0, slots := 0, locals := 69 } : Room) (kPre D cI [.ref h, .int a, .int b, .int d, .int g, .int i0] [(h, .inr (11, [.ref ys, .ref yk, .ref yt, .int m3, .ref yf, .ref yb, .ref yz, .ref yn, .ref yc, .int m9, .ref yp, .ref yw, .int m12, .int m13, .int m14, .int m15, .int m16, .int m17, .int m18, .int m19, .int m20, .ref ye, .int m22, .int m23, .ref yx])), (ys, .inl (cI, 1201, .inl sI)), (yf, .inl (cI, 6, .inl ff))] sz) (va_Qi (fun (r : Int32) (u : Unit) => r = (-1000001)) (fun u t => kWd D cI (va_A [(h, .inr (11, [.ref ys, .ref yk, .ref yt, .int m3, .ref yf, .ref yb, .ref yz, .ref yn, .ref yc, .int m9, .ref yp, .ref yw, .int m12, .int m13, .int m14, .int m15, .int m16, .int m17, .int m18, .int m19, .int m20, .ref ye, .int m22, .int m23, .ref yx])), (ys, .inl (cI, 1201, .inl sI)), (yf, .inl (cI, 6, .inl ff))] sz) [] t) (va_A [(h, .inr (11, [.ref ys, .ref yk, .ref yt, .int m3, .ref yf, .ref yb, .ref yz, .ref yn, .ref yc, .int m9, .ref yp, .ref yw, .int m12, .int m13, .int m14, .int m15, .int m16, .int m17, .int m18, .int m19, .int m20, .ref ye, .int m22, .int m23, .ref yx])), (ys, .inl (cI, 1201, .inl sI)), (yf, .inl (cI, 6, .inl ff))] sz)) 0 0 (va_A [(h, .inr (11, [.ref ys, .ref yk, .ref yt, .int m3, .ref yf, .ref yb, .ref yz, .ref yn, .ref yc, .int m9, .ref yp, .ref yw, .int m12, .int m13, .int m14, .int m15, .int m16, .int m17, .int m18, .int m19, .int m20, .ref ye, .int m22, .int m23, .ref yx])), (ys, .inl (cI, 1201, .inl sI)), (yf, .inl (cI, 6, .inl ff))] sz) := by
  refine kMetI (own := RX11) (by decide) rfl (Nat.le_of_ble_eq_true rfl) ?_
  intro p e s m args below meth c hx hb hT hown hname hml A Q hK hP hD hS hA hN hRet ls hl
  have hl : lv_has ls 8 [(0, .ref h), (1, .int a), (2, .int b), (3, .int d), (4, .int g), (5, .int i0)] := hl
  have lo_a := k_lo a
  have hi_a := k_hi a
  have lo_b := k_lo b
  have hi_b := k_hi b
  have lo_d := k_lo d
  have hi_d := k_hi d
  have lo_g := k_lo g
  have hi_g := k_hi g
  have lo_i0 := k_lo i0
  have hi_i0 := k_hi i0
  have lo_m3 := k_lo m3
  have hi_m3 := k_hi m3
  have lo_m9 := k_lo m9
  have hi_m9 := k_hi m9
  have lo_m12 := k_lo m12
  have hi_m12 := k_hi m12
  have lo_m13 := k_lo m13
  have hi_m13 := k_hi m13
  have lo_m14 := k_lo m14
  have hi_m14 := k_hi m14
  have lo_m15 := k_lo m15
  have hi_m15 := k_hi m15
  have lo_m16 := k_lo m16
  have hi_m16 := k_hi m16
  have lo_m17 := k_lo m17
  have hi_m17 := k_hi m17
  have lo_m18 := k_lo m18
  have hi_m18 := k_hi m18
  have lo_m19 := k_lo m19
  have hi_m19 := k_hi m19
  have lo_m20 := k_lo m20
  have hi_m20 := k_hi m20
  have lo_m22 := k_lo m22
  have hi_m22 := k_hi m22
  have lo_m23 := k_lo m23
  have hi_m23 := k_hi m23
  refine lv_aload_n hx hb dX11_judge_0 rfl (lv_at hl 0 rfl) ?_
  refine lv_iload_n hx hb dX11_judge_1 rfl (lv_at hl 1 rfl) ?_
  refine lv_iload_n hx hb dX11_judge_2 rfl (lv_at hl 2 rfl) ?_
  refine lv_iload_n hx hb dX11_judge_3 rfl (lv_at hl 3 rfl) ?_
  refine lv_iload hx hb dX11_judge_4 (lv_at hl 5 rfl) ?_
  refine lv_iconst (v := 0) hx hb dX11_judge_6 (by decide) ?_
  refine lv_sipush (v := 9999) hx hb dX11_judge_7 (by decide) ?_
  refine kJi (wr := [(h, .inr (11, [.ref ys, .ref yk, .ref yt, .int m3, .ref yf, .ref yb, .ref yz, .ref yn, .ref yc, .int m9, .ref yp, .ref yw, .int m12, .int m13, .int m14, .int m15, .int m16, .int m17, .int m18, .int m19, .int m20, .ref ye, .int m22, .int m23, .ref yx])), (ys, .inl (cI, 1201, .inl sI)), (yf, .inl (cI, 6, .inl ff))]) (va_runS (As := [.int i0, .int 0, .int 9999]) (rest := [.int d, .int b, .int a, .ref h]) ⟨hx, hb, hml, hown, hT⟩ (c_X11_in l D cI s.heap.size i0 0 9999) (cwS 3 hT (gS_in mw_1238 mw_1236 mw_1237 mw_12) rfl rfl rfl (by decide +kernel) ⟨Nat.le_of_ble_eq_true rfl, Nat.le_of_ble_eq_true rfl⟩) (kStat hK hP hD hN [] rfl (by decide)) rfl rfl hl.1 rfl (lv_room (Nat.le_of_ble_eq_true rfl)) dX11_judge_10 ⟨Nat.le_of_ble_eq_true rfl, Nat.le_of_ble_eq_true rfl⟩) hP hD hS hA [] [0, 1, 2] rfl rfl (by decide) (by decide) (fun r_1 u_3 H locs w_2 hP hD hS => ?_)
  have hP : va_P D vwCl [(h, .inr (11, [.ref ys, .ref yk, .ref yt, .int m3, .ref yf, .ref yb, .ref yz, .ref yn, .ref yc, .int m9, .ref yp, .ref yw, .int m12, .int m13, .int m14, .int m15, .int m16, .int m17, .int m18, .int m19, .int m20, .ref ye, .int m22, .int m23, .ref yx])), (ys, .inl (cI, 1201, .inl sI)), (yf, .inl (cI, 6, .inl ff))] H := hP
  have hD : va_D A [(h, .inr (11, [.ref ys, .ref yk, .ref yt, .int m3, .ref yf, .ref yb, .ref yz, .ref yn, .ref yc, .int m9, .ref yp, .ref yw, .int m12, .int m13, .int m14, .int m15, .int m16, .int m17, .int m18, .int m19, .int m20, .ref ye, .int m22, .int m23, .ref yx])), (ys, .inl (cI, 1201, .inl sI)), (yf, .inl (cI, 6, .inl ff))] := hD
  rcases w_2 with ⟨hr_1, h_4, h_5⟩ | ⟨hr_1, h_6⟩
  · try simp only [zl_0, zl_9999] at h_4
    have h_4 : 0 ≤ i0.toInt := h_4
    try simp only [zl_0, zl_9999] at h_5
    have h_5 : i0.toInt ≤ 9999 := h_5
    obtain rfl : r_1 = 1 := hr_1.trans (by decide)
    refine kJi (wr := [(yf, .inl (cI, 6, .inl ff))]) (va_runV (As := [.int a, .int b, .int d, .int 1]) (rest := []) ⟨hx, hb, hml, hown, hT⟩ (c_X11_noMeeting l D cI h ys yk yt yf yb yz yn yc yp yw ye yx H.size m3 m9 m12 m13 m14 m15 m16 m17 m18 m19 m20 m22 m23 a b d 1) (cwV 4 hT (gV_in mw_1515 mw_1512 mw_1514 mw_p5_12 mw_12) rfl rfl rfl (by decide +kernel) ⟨Nat.le_of_ble_eq_true rfl, Nat.le_of_ble_eq_true rfl⟩) (kRecv (own := "") (q0 := 0) (ci := 11) hK hP hD hN rfl rfl [0, 1] rfl (by decide)) rfl rfl hl.1 rfl (lv_room (Nat.le_of_ble_eq_true rfl)) dX11_judge_13 ⟨Nat.le_of_ble_eq_true rfl, Nat.le_of_ble_eq_true rfl⟩) hP hD hS hA [0, 1] [2] rfl rfl (by decide) (by decide) (fun r_7 u_9 H locs w_8 hP hD hS => ?_)
    have hP : va_P D vwCl [(yf, .inl (cI, 6, .inl ff)), (h, .inr (11, [.ref ys, .ref yk, .ref yt, .int m3, .ref yf, .ref yb, .ref yz, .ref yn, .ref yc, .int m9, .ref yp, .ref yw, .int m12, .int m13, .int m14, .int m15, .int m16, .int m17, .int m18, .int m19, .int m20, .ref ye, .int m22, .int m23, .ref yx])), (ys, .inl (cI, 1201, .inl sI))] H := hP
    have hD : va_D A [(yf, .inl (cI, 6, .inl ff)), (h, .inr (11, [.ref ys, .ref yk, .ref yt, .int m3, .ref yf, .ref yb, .ref yz, .ref yn, .ref yc, .int m9, .ref yp, .ref yw, .int m12, .int m13, .int m14, .int m15, .int m16, .int m17, .int m18, .int m19, .int m20, .ref ye, .int m22, .int m23, .ref yx])), (ys, .inl (cI, 1201, .inl sI))] := hD
    have hr_7 := w_8
    obtain rfl : r_7 = (-1000001) := hr_7.trans (by decide)
    refine lv_istore (lv' := [(6, .int (-1000001)), (0, .ref h), (1, .int a), (2, .int b), (3, .int d), (4, .int g), (5, .int i0)]) hx hb dX11_judge_16 hl (by decide) rfl (fun ls hl => ?_)
    refine lv_iload hx hb dX11_judge_18 (lv_at hl 0 rfl) ?_
    refine b_if_eq hx hb zl_m1000001 (tgt := 30) dX11_judge_20 (by decide) (fun c_10 => by exfalso; omega) (fun c_10 => ?_)
    refine lv_aload_n hx hb dX11_judge_23 rfl (lv_at hl 1 rfl) ?_
    refine lv_iload hx hb dX11_judge_24 (lv_at hl 0 rfl) ?_
    refine kJi (wr := [(ys, .inl (cI, 1201, .inl sI))]) (va_runV (As := [.int (-1000001)]) (rest := []) ⟨hx, hb, hml, hown, hT⟩ (c_X11_finding l D cI h ys yk yt yf yb yz yn yc yp yw ye yx H.size m3 m9 m12 m13 m14 m15 m16 m17 m18 m19 m20 m22 m23 ff (-1000001) (by first | omega | (simp only [zl_m1000001] <;> omega) | decide | assumption | rfl) (by first | omega | (simp only [zl_m1000001] <;> omega) | decide | assumption | rfl)) (cwV 1 hT (gV_in mw_1243 mw_1240 mw_1242 mw_p3_8 mw_12) rfl rfl rfl (by decide +kernel) ⟨Nat.le_of_ble_eq_true rfl, Nat.le_of_ble_eq_true rfl⟩) (kRecv (own := "") (q0 := 1) (ci := 11) hK hP hD hN rfl rfl [1, 0] rfl (by decide)) rfl rfl hl.1 rfl (lv_room (Nat.le_of_ble_eq_true rfl)) dX11_judge_26 ⟨Nat.le_of_ble_eq_true rfl, Nat.le_of_ble_eq_true rfl⟩) hP hD hS hA [1, 0] [2] rfl rfl (by decide) (by decide) (fun r_11 u_13 H locs w_12 hP hD hS => ?_)
    have hP : va_P D vwCl [(ys, .inl (cI, 1201, .inl sI))] H := hP
    have hD : va_D A [(ys, .inl (cI, 1201, .inl sI))] := hD
    have hr_11 := w_12
    obtain rfl : r_11 = (-1000001) := hr_11.trans (by decide)
    exact hRet () [] rfl hP hD (by decide) rfl hS rfl dX11_judge_29
  · try simp only [zl_0, zl_9999] at h_6
    have h_6 : i0.toInt < 0 ∨ 9999 < i0.toInt := h_6
    obtain rfl : r_1 = 0 := hr_1.trans (by decide)
    refine kJi (wr := [(yf, .inl (cI, 6, .inl ff))]) (va_runV (As := [.int a, .int b, .int d, .int 0]) (rest := []) ⟨hx, hb, hml, hown, hT⟩ (c_X11_noMeeting l D cI h ys yk yt yf yb yz yn yc yp yw ye yx H.size m3 m9 m12 m13 m14 m15 m16 m17 m18 m19 m20 m22 m23 a b d 0) (cwV 4 hT (gV_in mw_1515 mw_1512 mw_1514 mw_p5_12 mw_12) rfl rfl rfl (by decide +kernel) ⟨Nat.le_of_ble_eq_true rfl, Nat.le_of_ble_eq_true rfl⟩) (kRecv (own := "") (q0 := 0) (ci := 11) hK hP hD hN rfl rfl [0, 1] rfl (by decide)) rfl rfl hl.1 rfl (lv_room (Nat.le_of_ble_eq_true rfl)) dX11_judge_13 ⟨Nat.le_of_ble_eq_true rfl, Nat.le_of_ble_eq_true rfl⟩) hP hD hS hA [0, 1] [2] rfl rfl (by decide) (by decide) (fun r_14 u_16 H locs w_15 hP hD hS => ?_)
    have hP : va_P D vwCl [(yf, .inl (cI, 6, .inl ff)), (h, .inr (11, [.ref ys, .ref yk, .ref yt, .int m3, .ref yf, .ref yb, .ref yz, .ref yn, .ref yc, .int m9, .ref yp, .ref yw, .int m12, .int m13, .int m14, .int m15, .int m16, .int m17, .int m18, .int m19, .int m20, .ref ye, .int m22, .int m23, .ref yx])), (ys, .inl (cI, 1201, .inl sI))] H := hP
    have hD : va_D A [(yf, .inl (cI, 6, .inl ff)), (h, .inr (11, [.ref ys, .ref yk, .ref yt, .int m3, .ref yf, .ref yb, .ref yz, .ref yn, .ref yc, .int m9, .ref yp, .ref yw, .int m12, .int m13, .int m14, .int m15, .int m16, .int m17, .int m18, .int m19, .int m20, .ref ye, .int m22, .int m23, .ref yx])), (ys, .inl (cI, 1201, .inl sI))] := hD
    have hr_14 := w_15
    obtain rfl : r_14 = (-1000001) := hr_14.trans (by decide)
    refine lv_istore (lv' := [(6, .int (-1000001)), (0, .ref h), (1, .int a), (2, .int b), (3, .int d), (4, .int g), (5, .int i0)]) hx hb dX11_judge_16 hl (by decide) rfl (fun ls hl => ?_)
    refine lv_iload hx hb dX11_judge_18 (lv_at hl 0 rfl) ?_
    refine b_if_eq hx hb zl_m1000001 (tgt := 30) dX11_judge_20 (by decide) (fun c_17 => by exfalso; omega) (fun c_17 => ?_)
    refine lv_aload_n hx hb dX11_judge_23 rfl (lv_at hl 1 rfl) ?_
    refine lv_iload hx hb dX11_judge_24 (lv_at hl 0 rfl) ?_
    refine kJi (wr := [(ys, .inl (cI, 1201, .inl sI))]) (va_runV (As := [.int (-1000001)]) (rest := []) ⟨hx, hb, hml, hown, hT⟩ (c_X11_finding l D cI h ys yk yt yf yb yz yn yc yp yw ye yx H.size m3 m9 m12 m13 m14 m15 m16 m17 m18 m19 m20 m22 m23 ff (-1000001) (by first | omega | (simp only [zl_m1000001] <;> omega) | decide | assumption | rfl) (by first | omega | (simp only [zl_m1000001] <;> omega) | decide | assumption | rfl)) (cwV 1 hT (gV_in mw_1243 mw_1240 mw_1242 mw_p3_8 mw_12) rfl rfl rfl (by decide +kernel) ⟨Nat.le_of_ble_eq_true rfl, Nat.le_of_ble_eq_true rfl⟩) (kRecv (own := "") (q0 := 1) (ci := 11) hK hP hD hN rfl rfl [1, 0] rfl (by decide)) rfl rfl hl.1 rfl (lv_room (Nat.le_of_ble_eq_true rfl)) dX11_judge_26 ⟨Nat.le_of_ble_eq_true rfl, Nat.le_of_ble_eq_true rfl⟩) hP hD hS hA [1, 0] [2] rfl rfl (by decide) (by decide) (fun r_18 u_20 H locs w_19 hP hD hS => ?_)
    have hP : va_P D vwCl [(ys, .inl (cI, 1201, .inl sI))] H := hP
    have hD : va_D A [(ys, .inl (cI, 1201, .inl sI))] := hD
    have hr_18 := w_19
    obtain rfl : r_18 = (-1000001) := hr_18.trans (by decide)
    exact hRet () [] rfl hP hD (by decide) rfl hS rfl dX11_judge_29
set_option maxHeartbeats 4000000 in
set_option maxRecDepth 100000 in
theorem c_X11_mileIs (l : Launch) (D : va_G) (cI : ClassId) (h ys yk yt yf yb yz yn yc yp yw ye yx : Nat) (sz : Nat) (m3 : Int32) (m9 : Int32) (m12 : Int32) (m13 : Int32) (m14 : Int32) (m15 : Int32) (m16 : Int32) (m17 : Int32) (m18 : Int32) (m19 : Int32) (m20 : Int32) (m22 : Int32) (m23 : Int32) (ff : Nat → Int32) (a : Int32) (b : Int32) : Met l yX11_mileIs (gW yX11_mileIs cX11_mileIs 3 (some .int)) ({ frames := 2, cells := 0, slots := 0, locals := 42 } : Room) (kPre D cI [.ref h, .int a, .int b] [(h, .inr (11, [.ref ys, .ref yk, .ref yt, .int m3, .ref yf, .ref yb, .ref yz, .ref yn, .ref yc, .int m9, .ref yp, .ref yw, .int m12, .int m13, .int m14, .int m15, .int m16, .int m17, .int m18, .int m19, .int m20, .ref ye, .int m22, .int m23, .ref yx])), (ys, .inl (cI, 1201, .inl sI)), (yf, .inl (cI, 6, .inl ff))] sz) (va_Qi (fun (r : Int32) (u : Unit) => r = sp_mileIs a b) (fun u t => kWd D cI (va_A [(h, .inr (11, [.ref ys, .ref yk, .ref yt, .int m3, .ref yf, .ref yb, .ref yz, .ref yn, .ref yc, .int m9, .ref yp, .ref yw, .int m12, .int m13, .int m14, .int m15, .int m16, .int m17, .int m18, .int m19, .int m20, .ref ye, .int m22, .int m23, .ref yx])), (ys, .inl (cI, 1201, .inl sI)), (yf, .inl (cI, 6, .inl ff))] sz) [] t) (va_A [(h, .inr (11, [.ref ys, .ref yk, .ref yt, .int m3, .ref yf, .ref yb, .ref yz, .ref yn, .ref yc, .int m9, .ref yp, .ref yw, .int m12, .int m13, .int m14, .int m15, .int m16, .int m17, .int m18, .int m19, .int m20, .ref ye, .int m22, .int m23, .ref yx])), (ys, .inl (cI, 1201, .inl sI)), (yf, .inl (cI, 6, .inl ff))] sz)) 0 0 (va_A [(h, .inr (11, [.ref ys, .ref yk, .ref yt, .int m3, .ref yf, .ref yb, .ref yz, .ref yn, .ref yc, .int m9, .ref yp, .ref yw, .int m12, .int m13, .int m14, .int m15, .int m16, .int m17, .int m18, .int m19, .int m20, .ref ye, .int m22, .int m23, .ref yx])), (ys, .inl (cI, 1201, .inl sI)), (yf, .inl (cI, 6, .inl ff))] sz) := by
  refine kMetI (own := RX11) (by decide) rfl (Nat.le_of_ble_eq_true rfl) ?_
  intro p e s m args below meth c hx hb hT hown hname hml A Q hK hP hD hS hA hN hRet ls hl
  have hl : lv_has ls 3 [(0, .ref h), (1, .int a), (2, .int b)] := hl
  have lo_a := k_lo a
  have hi_a := k_hi a
  have lo_b := k_lo b
  have hi_b := k_hi b
  have lo_m3 := k_lo m3
  have hi_m3 := k_hi m3
  have lo_m9 := k_lo m9
  have hi_m9 := k_hi m9
  have lo_m12 := k_lo m12
  have hi_m12 := k_hi m12
  have lo_m13 := k_lo m13
  have hi_m13 := k_hi m13
  have lo_m14 := k_lo m14
  have hi_m14 := k_hi m14
  have lo_m15 := k_lo m15
  have hi_m15 := k_hi m15
  have lo_m16 := k_lo m16
  have hi_m16 := k_hi m16
  have lo_m17 := k_lo m17
  have hi_m17 := k_hi m17
  have lo_m18 := k_lo m18
  have hi_m18 := k_hi m18
  have lo_m19 := k_lo m19
  have hi_m19 := k_hi m19
  have lo_m20 := k_lo m20
  have hi_m20 := k_hi m20
  have lo_m22 := k_lo m22
  have hi_m22 := k_hi m22
  have lo_m23 := k_lo m23
  have hi_m23 := k_hi m23
  refine lv_iload_n hx hb dX11_mileIs_0 rfl (lv_at hl 1 rfl) ?_
  refine kJi (wr := [(h, .inr (11, [.ref ys, .ref yk, .ref yt, .int m3, .ref yf, .ref yb, .ref yz, .ref yn, .ref yc, .int m9, .ref yp, .ref yw, .int m12, .int m13, .int m14, .int m15, .int m16, .int m17, .int m18, .int m19, .int m20, .ref ye, .int m22, .int m23, .ref yx])), (ys, .inl (cI, 1201, .inl sI)), (yf, .inl (cI, 6, .inl ff))]) (va_runS (As := [.int a]) (rest := []) ⟨hx, hb, hml, hown, hT⟩ (c_X11_isMile l D cI s.heap.size a) (cwS 1 hT (gS_in mw_1251 mw_1249 mw_1250 mw_12) rfl rfl rfl (by decide +kernel) ⟨Nat.le_of_ble_eq_true rfl, Nat.le_of_ble_eq_true rfl⟩) (kStat hK hP hD hN [] rfl (by decide)) rfl rfl hl.1 rfl (lv_room (Nat.le_of_ble_eq_true rfl)) dX11_mileIs_1 ⟨Nat.le_of_ble_eq_true rfl, Nat.le_of_ble_eq_true rfl⟩) hP hD hS hA [] [0, 1, 2] rfl rfl (by decide) (by decide) (fun r_1 u_3 H locs w_2 hP hD hS => ?_)
  have hP : va_P D vwCl [(h, .inr (11, [.ref ys, .ref yk, .ref yt, .int m3, .ref yf, .ref yb, .ref yz, .ref yn, .ref yc, .int m9, .ref yp, .ref yw, .int m12, .int m13, .int m14, .int m15, .int m16, .int m17, .int m18, .int m19, .int m20, .ref ye, .int m22, .int m23, .ref yx])), (ys, .inl (cI, 1201, .inl sI)), (yf, .inl (cI, 6, .inl ff))] H := hP
  have hD : va_D A [(h, .inr (11, [.ref ys, .ref yk, .ref yt, .int m3, .ref yf, .ref yb, .ref yz, .ref yn, .ref yc, .int m9, .ref yp, .ref yw, .int m12, .int m13, .int m14, .int m15, .int m16, .int m17, .int m18, .int m19, .int m20, .ref ye, .int m22, .int m23, .ref yx])), (ys, .inl (cI, 1201, .inl sI)), (yf, .inl (cI, 6, .inl ff))] := hD
  rcases w_2 with ⟨hr_1, h_4, h_5⟩ | ⟨hr_1, h_6⟩
  · have h_4 : 0 ≤ a.toInt := h_4
    have h_5 : a.toInt ≤ 39 := h_5
    obtain rfl : r_1 = 1 := hr_1.trans (by decide)
    refine b_if_ne hx hb zl_1 (tgt := 14) dX11_mileIs_4 (by decide) (fun c_7 => ?_) (fun c_7 => by exfalso; omega)
    refine lv_iload_n hx hb dX11_mileIs_14 rfl (lv_at hl 2 rfl) ?_
    by_cases c_8 : b.toInt = 0
    · refine lv_tableIn (off := 37) (tgt := 52) hx hb dX11_mileIs_15 (by omega) (by omega) (by rw [c_8]; decide) (by decide) ?_
      refine lv_aload_n hx hb dX11_mileIs_52 rfl (lv_at hl 0 rfl) ?_
      refine va_get (D := D) (ci := 11) (v := .ref ys) (C := RX11) (T := TX11) (N := 25) hx hb hT giX11 hown hK hP 0 rfl rfl 0 (by decide) (hT (Cond.fieldLink RX11 9 "DesertWireModel" "s" "[I") mw_1156) (fun _ h9 => h9) rfl dX11_mileIs_53 ?_
      refine lv_bipush (v := 19) hx hb dX11_mileIs_56 (by decide) ?_
      refine lv_iload_n hx hb dX11_mileIs_58 rfl (lv_at hl 1 rfl) ?_
      refine lv_iadd hx hb dX11_mileIs_59 ?_
      refine lv_topi (fun v_9 ev_9 => ?_)
      have tv_9 : v_9.toInt = 19 + a.toInt := by rw [ev_9]; exact k_addv zl_19 rfl (by omega) (by omega)
      refine k_iald (v := 0) hx hb hK hP 1 0 rfl rfl (k_in (by omega) (by omega)) (k_sI0 (by omega)) dX11_mileIs_60 ?_
      exact hRet () [] (by unfold sp_mileIs; repeat (first | rw [if_pos (by omega)] | rw [if_neg (by omega)])) hP hD (by decide) rfl hS rfl dX11_mileIs_61
    by_cases c_10 : b.toInt = 1
    · refine lv_tableIn (off := 47) (tgt := 62) hx hb dX11_mileIs_15 (by omega) (by omega) (by rw [c_10]; decide) (by decide) ?_
      refine lv_aload_n hx hb dX11_mileIs_62 rfl (lv_at hl 0 rfl) ?_
      refine va_get (D := D) (ci := 11) (v := .ref ys) (C := RX11) (T := TX11) (N := 25) hx hb hT giX11 hown hK hP 0 rfl rfl 0 (by decide) (hT (Cond.fieldLink RX11 9 "DesertWireModel" "s" "[I") mw_1156) (fun _ h9 => h9) rfl dX11_mileIs_63 ?_
      refine lv_bipush (v := 59) hx hb dX11_mileIs_66 (by decide) ?_
      refine lv_iload_n hx hb dX11_mileIs_68 rfl (lv_at hl 1 rfl) ?_
      refine lv_iadd hx hb dX11_mileIs_69 ?_
      refine lv_topi (fun v_11 ev_11 => ?_)
      have tv_11 : v_11.toInt = 59 + a.toInt := by rw [ev_11]; exact k_addv zl_59 rfl (by omega) (by omega)
      refine k_iald (v := 0) hx hb hK hP 1 0 rfl rfl (k_in (by omega) (by omega)) (k_sI0 (by omega)) dX11_mileIs_70 ?_
      exact hRet () [] (by unfold sp_mileIs; repeat (first | rw [if_pos (by omega)] | rw [if_neg (by omega)])) hP hD (by decide) rfl hS rfl dX11_mileIs_71
    by_cases c_12 : b.toInt = 2
    · refine lv_tableIn (off := 57) (tgt := 72) hx hb dX11_mileIs_15 (by omega) (by omega) (by rw [c_12]; decide) (by decide) ?_
      refine lv_aload_n hx hb dX11_mileIs_72 rfl (lv_at hl 0 rfl) ?_
      refine lv_iload_n hx hb dX11_mileIs_73 rfl (lv_at hl 1 rfl) ?_
      refine kJi (wr := [(yf, .inl (cI, 6, .inl ff))]) (va_runV (As := [.int a]) (rest := []) ⟨hx, hb, hml, hown, hT⟩ (c_X11_isWired l D cI h ys yk yt yf yb yz yn yc yp yw ye yx H.size m3 m9 m12 m13 m14 m15 m16 m17 m18 m19 m20 m22 m23 sI a (by decide +kernel)) (cwV 1 hT (gV_in mw_1368 mw_1365 mw_1367 mw_p4_13 mw_12) rfl rfl rfl (by decide +kernel) ⟨Nat.le_of_ble_eq_true rfl, Nat.le_of_ble_eq_true rfl⟩) (kRecv (own := "") (q0 := 0) (ci := 11) hK hP hD hN rfl rfl [0, 1] rfl (by decide)) rfl rfl hl.1 rfl (lv_room (Nat.le_of_ble_eq_true rfl)) dX11_mileIs_74 ⟨Nat.le_of_ble_eq_true rfl, Nat.le_of_ble_eq_true rfl⟩) hP hD hS hA [0, 1] [2] rfl rfl (by decide) (by decide) (fun r_13 u_15 H locs w_14 hP hD hS => ?_)
      have hP : va_P D vwCl [(yf, .inl (cI, 6, .inl ff)), (h, .inr (11, [.ref ys, .ref yk, .ref yt, .int m3, .ref yf, .ref yb, .ref yz, .ref yn, .ref yc, .int m9, .ref yp, .ref yw, .int m12, .int m13, .int m14, .int m15, .int m16, .int m17, .int m18, .int m19, .int m20, .ref ye, .int m22, .int m23, .ref yx])), (ys, .inl (cI, 1201, .inl sI))] H := hP
      have hD : va_D A [(yf, .inl (cI, 6, .inl ff)), (h, .inr (11, [.ref ys, .ref yk, .ref yt, .int m3, .ref yf, .ref yb, .ref yz, .ref yn, .ref yc, .int m9, .ref yp, .ref yw, .int m12, .int m13, .int m14, .int m15, .int m16, .int m17, .int m18, .int m19, .int m20, .ref ye, .int m22, .int m23, .ref yx])), (ys, .inl (cI, 1201, .inl sI))] := hD
      have hr_13 := w_14
      obtain rfl : r_13 = 0 := hr_13.trans (by decide)
      refine b_if_eq hx hb zl_0 (tgt := 84) dX11_mileIs_77 (by decide) (fun c_16 => ?_) (fun c_16 => by exfalso; omega)
      refine lv_iconst (v := 0) hx hb dX11_mileIs_84 (by decide) ?_
      exact hRet () [] (by unfold sp_mileIs; repeat (first | rw [if_pos (by omega)] | rw [if_neg (by omega)])) hP hD (by decide) rfl hS rfl dX11_mileIs_85
    by_cases c_17 : b.toInt = 3
    · refine lv_tableIn (off := 71) (tgt := 86) hx hb dX11_mileIs_15 (by omega) (by omega) (by rw [c_17]; decide) (by decide) ?_
      refine lv_aload_n hx hb dX11_mileIs_86 rfl (lv_at hl 0 rfl) ?_
      refine lv_iload_n hx hb dX11_mileIs_87 rfl (lv_at hl 1 rfl) ?_
      refine kJi (wr := [(yf, .inl (cI, 6, .inl ff))]) (va_runV (As := [.int a]) (rest := []) ⟨hx, hb, hml, hown, hT⟩ (c_X11_leakOf l D cI h ys yk yt yf yb yz yn yc yp yw ye yx H.size m3 m9 m12 m13 m14 m15 m16 m17 m18 m19 m20 m22 m23 sI a (by decide +kernel)) (cwV 1 hT (gV_in mw_1372 mw_1369 mw_1371 mw_p4_14 mw_12) rfl rfl rfl (by decide +kernel) ⟨Nat.le_of_ble_eq_true rfl, Nat.le_of_ble_eq_true rfl⟩) (kRecv (own := "") (q0 := 0) (ci := 11) hK hP hD hN rfl rfl [0, 1] rfl (by decide)) rfl rfl hl.1 rfl (lv_room (Nat.le_of_ble_eq_true rfl)) dX11_mileIs_88 ⟨Nat.le_of_ble_eq_true rfl, Nat.le_of_ble_eq_true rfl⟩) hP hD hS hA [0, 1] [2] rfl rfl (by decide) (by decide) (fun r_18 u_20 H locs w_19 hP hD hS => ?_)
      have hP : va_P D vwCl [(yf, .inl (cI, 6, .inl ff)), (h, .inr (11, [.ref ys, .ref yk, .ref yt, .int m3, .ref yf, .ref yb, .ref yz, .ref yn, .ref yc, .int m9, .ref yp, .ref yw, .int m12, .int m13, .int m14, .int m15, .int m16, .int m17, .int m18, .int m19, .int m20, .ref ye, .int m22, .int m23, .ref yx])), (ys, .inl (cI, 1201, .inl sI))] H := hP
      have hD : va_D A [(yf, .inl (cI, 6, .inl ff)), (h, .inr (11, [.ref ys, .ref yk, .ref yt, .int m3, .ref yf, .ref yb, .ref yz, .ref yn, .ref yc, .int m9, .ref yp, .ref yw, .int m12, .int m13, .int m14, .int m15, .int m16, .int m17, .int m18, .int m19, .int m20, .ref ye, .int m22, .int m23, .ref yx])), (ys, .inl (cI, 1201, .inl sI))] := hD
      have hr_18 := w_19
      obtain rfl : r_18 = (-1) := hr_18.trans (by decide)
      exact hRet () [] (by unfold sp_mileIs; repeat (first | rw [if_pos (by omega)] | rw [if_neg (by omega)])) hP hD (by decide) rfl hS rfl dX11_mileIs_91
    by_cases c_21 : b.toInt = 4
    · refine lv_tableIn (off := 77) (tgt := 92) hx hb dX11_mileIs_15 (by omega) (by omega) (by rw [c_21]; decide) (by decide) ?_
      refine lv_aload_n hx hb dX11_mileIs_92 rfl (lv_at hl 0 rfl) ?_
      refine lv_iload_n hx hb dX11_mileIs_93 rfl (lv_at hl 1 rfl) ?_
      refine lv_aload_n hx hb dX11_mileIs_94 rfl (lv_at hl 0 rfl) ?_
      refine kJi (wr := [(yf, .inl (cI, 6, .inl ff))]) (va_runV (As := []) (rest := [.int a, .ref h]) ⟨hx, hb, hml, hown, hT⟩ (c_X11_rainNow l D cI h ys yk yt yf yb yz yn yc yp yw ye yx H.size m3 m9 m12 m13 m14 m15 m16 m17 m18 m19 m20 m22 m23) (cwV 0 hT (gV_in mw_1376 mw_1373 mw_1375 mw_p4_15 mw_12) rfl rfl rfl (by decide +kernel) ⟨Nat.le_of_ble_eq_true rfl, Nat.le_of_ble_eq_true rfl⟩) (kRecv (own := "") (q0 := 0) (ci := 11) hK hP hD hN rfl rfl [0, 1] rfl (by decide)) rfl rfl hl.1 rfl (lv_room (Nat.le_of_ble_eq_true rfl)) dX11_mileIs_95 ⟨Nat.le_of_ble_eq_true rfl, Nat.le_of_ble_eq_true rfl⟩) hP hD hS hA [0, 1] [2] rfl rfl (by decide) (by decide) (fun r_22 u_24 H locs w_23 hP hD hS => ?_)
      have hP : va_P D vwCl [(yf, .inl (cI, 6, .inl ff)), (h, .inr (11, [.ref ys, .ref yk, .ref yt, .int m3, .ref yf, .ref yb, .ref yz, .ref yn, .ref yc, .int m9, .ref yp, .ref yw, .int m12, .int m13, .int m14, .int m15, .int m16, .int m17, .int m18, .int m19, .int m20, .ref ye, .int m22, .int m23, .ref yx])), (ys, .inl (cI, 1201, .inl sI))] H := hP
      have hD : va_D A [(yf, .inl (cI, 6, .inl ff)), (h, .inr (11, [.ref ys, .ref yk, .ref yt, .int m3, .ref yf, .ref yb, .ref yz, .ref yn, .ref yc, .int m9, .ref yp, .ref yw, .int m12, .int m13, .int m14, .int m15, .int m16, .int m17, .int m18, .int m19, .int m20, .ref ye, .int m22, .int m23, .ref yx])), (ys, .inl (cI, 1201, .inl sI))] := hD
      have hr_22 := w_23
      obtain rfl : r_22 = 2 := hr_22.trans (by decide)
      refine kJi (wr := [(yf, .inl (cI, 6, .inl ff))]) (va_runV (As := [.int a, .int 2]) (rest := []) ⟨hx, hb, hml, hown, hT⟩ (c_X11_effort l D cI h ys yk yt yf yb yz yn yc yp yw ye yx H.size m3 m9 m12 m13 m14 m15 m16 m17 m18 m19 m20 m22 m23 a 2 (by first | omega | (simp only [zl_2] <;> omega) | decide | assumption | rfl) (by first | omega | (simp only [zl_2] <;> omega) | decide | assumption | rfl)) (cwV 2 hT (gV_in mw_1380 mw_1377 mw_1379 mw_p5_0 mw_12) rfl rfl rfl (by decide +kernel) ⟨Nat.le_of_ble_eq_true rfl, Nat.le_of_ble_eq_true rfl⟩) (kRecv (own := "") (q0 := 1) (ci := 11) hK hP hD hN rfl rfl [1, 2] rfl (by decide)) rfl rfl hl.1 rfl (lv_room (Nat.le_of_ble_eq_true rfl)) dX11_mileIs_98 ⟨Nat.le_of_ble_eq_true rfl, Nat.le_of_ble_eq_true rfl⟩) hP hD hS hA [1, 2] [0] rfl rfl (by decide) (by decide) (fun r_25 u_27 H locs w_26 hP hD hS => ?_)
      have hP : va_P D vwCl [(yf, .inl (cI, 6, .inl ff)), (h, .inr (11, [.ref ys, .ref yk, .ref yt, .int m3, .ref yf, .ref yb, .ref yz, .ref yn, .ref yc, .int m9, .ref yp, .ref yw, .int m12, .int m13, .int m14, .int m15, .int m16, .int m17, .int m18, .int m19, .int m20, .ref ye, .int m22, .int m23, .ref yx])), (ys, .inl (cI, 1201, .inl sI))] H := hP
      have hD : va_D A [(yf, .inl (cI, 6, .inl ff)), (h, .inr (11, [.ref ys, .ref yk, .ref yt, .int m3, .ref yf, .ref yb, .ref yz, .ref yn, .ref yc, .int m9, .ref yp, .ref yw, .int m12, .int m13, .int m14, .int m15, .int m16, .int m17, .int m18, .int m19, .int m20, .ref ye, .int m22, .int m23, .ref yx])), (ys, .inl (cI, 1201, .inl sI))] := hD
      have hr_25 := w_26
      obtain rfl : r_25 = 10 := hr_25.trans (by decide)
      exact hRet () [] (by unfold sp_mileIs; repeat (first | rw [if_pos (by omega)] | rw [if_neg (by omega)])) hP hD (by decide) rfl hS rfl dX11_mileIs_101
    by_cases c_28 : b.toInt = 5
    · refine lv_tableIn (off := 87) (tgt := 102) hx hb dX11_mileIs_15 (by omega) (by omega) (by rw [c_28]; decide) (by decide) ?_
      refine lv_aload_n hx hb dX11_mileIs_102 rfl (lv_at hl 0 rfl) ?_
      refine lv_iload_n hx hb dX11_mileIs_103 rfl (lv_at hl 1 rfl) ?_
      refine kJi (wr := [(yf, .inl (cI, 6, .inl ff))]) (va_runV (As := [.int a]) (rest := []) ⟨hx, hb, hml, hown, hT⟩ (c_X11_wellsIn l D cI h ys yk yt yf yb yz yn yc yp yw ye yx H.size m3 m9 m12 m13 m14 m15 m16 m17 m18 m19 m20 m22 m23 sI a (by decide +kernel)) (cwV 1 hT (gV_in mw_1384 mw_1381 mw_1383 mw_p5_1 mw_12) rfl rfl rfl (by decide +kernel) ⟨Nat.le_of_ble_eq_true rfl, Nat.le_of_ble_eq_true rfl⟩) (kRecv (own := "") (q0 := 0) (ci := 11) hK hP hD hN rfl rfl [0, 1] rfl (by decide)) rfl rfl hl.1 rfl (lv_room (Nat.le_of_ble_eq_true rfl)) dX11_mileIs_104 ⟨Nat.le_of_ble_eq_true rfl, Nat.le_of_ble_eq_true rfl⟩) hP hD hS hA [0, 1] [2] rfl rfl (by decide) (by decide) (fun r_29 u_31 H locs w_30 hP hD hS => ?_)
      have hP : va_P D vwCl [(yf, .inl (cI, 6, .inl ff)), (h, .inr (11, [.ref ys, .ref yk, .ref yt, .int m3, .ref yf, .ref yb, .ref yz, .ref yn, .ref yc, .int m9, .ref yp, .ref yw, .int m12, .int m13, .int m14, .int m15, .int m16, .int m17, .int m18, .int m19, .int m20, .ref ye, .int m22, .int m23, .ref yx])), (ys, .inl (cI, 1201, .inl sI))] H := hP
      have hD : va_D A [(yf, .inl (cI, 6, .inl ff)), (h, .inr (11, [.ref ys, .ref yk, .ref yt, .int m3, .ref yf, .ref yb, .ref yz, .ref yn, .ref yc, .int m9, .ref yp, .ref yw, .int m12, .int m13, .int m14, .int m15, .int m16, .int m17, .int m18, .int m19, .int m20, .ref ye, .int m22, .int m23, .ref yx])), (ys, .inl (cI, 1201, .inl sI))] := hD
      have hr_29 := w_30
      obtain rfl : r_29 = 0 := hr_29.trans (by decide)
      exact hRet () [] (by unfold sp_mileIs; repeat (first | rw [if_pos (by omega)] | rw [if_neg (by omega)])) hP hD (by decide) rfl hS rfl dX11_mileIs_107
    refine lv_tableOut (tgt := 108) hx hb dX11_mileIs_15 (by omega) (by decide) ?_
    refine lv_aload_n hx hb dX11_mileIs_108 rfl (lv_at hl 0 rfl) ?_
    refine lv_ldc (v := (-1000001)) hx hb hown (hT _ mw_1239) dX11_mileIs_109 ?_
    refine kJi (wr := [(ys, .inl (cI, 1201, .inl sI))]) (va_runV (As := [.int (-1000001)]) (rest := []) ⟨hx, hb, hml, hown, hT⟩ (c_X11_finding l D cI h ys yk yt yf yb yz yn yc yp yw ye yx H.size m3 m9 m12 m13 m14 m15 m16 m17 m18 m19 m20 m22 m23 ff (-1000001) (by first | omega | (simp only [zl_m1000001] <;> omega) | decide | assumption | rfl) (by first | omega | (simp only [zl_m1000001] <;> omega) | decide | assumption | rfl)) (cwV 1 hT (gV_in mw_1243 mw_1240 mw_1242 mw_p3_8 mw_12) rfl rfl rfl (by decide +kernel) ⟨Nat.le_of_ble_eq_true rfl, Nat.le_of_ble_eq_true rfl⟩) (kRecv (own := "") (q0 := 0) (ci := 11) hK hP hD hN rfl rfl [0, 2] rfl (by decide)) rfl rfl hl.1 rfl (lv_room (Nat.le_of_ble_eq_true rfl)) dX11_mileIs_111 ⟨Nat.le_of_ble_eq_true rfl, Nat.le_of_ble_eq_true rfl⟩) hP hD hS hA [0, 2] [1] rfl rfl (by decide) (by decide) (fun r_32 u_34 H locs w_33 hP hD hS => ?_)
    have hP : va_P D vwCl [(ys, .inl (cI, 1201, .inl sI))] H := hP
    have hD : va_D A [(ys, .inl (cI, 1201, .inl sI))] := hD
    have hr_32 := w_33
    obtain rfl : r_32 = (-1000001) := hr_32.trans (by decide)
    exact hRet () [] (by unfold sp_mileIs; repeat (first | rw [if_pos (by omega)] | rw [if_neg (by omega)])) hP hD (by decide) rfl hS rfl dX11_mileIs_114
  · have h_6 : a.toInt < 0 ∨ 39 < a.toInt := h_6
    obtain rfl : r_1 = 0 := hr_1.trans (by decide)
    refine b_if_ne hx hb zl_0 (tgt := 14) dX11_mileIs_4 (by decide) (fun c_35 => by exfalso; omega) (fun c_35 => ?_)
    refine lv_aload_n hx hb dX11_mileIs_7 rfl (lv_at hl 0 rfl) ?_
    refine lv_ldc (v := (-1000001)) hx hb hown (hT _ mw_1239) dX11_mileIs_8 ?_
    refine kJi (wr := [(ys, .inl (cI, 1201, .inl sI))]) (va_runV (As := [.int (-1000001)]) (rest := []) ⟨hx, hb, hml, hown, hT⟩ (c_X11_finding l D cI h ys yk yt yf yb yz yn yc yp yw ye yx H.size m3 m9 m12 m13 m14 m15 m16 m17 m18 m19 m20 m22 m23 ff (-1000001) (by first | omega | (simp only [zl_m1000001] <;> omega) | decide | assumption | rfl) (by first | omega | (simp only [zl_m1000001] <;> omega) | decide | assumption | rfl)) (cwV 1 hT (gV_in mw_1243 mw_1240 mw_1242 mw_p3_8 mw_12) rfl rfl rfl (by decide +kernel) ⟨Nat.le_of_ble_eq_true rfl, Nat.le_of_ble_eq_true rfl⟩) (kRecv (own := "") (q0 := 0) (ci := 11) hK hP hD hN rfl rfl [0, 2] rfl (by decide)) rfl rfl hl.1 rfl (lv_room (Nat.le_of_ble_eq_true rfl)) dX11_mileIs_10 ⟨Nat.le_of_ble_eq_true rfl, Nat.le_of_ble_eq_true rfl⟩) hP hD hS hA [0, 2] [1] rfl rfl (by decide) (by decide) (fun r_36 u_38 H locs w_37 hP hD hS => ?_)
    have hP : va_P D vwCl [(ys, .inl (cI, 1201, .inl sI))] H := hP
    have hD : va_D A [(ys, .inl (cI, 1201, .inl sI))] := hD
    have hr_36 := w_37
    obtain rfl : r_36 = (-1000001) := hr_36.trans (by decide)
    exact hRet () [] (by unfold sp_mileIs; repeat (first | rw [if_pos (by omega)] | rw [if_neg (by omega)])) hP hD (by decide) rfl hS rfl dX11_mileIs_13
set_option maxHeartbeats 4000000 in
set_option maxRecDepth 100000 in
theorem c_X11_soils (l : Launch) (D : va_G) (cI : ClassId) (h ys yk yt yf yb yz yn yc yp yw ye yx : Nat) (sz : Nat) (m3 : Int32) (m9 : Int32) (m12 : Int32) (m13 : Int32) (m14 : Int32) (m15 : Int32) (m16 : Int32) (m17 : Int32) (m18 : Int32) (m19 : Int32) (m20 : Int32) (m22 : Int32) (m23 : Int32) (ff : Nat → Int32) (a : Int32) (b : Int32) : Met l yX11_soils (gW yX11_soils cX11_soils 5 (some .int)) ({ frames := 2, cells := 0, slots := 0, locals := 42 } : Room) (kPre D cI [.ref h, .int a, .int b] [(h, .inr (11, [.ref ys, .ref yk, .ref yt, .int m3, .ref yf, .ref yb, .ref yz, .ref yn, .ref yc, .int m9, .ref yp, .ref yw, .int m12, .int m13, .int m14, .int m15, .int m16, .int m17, .int m18, .int m19, .int m20, .ref ye, .int m22, .int m23, .ref yx])), (yb, .inl (cI, 4, .inl (fun _ => (0 : Int32)))), (yf, .inl (cI, 6, .inl ff))] sz) (va_Qi (fun (r : Int32) (u : Unit) => r = sp_soils a b) (fun u t => kWd D cI (va_A [(h, .inr (11, [.ref ys, .ref yk, .ref yt, .int m3, .ref yf, .ref yb, .ref yz, .ref yn, .ref yc, .int m9, .ref yp, .ref yw, .int m12, .int m13, .int m14, .int m15, .int m16, .int m17, .int m18, .int m19, .int m20, .ref ye, .int m22, .int m23, .ref yx])), (yb, .inl (cI, 4, .inl (fun _ => (0 : Int32)))), (yf, .inl (cI, 6, .inl ff))] sz) [] t) (va_A [(h, .inr (11, [.ref ys, .ref yk, .ref yt, .int m3, .ref yf, .ref yb, .ref yz, .ref yn, .ref yc, .int m9, .ref yp, .ref yw, .int m12, .int m13, .int m14, .int m15, .int m16, .int m17, .int m18, .int m19, .int m20, .ref ye, .int m22, .int m23, .ref yx])), (yb, .inl (cI, 4, .inl (fun _ => (0 : Int32)))), (yf, .inl (cI, 6, .inl ff))] sz)) 0 0 (va_A [(h, .inr (11, [.ref ys, .ref yk, .ref yt, .int m3, .ref yf, .ref yb, .ref yz, .ref yn, .ref yc, .int m9, .ref yp, .ref yw, .int m12, .int m13, .int m14, .int m15, .int m16, .int m17, .int m18, .int m19, .int m20, .ref ye, .int m22, .int m23, .ref yx])), (yb, .inl (cI, 4, .inl (fun _ => (0 : Int32)))), (yf, .inl (cI, 6, .inl ff))] sz) := by
  refine kMetI (own := RX11) (by decide) rfl (Nat.le_of_ble_eq_true rfl) ?_
  intro p e s m args below meth c hx hb hT hown hname hml A Q hK hP hD hS hA hN hRet ls hl
  have hl : lv_has ls 5 [(0, .ref h), (1, .int a), (2, .int b)] := hl
  have lo_a := k_lo a
  have hi_a := k_hi a
  have lo_b := k_lo b
  have hi_b := k_hi b
  have lo_m3 := k_lo m3
  have hi_m3 := k_hi m3
  have lo_m9 := k_lo m9
  have hi_m9 := k_hi m9
  have lo_m12 := k_lo m12
  have hi_m12 := k_hi m12
  have lo_m13 := k_lo m13
  have hi_m13 := k_hi m13
  have lo_m14 := k_lo m14
  have hi_m14 := k_hi m14
  have lo_m15 := k_lo m15
  have hi_m15 := k_hi m15
  have lo_m16 := k_lo m16
  have hi_m16 := k_hi m16
  have lo_m17 := k_lo m17
  have hi_m17 := k_hi m17
  have lo_m18 := k_lo m18
  have hi_m18 := k_hi m18
  have lo_m19 := k_lo m19
  have hi_m19 := k_hi m19
  have lo_m20 := k_lo m20
  have hi_m20 := k_hi m20
  have lo_m22 := k_lo m22
  have hi_m22 := k_hi m22
  have lo_m23 := k_lo m23
  have hi_m23 := k_hi m23
  refine lv_iload_n hx hb dX11_soils_0 rfl (lv_at hl 1 rfl) ?_
  refine kJi (wr := [(h, .inr (11, [.ref ys, .ref yk, .ref yt, .int m3, .ref yf, .ref yb, .ref yz, .ref yn, .ref yc, .int m9, .ref yp, .ref yw, .int m12, .int m13, .int m14, .int m15, .int m16, .int m17, .int m18, .int m19, .int m20, .ref ye, .int m22, .int m23, .ref yx])), (yb, .inl (cI, 4, .inl (fun _ => (0 : Int32)))), (yf, .inl (cI, 6, .inl ff))]) (va_runS (As := [.int a]) (rest := []) ⟨hx, hb, hml, hown, hT⟩ (c_X11_isSheet l D cI s.heap.size a) (cwS 1 hT (gS_in mw_1391 mw_1389 mw_1390 mw_12) rfl rfl rfl (by decide +kernel) ⟨Nat.le_of_ble_eq_true rfl, Nat.le_of_ble_eq_true rfl⟩) (kStat hK hP hD hN [] rfl (by decide)) rfl rfl hl.1 rfl (lv_room (Nat.le_of_ble_eq_true rfl)) dX11_soils_1 ⟨Nat.le_of_ble_eq_true rfl, Nat.le_of_ble_eq_true rfl⟩) hP hD hS hA [] [0, 1, 2] rfl rfl (by decide) (by decide) (fun r_1 u_3 H locs w_2 hP hD hS => ?_)
  have hP : va_P D vwCl [(h, .inr (11, [.ref ys, .ref yk, .ref yt, .int m3, .ref yf, .ref yb, .ref yz, .ref yn, .ref yc, .int m9, .ref yp, .ref yw, .int m12, .int m13, .int m14, .int m15, .int m16, .int m17, .int m18, .int m19, .int m20, .ref ye, .int m22, .int m23, .ref yx])), (yb, .inl (cI, 4, .inl (fun _ => (0 : Int32)))), (yf, .inl (cI, 6, .inl ff))] H := hP
  have hD : va_D A [(h, .inr (11, [.ref ys, .ref yk, .ref yt, .int m3, .ref yf, .ref yb, .ref yz, .ref yn, .ref yc, .int m9, .ref yp, .ref yw, .int m12, .int m13, .int m14, .int m15, .int m16, .int m17, .int m18, .int m19, .int m20, .ref ye, .int m22, .int m23, .ref yx])), (yb, .inl (cI, 4, .inl (fun _ => (0 : Int32)))), (yf, .inl (cI, 6, .inl ff))] := hD
  rcases w_2 with ⟨hr_1, h_4, h_5⟩ | ⟨hr_1, h_6⟩
  · have h_4 : 0 ≤ a.toInt := h_4
    have h_5 : a.toInt ≤ 3 := h_5
    obtain rfl : r_1 = 1 := hr_1.trans (by decide)
    refine b_if_eq hx hb zl_1 (tgt := 14) dX11_soils_4 (by decide) (fun c_7 => by exfalso; omega) (fun c_7 => ?_)
    refine lv_iload_n hx hb dX11_soils_7 rfl (lv_at hl 2 rfl) ?_
    refine kJi (wr := [(h, .inr (11, [.ref ys, .ref yk, .ref yt, .int m3, .ref yf, .ref yb, .ref yz, .ref yn, .ref yc, .int m9, .ref yp, .ref yw, .int m12, .int m13, .int m14, .int m15, .int m16, .int m17, .int m18, .int m19, .int m20, .ref ye, .int m22, .int m23, .ref yx])), (yb, .inl (cI, 4, .inl (fun _ => (0 : Int32)))), (yf, .inl (cI, 6, .inl ff))]) (va_runS (As := [.int b]) (rest := []) ⟨hx, hb, hml, hown, hT⟩ (c_X11_isMile l D cI H.size b) (cwS 1 hT (gS_in mw_1251 mw_1249 mw_1250 mw_12) rfl rfl rfl (by decide +kernel) ⟨Nat.le_of_ble_eq_true rfl, Nat.le_of_ble_eq_true rfl⟩) (kStat hK hP hD hN [] rfl (by decide)) rfl rfl hl.1 rfl (lv_room (Nat.le_of_ble_eq_true rfl)) dX11_soils_8 ⟨Nat.le_of_ble_eq_true rfl, Nat.le_of_ble_eq_true rfl⟩) hP hD hS hA [] [0, 1, 2] rfl rfl (by decide) (by decide) (fun r_8 u_10 H locs w_9 hP hD hS => ?_)
    have hP : va_P D vwCl [(h, .inr (11, [.ref ys, .ref yk, .ref yt, .int m3, .ref yf, .ref yb, .ref yz, .ref yn, .ref yc, .int m9, .ref yp, .ref yw, .int m12, .int m13, .int m14, .int m15, .int m16, .int m17, .int m18, .int m19, .int m20, .ref ye, .int m22, .int m23, .ref yx])), (yb, .inl (cI, 4, .inl (fun _ => (0 : Int32)))), (yf, .inl (cI, 6, .inl ff))] H := hP
    have hD : va_D A [(h, .inr (11, [.ref ys, .ref yk, .ref yt, .int m3, .ref yf, .ref yb, .ref yz, .ref yn, .ref yc, .int m9, .ref yp, .ref yw, .int m12, .int m13, .int m14, .int m15, .int m16, .int m17, .int m18, .int m19, .int m20, .ref ye, .int m22, .int m23, .ref yx])), (yb, .inl (cI, 4, .inl (fun _ => (0 : Int32)))), (yf, .inl (cI, 6, .inl ff))] := hD
    rcases w_9 with ⟨hr_8, h_11, h_12⟩ | ⟨hr_8, h_13⟩
    · have h_11 : 0 ≤ b.toInt := h_11
      have h_12 : b.toInt ≤ 39 := h_12
      obtain rfl : r_8 = 1 := hr_8.trans (by decide)
      refine b_if_ne hx hb zl_1 (tgt := 21) dX11_soils_11 (by decide) (fun c_14 => ?_) (fun c_14 => by exfalso; omega)
      refine lv_aload_n hx hb dX11_soils_21 rfl (lv_at hl 0 rfl) ?_
      refine va_get (D := D) (ci := 11) (v := .ref yb) (C := RX11) (T := TX11) (N := 25) hx hb hT giX11 hown hK hP 0 rfl rfl 5 (by decide) (hT (Cond.fieldLink RX11 22 "DesertWireModel" "bits" "[I") mw_1161) (fun _ h9 => h9) rfl dX11_soils_22 ?_
      refine lv_iload_n hx hb dX11_soils_25 rfl (lv_at hl 1 rfl) ?_
      refine k_iald (v := 0) hx hb hK hP 1 0 rfl rfl (k_in (by omega) (by omega)) rfl dX11_soils_26 ?_
      refine b_if_ne hx hb zl_0 (tgt := 37) dX11_soils_27 (by decide) (fun c_15 => by exfalso; omega) (fun c_15 => ?_)
      refine lv_aload_n hx hb dX11_soils_30 rfl (lv_at hl 0 rfl) ?_
      refine lv_ldc (v := (-1000002)) hx hb hown (hT _ mw_1392) dX11_soils_31 ?_
      refine kJi (wr := [(yb, .inl (cI, 4, .inl (fun _ => (0 : Int32))))]) (va_runV (As := [.int (-1000002)]) (rest := []) ⟨hx, hb, hml, hown, hT⟩ (c_X11_finding l D cI h ys yk yt yf yb yz yn yc yp yw ye yx H.size m3 m9 m12 m13 m14 m15 m16 m17 m18 m19 m20 m22 m23 ff (-1000002) (by first | omega | (simp only [zl_m1000002] <;> omega) | decide | assumption | rfl) (by first | omega | (simp only [zl_m1000002] <;> omega) | decide | assumption | rfl)) (cwV 1 hT (gV_in mw_1243 mw_1240 mw_1242 mw_p3_8 mw_12) rfl rfl rfl (by decide +kernel) ⟨Nat.le_of_ble_eq_true rfl, Nat.le_of_ble_eq_true rfl⟩) (kRecv (own := "") (q0 := 0) (ci := 11) hK hP hD hN rfl rfl [0, 2] rfl (by decide)) rfl rfl hl.1 rfl (lv_room (Nat.le_of_ble_eq_true rfl)) dX11_soils_33 ⟨Nat.le_of_ble_eq_true rfl, Nat.le_of_ble_eq_true rfl⟩) hP hD hS hA [0, 2] [1] rfl rfl (by decide) (by decide) (fun r_16 u_18 H locs w_17 hP hD hS => ?_)
      have hP : va_P D vwCl [(yb, .inl (cI, 4, .inl (fun _ => (0 : Int32))))] H := hP
      have hD : va_D A [(yb, .inl (cI, 4, .inl (fun _ => (0 : Int32))))] := hD
      have hr_16 := w_17
      obtain rfl : r_16 = (-1000002) := hr_16.trans (by decide)
      exact hRet () [] (by unfold sp_soils; repeat (first | rw [if_pos (by omega)] | rw [if_neg (by omega)])) hP hD (by decide) rfl hS rfl dX11_soils_36
    · have h_13 : b.toInt < 0 ∨ 39 < b.toInt := h_13
      obtain rfl : r_8 = 0 := hr_8.trans (by decide)
      refine b_if_ne hx hb zl_0 (tgt := 21) dX11_soils_11 (by decide) (fun c_19 => by exfalso; omega) (fun c_19 => ?_)
      refine lv_aload_n hx hb dX11_soils_14 rfl (lv_at hl 0 rfl) ?_
      refine lv_ldc (v := (-1000001)) hx hb hown (hT _ mw_1239) dX11_soils_15 ?_
      refine kJi (wr := [(yb, .inl (cI, 4, .inl (fun _ => (0 : Int32))))]) (va_runV (As := [.int (-1000001)]) (rest := []) ⟨hx, hb, hml, hown, hT⟩ (c_X11_finding l D cI h ys yk yt yf yb yz yn yc yp yw ye yx H.size m3 m9 m12 m13 m14 m15 m16 m17 m18 m19 m20 m22 m23 ff (-1000001) (by first | omega | (simp only [zl_m1000001] <;> omega) | decide | assumption | rfl) (by first | omega | (simp only [zl_m1000001] <;> omega) | decide | assumption | rfl)) (cwV 1 hT (gV_in mw_1243 mw_1240 mw_1242 mw_p3_8 mw_12) rfl rfl rfl (by decide +kernel) ⟨Nat.le_of_ble_eq_true rfl, Nat.le_of_ble_eq_true rfl⟩) (kRecv (own := "") (q0 := 0) (ci := 11) hK hP hD hN rfl rfl [0, 2] rfl (by decide)) rfl rfl hl.1 rfl (lv_room (Nat.le_of_ble_eq_true rfl)) dX11_soils_17 ⟨Nat.le_of_ble_eq_true rfl, Nat.le_of_ble_eq_true rfl⟩) hP hD hS hA [0, 2] [1] rfl rfl (by decide) (by decide) (fun r_20 u_22 H locs w_21 hP hD hS => ?_)
      have hP : va_P D vwCl [(yb, .inl (cI, 4, .inl (fun _ => (0 : Int32))))] H := hP
      have hD : va_D A [(yb, .inl (cI, 4, .inl (fun _ => (0 : Int32))))] := hD
      have hr_20 := w_21
      obtain rfl : r_20 = (-1000001) := hr_20.trans (by decide)
      exact hRet () [] (by unfold sp_soils; repeat (first | rw [if_pos (by omega)] | rw [if_neg (by omega)])) hP hD (by decide) rfl hS rfl dX11_soils_20
  · have h_6 : a.toInt < 0 ∨ 3 < a.toInt := h_6
    obtain rfl : r_1 = 0 := hr_1.trans (by decide)
    refine b_if_eq hx hb zl_0 (tgt := 14) dX11_soils_4 (by decide) (fun c_23 => ?_) (fun c_23 => by exfalso; omega)
    refine lv_aload_n hx hb dX11_soils_14 rfl (lv_at hl 0 rfl) ?_
    refine lv_ldc (v := (-1000001)) hx hb hown (hT _ mw_1239) dX11_soils_15 ?_
    refine kJi (wr := [(yb, .inl (cI, 4, .inl (fun _ => (0 : Int32))))]) (va_runV (As := [.int (-1000001)]) (rest := []) ⟨hx, hb, hml, hown, hT⟩ (c_X11_finding l D cI h ys yk yt yf yb yz yn yc yp yw ye yx H.size m3 m9 m12 m13 m14 m15 m16 m17 m18 m19 m20 m22 m23 ff (-1000001) (by first | omega | (simp only [zl_m1000001] <;> omega) | decide | assumption | rfl) (by first | omega | (simp only [zl_m1000001] <;> omega) | decide | assumption | rfl)) (cwV 1 hT (gV_in mw_1243 mw_1240 mw_1242 mw_p3_8 mw_12) rfl rfl rfl (by decide +kernel) ⟨Nat.le_of_ble_eq_true rfl, Nat.le_of_ble_eq_true rfl⟩) (kRecv (own := "") (q0 := 0) (ci := 11) hK hP hD hN rfl rfl [0, 2] rfl (by decide)) rfl rfl hl.1 rfl (lv_room (Nat.le_of_ble_eq_true rfl)) dX11_soils_17 ⟨Nat.le_of_ble_eq_true rfl, Nat.le_of_ble_eq_true rfl⟩) hP hD hS hA [0, 2] [1] rfl rfl (by decide) (by decide) (fun r_24 u_26 H locs w_25 hP hD hS => ?_)
    have hP : va_P D vwCl [(yb, .inl (cI, 4, .inl (fun _ => (0 : Int32))))] H := hP
    have hD : va_D A [(yb, .inl (cI, 4, .inl (fun _ => (0 : Int32))))] := hD
    have hr_24 := w_25
    obtain rfl : r_24 = (-1000001) := hr_24.trans (by decide)
    exact hRet () [] (by unfold sp_soils; repeat (first | rw [if_pos (by omega)] | rw [if_neg (by omega)])) hP hD (by decide) rfl hS rfl dX11_soils_20
set_option maxHeartbeats 4000000 in
set_option maxRecDepth 100000 in
theorem c_X11_party_ (l : Launch) (D : va_G) (cI : ClassId) (h ys yk yt yf yb yz yn yc yp yw ye yx : Nat) (sz : Nat) (m3 : Int32) (m9 : Int32) (m12 : Int32) (m13 : Int32) (m14 : Int32) (m15 : Int32) (m16 : Int32) (m17 : Int32) (m18 : Int32) (m19 : Int32) (m20 : Int32) (m22 : Int32) (m23 : Int32) (ff : Nat → Int32) (a : Int32) (b : Int32) (d : Int32) (g : Int32) : Met l yX11_party_ (gW yX11_party_ cX11_party_ 7 (some .int)) ({ frames := 2, cells := 0, slots := 0, locals := 42 } : Room) (kPre D cI [.ref h, .int a, .int b, .int d, .int g] [(h, .inr (11, [.ref ys, .ref yk, .ref yt, .int m3, .ref yf, .ref yb, .ref yz, .ref yn, .ref yc, .int m9, .ref yp, .ref yw, .int m12, .int m13, .int m14, .int m15, .int m16, .int m17, .int m18, .int m19, .int m20, .ref ye, .int m22, .int m23, .ref yx])), (ys, .inl (cI, 1201, .inl sI)), (yf, .inl (cI, 6, .inl ff))] sz) (va_Qi (fun (r : Int32) (u : Unit) => r = sp_party a b d g) (fun u t => kWd D cI (va_A [(h, .inr (11, [.ref ys, .ref yk, .ref yt, .int m3, .ref yf, .ref yb, .ref yz, .ref yn, .ref yc, .int m9, .ref yp, .ref yw, .int m12, .int m13, .int m14, .int m15, .int m16, .int m17, .int m18, .int m19, .int m20, .ref ye, .int m22, .int m23, .ref yx])), (ys, .inl (cI, 1201, .inl sI)), (yf, .inl (cI, 6, .inl ff))] sz) [] t) (va_A [(h, .inr (11, [.ref ys, .ref yk, .ref yt, .int m3, .ref yf, .ref yb, .ref yz, .ref yn, .ref yc, .int m9, .ref yp, .ref yw, .int m12, .int m13, .int m14, .int m15, .int m16, .int m17, .int m18, .int m19, .int m20, .ref ye, .int m22, .int m23, .ref yx])), (ys, .inl (cI, 1201, .inl sI)), (yf, .inl (cI, 6, .inl ff))] sz)) 0 0 (va_A [(h, .inr (11, [.ref ys, .ref yk, .ref yt, .int m3, .ref yf, .ref yb, .ref yz, .ref yn, .ref yc, .int m9, .ref yp, .ref yw, .int m12, .int m13, .int m14, .int m15, .int m16, .int m17, .int m18, .int m19, .int m20, .ref ye, .int m22, .int m23, .ref yx])), (ys, .inl (cI, 1201, .inl sI)), (yf, .inl (cI, 6, .inl ff))] sz) := by
  refine kMetI (own := RX11) (by decide) rfl (Nat.le_of_ble_eq_true rfl) ?_
  intro p e s m args below meth c hx hb hT hown hname hml A Q hK hP hD hS hA hN hRet ls hl
  have hl : lv_has ls 7 [(0, .ref h), (1, .int a), (2, .int b), (3, .int d), (4, .int g)] := hl
  have lo_a := k_lo a
  have hi_a := k_hi a
  have lo_b := k_lo b
  have hi_b := k_hi b
  have lo_d := k_lo d
  have hi_d := k_hi d
  have lo_g := k_lo g
  have hi_g := k_hi g
  have lo_m3 := k_lo m3
  have hi_m3 := k_hi m3
  have lo_m9 := k_lo m9
  have hi_m9 := k_hi m9
  have lo_m12 := k_lo m12
  have hi_m12 := k_hi m12
  have lo_m13 := k_lo m13
  have hi_m13 := k_hi m13
  have lo_m14 := k_lo m14
  have hi_m14 := k_hi m14
  have lo_m15 := k_lo m15
  have hi_m15 := k_hi m15
  have lo_m16 := k_lo m16
  have hi_m16 := k_hi m16
  have lo_m17 := k_lo m17
  have hi_m17 := k_hi m17
  have lo_m18 := k_lo m18
  have hi_m18 := k_hi m18
  have lo_m19 := k_lo m19
  have hi_m19 := k_hi m19
  have lo_m20 := k_lo m20
  have hi_m20 := k_hi m20
  have lo_m22 := k_lo m22
  have hi_m22 := k_hi m22
  have lo_m23 := k_lo m23
  have hi_m23 := k_hi m23
  refine lv_iload_n hx hb dX11_party__0 rfl (lv_at hl 1 rfl) ?_
  refine kJi (wr := [(h, .inr (11, [.ref ys, .ref yk, .ref yt, .int m3, .ref yf, .ref yb, .ref yz, .ref yn, .ref yc, .int m9, .ref yp, .ref yw, .int m12, .int m13, .int m14, .int m15, .int m16, .int m17, .int m18, .int m19, .int m20, .ref ye, .int m22, .int m23, .ref yx])), (ys, .inl (cI, 1201, .inl sI)), (yf, .inl (cI, 6, .inl ff))]) (va_runS (As := [.int a]) (rest := []) ⟨hx, hb, hml, hown, hT⟩ (c_X11_isMile l D cI s.heap.size a) (cwS 1 hT (gS_in mw_1251 mw_1249 mw_1250 mw_12) rfl rfl rfl (by decide +kernel) ⟨Nat.le_of_ble_eq_true rfl, Nat.le_of_ble_eq_true rfl⟩) (kStat hK hP hD hN [] rfl (by decide)) rfl rfl hl.1 rfl (lv_room (Nat.le_of_ble_eq_true rfl)) dX11_party__1 ⟨Nat.le_of_ble_eq_true rfl, Nat.le_of_ble_eq_true rfl⟩) hP hD hS hA [] [0, 1, 2] rfl rfl (by decide) (by decide) (fun r_1 u_3 H locs w_2 hP hD hS => ?_)
  have hP : va_P D vwCl [(h, .inr (11, [.ref ys, .ref yk, .ref yt, .int m3, .ref yf, .ref yb, .ref yz, .ref yn, .ref yc, .int m9, .ref yp, .ref yw, .int m12, .int m13, .int m14, .int m15, .int m16, .int m17, .int m18, .int m19, .int m20, .ref ye, .int m22, .int m23, .ref yx])), (ys, .inl (cI, 1201, .inl sI)), (yf, .inl (cI, 6, .inl ff))] H := hP
  have hD : va_D A [(h, .inr (11, [.ref ys, .ref yk, .ref yt, .int m3, .ref yf, .ref yb, .ref yz, .ref yn, .ref yc, .int m9, .ref yp, .ref yw, .int m12, .int m13, .int m14, .int m15, .int m16, .int m17, .int m18, .int m19, .int m20, .ref ye, .int m22, .int m23, .ref yx])), (ys, .inl (cI, 1201, .inl sI)), (yf, .inl (cI, 6, .inl ff))] := hD
  rcases w_2 with ⟨hr_1, h_4, h_5⟩ | ⟨hr_1, h_6⟩
  · have h_4 : 0 ≤ a.toInt := h_4
    have h_5 : a.toInt ≤ 39 := h_5
    obtain rfl : r_1 = 1 := hr_1.trans (by decide)
    refine b_if_eq hx hb zl_1 (tgt := 58) dX11_party__4 (by decide) (fun c_7 => by exfalso; omega) (fun c_7 => ?_)
    refine lv_iload_n hx hb dX11_party__7 rfl (lv_at hl 2 rfl) ?_
    refine lv_iconst (v := 1) hx hb dX11_party__8 (by decide) ?_
    refine b_icmp_eq hx hb rfl zl_1 (tgt := 17) dX11_party__9 (by decide) (fun c_8 => ?_) (fun c_8 => ?_)
    · refine lv_iload_n hx hb dX11_party__17 rfl (lv_at hl 3 rfl) ?_
      refine b_if_lt hx hb rfl (tgt := 58) dX11_party__18 (by decide) (fun c_9 => ?_) (fun c_9 => ?_)
      · refine lv_aload_n hx hb dX11_party__58 rfl (lv_at hl 0 rfl) ?_
        refine lv_ldc (v := (-1000001)) hx hb hown (hT _ mw_1239) dX11_party__59 ?_
        refine kJi (wr := [(ys, .inl (cI, 1201, .inl sI))]) (va_runV (As := [.int (-1000001)]) (rest := []) ⟨hx, hb, hml, hown, hT⟩ (c_X11_finding l D cI h ys yk yt yf yb yz yn yc yp yw ye yx H.size m3 m9 m12 m13 m14 m15 m16 m17 m18 m19 m20 m22 m23 ff (-1000001) (by first | omega | (simp only [zl_m1000001] <;> omega) | decide | assumption | rfl) (by first | omega | (simp only [zl_m1000001] <;> omega) | decide | assumption | rfl)) (cwV 1 hT (gV_in mw_1243 mw_1240 mw_1242 mw_p3_8 mw_12) rfl rfl rfl (by decide +kernel) ⟨Nat.le_of_ble_eq_true rfl, Nat.le_of_ble_eq_true rfl⟩) (kRecv (own := "") (q0 := 0) (ci := 11) hK hP hD hN rfl rfl [0, 2] rfl (by decide)) rfl rfl hl.1 rfl (lv_room (Nat.le_of_ble_eq_true rfl)) dX11_party__61 ⟨Nat.le_of_ble_eq_true rfl, Nat.le_of_ble_eq_true rfl⟩) hP hD hS hA [0, 2] [1] rfl rfl (by decide) (by decide) (fun r_10 u_12 H locs w_11 hP hD hS => ?_)
        have hP : va_P D vwCl [(ys, .inl (cI, 1201, .inl sI))] H := hP
        have hD : va_D A [(ys, .inl (cI, 1201, .inl sI))] := hD
        have hr_10 := w_11
        obtain rfl : r_10 = (-1000001) := hr_10.trans (by decide)
        exact hRet () [] (by unfold sp_party; repeat (first | rw [if_pos (by omega)] | rw [if_neg (by omega)])) hP hD (by decide) rfl hS rfl dX11_party__64
      · refine lv_iload_n hx hb dX11_party__21 rfl (lv_at hl 3 rfl) ?_
        refine lv_bipush (v := 100) hx hb dX11_party__22 (by decide) ?_
        refine lv_idiv hx hb dX11_party__24 (by decide) ?_
        refine lv_topi (fun v_13 ev_13 => ?_)
        have tv_13 : v_13.toInt = d.toInt / 100 := k_divv (w := 0) ev_13 zl_100 (by omega) (by decide)
        have lo_v_13 := k_lo v_13
        have hi_v_13 := k_hi v_13
        refine lv_iconst (v := 1) hx hb dX11_party__25 (by decide) ?_
        refine lv_bipush (v := 50) hx hb dX11_party__26 (by decide) ?_
        refine kJi (wr := [(h, .inr (11, [.ref ys, .ref yk, .ref yt, .int m3, .ref yf, .ref yb, .ref yz, .ref yn, .ref yc, .int m9, .ref yp, .ref yw, .int m12, .int m13, .int m14, .int m15, .int m16, .int m17, .int m18, .int m19, .int m20, .ref ye, .int m22, .int m23, .ref yx])), (ys, .inl (cI, 1201, .inl sI)), (yf, .inl (cI, 6, .inl ff))]) (va_runS (As := [.int v_13, .int 1, .int 50]) (rest := []) ⟨hx, hb, hml, hown, hT⟩ (c_X11_in l D cI H.size v_13 1 50) (cwS 3 hT (gS_in mw_1238 mw_1236 mw_1237 mw_12) rfl rfl rfl (by decide +kernel) ⟨Nat.le_of_ble_eq_true rfl, Nat.le_of_ble_eq_true rfl⟩) (kStat hK hP hD hN [] rfl (by decide)) rfl rfl hl.1 rfl (lv_room (Nat.le_of_ble_eq_true rfl)) dX11_party__28 ⟨Nat.le_of_ble_eq_true rfl, Nat.le_of_ble_eq_true rfl⟩) hP hD hS hA [] [0, 1, 2] rfl rfl (by decide) (by decide) (fun r_14 u_16 H locs w_15 hP hD hS => ?_)
        have hP : va_P D vwCl [(h, .inr (11, [.ref ys, .ref yk, .ref yt, .int m3, .ref yf, .ref yb, .ref yz, .ref yn, .ref yc, .int m9, .ref yp, .ref yw, .int m12, .int m13, .int m14, .int m15, .int m16, .int m17, .int m18, .int m19, .int m20, .ref ye, .int m22, .int m23, .ref yx])), (ys, .inl (cI, 1201, .inl sI)), (yf, .inl (cI, 6, .inl ff))] H := hP
        have hD : va_D A [(h, .inr (11, [.ref ys, .ref yk, .ref yt, .int m3, .ref yf, .ref yb, .ref yz, .ref yn, .ref yc, .int m9, .ref yp, .ref yw, .int m12, .int m13, .int m14, .int m15, .int m16, .int m17, .int m18, .int m19, .int m20, .ref ye, .int m22, .int m23, .ref yx])), (ys, .inl (cI, 1201, .inl sI)), (yf, .inl (cI, 6, .inl ff))] := hD
        rcases w_15 with ⟨hr_14, h_17, h_18⟩ | ⟨hr_14, h_19⟩
        · try simp only [zl_1, zl_50] at h_17
          have h_17 : 1 ≤ v_13.toInt := h_17
          try simp only [zl_1, zl_50] at h_18
          have h_18 : v_13.toInt ≤ 50 := h_18
          obtain rfl : r_14 = 1 := hr_14.trans (by decide)
          refine b_if_eq hx hb zl_1 (tgt := 58) dX11_party__31 (by decide) (fun c_20 => by exfalso; omega) (fun c_20 => ?_)
          refine lv_iload_n hx hb dX11_party__34 rfl (lv_at hl 3 rfl) ?_
          refine lv_bipush (v := 100) hx hb dX11_party__35 (by decide) ?_
          refine lv_irem hx hb dX11_party__37 (by decide) ?_
          refine lv_topi (fun v_21 ev_21 => ?_)
          have tv_21 : v_21.toInt = d.toInt % 100 := k_remv (w := 0) ev_21 zl_100 (by omega) (by decide)
          have lo_v_21 := k_lo v_21
          have hi_v_21 := k_hi v_21
          refine lv_iconst (v := 0) hx hb dX11_party__38 (by decide) ?_
          refine lv_bipush (v := 50) hx hb dX11_party__39 (by decide) ?_
          refine kJi (wr := [(h, .inr (11, [.ref ys, .ref yk, .ref yt, .int m3, .ref yf, .ref yb, .ref yz, .ref yn, .ref yc, .int m9, .ref yp, .ref yw, .int m12, .int m13, .int m14, .int m15, .int m16, .int m17, .int m18, .int m19, .int m20, .ref ye, .int m22, .int m23, .ref yx])), (ys, .inl (cI, 1201, .inl sI)), (yf, .inl (cI, 6, .inl ff))]) (va_runS (As := [.int v_21, .int 0, .int 50]) (rest := []) ⟨hx, hb, hml, hown, hT⟩ (c_X11_in l D cI H.size v_21 0 50) (cwS 3 hT (gS_in mw_1238 mw_1236 mw_1237 mw_12) rfl rfl rfl (by decide +kernel) ⟨Nat.le_of_ble_eq_true rfl, Nat.le_of_ble_eq_true rfl⟩) (kStat hK hP hD hN [] rfl (by decide)) rfl rfl hl.1 rfl (lv_room (Nat.le_of_ble_eq_true rfl)) dX11_party__41 ⟨Nat.le_of_ble_eq_true rfl, Nat.le_of_ble_eq_true rfl⟩) hP hD hS hA [] [0, 1, 2] rfl rfl (by decide) (by decide) (fun r_22 u_24 H locs w_23 hP hD hS => ?_)
          have hP : va_P D vwCl [(h, .inr (11, [.ref ys, .ref yk, .ref yt, .int m3, .ref yf, .ref yb, .ref yz, .ref yn, .ref yc, .int m9, .ref yp, .ref yw, .int m12, .int m13, .int m14, .int m15, .int m16, .int m17, .int m18, .int m19, .int m20, .ref ye, .int m22, .int m23, .ref yx])), (ys, .inl (cI, 1201, .inl sI)), (yf, .inl (cI, 6, .inl ff))] H := hP
          have hD : va_D A [(h, .inr (11, [.ref ys, .ref yk, .ref yt, .int m3, .ref yf, .ref yb, .ref yz, .ref yn, .ref yc, .int m9, .ref yp, .ref yw, .int m12, .int m13, .int m14, .int m15, .int m16, .int m17, .int m18, .int m19, .int m20, .ref ye, .int m22, .int m23, .ref yx])), (ys, .inl (cI, 1201, .inl sI)), (yf, .inl (cI, 6, .inl ff))] := hD
          rcases w_23 with ⟨hr_22, h_25, h_26⟩ | ⟨hr_22, h_27⟩
          · try simp only [zl_0, zl_50] at h_25
            have h_25 : 0 ≤ v_21.toInt := h_25
            try simp only [zl_0, zl_50] at h_26
            have h_26 : v_21.toInt ≤ 50 := h_26
            obtain rfl : r_22 = 1 := hr_22.trans (by decide)
            refine b_if_eq hx hb zl_1 (tgt := 58) dX11_party__44 (by decide) (fun c_28 => by exfalso; omega) (fun c_28 => ?_)
            refine lv_iload hx hb dX11_party__47 (lv_at hl 4 rfl) ?_
            refine lv_iconst (v := 0) hx hb dX11_party__49 (by decide) ?_
            refine lv_bipush (v := 99) hx hb dX11_party__50 (by decide) ?_
            refine kJi (wr := [(h, .inr (11, [.ref ys, .ref yk, .ref yt, .int m3, .ref yf, .ref yb, .ref yz, .ref yn, .ref yc, .int m9, .ref yp, .ref yw, .int m12, .int m13, .int m14, .int m15, .int m16, .int m17, .int m18, .int m19, .int m20, .ref ye, .int m22, .int m23, .ref yx])), (ys, .inl (cI, 1201, .inl sI)), (yf, .inl (cI, 6, .inl ff))]) (va_runS (As := [.int g, .int 0, .int 99]) (rest := []) ⟨hx, hb, hml, hown, hT⟩ (c_X11_in l D cI H.size g 0 99) (cwS 3 hT (gS_in mw_1238 mw_1236 mw_1237 mw_12) rfl rfl rfl (by decide +kernel) ⟨Nat.le_of_ble_eq_true rfl, Nat.le_of_ble_eq_true rfl⟩) (kStat hK hP hD hN [] rfl (by decide)) rfl rfl hl.1 rfl (lv_room (Nat.le_of_ble_eq_true rfl)) dX11_party__52 ⟨Nat.le_of_ble_eq_true rfl, Nat.le_of_ble_eq_true rfl⟩) hP hD hS hA [] [0, 1, 2] rfl rfl (by decide) (by decide) (fun r_29 u_31 H locs w_30 hP hD hS => ?_)
            have hP : va_P D vwCl [(h, .inr (11, [.ref ys, .ref yk, .ref yt, .int m3, .ref yf, .ref yb, .ref yz, .ref yn, .ref yc, .int m9, .ref yp, .ref yw, .int m12, .int m13, .int m14, .int m15, .int m16, .int m17, .int m18, .int m19, .int m20, .ref ye, .int m22, .int m23, .ref yx])), (ys, .inl (cI, 1201, .inl sI)), (yf, .inl (cI, 6, .inl ff))] H := hP
            have hD : va_D A [(h, .inr (11, [.ref ys, .ref yk, .ref yt, .int m3, .ref yf, .ref yb, .ref yz, .ref yn, .ref yc, .int m9, .ref yp, .ref yw, .int m12, .int m13, .int m14, .int m15, .int m16, .int m17, .int m18, .int m19, .int m20, .ref ye, .int m22, .int m23, .ref yx])), (ys, .inl (cI, 1201, .inl sI)), (yf, .inl (cI, 6, .inl ff))] := hD
            rcases w_30 with ⟨hr_29, h_32, h_33⟩ | ⟨hr_29, h_34⟩
            · try simp only [zl_0, zl_99] at h_32
              have h_32 : 0 ≤ g.toInt := h_32
              try simp only [zl_0, zl_99] at h_33
              have h_33 : g.toInt ≤ 99 := h_33
              obtain rfl : r_29 = 1 := hr_29.trans (by decide)
              refine b_if_ne hx hb zl_1 (tgt := 65) dX11_party__55 (by decide) (fun c_35 => ?_) (fun c_35 => by exfalso; omega)
              refine lv_aload_n hx hb dX11_party__65 rfl (lv_at hl 0 rfl) ?_
              refine va_get (D := D) (ci := 11) (v := .ref ys) (C := RX11) (T := TX11) (N := 25) hx hb hT giX11 hown hK hP 0 rfl rfl 0 (by decide) (hT (Cond.fieldLink RX11 9 "DesertWireModel" "s" "[I") mw_1156) (fun _ h9 => h9) rfl dX11_party__66 ?_
              refine lv_iconst (v := 2) hx hb dX11_party__69 (by decide) ?_
              refine k_iald (v := 0) hx hb hK hP 1 0 rfl rfl (k_inl (by decide)) (by decide +kernel) dX11_party__70 ?_
              refine lv_iconst (v := 4) hx hb dX11_party__71 (by decide) ?_
              refine b_icmp_ne hx hb zl_0 zl_4 (tgt := 82) dX11_party__72 (by decide) (fun c_36 => ?_) (fun c_36 => by exfalso; omega)
              refine lv_aload_n hx hb dX11_party__82 rfl (lv_at hl 0 rfl) ?_
              refine va_get (D := D) (ci := 11) (v := .ref ys) (C := RX11) (T := TX11) (N := 25) hx hb hT giX11 hown hK hP 0 rfl rfl 0 (by decide) (hT (Cond.fieldLink RX11 9 "DesertWireModel" "s" "[I") mw_1156) (fun _ h9 => h9) rfl dX11_party__83 ?_
              refine lv_iconst (v := 2) hx hb dX11_party__86 (by decide) ?_
              refine k_iald (v := 0) hx hb hK hP 1 0 rfl rfl (k_inl (by decide)) (by decide +kernel) dX11_party__87 ?_
              refine lv_istore (lv' := [(5, .int 0), (0, .ref h), (1, .int a), (2, .int b), (3, .int d), (4, .int g)]) hx hb dX11_party__88 hl (by decide) rfl (fun ls hl => ?_)
              refine lv_aload_n hx hb dX11_party__90 rfl (lv_at hl 1 rfl) ?_
              refine va_get (D := D) (ci := 11) (v := .ref ys) (C := RX11) (T := TX11) (N := 25) hx hb hT giX11 hown hK hP 0 rfl rfl 0 (by decide) (hT (Cond.fieldLink RX11 9 "DesertWireModel" "s" "[I") mw_1156) (fun _ h9 => h9) rfl dX11_party__91 ?_
              refine lv_iconst (v := 2) hx hb dX11_party__94 (by decide) ?_
              refine lv_dup2_11 hx hb dX11_party__95 rfl rfl ?_
              refine k_iald (v := 0) hx hb hK hP 1 0 rfl rfl (k_inl (by decide)) (by decide +kernel) dX11_party__96 ?_
              refine lv_iconst (v := 1) hx hb dX11_party__97 (by decide) ?_
              refine k_iadd (v := 1) hx hb dX11_party__98 (by decide) ?_
              refine va_iast hx hb hK hP hD hS 1 0 rfl rfl (k_inl (by decide)) dX11_party__99 (fun H locs hP hD hS => ?_)
              have hP : va_P D vwCl [(h, .inr (11, [.ref ys, .ref yk, .ref yt, .int m3, .ref yf, .ref yb, .ref yz, .ref yn, .ref yc, .int m9, .ref yp, .ref yw, .int m12, .int m13, .int m14, .int m15, .int m16, .int m17, .int m18, .int m19, .int m20, .ref ye, .int m22, .int m23, .ref yx])), (ys, .inl (cI, 1201, .inl (upd sI 2 1))), (yf, .inl (cI, 6, .inl ff))] H := hP
              have hD : va_D A [(h, .inr (11, [.ref ys, .ref yk, .ref yt, .int m3, .ref yf, .ref yb, .ref yz, .ref yn, .ref yc, .int m9, .ref yp, .ref yw, .int m12, .int m13, .int m14, .int m15, .int m16, .int m17, .int m18, .int m19, .int m20, .ref ye, .int m22, .int m23, .ref yx])), (ys, .inl (cI, 1201, .inl (upd sI 2 1))), (yf, .inl (cI, 6, .inl ff))] := hD
              obtain ⟨f_37, ef_37⟩ : ∃ g : Nat → Int32, g = upd sI 2 1 := ⟨_, rfl⟩
              rw [← ef_37] at hP hD
              refine lv_iconst (v := 0) hx hb dX11_party__100 (by decide) ?_
              refine lv_istore (lv' := [(6, .int 0), (5, .int 0), (0, .ref h), (1, .int a), (2, .int b), (3, .int d), (4, .int g)]) hx hb dX11_party__101 hl (by decide) rfl (fun ls hl => ?_)
              have hloop_103 : ∀ (fu_ : Nat) (i : Int32) (q : Nat → Int32), 0 ≤ i.toInt → i.toInt ≤ 9 → (9 - i.toInt).toNat < fu_ → ∀ (ls : Array Slot) (H : Heap) (locs : List Loc), lv_has ls 7 [(6, .int i), (5, .int 0), (0, .ref h), (1, .int a), (2, .int b), (3, .int d), (4, .int g)] → va_P D vwCl [(h, .inr (11, [.ref ys, .ref yk, .ref yt, .int m3, .ref yf, .ref yb, .ref yz, .ref yn, .ref yc, .int m9, .ref yp, .ref yw, .int m12, .int m13, .int m14, .int m15, .int m16, .int m17, .int m18, .int m19, .int m20, .ref ye, .int m22, .int m23, .ref yx])), (ys, .inl (cI, 1201, .inl q)), (yf, .inl (cI, 6, .inl ff))] H → va_D A [(h, .inr (11, [.ref ys, .ref yk, .ref yt, .int m3, .ref yf, .ref yb, .ref yz, .ref yn, .ref yc, .int m9, .ref yp, .ref yw, .int m12, .int m13, .int m14, .int m15, .int m16, .int m17, .int m18, .int m19, .int m20, .ref ye, .int m22, .int m23, .ref yx])), (ys, .inl (cI, 1201, .inl q)), (yf, .inl (cI, 6, .inl ff))] → va_S A s.heap H locs → W p l e ({ frames := 2, cells := 0, slots := 0, locals := 42 } : Room) s m args below meth c H locs 0 0 Q (F0 m 103 ls []) := by
                intro fu_; induction fu_ with
                | zero => intro i q i103_0 i103_1 hm; exact absurd hm (by omega)
                | succ fu_ ih103 =>
                    intro i q i103_0 i103_1 hm ls H locs hl hP hD hS
                    have lo_i := k_lo i
                    have hi_i := k_hi i
                    refine lv_iload hx hb dX11_party__103 (lv_at hl 0 rfl) ?_
                    refine lv_bipush (v := 9) hx hb dX11_party__105 (by decide) ?_
                    refine b_icmp_ge hx hb rfl zl_9 (tgt := 125) dX11_party__107 (by decide) (fun c_38 => ?_) (fun c_38 => ?_)
                    · refine lv_aload_n hx hb dX11_party__125 rfl (lv_at hl 2 rfl) ?_
                      refine lv_iload hx hb dX11_party__126 (lv_at hl 1 rfl) ?_
                      refine lv_iconst (v := 0) hx hb dX11_party__128 (by decide) ?_
                      refine lv_iload_n hx hb dX11_party__129 rfl (lv_at hl 3 rfl) ?_
                      refine kJv (wr := [(yf, .inl (cI, 6, .inl ff))]) (va_runV (As := [.int 0, .int 0, .int a]) (rest := []) ⟨hx, hb, hml, hown, hT⟩ (c_X11_setParty l D cI h ys yk yt yf yb yz yn yc yp yw ye yx H.size m3 m9 m12 m13 m14 m15 m16 m17 m18 m19 m20 m22 m23 q 0 0 a (by first | omega | (simp only [zl_0] <;> omega) | decide | assumption | rfl) (by first | omega | (simp only [zl_0] <;> omega) | decide | assumption | rfl) (by first | omega | (simp only [zl_0] <;> omega) | decide | assumption | rfl)) (cwV 3 hT (gV_in mw_1404 mw_1401 mw_1403 mw_p5_3 mw_12) rfl rfl rfl (by decide +kernel) ⟨Nat.le_of_ble_eq_true rfl, Nat.le_of_ble_eq_true rfl⟩) (kRecv (own := "") (q0 := 0) (ci := 11) hK hP hD hN rfl rfl [0, 1] rfl (by decide)) rfl rfl hl.1 rfl (lv_room (Nat.le_of_ble_eq_true rfl)) dX11_party__130 ⟨Nat.le_of_ble_eq_true rfl, Nat.le_of_ble_eq_true rfl⟩) hP hD hS hA [0, 1] [2] rfl rfl (by decide) (by decide) (fun g_41 H locs w_40 hP hD hS => ?_)
                      have hP : va_P D vwCl [(yf, .inl (cI, 6, .inl ff)), (h, .inr (11, [.ref ys, .ref yk, .ref yt, .int m3, .ref yf, .ref yb, .ref yz, .ref yn, .ref yc, .int m9, .ref yp, .ref yw, .int m12, .int m13, .int m14, .int m15, .int m16, .int m17, .int m18, .int m19, .int m20, .ref ye, .int m22, .int m23, .ref yx])), (ys, .inl (cI, 1201, .inl g_41))] H := hP
                      have hD : va_D A [(yf, .inl (cI, 6, .inl ff)), (h, .inr (11, [.ref ys, .ref yk, .ref yt, .int m3, .ref yf, .ref yb, .ref yz, .ref yn, .ref yc, .int m9, .ref yp, .ref yw, .int m12, .int m13, .int m14, .int m15, .int m16, .int m17, .int m18, .int m19, .int m20, .ref ye, .int m22, .int m23, .ref yx])), (ys, .inl (cI, 1201, .inl g_41))] := hD
                      refine lv_aload_n hx hb dX11_party__133 rfl (lv_at hl 2 rfl) ?_
                      refine lv_iload hx hb dX11_party__134 (lv_at hl 1 rfl) ?_
                      refine lv_iconst (v := 1) hx hb dX11_party__136 (by decide) ?_
                      refine lv_iload_n hx hb dX11_party__137 rfl (lv_at hl 4 rfl) ?_
                      refine kJv (wr := [(yf, .inl (cI, 6, .inl ff))]) (va_runV (As := [.int 0, .int 1, .int b]) (rest := []) ⟨hx, hb, hml, hown, hT⟩ (c_X11_setParty l D cI h ys yk yt yf yb yz yn yc yp yw ye yx H.size m3 m9 m12 m13 m14 m15 m16 m17 m18 m19 m20 m22 m23 g_41 0 1 b (by first | omega | (simp only [zl_0, zl_1] <;> omega) | decide | assumption | rfl) (by first | omega | (simp only [zl_0, zl_1] <;> omega) | decide | assumption | rfl) (by first | omega | (simp only [zl_0, zl_1] <;> omega) | decide | assumption | rfl)) (cwV 3 hT (gV_in mw_1404 mw_1401 mw_1403 mw_p5_3 mw_12) rfl rfl rfl (by decide +kernel) ⟨Nat.le_of_ble_eq_true rfl, Nat.le_of_ble_eq_true rfl⟩) (kRecv (own := "") (q0 := 1) (ci := 11) hK hP hD hN rfl rfl [1, 2] rfl (by decide)) rfl rfl hl.1 rfl (lv_room (Nat.le_of_ble_eq_true rfl)) dX11_party__138 ⟨Nat.le_of_ble_eq_true rfl, Nat.le_of_ble_eq_true rfl⟩) hP hD hS hA [1, 2] [0] rfl rfl (by decide) (by decide) (fun g_44 H locs w_43 hP hD hS => ?_)
                      have hP : va_P D vwCl [(yf, .inl (cI, 6, .inl ff)), (h, .inr (11, [.ref ys, .ref yk, .ref yt, .int m3, .ref yf, .ref yb, .ref yz, .ref yn, .ref yc, .int m9, .ref yp, .ref yw, .int m12, .int m13, .int m14, .int m15, .int m16, .int m17, .int m18, .int m19, .int m20, .ref ye, .int m22, .int m23, .ref yx])), (ys, .inl (cI, 1201, .inl g_44))] H := hP
                      have hD : va_D A [(yf, .inl (cI, 6, .inl ff)), (h, .inr (11, [.ref ys, .ref yk, .ref yt, .int m3, .ref yf, .ref yb, .ref yz, .ref yn, .ref yc, .int m9, .ref yp, .ref yw, .int m12, .int m13, .int m14, .int m15, .int m16, .int m17, .int m18, .int m19, .int m20, .ref ye, .int m22, .int m23, .ref yx])), (ys, .inl (cI, 1201, .inl g_44))] := hD
                      refine lv_aload_n hx hb dX11_party__141 rfl (lv_at hl 2 rfl) ?_
                      refine lv_iload hx hb dX11_party__142 (lv_at hl 1 rfl) ?_
                      refine lv_iconst (v := 2) hx hb dX11_party__144 (by decide) ?_
                      refine lv_iload_n hx hb dX11_party__145 rfl (lv_at hl 5 rfl) ?_
                      refine lv_bipush (v := 100) hx hb dX11_party__146 (by decide) ?_
                      refine lv_idiv hx hb dX11_party__148 (by decide) ?_
                      refine lv_topi (fun v_45 ev_45 => ?_)
                      have tv_45 : v_45.toInt = d.toInt / 100 := k_divv (w := 0) ev_45 zl_100 (by omega) (by decide)
                      have lo_v_45 := k_lo v_45
                      have hi_v_45 := k_hi v_45
                      refine kJv (wr := [(yf, .inl (cI, 6, .inl ff))]) (va_runV (As := [.int 0, .int 2, .int v_45]) (rest := []) ⟨hx, hb, hml, hown, hT⟩ (c_X11_setParty l D cI h ys yk yt yf yb yz yn yc yp yw ye yx H.size m3 m9 m12 m13 m14 m15 m16 m17 m18 m19 m20 m22 m23 g_44 0 2 v_45 (by first | omega | (simp only [zl_0, zl_2] <;> omega) | decide | assumption | rfl) (by first | omega | (simp only [zl_0, zl_2] <;> omega) | decide | assumption | rfl) (by first | omega | (simp only [zl_0, zl_2] <;> omega) | decide | assumption | rfl)) (cwV 3 hT (gV_in mw_1404 mw_1401 mw_1403 mw_p5_3 mw_12) rfl rfl rfl (by decide +kernel) ⟨Nat.le_of_ble_eq_true rfl, Nat.le_of_ble_eq_true rfl⟩) (kRecv (own := "") (q0 := 1) (ci := 11) hK hP hD hN rfl rfl [1, 2] rfl (by decide)) rfl rfl hl.1 rfl (lv_room (Nat.le_of_ble_eq_true rfl)) dX11_party__149 ⟨Nat.le_of_ble_eq_true rfl, Nat.le_of_ble_eq_true rfl⟩) hP hD hS hA [1, 2] [0] rfl rfl (by decide) (by decide) (fun g_48 H locs w_47 hP hD hS => ?_)
                      have hP : va_P D vwCl [(yf, .inl (cI, 6, .inl ff)), (h, .inr (11, [.ref ys, .ref yk, .ref yt, .int m3, .ref yf, .ref yb, .ref yz, .ref yn, .ref yc, .int m9, .ref yp, .ref yw, .int m12, .int m13, .int m14, .int m15, .int m16, .int m17, .int m18, .int m19, .int m20, .ref ye, .int m22, .int m23, .ref yx])), (ys, .inl (cI, 1201, .inl g_48))] H := hP
                      have hD : va_D A [(yf, .inl (cI, 6, .inl ff)), (h, .inr (11, [.ref ys, .ref yk, .ref yt, .int m3, .ref yf, .ref yb, .ref yz, .ref yn, .ref yc, .int m9, .ref yp, .ref yw, .int m12, .int m13, .int m14, .int m15, .int m16, .int m17, .int m18, .int m19, .int m20, .ref ye, .int m22, .int m23, .ref yx])), (ys, .inl (cI, 1201, .inl g_48))] := hD
                      refine lv_aload_n hx hb dX11_party__152 rfl (lv_at hl 2 rfl) ?_
                      refine lv_iload hx hb dX11_party__153 (lv_at hl 1 rfl) ?_
                      refine lv_iconst (v := 3) hx hb dX11_party__155 (by decide) ?_
                      refine lv_iload_n hx hb dX11_party__156 rfl (lv_at hl 5 rfl) ?_
                      refine lv_bipush (v := 100) hx hb dX11_party__157 (by decide) ?_
                      refine lv_irem hx hb dX11_party__159 (by decide) ?_
                      refine lv_topi (fun v_49 ev_49 => ?_)
                      have tv_49 : v_49.toInt = d.toInt % 100 := k_remv (w := 0) ev_49 zl_100 (by omega) (by decide)
                      have lo_v_49 := k_lo v_49
                      have hi_v_49 := k_hi v_49
                      refine kJv (wr := [(yf, .inl (cI, 6, .inl ff))]) (va_runV (As := [.int 0, .int 3, .int v_49]) (rest := []) ⟨hx, hb, hml, hown, hT⟩ (c_X11_setParty l D cI h ys yk yt yf yb yz yn yc yp yw ye yx H.size m3 m9 m12 m13 m14 m15 m16 m17 m18 m19 m20 m22 m23 g_48 0 3 v_49 (by first | omega | (simp only [zl_0, zl_3] <;> omega) | decide | assumption | rfl) (by first | omega | (simp only [zl_0, zl_3] <;> omega) | decide | assumption | rfl) (by first | omega | (simp only [zl_0, zl_3] <;> omega) | decide | assumption | rfl)) (cwV 3 hT (gV_in mw_1404 mw_1401 mw_1403 mw_p5_3 mw_12) rfl rfl rfl (by decide +kernel) ⟨Nat.le_of_ble_eq_true rfl, Nat.le_of_ble_eq_true rfl⟩) (kRecv (own := "") (q0 := 1) (ci := 11) hK hP hD hN rfl rfl [1, 2] rfl (by decide)) rfl rfl hl.1 rfl (lv_room (Nat.le_of_ble_eq_true rfl)) dX11_party__160 ⟨Nat.le_of_ble_eq_true rfl, Nat.le_of_ble_eq_true rfl⟩) hP hD hS hA [1, 2] [0] rfl rfl (by decide) (by decide) (fun g_52 H locs w_51 hP hD hS => ?_)
                      have hP : va_P D vwCl [(yf, .inl (cI, 6, .inl ff)), (h, .inr (11, [.ref ys, .ref yk, .ref yt, .int m3, .ref yf, .ref yb, .ref yz, .ref yn, .ref yc, .int m9, .ref yp, .ref yw, .int m12, .int m13, .int m14, .int m15, .int m16, .int m17, .int m18, .int m19, .int m20, .ref ye, .int m22, .int m23, .ref yx])), (ys, .inl (cI, 1201, .inl g_52))] H := hP
                      have hD : va_D A [(yf, .inl (cI, 6, .inl ff)), (h, .inr (11, [.ref ys, .ref yk, .ref yt, .int m3, .ref yf, .ref yb, .ref yz, .ref yn, .ref yc, .int m9, .ref yp, .ref yw, .int m12, .int m13, .int m14, .int m15, .int m16, .int m17, .int m18, .int m19, .int m20, .ref ye, .int m22, .int m23, .ref yx])), (ys, .inl (cI, 1201, .inl g_52))] := hD
                      refine lv_aload_n hx hb dX11_party__163 rfl (lv_at hl 2 rfl) ?_
                      refine lv_iload hx hb dX11_party__164 (lv_at hl 1 rfl) ?_
                      refine lv_iconst (v := 4) hx hb dX11_party__166 (by decide) ?_
                      refine lv_iload hx hb dX11_party__167 (lv_at hl 6 rfl) ?_
                      refine kJv (wr := [(yf, .inl (cI, 6, .inl ff))]) (va_runV (As := [.int 0, .int 4, .int g]) (rest := []) ⟨hx, hb, hml, hown, hT⟩ (c_X11_setParty l D cI h ys yk yt yf yb yz yn yc yp yw ye yx H.size m3 m9 m12 m13 m14 m15 m16 m17 m18 m19 m20 m22 m23 g_52 0 4 g (by first | omega | (simp only [zl_0, zl_4] <;> omega) | decide | assumption | rfl) (by first | omega | (simp only [zl_0, zl_4] <;> omega) | decide | assumption | rfl) (by first | omega | (simp only [zl_0, zl_4] <;> omega) | decide | assumption | rfl)) (cwV 3 hT (gV_in mw_1404 mw_1401 mw_1403 mw_p5_3 mw_12) rfl rfl rfl (by decide +kernel) ⟨Nat.le_of_ble_eq_true rfl, Nat.le_of_ble_eq_true rfl⟩) (kRecv (own := "") (q0 := 1) (ci := 11) hK hP hD hN rfl rfl [1, 2] rfl (by decide)) rfl rfl hl.1 rfl (lv_room (Nat.le_of_ble_eq_true rfl)) dX11_party__169 ⟨Nat.le_of_ble_eq_true rfl, Nat.le_of_ble_eq_true rfl⟩) hP hD hS hA [1, 2] [0] rfl rfl (by decide) (by decide) (fun g_55 H locs w_54 hP hD hS => ?_)
                      have hP : va_P D vwCl [(yf, .inl (cI, 6, .inl ff)), (h, .inr (11, [.ref ys, .ref yk, .ref yt, .int m3, .ref yf, .ref yb, .ref yz, .ref yn, .ref yc, .int m9, .ref yp, .ref yw, .int m12, .int m13, .int m14, .int m15, .int m16, .int m17, .int m18, .int m19, .int m20, .ref ye, .int m22, .int m23, .ref yx])), (ys, .inl (cI, 1201, .inl g_55))] H := hP
                      have hD : va_D A [(yf, .inl (cI, 6, .inl ff)), (h, .inr (11, [.ref ys, .ref yk, .ref yt, .int m3, .ref yf, .ref yb, .ref yz, .ref yn, .ref yc, .int m9, .ref yp, .ref yw, .int m12, .int m13, .int m14, .int m15, .int m16, .int m17, .int m18, .int m19, .int m20, .ref ye, .int m22, .int m23, .ref yx])), (ys, .inl (cI, 1201, .inl g_55))] := hD
                      refine lv_iload hx hb dX11_party__172 (lv_at hl 1 rfl) ?_
                      exact hRet () [] (by unfold sp_party; repeat (first | rw [if_pos (by omega)] | rw [if_neg (by omega)])) hP hD (by decide) rfl hS rfl dX11_party__174
                    · refine lv_aload_n hx hb dX11_party__110 rfl (lv_at hl 2 rfl) ?_
                      refine lv_iload hx hb dX11_party__111 (lv_at hl 1 rfl) ?_
                      refine lv_iload hx hb dX11_party__113 (lv_at hl 0 rfl) ?_
                      refine lv_iconst (v := 0) hx hb dX11_party__115 (by decide) ?_
                      refine kJv (wr := [(yf, .inl (cI, 6, .inl ff))]) (va_runV (As := [.int 0, .int i, .int 0]) (rest := []) ⟨hx, hb, hml, hown, hT⟩ (c_X11_setParty l D cI h ys yk yt yf yb yz yn yc yp yw ye yx H.size m3 m9 m12 m13 m14 m15 m16 m17 m18 m19 m20 m22 m23 q 0 i 0 (by first | omega | (simp only [zl_0] <;> omega) | decide | assumption | rfl) (by first | omega | (simp only [zl_0] <;> omega) | decide | assumption | rfl) (by first | omega | (simp only [zl_0] <;> omega) | decide | assumption | rfl)) (cwV 3 hT (gV_in mw_1404 mw_1401 mw_1403 mw_p5_3 mw_12) rfl rfl rfl (by decide +kernel) ⟨Nat.le_of_ble_eq_true rfl, Nat.le_of_ble_eq_true rfl⟩) (kRecv (own := "") (q0 := 0) (ci := 11) hK hP hD hN rfl rfl [0, 1] rfl (by decide)) rfl rfl hl.1 rfl (lv_room (Nat.le_of_ble_eq_true rfl)) dX11_party__116 ⟨Nat.le_of_ble_eq_true rfl, Nat.le_of_ble_eq_true rfl⟩) hP hD hS hA [0, 1] [2] rfl rfl (by decide) (by decide) (fun g_58 H locs w_57 hP hD hS => ?_)
                      have hP : va_P D vwCl [(yf, .inl (cI, 6, .inl ff)), (h, .inr (11, [.ref ys, .ref yk, .ref yt, .int m3, .ref yf, .ref yb, .ref yz, .ref yn, .ref yc, .int m9, .ref yp, .ref yw, .int m12, .int m13, .int m14, .int m15, .int m16, .int m17, .int m18, .int m19, .int m20, .ref ye, .int m22, .int m23, .ref yx])), (ys, .inl (cI, 1201, .inl g_58))] H := hP
                      have hD : va_D A [(yf, .inl (cI, 6, .inl ff)), (h, .inr (11, [.ref ys, .ref yk, .ref yt, .int m3, .ref yf, .ref yb, .ref yz, .ref yn, .ref yc, .int m9, .ref yp, .ref yw, .int m12, .int m13, .int m14, .int m15, .int m16, .int m17, .int m18, .int m19, .int m20, .ref ye, .int m22, .int m23, .ref yx])), (ys, .inl (cI, 1201, .inl g_58))] := hD
                      obtain ⟨v_59, ev_59⟩ : ∃ y : Int32, y = i + 1 := ⟨_, rfl⟩
                      have tv_59 : v_59.toInt = i.toInt + 1 := by rw [ev_59]; exact k_addv rfl zl_1 (by omega) (by omega)
                      refine lv_iinc (v := v_59) (lv' := [(6, .int v_59), (5, .int 0), (0, .ref h), (1, .int a), (2, .int b), (3, .int d), (4, .int g)]) hx hb dX11_party__119 hl (k := 0) rfl (by rw [ev_59]; rfl) (by decide) rfl (fun ls hl => ?_)
                      refine lv_goto (tgt := 103) hx hb dX11_party__122 (by decide) ?_
                      exact ih103 v_59 g_58 (by first | omega | decide | assumption | rfl) (by first | omega | decide | assumption | rfl) (by omega) ls _ _ (lv_sub hl [0, 1, 2, 3, 4, 5, 6] rfl) (hP.sub [1, 2, 0] rfl) (hD.sub [1, 2, 0] (by decide) rfl) hS
              exact hloop_103 _ 0 f_37 (by first | omega | (simp only [zl_0] <;> omega) | decide | assumption | rfl) (by first | omega | (simp only [zl_0] <;> omega) | decide | assumption | rfl) (Nat.lt_succ_self _) ls _ _ (lv_sub hl [0, 1, 2, 3, 4, 5, 6] rfl) hP hD hS
            · try simp only [zl_0, zl_99] at h_34
              have h_34 : g.toInt < 0 ∨ 99 < g.toInt := h_34
              obtain rfl : r_29 = 0 := hr_29.trans (by decide)
              refine b_if_ne hx hb zl_0 (tgt := 65) dX11_party__55 (by decide) (fun c_60 => by exfalso; omega) (fun c_60 => ?_)
              refine lv_aload_n hx hb dX11_party__58 rfl (lv_at hl 0 rfl) ?_
              refine lv_ldc (v := (-1000001)) hx hb hown (hT _ mw_1239) dX11_party__59 ?_
              refine kJi (wr := [(ys, .inl (cI, 1201, .inl sI))]) (va_runV (As := [.int (-1000001)]) (rest := []) ⟨hx, hb, hml, hown, hT⟩ (c_X11_finding l D cI h ys yk yt yf yb yz yn yc yp yw ye yx H.size m3 m9 m12 m13 m14 m15 m16 m17 m18 m19 m20 m22 m23 ff (-1000001) (by first | omega | (simp only [zl_m1000001] <;> omega) | decide | assumption | rfl) (by first | omega | (simp only [zl_m1000001] <;> omega) | decide | assumption | rfl)) (cwV 1 hT (gV_in mw_1243 mw_1240 mw_1242 mw_p3_8 mw_12) rfl rfl rfl (by decide +kernel) ⟨Nat.le_of_ble_eq_true rfl, Nat.le_of_ble_eq_true rfl⟩) (kRecv (own := "") (q0 := 0) (ci := 11) hK hP hD hN rfl rfl [0, 2] rfl (by decide)) rfl rfl hl.1 rfl (lv_room (Nat.le_of_ble_eq_true rfl)) dX11_party__61 ⟨Nat.le_of_ble_eq_true rfl, Nat.le_of_ble_eq_true rfl⟩) hP hD hS hA [0, 2] [1] rfl rfl (by decide) (by decide) (fun r_61 u_63 H locs w_62 hP hD hS => ?_)
              have hP : va_P D vwCl [(ys, .inl (cI, 1201, .inl sI))] H := hP
              have hD : va_D A [(ys, .inl (cI, 1201, .inl sI))] := hD
              have hr_61 := w_62
              obtain rfl : r_61 = (-1000001) := hr_61.trans (by decide)
              exact hRet () [] (by unfold sp_party; repeat (first | rw [if_pos (by omega)] | rw [if_neg (by omega)])) hP hD (by decide) rfl hS rfl dX11_party__64
          · try simp only [zl_0, zl_50] at h_27
            have h_27 : v_21.toInt < 0 ∨ 50 < v_21.toInt := h_27
            obtain rfl : r_22 = 0 := hr_22.trans (by decide)
            refine b_if_eq hx hb zl_0 (tgt := 58) dX11_party__44 (by decide) (fun c_64 => ?_) (fun c_64 => by exfalso; omega)
            refine lv_aload_n hx hb dX11_party__58 rfl (lv_at hl 0 rfl) ?_
            refine lv_ldc (v := (-1000001)) hx hb hown (hT _ mw_1239) dX11_party__59 ?_
            refine kJi (wr := [(ys, .inl (cI, 1201, .inl sI))]) (va_runV (As := [.int (-1000001)]) (rest := []) ⟨hx, hb, hml, hown, hT⟩ (c_X11_finding l D cI h ys yk yt yf yb yz yn yc yp yw ye yx H.size m3 m9 m12 m13 m14 m15 m16 m17 m18 m19 m20 m22 m23 ff (-1000001) (by first | omega | (simp only [zl_m1000001] <;> omega) | decide | assumption | rfl) (by first | omega | (simp only [zl_m1000001] <;> omega) | decide | assumption | rfl)) (cwV 1 hT (gV_in mw_1243 mw_1240 mw_1242 mw_p3_8 mw_12) rfl rfl rfl (by decide +kernel) ⟨Nat.le_of_ble_eq_true rfl, Nat.le_of_ble_eq_true rfl⟩) (kRecv (own := "") (q0 := 0) (ci := 11) hK hP hD hN rfl rfl [0, 2] rfl (by decide)) rfl rfl hl.1 rfl (lv_room (Nat.le_of_ble_eq_true rfl)) dX11_party__61 ⟨Nat.le_of_ble_eq_true rfl, Nat.le_of_ble_eq_true rfl⟩) hP hD hS hA [0, 2] [1] rfl rfl (by decide) (by decide) (fun r_65 u_67 H locs w_66 hP hD hS => ?_)
            have hP : va_P D vwCl [(ys, .inl (cI, 1201, .inl sI))] H := hP
            have hD : va_D A [(ys, .inl (cI, 1201, .inl sI))] := hD
            have hr_65 := w_66
            obtain rfl : r_65 = (-1000001) := hr_65.trans (by decide)
            exact hRet () [] (by unfold sp_party; repeat (first | rw [if_pos (by omega)] | rw [if_neg (by omega)])) hP hD (by decide) rfl hS rfl dX11_party__64
        · try simp only [zl_1, zl_50] at h_19
          have h_19 : v_13.toInt < 1 ∨ 50 < v_13.toInt := h_19
          obtain rfl : r_14 = 0 := hr_14.trans (by decide)
          refine b_if_eq hx hb zl_0 (tgt := 58) dX11_party__31 (by decide) (fun c_68 => ?_) (fun c_68 => by exfalso; omega)
          refine lv_aload_n hx hb dX11_party__58 rfl (lv_at hl 0 rfl) ?_
          refine lv_ldc (v := (-1000001)) hx hb hown (hT _ mw_1239) dX11_party__59 ?_
          refine kJi (wr := [(ys, .inl (cI, 1201, .inl sI))]) (va_runV (As := [.int (-1000001)]) (rest := []) ⟨hx, hb, hml, hown, hT⟩ (c_X11_finding l D cI h ys yk yt yf yb yz yn yc yp yw ye yx H.size m3 m9 m12 m13 m14 m15 m16 m17 m18 m19 m20 m22 m23 ff (-1000001) (by first | omega | (simp only [zl_m1000001] <;> omega) | decide | assumption | rfl) (by first | omega | (simp only [zl_m1000001] <;> omega) | decide | assumption | rfl)) (cwV 1 hT (gV_in mw_1243 mw_1240 mw_1242 mw_p3_8 mw_12) rfl rfl rfl (by decide +kernel) ⟨Nat.le_of_ble_eq_true rfl, Nat.le_of_ble_eq_true rfl⟩) (kRecv (own := "") (q0 := 0) (ci := 11) hK hP hD hN rfl rfl [0, 2] rfl (by decide)) rfl rfl hl.1 rfl (lv_room (Nat.le_of_ble_eq_true rfl)) dX11_party__61 ⟨Nat.le_of_ble_eq_true rfl, Nat.le_of_ble_eq_true rfl⟩) hP hD hS hA [0, 2] [1] rfl rfl (by decide) (by decide) (fun r_69 u_71 H locs w_70 hP hD hS => ?_)
          have hP : va_P D vwCl [(ys, .inl (cI, 1201, .inl sI))] H := hP
          have hD : va_D A [(ys, .inl (cI, 1201, .inl sI))] := hD
          have hr_69 := w_70
          obtain rfl : r_69 = (-1000001) := hr_69.trans (by decide)
          exact hRet () [] (by unfold sp_party; repeat (first | rw [if_pos (by omega)] | rw [if_neg (by omega)])) hP hD (by decide) rfl hS rfl dX11_party__64
    · refine lv_iload_n hx hb dX11_party__12 rfl (lv_at hl 2 rfl) ?_
      refine lv_iconst (v := (-1)) hx hb dX11_party__13 (by decide) ?_
      refine b_icmp_ne hx hb rfl zl_m1 (tgt := 58) dX11_party__14 (by decide) (fun c_72 => ?_) (fun c_72 => ?_)
      · refine lv_aload_n hx hb dX11_party__58 rfl (lv_at hl 0 rfl) ?_
        refine lv_ldc (v := (-1000001)) hx hb hown (hT _ mw_1239) dX11_party__59 ?_
        refine kJi (wr := [(ys, .inl (cI, 1201, .inl sI))]) (va_runV (As := [.int (-1000001)]) (rest := []) ⟨hx, hb, hml, hown, hT⟩ (c_X11_finding l D cI h ys yk yt yf yb yz yn yc yp yw ye yx H.size m3 m9 m12 m13 m14 m15 m16 m17 m18 m19 m20 m22 m23 ff (-1000001) (by first | omega | (simp only [zl_m1000001] <;> omega) | decide | assumption | rfl) (by first | omega | (simp only [zl_m1000001] <;> omega) | decide | assumption | rfl)) (cwV 1 hT (gV_in mw_1243 mw_1240 mw_1242 mw_p3_8 mw_12) rfl rfl rfl (by decide +kernel) ⟨Nat.le_of_ble_eq_true rfl, Nat.le_of_ble_eq_true rfl⟩) (kRecv (own := "") (q0 := 0) (ci := 11) hK hP hD hN rfl rfl [0, 2] rfl (by decide)) rfl rfl hl.1 rfl (lv_room (Nat.le_of_ble_eq_true rfl)) dX11_party__61 ⟨Nat.le_of_ble_eq_true rfl, Nat.le_of_ble_eq_true rfl⟩) hP hD hS hA [0, 2] [1] rfl rfl (by decide) (by decide) (fun r_73 u_75 H locs w_74 hP hD hS => ?_)
        have hP : va_P D vwCl [(ys, .inl (cI, 1201, .inl sI))] H := hP
        have hD : va_D A [(ys, .inl (cI, 1201, .inl sI))] := hD
        have hr_73 := w_74
        obtain rfl : r_73 = (-1000001) := hr_73.trans (by decide)
        exact hRet () [] (by unfold sp_party; repeat (first | rw [if_pos (by omega)] | rw [if_neg (by omega)])) hP hD (by decide) rfl hS rfl dX11_party__64
      · refine lv_iload_n hx hb dX11_party__17 rfl (lv_at hl 3 rfl) ?_
        refine b_if_lt hx hb rfl (tgt := 58) dX11_party__18 (by decide) (fun c_76 => ?_) (fun c_76 => ?_)
        · refine lv_aload_n hx hb dX11_party__58 rfl (lv_at hl 0 rfl) ?_
          refine lv_ldc (v := (-1000001)) hx hb hown (hT _ mw_1239) dX11_party__59 ?_
          refine kJi (wr := [(ys, .inl (cI, 1201, .inl sI))]) (va_runV (As := [.int (-1000001)]) (rest := []) ⟨hx, hb, hml, hown, hT⟩ (c_X11_finding l D cI h ys yk yt yf yb yz yn yc yp yw ye yx H.size m3 m9 m12 m13 m14 m15 m16 m17 m18 m19 m20 m22 m23 ff (-1000001) (by first | omega | (simp only [zl_m1000001] <;> omega) | decide | assumption | rfl) (by first | omega | (simp only [zl_m1000001] <;> omega) | decide | assumption | rfl)) (cwV 1 hT (gV_in mw_1243 mw_1240 mw_1242 mw_p3_8 mw_12) rfl rfl rfl (by decide +kernel) ⟨Nat.le_of_ble_eq_true rfl, Nat.le_of_ble_eq_true rfl⟩) (kRecv (own := "") (q0 := 0) (ci := 11) hK hP hD hN rfl rfl [0, 2] rfl (by decide)) rfl rfl hl.1 rfl (lv_room (Nat.le_of_ble_eq_true rfl)) dX11_party__61 ⟨Nat.le_of_ble_eq_true rfl, Nat.le_of_ble_eq_true rfl⟩) hP hD hS hA [0, 2] [1] rfl rfl (by decide) (by decide) (fun r_77 u_79 H locs w_78 hP hD hS => ?_)
          have hP : va_P D vwCl [(ys, .inl (cI, 1201, .inl sI))] H := hP
          have hD : va_D A [(ys, .inl (cI, 1201, .inl sI))] := hD
          have hr_77 := w_78
          obtain rfl : r_77 = (-1000001) := hr_77.trans (by decide)
          exact hRet () [] (by unfold sp_party; repeat (first | rw [if_pos (by omega)] | rw [if_neg (by omega)])) hP hD (by decide) rfl hS rfl dX11_party__64
        · refine lv_iload_n hx hb dX11_party__21 rfl (lv_at hl 3 rfl) ?_
          refine lv_bipush (v := 100) hx hb dX11_party__22 (by decide) ?_
          refine lv_idiv hx hb dX11_party__24 (by decide) ?_
          refine lv_topi (fun v_80 ev_80 => ?_)
          have tv_80 : v_80.toInt = d.toInt / 100 := k_divv (w := 0) ev_80 zl_100 (by omega) (by decide)
          have lo_v_80 := k_lo v_80
          have hi_v_80 := k_hi v_80
          refine lv_iconst (v := 1) hx hb dX11_party__25 (by decide) ?_
          refine lv_bipush (v := 50) hx hb dX11_party__26 (by decide) ?_
          refine kJi (wr := [(h, .inr (11, [.ref ys, .ref yk, .ref yt, .int m3, .ref yf, .ref yb, .ref yz, .ref yn, .ref yc, .int m9, .ref yp, .ref yw, .int m12, .int m13, .int m14, .int m15, .int m16, .int m17, .int m18, .int m19, .int m20, .ref ye, .int m22, .int m23, .ref yx])), (ys, .inl (cI, 1201, .inl sI)), (yf, .inl (cI, 6, .inl ff))]) (va_runS (As := [.int v_80, .int 1, .int 50]) (rest := []) ⟨hx, hb, hml, hown, hT⟩ (c_X11_in l D cI H.size v_80 1 50) (cwS 3 hT (gS_in mw_1238 mw_1236 mw_1237 mw_12) rfl rfl rfl (by decide +kernel) ⟨Nat.le_of_ble_eq_true rfl, Nat.le_of_ble_eq_true rfl⟩) (kStat hK hP hD hN [] rfl (by decide)) rfl rfl hl.1 rfl (lv_room (Nat.le_of_ble_eq_true rfl)) dX11_party__28 ⟨Nat.le_of_ble_eq_true rfl, Nat.le_of_ble_eq_true rfl⟩) hP hD hS hA [] [0, 1, 2] rfl rfl (by decide) (by decide) (fun r_81 u_83 H locs w_82 hP hD hS => ?_)
          have hP : va_P D vwCl [(h, .inr (11, [.ref ys, .ref yk, .ref yt, .int m3, .ref yf, .ref yb, .ref yz, .ref yn, .ref yc, .int m9, .ref yp, .ref yw, .int m12, .int m13, .int m14, .int m15, .int m16, .int m17, .int m18, .int m19, .int m20, .ref ye, .int m22, .int m23, .ref yx])), (ys, .inl (cI, 1201, .inl sI)), (yf, .inl (cI, 6, .inl ff))] H := hP
          have hD : va_D A [(h, .inr (11, [.ref ys, .ref yk, .ref yt, .int m3, .ref yf, .ref yb, .ref yz, .ref yn, .ref yc, .int m9, .ref yp, .ref yw, .int m12, .int m13, .int m14, .int m15, .int m16, .int m17, .int m18, .int m19, .int m20, .ref ye, .int m22, .int m23, .ref yx])), (ys, .inl (cI, 1201, .inl sI)), (yf, .inl (cI, 6, .inl ff))] := hD
          rcases w_82 with ⟨hr_81, h_84, h_85⟩ | ⟨hr_81, h_86⟩
          · try simp only [zl_1, zl_50] at h_84
            have h_84 : 1 ≤ v_80.toInt := h_84
            try simp only [zl_1, zl_50] at h_85
            have h_85 : v_80.toInt ≤ 50 := h_85
            obtain rfl : r_81 = 1 := hr_81.trans (by decide)
            refine b_if_eq hx hb zl_1 (tgt := 58) dX11_party__31 (by decide) (fun c_87 => by exfalso; omega) (fun c_87 => ?_)
            refine lv_iload_n hx hb dX11_party__34 rfl (lv_at hl 3 rfl) ?_
            refine lv_bipush (v := 100) hx hb dX11_party__35 (by decide) ?_
            refine lv_irem hx hb dX11_party__37 (by decide) ?_
            refine lv_topi (fun v_88 ev_88 => ?_)
            have tv_88 : v_88.toInt = d.toInt % 100 := k_remv (w := 0) ev_88 zl_100 (by omega) (by decide)
            have lo_v_88 := k_lo v_88
            have hi_v_88 := k_hi v_88
            refine lv_iconst (v := 0) hx hb dX11_party__38 (by decide) ?_
            refine lv_bipush (v := 50) hx hb dX11_party__39 (by decide) ?_
            refine kJi (wr := [(h, .inr (11, [.ref ys, .ref yk, .ref yt, .int m3, .ref yf, .ref yb, .ref yz, .ref yn, .ref yc, .int m9, .ref yp, .ref yw, .int m12, .int m13, .int m14, .int m15, .int m16, .int m17, .int m18, .int m19, .int m20, .ref ye, .int m22, .int m23, .ref yx])), (ys, .inl (cI, 1201, .inl sI)), (yf, .inl (cI, 6, .inl ff))]) (va_runS (As := [.int v_88, .int 0, .int 50]) (rest := []) ⟨hx, hb, hml, hown, hT⟩ (c_X11_in l D cI H.size v_88 0 50) (cwS 3 hT (gS_in mw_1238 mw_1236 mw_1237 mw_12) rfl rfl rfl (by decide +kernel) ⟨Nat.le_of_ble_eq_true rfl, Nat.le_of_ble_eq_true rfl⟩) (kStat hK hP hD hN [] rfl (by decide)) rfl rfl hl.1 rfl (lv_room (Nat.le_of_ble_eq_true rfl)) dX11_party__41 ⟨Nat.le_of_ble_eq_true rfl, Nat.le_of_ble_eq_true rfl⟩) hP hD hS hA [] [0, 1, 2] rfl rfl (by decide) (by decide) (fun r_89 u_91 H locs w_90 hP hD hS => ?_)
            have hP : va_P D vwCl [(h, .inr (11, [.ref ys, .ref yk, .ref yt, .int m3, .ref yf, .ref yb, .ref yz, .ref yn, .ref yc, .int m9, .ref yp, .ref yw, .int m12, .int m13, .int m14, .int m15, .int m16, .int m17, .int m18, .int m19, .int m20, .ref ye, .int m22, .int m23, .ref yx])), (ys, .inl (cI, 1201, .inl sI)), (yf, .inl (cI, 6, .inl ff))] H := hP
            have hD : va_D A [(h, .inr (11, [.ref ys, .ref yk, .ref yt, .int m3, .ref yf, .ref yb, .ref yz, .ref yn, .ref yc, .int m9, .ref yp, .ref yw, .int m12, .int m13, .int m14, .int m15, .int m16, .int m17, .int m18, .int m19, .int m20, .ref ye, .int m22, .int m23, .ref yx])), (ys, .inl (cI, 1201, .inl sI)), (yf, .inl (cI, 6, .inl ff))] := hD
            rcases w_90 with ⟨hr_89, h_92, h_93⟩ | ⟨hr_89, h_94⟩
            · try simp only [zl_0, zl_50] at h_92
              have h_92 : 0 ≤ v_88.toInt := h_92
              try simp only [zl_0, zl_50] at h_93
              have h_93 : v_88.toInt ≤ 50 := h_93
              obtain rfl : r_89 = 1 := hr_89.trans (by decide)
              refine b_if_eq hx hb zl_1 (tgt := 58) dX11_party__44 (by decide) (fun c_95 => by exfalso; omega) (fun c_95 => ?_)
              refine lv_iload hx hb dX11_party__47 (lv_at hl 4 rfl) ?_
              refine lv_iconst (v := 0) hx hb dX11_party__49 (by decide) ?_
              refine lv_bipush (v := 99) hx hb dX11_party__50 (by decide) ?_
              refine kJi (wr := [(h, .inr (11, [.ref ys, .ref yk, .ref yt, .int m3, .ref yf, .ref yb, .ref yz, .ref yn, .ref yc, .int m9, .ref yp, .ref yw, .int m12, .int m13, .int m14, .int m15, .int m16, .int m17, .int m18, .int m19, .int m20, .ref ye, .int m22, .int m23, .ref yx])), (ys, .inl (cI, 1201, .inl sI)), (yf, .inl (cI, 6, .inl ff))]) (va_runS (As := [.int g, .int 0, .int 99]) (rest := []) ⟨hx, hb, hml, hown, hT⟩ (c_X11_in l D cI H.size g 0 99) (cwS 3 hT (gS_in mw_1238 mw_1236 mw_1237 mw_12) rfl rfl rfl (by decide +kernel) ⟨Nat.le_of_ble_eq_true rfl, Nat.le_of_ble_eq_true rfl⟩) (kStat hK hP hD hN [] rfl (by decide)) rfl rfl hl.1 rfl (lv_room (Nat.le_of_ble_eq_true rfl)) dX11_party__52 ⟨Nat.le_of_ble_eq_true rfl, Nat.le_of_ble_eq_true rfl⟩) hP hD hS hA [] [0, 1, 2] rfl rfl (by decide) (by decide) (fun r_96 u_98 H locs w_97 hP hD hS => ?_)
              have hP : va_P D vwCl [(h, .inr (11, [.ref ys, .ref yk, .ref yt, .int m3, .ref yf, .ref yb, .ref yz, .ref yn, .ref yc, .int m9, .ref yp, .ref yw, .int m12, .int m13, .int m14, .int m15, .int m16, .int m17, .int m18, .int m19, .int m20, .ref ye, .int m22, .int m23, .ref yx])), (ys, .inl (cI, 1201, .inl sI)), (yf, .inl (cI, 6, .inl ff))] H := hP
              have hD : va_D A [(h, .inr (11, [.ref ys, .ref yk, .ref yt, .int m3, .ref yf, .ref yb, .ref yz, .ref yn, .ref yc, .int m9, .ref yp, .ref yw, .int m12, .int m13, .int m14, .int m15, .int m16, .int m17, .int m18, .int m19, .int m20, .ref ye, .int m22, .int m23, .ref yx])), (ys, .inl (cI, 1201, .inl sI)), (yf, .inl (cI, 6, .inl ff))] := hD
              rcases w_97 with ⟨hr_96, h_99, h_100⟩ | ⟨hr_96, h_101⟩
              · try simp only [zl_0, zl_99] at h_99
                have h_99 : 0 ≤ g.toInt := h_99
                try simp only [zl_0, zl_99] at h_100
                have h_100 : g.toInt ≤ 99 := h_100
                obtain rfl : r_96 = 1 := hr_96.trans (by decide)
                refine b_if_ne hx hb zl_1 (tgt := 65) dX11_party__55 (by decide) (fun c_102 => ?_) (fun c_102 => by exfalso; omega)
                refine lv_aload_n hx hb dX11_party__65 rfl (lv_at hl 0 rfl) ?_
                refine va_get (D := D) (ci := 11) (v := .ref ys) (C := RX11) (T := TX11) (N := 25) hx hb hT giX11 hown hK hP 0 rfl rfl 0 (by decide) (hT (Cond.fieldLink RX11 9 "DesertWireModel" "s" "[I") mw_1156) (fun _ h9 => h9) rfl dX11_party__66 ?_
                refine lv_iconst (v := 2) hx hb dX11_party__69 (by decide) ?_
                refine k_iald (v := 0) hx hb hK hP 1 0 rfl rfl (k_inl (by decide)) (by decide +kernel) dX11_party__70 ?_
                refine lv_iconst (v := 4) hx hb dX11_party__71 (by decide) ?_
                refine b_icmp_ne hx hb zl_0 zl_4 (tgt := 82) dX11_party__72 (by decide) (fun c_103 => ?_) (fun c_103 => by exfalso; omega)
                refine lv_aload_n hx hb dX11_party__82 rfl (lv_at hl 0 rfl) ?_
                refine va_get (D := D) (ci := 11) (v := .ref ys) (C := RX11) (T := TX11) (N := 25) hx hb hT giX11 hown hK hP 0 rfl rfl 0 (by decide) (hT (Cond.fieldLink RX11 9 "DesertWireModel" "s" "[I") mw_1156) (fun _ h9 => h9) rfl dX11_party__83 ?_
                refine lv_iconst (v := 2) hx hb dX11_party__86 (by decide) ?_
                refine k_iald (v := 0) hx hb hK hP 1 0 rfl rfl (k_inl (by decide)) (by decide +kernel) dX11_party__87 ?_
                refine lv_istore (lv' := [(5, .int 0), (0, .ref h), (1, .int a), (2, .int b), (3, .int d), (4, .int g)]) hx hb dX11_party__88 hl (by decide) rfl (fun ls hl => ?_)
                refine lv_aload_n hx hb dX11_party__90 rfl (lv_at hl 1 rfl) ?_
                refine va_get (D := D) (ci := 11) (v := .ref ys) (C := RX11) (T := TX11) (N := 25) hx hb hT giX11 hown hK hP 0 rfl rfl 0 (by decide) (hT (Cond.fieldLink RX11 9 "DesertWireModel" "s" "[I") mw_1156) (fun _ h9 => h9) rfl dX11_party__91 ?_
                refine lv_iconst (v := 2) hx hb dX11_party__94 (by decide) ?_
                refine lv_dup2_11 hx hb dX11_party__95 rfl rfl ?_
                refine k_iald (v := 0) hx hb hK hP 1 0 rfl rfl (k_inl (by decide)) (by decide +kernel) dX11_party__96 ?_
                refine lv_iconst (v := 1) hx hb dX11_party__97 (by decide) ?_
                refine k_iadd (v := 1) hx hb dX11_party__98 (by decide) ?_
                refine va_iast hx hb hK hP hD hS 1 0 rfl rfl (k_inl (by decide)) dX11_party__99 (fun H locs hP hD hS => ?_)
                have hP : va_P D vwCl [(h, .inr (11, [.ref ys, .ref yk, .ref yt, .int m3, .ref yf, .ref yb, .ref yz, .ref yn, .ref yc, .int m9, .ref yp, .ref yw, .int m12, .int m13, .int m14, .int m15, .int m16, .int m17, .int m18, .int m19, .int m20, .ref ye, .int m22, .int m23, .ref yx])), (ys, .inl (cI, 1201, .inl (upd sI 2 1))), (yf, .inl (cI, 6, .inl ff))] H := hP
                have hD : va_D A [(h, .inr (11, [.ref ys, .ref yk, .ref yt, .int m3, .ref yf, .ref yb, .ref yz, .ref yn, .ref yc, .int m9, .ref yp, .ref yw, .int m12, .int m13, .int m14, .int m15, .int m16, .int m17, .int m18, .int m19, .int m20, .ref ye, .int m22, .int m23, .ref yx])), (ys, .inl (cI, 1201, .inl (upd sI 2 1))), (yf, .inl (cI, 6, .inl ff))] := hD
                obtain ⟨f_104, ef_104⟩ : ∃ g : Nat → Int32, g = upd sI 2 1 := ⟨_, rfl⟩
                rw [← ef_104] at hP hD
                refine lv_iconst (v := 0) hx hb dX11_party__100 (by decide) ?_
                refine lv_istore (lv' := [(6, .int 0), (5, .int 0), (0, .ref h), (1, .int a), (2, .int b), (3, .int d), (4, .int g)]) hx hb dX11_party__101 hl (by decide) rfl (fun ls hl => ?_)
                have hloop_103 : ∀ (fu_ : Nat) (i : Int32) (q : Nat → Int32), 0 ≤ i.toInt → i.toInt ≤ 9 → (9 - i.toInt).toNat < fu_ → ∀ (ls : Array Slot) (H : Heap) (locs : List Loc), lv_has ls 7 [(6, .int i), (5, .int 0), (0, .ref h), (1, .int a), (2, .int b), (3, .int d), (4, .int g)] → va_P D vwCl [(h, .inr (11, [.ref ys, .ref yk, .ref yt, .int m3, .ref yf, .ref yb, .ref yz, .ref yn, .ref yc, .int m9, .ref yp, .ref yw, .int m12, .int m13, .int m14, .int m15, .int m16, .int m17, .int m18, .int m19, .int m20, .ref ye, .int m22, .int m23, .ref yx])), (ys, .inl (cI, 1201, .inl q)), (yf, .inl (cI, 6, .inl ff))] H → va_D A [(h, .inr (11, [.ref ys, .ref yk, .ref yt, .int m3, .ref yf, .ref yb, .ref yz, .ref yn, .ref yc, .int m9, .ref yp, .ref yw, .int m12, .int m13, .int m14, .int m15, .int m16, .int m17, .int m18, .int m19, .int m20, .ref ye, .int m22, .int m23, .ref yx])), (ys, .inl (cI, 1201, .inl q)), (yf, .inl (cI, 6, .inl ff))] → va_S A s.heap H locs → W p l e ({ frames := 2, cells := 0, slots := 0, locals := 42 } : Room) s m args below meth c H locs 0 0 Q (F0 m 103 ls []) := by
                  intro fu_; induction fu_ with
                  | zero => intro i q i103_0 i103_1 hm; exact absurd hm (by omega)
                  | succ fu_ ih103 =>
                      intro i q i103_0 i103_1 hm ls H locs hl hP hD hS
                      have lo_i := k_lo i
                      have hi_i := k_hi i
                      refine lv_iload hx hb dX11_party__103 (lv_at hl 0 rfl) ?_
                      refine lv_bipush (v := 9) hx hb dX11_party__105 (by decide) ?_
                      refine b_icmp_ge hx hb rfl zl_9 (tgt := 125) dX11_party__107 (by decide) (fun c_105 => ?_) (fun c_105 => ?_)
                      · refine lv_aload_n hx hb dX11_party__125 rfl (lv_at hl 2 rfl) ?_
                        refine lv_iload hx hb dX11_party__126 (lv_at hl 1 rfl) ?_
                        refine lv_iconst (v := 0) hx hb dX11_party__128 (by decide) ?_
                        refine lv_iload_n hx hb dX11_party__129 rfl (lv_at hl 3 rfl) ?_
                        refine kJv (wr := [(yf, .inl (cI, 6, .inl ff))]) (va_runV (As := [.int 0, .int 0, .int a]) (rest := []) ⟨hx, hb, hml, hown, hT⟩ (c_X11_setParty l D cI h ys yk yt yf yb yz yn yc yp yw ye yx H.size m3 m9 m12 m13 m14 m15 m16 m17 m18 m19 m20 m22 m23 q 0 0 a (by first | omega | (simp only [zl_0] <;> omega) | decide | assumption | rfl) (by first | omega | (simp only [zl_0] <;> omega) | decide | assumption | rfl) (by first | omega | (simp only [zl_0] <;> omega) | decide | assumption | rfl)) (cwV 3 hT (gV_in mw_1404 mw_1401 mw_1403 mw_p5_3 mw_12) rfl rfl rfl (by decide +kernel) ⟨Nat.le_of_ble_eq_true rfl, Nat.le_of_ble_eq_true rfl⟩) (kRecv (own := "") (q0 := 0) (ci := 11) hK hP hD hN rfl rfl [0, 1] rfl (by decide)) rfl rfl hl.1 rfl (lv_room (Nat.le_of_ble_eq_true rfl)) dX11_party__130 ⟨Nat.le_of_ble_eq_true rfl, Nat.le_of_ble_eq_true rfl⟩) hP hD hS hA [0, 1] [2] rfl rfl (by decide) (by decide) (fun g_108 H locs w_107 hP hD hS => ?_)
                        have hP : va_P D vwCl [(yf, .inl (cI, 6, .inl ff)), (h, .inr (11, [.ref ys, .ref yk, .ref yt, .int m3, .ref yf, .ref yb, .ref yz, .ref yn, .ref yc, .int m9, .ref yp, .ref yw, .int m12, .int m13, .int m14, .int m15, .int m16, .int m17, .int m18, .int m19, .int m20, .ref ye, .int m22, .int m23, .ref yx])), (ys, .inl (cI, 1201, .inl g_108))] H := hP
                        have hD : va_D A [(yf, .inl (cI, 6, .inl ff)), (h, .inr (11, [.ref ys, .ref yk, .ref yt, .int m3, .ref yf, .ref yb, .ref yz, .ref yn, .ref yc, .int m9, .ref yp, .ref yw, .int m12, .int m13, .int m14, .int m15, .int m16, .int m17, .int m18, .int m19, .int m20, .ref ye, .int m22, .int m23, .ref yx])), (ys, .inl (cI, 1201, .inl g_108))] := hD
                        refine lv_aload_n hx hb dX11_party__133 rfl (lv_at hl 2 rfl) ?_
                        refine lv_iload hx hb dX11_party__134 (lv_at hl 1 rfl) ?_
                        refine lv_iconst (v := 1) hx hb dX11_party__136 (by decide) ?_
                        refine lv_iload_n hx hb dX11_party__137 rfl (lv_at hl 4 rfl) ?_
                        refine kJv (wr := [(yf, .inl (cI, 6, .inl ff))]) (va_runV (As := [.int 0, .int 1, .int b]) (rest := []) ⟨hx, hb, hml, hown, hT⟩ (c_X11_setParty l D cI h ys yk yt yf yb yz yn yc yp yw ye yx H.size m3 m9 m12 m13 m14 m15 m16 m17 m18 m19 m20 m22 m23 g_108 0 1 b (by first | omega | (simp only [zl_0, zl_1] <;> omega) | decide | assumption | rfl) (by first | omega | (simp only [zl_0, zl_1] <;> omega) | decide | assumption | rfl) (by first | omega | (simp only [zl_0, zl_1] <;> omega) | decide | assumption | rfl)) (cwV 3 hT (gV_in mw_1404 mw_1401 mw_1403 mw_p5_3 mw_12) rfl rfl rfl (by decide +kernel) ⟨Nat.le_of_ble_eq_true rfl, Nat.le_of_ble_eq_true rfl⟩) (kRecv (own := "") (q0 := 1) (ci := 11) hK hP hD hN rfl rfl [1, 2] rfl (by decide)) rfl rfl hl.1 rfl (lv_room (Nat.le_of_ble_eq_true rfl)) dX11_party__138 ⟨Nat.le_of_ble_eq_true rfl, Nat.le_of_ble_eq_true rfl⟩) hP hD hS hA [1, 2] [0] rfl rfl (by decide) (by decide) (fun g_111 H locs w_110 hP hD hS => ?_)
                        have hP : va_P D vwCl [(yf, .inl (cI, 6, .inl ff)), (h, .inr (11, [.ref ys, .ref yk, .ref yt, .int m3, .ref yf, .ref yb, .ref yz, .ref yn, .ref yc, .int m9, .ref yp, .ref yw, .int m12, .int m13, .int m14, .int m15, .int m16, .int m17, .int m18, .int m19, .int m20, .ref ye, .int m22, .int m23, .ref yx])), (ys, .inl (cI, 1201, .inl g_111))] H := hP
                        have hD : va_D A [(yf, .inl (cI, 6, .inl ff)), (h, .inr (11, [.ref ys, .ref yk, .ref yt, .int m3, .ref yf, .ref yb, .ref yz, .ref yn, .ref yc, .int m9, .ref yp, .ref yw, .int m12, .int m13, .int m14, .int m15, .int m16, .int m17, .int m18, .int m19, .int m20, .ref ye, .int m22, .int m23, .ref yx])), (ys, .inl (cI, 1201, .inl g_111))] := hD
                        refine lv_aload_n hx hb dX11_party__141 rfl (lv_at hl 2 rfl) ?_
                        refine lv_iload hx hb dX11_party__142 (lv_at hl 1 rfl) ?_
                        refine lv_iconst (v := 2) hx hb dX11_party__144 (by decide) ?_
                        refine lv_iload_n hx hb dX11_party__145 rfl (lv_at hl 5 rfl) ?_
                        refine lv_bipush (v := 100) hx hb dX11_party__146 (by decide) ?_
                        refine lv_idiv hx hb dX11_party__148 (by decide) ?_
                        refine lv_topi (fun v_112 ev_112 => ?_)
                        have tv_112 : v_112.toInt = d.toInt / 100 := k_divv (w := 0) ev_112 zl_100 (by omega) (by decide)
                        have lo_v_112 := k_lo v_112
                        have hi_v_112 := k_hi v_112
                        refine kJv (wr := [(yf, .inl (cI, 6, .inl ff))]) (va_runV (As := [.int 0, .int 2, .int v_112]) (rest := []) ⟨hx, hb, hml, hown, hT⟩ (c_X11_setParty l D cI h ys yk yt yf yb yz yn yc yp yw ye yx H.size m3 m9 m12 m13 m14 m15 m16 m17 m18 m19 m20 m22 m23 g_111 0 2 v_112 (by first | omega | (simp only [zl_0, zl_2] <;> omega) | decide | assumption | rfl) (by first | omega | (simp only [zl_0, zl_2] <;> omega) | decide | assumption | rfl) (by first | omega | (simp only [zl_0, zl_2] <;> omega) | decide | assumption | rfl)) (cwV 3 hT (gV_in mw_1404 mw_1401 mw_1403 mw_p5_3 mw_12) rfl rfl rfl (by decide +kernel) ⟨Nat.le_of_ble_eq_true rfl, Nat.le_of_ble_eq_true rfl⟩) (kRecv (own := "") (q0 := 1) (ci := 11) hK hP hD hN rfl rfl [1, 2] rfl (by decide)) rfl rfl hl.1 rfl (lv_room (Nat.le_of_ble_eq_true rfl)) dX11_party__149 ⟨Nat.le_of_ble_eq_true rfl, Nat.le_of_ble_eq_true rfl⟩) hP hD hS hA [1, 2] [0] rfl rfl (by decide) (by decide) (fun g_115 H locs w_114 hP hD hS => ?_)
                        have hP : va_P D vwCl [(yf, .inl (cI, 6, .inl ff)), (h, .inr (11, [.ref ys, .ref yk, .ref yt, .int m3, .ref yf, .ref yb, .ref yz, .ref yn, .ref yc, .int m9, .ref yp, .ref yw, .int m12, .int m13, .int m14, .int m15, .int m16, .int m17, .int m18, .int m19, .int m20, .ref ye, .int m22, .int m23, .ref yx])), (ys, .inl (cI, 1201, .inl g_115))] H := hP
                        have hD : va_D A [(yf, .inl (cI, 6, .inl ff)), (h, .inr (11, [.ref ys, .ref yk, .ref yt, .int m3, .ref yf, .ref yb, .ref yz, .ref yn, .ref yc, .int m9, .ref yp, .ref yw, .int m12, .int m13, .int m14, .int m15, .int m16, .int m17, .int m18, .int m19, .int m20, .ref ye, .int m22, .int m23, .ref yx])), (ys, .inl (cI, 1201, .inl g_115))] := hD
                        refine lv_aload_n hx hb dX11_party__152 rfl (lv_at hl 2 rfl) ?_
                        refine lv_iload hx hb dX11_party__153 (lv_at hl 1 rfl) ?_
                        refine lv_iconst (v := 3) hx hb dX11_party__155 (by decide) ?_
                        refine lv_iload_n hx hb dX11_party__156 rfl (lv_at hl 5 rfl) ?_
                        refine lv_bipush (v := 100) hx hb dX11_party__157 (by decide) ?_
                        refine lv_irem hx hb dX11_party__159 (by decide) ?_
                        refine lv_topi (fun v_116 ev_116 => ?_)
                        have tv_116 : v_116.toInt = d.toInt % 100 := k_remv (w := 0) ev_116 zl_100 (by omega) (by decide)
                        have lo_v_116 := k_lo v_116
                        have hi_v_116 := k_hi v_116
                        refine kJv (wr := [(yf, .inl (cI, 6, .inl ff))]) (va_runV (As := [.int 0, .int 3, .int v_116]) (rest := []) ⟨hx, hb, hml, hown, hT⟩ (c_X11_setParty l D cI h ys yk yt yf yb yz yn yc yp yw ye yx H.size m3 m9 m12 m13 m14 m15 m16 m17 m18 m19 m20 m22 m23 g_115 0 3 v_116 (by first | omega | (simp only [zl_0, zl_3] <;> omega) | decide | assumption | rfl) (by first | omega | (simp only [zl_0, zl_3] <;> omega) | decide | assumption | rfl) (by first | omega | (simp only [zl_0, zl_3] <;> omega) | decide | assumption | rfl)) (cwV 3 hT (gV_in mw_1404 mw_1401 mw_1403 mw_p5_3 mw_12) rfl rfl rfl (by decide +kernel) ⟨Nat.le_of_ble_eq_true rfl, Nat.le_of_ble_eq_true rfl⟩) (kRecv (own := "") (q0 := 1) (ci := 11) hK hP hD hN rfl rfl [1, 2] rfl (by decide)) rfl rfl hl.1 rfl (lv_room (Nat.le_of_ble_eq_true rfl)) dX11_party__160 ⟨Nat.le_of_ble_eq_true rfl, Nat.le_of_ble_eq_true rfl⟩) hP hD hS hA [1, 2] [0] rfl rfl (by decide) (by decide) (fun g_119 H locs w_118 hP hD hS => ?_)
                        have hP : va_P D vwCl [(yf, .inl (cI, 6, .inl ff)), (h, .inr (11, [.ref ys, .ref yk, .ref yt, .int m3, .ref yf, .ref yb, .ref yz, .ref yn, .ref yc, .int m9, .ref yp, .ref yw, .int m12, .int m13, .int m14, .int m15, .int m16, .int m17, .int m18, .int m19, .int m20, .ref ye, .int m22, .int m23, .ref yx])), (ys, .inl (cI, 1201, .inl g_119))] H := hP
                        have hD : va_D A [(yf, .inl (cI, 6, .inl ff)), (h, .inr (11, [.ref ys, .ref yk, .ref yt, .int m3, .ref yf, .ref yb, .ref yz, .ref yn, .ref yc, .int m9, .ref yp, .ref yw, .int m12, .int m13, .int m14, .int m15, .int m16, .int m17, .int m18, .int m19, .int m20, .ref ye, .int m22, .int m23, .ref yx])), (ys, .inl (cI, 1201, .inl g_119))] := hD
                        refine lv_aload_n hx hb dX11_party__163 rfl (lv_at hl 2 rfl) ?_
                        refine lv_iload hx hb dX11_party__164 (lv_at hl 1 rfl) ?_
                        refine lv_iconst (v := 4) hx hb dX11_party__166 (by decide) ?_
                        refine lv_iload hx hb dX11_party__167 (lv_at hl 6 rfl) ?_
                        refine kJv (wr := [(yf, .inl (cI, 6, .inl ff))]) (va_runV (As := [.int 0, .int 4, .int g]) (rest := []) ⟨hx, hb, hml, hown, hT⟩ (c_X11_setParty l D cI h ys yk yt yf yb yz yn yc yp yw ye yx H.size m3 m9 m12 m13 m14 m15 m16 m17 m18 m19 m20 m22 m23 g_119 0 4 g (by first | omega | (simp only [zl_0, zl_4] <;> omega) | decide | assumption | rfl) (by first | omega | (simp only [zl_0, zl_4] <;> omega) | decide | assumption | rfl) (by first | omega | (simp only [zl_0, zl_4] <;> omega) | decide | assumption | rfl)) (cwV 3 hT (gV_in mw_1404 mw_1401 mw_1403 mw_p5_3 mw_12) rfl rfl rfl (by decide +kernel) ⟨Nat.le_of_ble_eq_true rfl, Nat.le_of_ble_eq_true rfl⟩) (kRecv (own := "") (q0 := 1) (ci := 11) hK hP hD hN rfl rfl [1, 2] rfl (by decide)) rfl rfl hl.1 rfl (lv_room (Nat.le_of_ble_eq_true rfl)) dX11_party__169 ⟨Nat.le_of_ble_eq_true rfl, Nat.le_of_ble_eq_true rfl⟩) hP hD hS hA [1, 2] [0] rfl rfl (by decide) (by decide) (fun g_122 H locs w_121 hP hD hS => ?_)
                        have hP : va_P D vwCl [(yf, .inl (cI, 6, .inl ff)), (h, .inr (11, [.ref ys, .ref yk, .ref yt, .int m3, .ref yf, .ref yb, .ref yz, .ref yn, .ref yc, .int m9, .ref yp, .ref yw, .int m12, .int m13, .int m14, .int m15, .int m16, .int m17, .int m18, .int m19, .int m20, .ref ye, .int m22, .int m23, .ref yx])), (ys, .inl (cI, 1201, .inl g_122))] H := hP
                        have hD : va_D A [(yf, .inl (cI, 6, .inl ff)), (h, .inr (11, [.ref ys, .ref yk, .ref yt, .int m3, .ref yf, .ref yb, .ref yz, .ref yn, .ref yc, .int m9, .ref yp, .ref yw, .int m12, .int m13, .int m14, .int m15, .int m16, .int m17, .int m18, .int m19, .int m20, .ref ye, .int m22, .int m23, .ref yx])), (ys, .inl (cI, 1201, .inl g_122))] := hD
                        refine lv_iload hx hb dX11_party__172 (lv_at hl 1 rfl) ?_
                        exact hRet () [] (by unfold sp_party; repeat (first | rw [if_pos (by omega)] | rw [if_neg (by omega)])) hP hD (by decide) rfl hS rfl dX11_party__174
                      · refine lv_aload_n hx hb dX11_party__110 rfl (lv_at hl 2 rfl) ?_
                        refine lv_iload hx hb dX11_party__111 (lv_at hl 1 rfl) ?_
                        refine lv_iload hx hb dX11_party__113 (lv_at hl 0 rfl) ?_
                        refine lv_iconst (v := 0) hx hb dX11_party__115 (by decide) ?_
                        refine kJv (wr := [(yf, .inl (cI, 6, .inl ff))]) (va_runV (As := [.int 0, .int i, .int 0]) (rest := []) ⟨hx, hb, hml, hown, hT⟩ (c_X11_setParty l D cI h ys yk yt yf yb yz yn yc yp yw ye yx H.size m3 m9 m12 m13 m14 m15 m16 m17 m18 m19 m20 m22 m23 q 0 i 0 (by first | omega | (simp only [zl_0] <;> omega) | decide | assumption | rfl) (by first | omega | (simp only [zl_0] <;> omega) | decide | assumption | rfl) (by first | omega | (simp only [zl_0] <;> omega) | decide | assumption | rfl)) (cwV 3 hT (gV_in mw_1404 mw_1401 mw_1403 mw_p5_3 mw_12) rfl rfl rfl (by decide +kernel) ⟨Nat.le_of_ble_eq_true rfl, Nat.le_of_ble_eq_true rfl⟩) (kRecv (own := "") (q0 := 0) (ci := 11) hK hP hD hN rfl rfl [0, 1] rfl (by decide)) rfl rfl hl.1 rfl (lv_room (Nat.le_of_ble_eq_true rfl)) dX11_party__116 ⟨Nat.le_of_ble_eq_true rfl, Nat.le_of_ble_eq_true rfl⟩) hP hD hS hA [0, 1] [2] rfl rfl (by decide) (by decide) (fun g_125 H locs w_124 hP hD hS => ?_)
                        have hP : va_P D vwCl [(yf, .inl (cI, 6, .inl ff)), (h, .inr (11, [.ref ys, .ref yk, .ref yt, .int m3, .ref yf, .ref yb, .ref yz, .ref yn, .ref yc, .int m9, .ref yp, .ref yw, .int m12, .int m13, .int m14, .int m15, .int m16, .int m17, .int m18, .int m19, .int m20, .ref ye, .int m22, .int m23, .ref yx])), (ys, .inl (cI, 1201, .inl g_125))] H := hP
                        have hD : va_D A [(yf, .inl (cI, 6, .inl ff)), (h, .inr (11, [.ref ys, .ref yk, .ref yt, .int m3, .ref yf, .ref yb, .ref yz, .ref yn, .ref yc, .int m9, .ref yp, .ref yw, .int m12, .int m13, .int m14, .int m15, .int m16, .int m17, .int m18, .int m19, .int m20, .ref ye, .int m22, .int m23, .ref yx])), (ys, .inl (cI, 1201, .inl g_125))] := hD
                        obtain ⟨v_126, ev_126⟩ : ∃ y : Int32, y = i + 1 := ⟨_, rfl⟩
                        have tv_126 : v_126.toInt = i.toInt + 1 := by rw [ev_126]; exact k_addv rfl zl_1 (by omega) (by omega)
                        refine lv_iinc (v := v_126) (lv' := [(6, .int v_126), (5, .int 0), (0, .ref h), (1, .int a), (2, .int b), (3, .int d), (4, .int g)]) hx hb dX11_party__119 hl (k := 0) rfl (by rw [ev_126]; rfl) (by decide) rfl (fun ls hl => ?_)
                        refine lv_goto (tgt := 103) hx hb dX11_party__122 (by decide) ?_
                        exact ih103 v_126 g_125 (by first | omega | decide | assumption | rfl) (by first | omega | decide | assumption | rfl) (by omega) ls _ _ (lv_sub hl [0, 1, 2, 3, 4, 5, 6] rfl) (hP.sub [1, 2, 0] rfl) (hD.sub [1, 2, 0] (by decide) rfl) hS
                exact hloop_103 _ 0 f_104 (by first | omega | (simp only [zl_0] <;> omega) | decide | assumption | rfl) (by first | omega | (simp only [zl_0] <;> omega) | decide | assumption | rfl) (Nat.lt_succ_self _) ls _ _ (lv_sub hl [0, 1, 2, 3, 4, 5, 6] rfl) hP hD hS
              · try simp only [zl_0, zl_99] at h_101
                have h_101 : g.toInt < 0 ∨ 99 < g.toInt := h_101
                obtain rfl : r_96 = 0 := hr_96.trans (by decide)
                refine b_if_ne hx hb zl_0 (tgt := 65) dX11_party__55 (by decide) (fun c_127 => by exfalso; omega) (fun c_127 => ?_)
                refine lv_aload_n hx hb dX11_party__58 rfl (lv_at hl 0 rfl) ?_
                refine lv_ldc (v := (-1000001)) hx hb hown (hT _ mw_1239) dX11_party__59 ?_
                refine kJi (wr := [(ys, .inl (cI, 1201, .inl sI))]) (va_runV (As := [.int (-1000001)]) (rest := []) ⟨hx, hb, hml, hown, hT⟩ (c_X11_finding l D cI h ys yk yt yf yb yz yn yc yp yw ye yx H.size m3 m9 m12 m13 m14 m15 m16 m17 m18 m19 m20 m22 m23 ff (-1000001) (by first | omega | (simp only [zl_m1000001] <;> omega) | decide | assumption | rfl) (by first | omega | (simp only [zl_m1000001] <;> omega) | decide | assumption | rfl)) (cwV 1 hT (gV_in mw_1243 mw_1240 mw_1242 mw_p3_8 mw_12) rfl rfl rfl (by decide +kernel) ⟨Nat.le_of_ble_eq_true rfl, Nat.le_of_ble_eq_true rfl⟩) (kRecv (own := "") (q0 := 0) (ci := 11) hK hP hD hN rfl rfl [0, 2] rfl (by decide)) rfl rfl hl.1 rfl (lv_room (Nat.le_of_ble_eq_true rfl)) dX11_party__61 ⟨Nat.le_of_ble_eq_true rfl, Nat.le_of_ble_eq_true rfl⟩) hP hD hS hA [0, 2] [1] rfl rfl (by decide) (by decide) (fun r_128 u_130 H locs w_129 hP hD hS => ?_)
                have hP : va_P D vwCl [(ys, .inl (cI, 1201, .inl sI))] H := hP
                have hD : va_D A [(ys, .inl (cI, 1201, .inl sI))] := hD
                have hr_128 := w_129
                obtain rfl : r_128 = (-1000001) := hr_128.trans (by decide)
                exact hRet () [] (by unfold sp_party; repeat (first | rw [if_pos (by omega)] | rw [if_neg (by omega)])) hP hD (by decide) rfl hS rfl dX11_party__64
            · try simp only [zl_0, zl_50] at h_94
              have h_94 : v_88.toInt < 0 ∨ 50 < v_88.toInt := h_94
              obtain rfl : r_89 = 0 := hr_89.trans (by decide)
              refine b_if_eq hx hb zl_0 (tgt := 58) dX11_party__44 (by decide) (fun c_131 => ?_) (fun c_131 => by exfalso; omega)
              refine lv_aload_n hx hb dX11_party__58 rfl (lv_at hl 0 rfl) ?_
              refine lv_ldc (v := (-1000001)) hx hb hown (hT _ mw_1239) dX11_party__59 ?_
              refine kJi (wr := [(ys, .inl (cI, 1201, .inl sI))]) (va_runV (As := [.int (-1000001)]) (rest := []) ⟨hx, hb, hml, hown, hT⟩ (c_X11_finding l D cI h ys yk yt yf yb yz yn yc yp yw ye yx H.size m3 m9 m12 m13 m14 m15 m16 m17 m18 m19 m20 m22 m23 ff (-1000001) (by first | omega | (simp only [zl_m1000001] <;> omega) | decide | assumption | rfl) (by first | omega | (simp only [zl_m1000001] <;> omega) | decide | assumption | rfl)) (cwV 1 hT (gV_in mw_1243 mw_1240 mw_1242 mw_p3_8 mw_12) rfl rfl rfl (by decide +kernel) ⟨Nat.le_of_ble_eq_true rfl, Nat.le_of_ble_eq_true rfl⟩) (kRecv (own := "") (q0 := 0) (ci := 11) hK hP hD hN rfl rfl [0, 2] rfl (by decide)) rfl rfl hl.1 rfl (lv_room (Nat.le_of_ble_eq_true rfl)) dX11_party__61 ⟨Nat.le_of_ble_eq_true rfl, Nat.le_of_ble_eq_true rfl⟩) hP hD hS hA [0, 2] [1] rfl rfl (by decide) (by decide) (fun r_132 u_134 H locs w_133 hP hD hS => ?_)
              have hP : va_P D vwCl [(ys, .inl (cI, 1201, .inl sI))] H := hP
              have hD : va_D A [(ys, .inl (cI, 1201, .inl sI))] := hD
              have hr_132 := w_133
              obtain rfl : r_132 = (-1000001) := hr_132.trans (by decide)
              exact hRet () [] (by unfold sp_party; repeat (first | rw [if_pos (by omega)] | rw [if_neg (by omega)])) hP hD (by decide) rfl hS rfl dX11_party__64
          · try simp only [zl_1, zl_50] at h_86
            have h_86 : v_80.toInt < 1 ∨ 50 < v_80.toInt := h_86
            obtain rfl : r_81 = 0 := hr_81.trans (by decide)
            refine b_if_eq hx hb zl_0 (tgt := 58) dX11_party__31 (by decide) (fun c_135 => ?_) (fun c_135 => by exfalso; omega)
            refine lv_aload_n hx hb dX11_party__58 rfl (lv_at hl 0 rfl) ?_
            refine lv_ldc (v := (-1000001)) hx hb hown (hT _ mw_1239) dX11_party__59 ?_
            refine kJi (wr := [(ys, .inl (cI, 1201, .inl sI))]) (va_runV (As := [.int (-1000001)]) (rest := []) ⟨hx, hb, hml, hown, hT⟩ (c_X11_finding l D cI h ys yk yt yf yb yz yn yc yp yw ye yx H.size m3 m9 m12 m13 m14 m15 m16 m17 m18 m19 m20 m22 m23 ff (-1000001) (by first | omega | (simp only [zl_m1000001] <;> omega) | decide | assumption | rfl) (by first | omega | (simp only [zl_m1000001] <;> omega) | decide | assumption | rfl)) (cwV 1 hT (gV_in mw_1243 mw_1240 mw_1242 mw_p3_8 mw_12) rfl rfl rfl (by decide +kernel) ⟨Nat.le_of_ble_eq_true rfl, Nat.le_of_ble_eq_true rfl⟩) (kRecv (own := "") (q0 := 0) (ci := 11) hK hP hD hN rfl rfl [0, 2] rfl (by decide)) rfl rfl hl.1 rfl (lv_room (Nat.le_of_ble_eq_true rfl)) dX11_party__61 ⟨Nat.le_of_ble_eq_true rfl, Nat.le_of_ble_eq_true rfl⟩) hP hD hS hA [0, 2] [1] rfl rfl (by decide) (by decide) (fun r_136 u_138 H locs w_137 hP hD hS => ?_)
            have hP : va_P D vwCl [(ys, .inl (cI, 1201, .inl sI))] H := hP
            have hD : va_D A [(ys, .inl (cI, 1201, .inl sI))] := hD
            have hr_136 := w_137
            obtain rfl : r_136 = (-1000001) := hr_136.trans (by decide)
            exact hRet () [] (by unfold sp_party; repeat (first | rw [if_pos (by omega)] | rw [if_neg (by omega)])) hP hD (by decide) rfl hS rfl dX11_party__64
  · have h_6 : a.toInt < 0 ∨ 39 < a.toInt := h_6
    obtain rfl : r_1 = 0 := hr_1.trans (by decide)
    refine b_if_eq hx hb zl_0 (tgt := 58) dX11_party__4 (by decide) (fun c_139 => ?_) (fun c_139 => by exfalso; omega)
    refine lv_aload_n hx hb dX11_party__58 rfl (lv_at hl 0 rfl) ?_
    refine lv_ldc (v := (-1000001)) hx hb hown (hT _ mw_1239) dX11_party__59 ?_
    refine kJi (wr := [(ys, .inl (cI, 1201, .inl sI))]) (va_runV (As := [.int (-1000001)]) (rest := []) ⟨hx, hb, hml, hown, hT⟩ (c_X11_finding l D cI h ys yk yt yf yb yz yn yc yp yw ye yx H.size m3 m9 m12 m13 m14 m15 m16 m17 m18 m19 m20 m22 m23 ff (-1000001) (by first | omega | (simp only [zl_m1000001] <;> omega) | decide | assumption | rfl) (by first | omega | (simp only [zl_m1000001] <;> omega) | decide | assumption | rfl)) (cwV 1 hT (gV_in mw_1243 mw_1240 mw_1242 mw_p3_8 mw_12) rfl rfl rfl (by decide +kernel) ⟨Nat.le_of_ble_eq_true rfl, Nat.le_of_ble_eq_true rfl⟩) (kRecv (own := "") (q0 := 0) (ci := 11) hK hP hD hN rfl rfl [0, 2] rfl (by decide)) rfl rfl hl.1 rfl (lv_room (Nat.le_of_ble_eq_true rfl)) dX11_party__61 ⟨Nat.le_of_ble_eq_true rfl, Nat.le_of_ble_eq_true rfl⟩) hP hD hS hA [0, 2] [1] rfl rfl (by decide) (by decide) (fun r_140 u_142 H locs w_141 hP hD hS => ?_)
    have hP : va_P D vwCl [(ys, .inl (cI, 1201, .inl sI))] H := hP
    have hD : va_D A [(ys, .inl (cI, 1201, .inl sI))] := hD
    have hr_140 := w_141
    obtain rfl : r_140 = (-1000001) := hr_140.trans (by decide)
    exact hRet () [] (by unfold sp_party; repeat (first | rw [if_pos (by omega)] | rw [if_neg (by omega)])) hP hD (by decide) rfl hS rfl dX11_party__64
set_option maxHeartbeats 4000000 in
set_option maxRecDepth 100000 in
theorem c_X11_reach (l : Launch) (D : va_G) (cI : ClassId) (h ys yk yt yf yb yz yn yc yp yw ye yx : Nat) (sz : Nat) (m3 : Int32) (m9 : Int32) (m12 : Int32) (m13 : Int32) (m14 : Int32) (m15 : Int32) (m16 : Int32) (m17 : Int32) (m18 : Int32) (m19 : Int32) (m20 : Int32) (m22 : Int32) (m23 : Int32) (ff : Nat → Int32) (a : Int32) : Met l yX11_reach (gW yX11_reach cX11_reach 3 (some .int)) ({ frames := 1, cells := 0, slots := 0, locals := 22 } : Room) (kPre D cI [.ref h, .int a] [(h, .inr (11, [.ref ys, .ref yk, .ref yt, .int m3, .ref yf, .ref yb, .ref yz, .ref yn, .ref yc, .int m9, .ref yp, .ref yw, .int m12, .int m13, .int m14, .int m15, .int m16, .int m17, .int m18, .int m19, .int m20, .ref ye, .int m22, .int m23, .ref yx])), (ys, .inl (cI, 1201, .inl sI)), (yf, .inl (cI, 6, .inl ff))] sz) (va_Qi (fun (r : Int32) (u : Unit) => r = sp_reach a) (fun u t => kWd D cI (va_A [(h, .inr (11, [.ref ys, .ref yk, .ref yt, .int m3, .ref yf, .ref yb, .ref yz, .ref yn, .ref yc, .int m9, .ref yp, .ref yw, .int m12, .int m13, .int m14, .int m15, .int m16, .int m17, .int m18, .int m19, .int m20, .ref ye, .int m22, .int m23, .ref yx])), (ys, .inl (cI, 1201, .inl sI)), (yf, .inl (cI, 6, .inl ff))] sz) [] t) (va_A [(h, .inr (11, [.ref ys, .ref yk, .ref yt, .int m3, .ref yf, .ref yb, .ref yz, .ref yn, .ref yc, .int m9, .ref yp, .ref yw, .int m12, .int m13, .int m14, .int m15, .int m16, .int m17, .int m18, .int m19, .int m20, .ref ye, .int m22, .int m23, .ref yx])), (ys, .inl (cI, 1201, .inl sI)), (yf, .inl (cI, 6, .inl ff))] sz)) 0 0 (va_A [(h, .inr (11, [.ref ys, .ref yk, .ref yt, .int m3, .ref yf, .ref yb, .ref yz, .ref yn, .ref yc, .int m9, .ref yp, .ref yw, .int m12, .int m13, .int m14, .int m15, .int m16, .int m17, .int m18, .int m19, .int m20, .ref ye, .int m22, .int m23, .ref yx])), (ys, .inl (cI, 1201, .inl sI)), (yf, .inl (cI, 6, .inl ff))] sz) := by
  refine kMetI (own := RX11) (by decide) rfl (Nat.le_of_ble_eq_true rfl) ?_
  intro p e s m args below meth c hx hb hT hown hname hml A Q hK hP hD hS hA hN hRet ls hl
  have hl : lv_has ls 3 [(0, .ref h), (1, .int a)] := hl
  have lo_a := k_lo a
  have hi_a := k_hi a
  have lo_m3 := k_lo m3
  have hi_m3 := k_hi m3
  have lo_m9 := k_lo m9
  have hi_m9 := k_hi m9
  have lo_m12 := k_lo m12
  have hi_m12 := k_hi m12
  have lo_m13 := k_lo m13
  have hi_m13 := k_hi m13
  have lo_m14 := k_lo m14
  have hi_m14 := k_hi m14
  have lo_m15 := k_lo m15
  have hi_m15 := k_hi m15
  have lo_m16 := k_lo m16
  have hi_m16 := k_hi m16
  have lo_m17 := k_lo m17
  have hi_m17 := k_hi m17
  have lo_m18 := k_lo m18
  have hi_m18 := k_hi m18
  have lo_m19 := k_lo m19
  have hi_m19 := k_hi m19
  have lo_m20 := k_lo m20
  have hi_m20 := k_hi m20
  have lo_m22 := k_lo m22
  have hi_m22 := k_hi m22
  have lo_m23 := k_lo m23
  have hi_m23 := k_hi m23
  refine lv_iload_n hx hb dX11_reach_0 rfl (lv_at hl 1 rfl) ?_
  refine lv_iconst (v := 1) hx hb dX11_reach_1 (by decide) ?_
  refine lv_sipush (v := 200) hx hb dX11_reach_2 (by decide) ?_
  refine kJi (wr := [(h, .inr (11, [.ref ys, .ref yk, .ref yt, .int m3, .ref yf, .ref yb, .ref yz, .ref yn, .ref yc, .int m9, .ref yp, .ref yw, .int m12, .int m13, .int m14, .int m15, .int m16, .int m17, .int m18, .int m19, .int m20, .ref ye, .int m22, .int m23, .ref yx])), (ys, .inl (cI, 1201, .inl sI)), (yf, .inl (cI, 6, .inl ff))]) (va_runS (As := [.int a, .int 1, .int 200]) (rest := []) ⟨hx, hb, hml, hown, hT⟩ (c_X11_in l D cI s.heap.size a 1 200) (cwS 3 hT (gS_in mw_1238 mw_1236 mw_1237 mw_12) rfl rfl rfl (by decide +kernel) ⟨Nat.le_of_ble_eq_true rfl, Nat.le_of_ble_eq_true rfl⟩) (kStat hK hP hD hN [] rfl (by decide)) rfl rfl hl.1 rfl (lv_room (Nat.le_of_ble_eq_true rfl)) dX11_reach_5 ⟨Nat.le_of_ble_eq_true rfl, Nat.le_of_ble_eq_true rfl⟩) hP hD hS hA [] [0, 1, 2] rfl rfl (by decide) (by decide) (fun r_1 u_3 H locs w_2 hP hD hS => ?_)
  have hP : va_P D vwCl [(h, .inr (11, [.ref ys, .ref yk, .ref yt, .int m3, .ref yf, .ref yb, .ref yz, .ref yn, .ref yc, .int m9, .ref yp, .ref yw, .int m12, .int m13, .int m14, .int m15, .int m16, .int m17, .int m18, .int m19, .int m20, .ref ye, .int m22, .int m23, .ref yx])), (ys, .inl (cI, 1201, .inl sI)), (yf, .inl (cI, 6, .inl ff))] H := hP
  have hD : va_D A [(h, .inr (11, [.ref ys, .ref yk, .ref yt, .int m3, .ref yf, .ref yb, .ref yz, .ref yn, .ref yc, .int m9, .ref yp, .ref yw, .int m12, .int m13, .int m14, .int m15, .int m16, .int m17, .int m18, .int m19, .int m20, .ref ye, .int m22, .int m23, .ref yx])), (ys, .inl (cI, 1201, .inl sI)), (yf, .inl (cI, 6, .inl ff))] := hD
  rcases w_2 with ⟨hr_1, h_4, h_5⟩ | ⟨hr_1, h_6⟩
  · try simp only [zl_1, zl_200] at h_4
    have h_4 : 1 ≤ a.toInt := h_4
    try simp only [zl_1, zl_200] at h_5
    have h_5 : a.toInt ≤ 200 := h_5
    obtain rfl : r_1 = 1 := hr_1.trans (by decide)
    refine b_if_ne hx hb zl_1 (tgt := 18) dX11_reach_8 (by decide) (fun c_7 => ?_) (fun c_7 => by exfalso; omega)
    refine lv_aload_n hx hb dX11_reach_18 rfl (lv_at hl 0 rfl) ?_
    refine va_get (D := D) (ci := 11) (v := .ref ys) (C := RX11) (T := TX11) (N := 25) hx hb hT giX11 hown hK hP 0 rfl rfl 0 (by decide) (hT (Cond.fieldLink RX11 9 "DesertWireModel" "s" "[I") mw_1156) (fun _ h9 => h9) rfl dX11_reach_19 ?_
    refine lv_bipush (v := 6) hx hb dX11_reach_22 (by decide) ?_
    refine k_iald (v := 40) hx hb hK hP 1 0 rfl rfl (k_inl (by decide)) (by decide +kernel) dX11_reach_24 ?_
    refine lv_istore_n (lv' := [(2, .int 40), (0, .ref h), (1, .int a)]) hx hb dX11_reach_25 rfl hl (by decide) rfl (fun ls hl => ?_)
    refine lv_aload_n hx hb dX11_reach_26 rfl (lv_at hl 1 rfl) ?_
    refine va_get (D := D) (ci := 11) (v := .ref ys) (C := RX11) (T := TX11) (N := 25) hx hb hT giX11 hown hK hP 0 rfl rfl 0 (by decide) (hT (Cond.fieldLink RX11 9 "DesertWireModel" "s" "[I") mw_1156) (fun _ h9 => h9) rfl dX11_reach_27 ?_
    refine lv_bipush (v := 6) hx hb dX11_reach_30 (by decide) ?_
    refine lv_iload_n hx hb dX11_reach_32 rfl (lv_at hl 2 rfl) ?_
    refine va_iast hx hb hK hP hD hS 1 0 rfl rfl (k_inl (by decide)) dX11_reach_33 (fun H locs hP hD hS => ?_)
    have hP : va_P D vwCl [(h, .inr (11, [.ref ys, .ref yk, .ref yt, .int m3, .ref yf, .ref yb, .ref yz, .ref yn, .ref yc, .int m9, .ref yp, .ref yw, .int m12, .int m13, .int m14, .int m15, .int m16, .int m17, .int m18, .int m19, .int m20, .ref ye, .int m22, .int m23, .ref yx])), (ys, .inl (cI, 1201, .inl (upd sI 6 a))), (yf, .inl (cI, 6, .inl ff))] H := hP
    have hD : va_D A [(h, .inr (11, [.ref ys, .ref yk, .ref yt, .int m3, .ref yf, .ref yb, .ref yz, .ref yn, .ref yc, .int m9, .ref yp, .ref yw, .int m12, .int m13, .int m14, .int m15, .int m16, .int m17, .int m18, .int m19, .int m20, .ref ye, .int m22, .int m23, .ref yx])), (ys, .inl (cI, 1201, .inl (upd sI 6 a))), (yf, .inl (cI, 6, .inl ff))] := hD
    obtain ⟨f_8, ef_8⟩ : ∃ g : Nat → Int32, g = upd sI 6 a := ⟨_, rfl⟩
    rw [← ef_8] at hP hD
    refine lv_iload_n hx hb dX11_reach_34 rfl (lv_at hl 0 rfl) ?_
    exact hRet () [] (by unfold sp_reach; repeat (first | rw [if_pos (by omega)] | rw [if_neg (by omega)])) hP hD (by decide) rfl hS rfl dX11_reach_35
  · try simp only [zl_1, zl_200] at h_6
    have h_6 : a.toInt < 1 ∨ 200 < a.toInt := h_6
    obtain rfl : r_1 = 0 := hr_1.trans (by decide)
    refine b_if_ne hx hb zl_0 (tgt := 18) dX11_reach_8 (by decide) (fun c_9 => by exfalso; omega) (fun c_9 => ?_)
    refine lv_aload_n hx hb dX11_reach_11 rfl (lv_at hl 0 rfl) ?_
    refine lv_ldc (v := (-1000001)) hx hb hown (hT _ mw_1239) dX11_reach_12 ?_
    refine kJi (wr := [(ys, .inl (cI, 1201, .inl sI))]) (va_runV (As := [.int (-1000001)]) (rest := []) ⟨hx, hb, hml, hown, hT⟩ (c_X11_finding l D cI h ys yk yt yf yb yz yn yc yp yw ye yx H.size m3 m9 m12 m13 m14 m15 m16 m17 m18 m19 m20 m22 m23 ff (-1000001) (by first | omega | (simp only [zl_m1000001] <;> omega) | decide | assumption | rfl) (by first | omega | (simp only [zl_m1000001] <;> omega) | decide | assumption | rfl)) (cwV 1 hT (gV_in mw_1243 mw_1240 mw_1242 mw_p3_8 mw_12) rfl rfl rfl (by decide +kernel) ⟨Nat.le_of_ble_eq_true rfl, Nat.le_of_ble_eq_true rfl⟩) (kRecv (own := "") (q0 := 0) (ci := 11) hK hP hD hN rfl rfl [0, 2] rfl (by decide)) rfl rfl hl.1 rfl (lv_room (Nat.le_of_ble_eq_true rfl)) dX11_reach_14 ⟨Nat.le_of_ble_eq_true rfl, Nat.le_of_ble_eq_true rfl⟩) hP hD hS hA [0, 2] [1] rfl rfl (by decide) (by decide) (fun r_10 u_12 H locs w_11 hP hD hS => ?_)
    have hP : va_P D vwCl [(ys, .inl (cI, 1201, .inl sI))] H := hP
    have hD : va_D A [(ys, .inl (cI, 1201, .inl sI))] := hD
    have hr_10 := w_11
    obtain rfl : r_10 = (-1000001) := hr_10.trans (by decide)
    exact hRet () [] (by unfold sp_reach; repeat (first | rw [if_pos (by omega)] | rw [if_neg (by omega)])) hP hD (by decide) rfl hS rfl dX11_reach_17
set_option maxHeartbeats 4000000 in
set_option maxRecDepth 100000 in
theorem c_X11_rate (l : Launch) (D : va_G) (cI : ClassId) (h ys yk yt yf yb yz yn yc yp yw ye yx : Nat) (sz : Nat) (m3 : Int32) (m9 : Int32) (m12 : Int32) (m13 : Int32) (m14 : Int32) (m15 : Int32) (m16 : Int32) (m17 : Int32) (m18 : Int32) (m19 : Int32) (m20 : Int32) (m22 : Int32) (m23 : Int32) (ff : Nat → Int32) (a : Int32) (b : Int32) : Met l yX11_rate (gW yX11_rate cX11_rate 8 (some .int)) ({ frames := 8, cells := 0, slots := 0, locals := 184 } : Room) (kPre D cI [.ref h, .int a, .int b] [(h, .inr (11, [.ref ys, .ref yk, .ref yt, .int m3, .ref yf, .ref yb, .ref yz, .ref yn, .ref yc, .int m9, .ref yp, .ref yw, .int m12, .int m13, .int m14, .int m15, .int m16, .int m17, .int m18, .int m19, .int m20, .ref ye, .int m22, .int m23, .ref yx])), (ys, .inl (cI, 1201, .inl sI)), (yf, .inl (cI, 6, .inl ff))] sz) (va_Qi (fun (r : Int32) (u : Unit) => r = sp_rate a b) (fun u t => kWd D cI (va_A [(h, .inr (11, [.ref ys, .ref yk, .ref yt, .int m3, .ref yf, .ref yb, .ref yz, .ref yn, .ref yc, .int m9, .ref yp, .ref yw, .int m12, .int m13, .int m14, .int m15, .int m16, .int m17, .int m18, .int m19, .int m20, .ref ye, .int m22, .int m23, .ref yx])), (ys, .inl (cI, 1201, .inl sI)), (yf, .inl (cI, 6, .inl ff))] sz) [] t) (va_A [(h, .inr (11, [.ref ys, .ref yk, .ref yt, .int m3, .ref yf, .ref yb, .ref yz, .ref yn, .ref yc, .int m9, .ref yp, .ref yw, .int m12, .int m13, .int m14, .int m15, .int m16, .int m17, .int m18, .int m19, .int m20, .ref ye, .int m22, .int m23, .ref yx])), (ys, .inl (cI, 1201, .inl sI)), (yf, .inl (cI, 6, .inl ff))] sz)) 0 0 (va_A [(h, .inr (11, [.ref ys, .ref yk, .ref yt, .int m3, .ref yf, .ref yb, .ref yz, .ref yn, .ref yc, .int m9, .ref yp, .ref yw, .int m12, .int m13, .int m14, .int m15, .int m16, .int m17, .int m18, .int m19, .int m20, .ref ye, .int m22, .int m23, .ref yx])), (ys, .inl (cI, 1201, .inl sI)), (yf, .inl (cI, 6, .inl ff))] sz) := by
  refine kMetI (own := RX11) (by decide) rfl (Nat.le_of_ble_eq_true rfl) ?_
  intro p e s m args below meth c hx hb hT hown hname hml A Q hK hP hD hS hA hN hRet ls hl
  have hl : lv_has ls 8 [(0, .ref h), (1, .int a), (2, .int b)] := hl
  have lo_a := k_lo a
  have hi_a := k_hi a
  have lo_b := k_lo b
  have hi_b := k_hi b
  have lo_m3 := k_lo m3
  have hi_m3 := k_hi m3
  have lo_m9 := k_lo m9
  have hi_m9 := k_hi m9
  have lo_m12 := k_lo m12
  have hi_m12 := k_hi m12
  have lo_m13 := k_lo m13
  have hi_m13 := k_hi m13
  have lo_m14 := k_lo m14
  have hi_m14 := k_hi m14
  have lo_m15 := k_lo m15
  have hi_m15 := k_hi m15
  have lo_m16 := k_lo m16
  have hi_m16 := k_hi m16
  have lo_m17 := k_lo m17
  have hi_m17 := k_hi m17
  have lo_m18 := k_lo m18
  have hi_m18 := k_hi m18
  have lo_m19 := k_lo m19
  have hi_m19 := k_hi m19
  have lo_m20 := k_lo m20
  have hi_m20 := k_hi m20
  have lo_m22 := k_lo m22
  have hi_m22 := k_hi m22
  have lo_m23 := k_lo m23
  have hi_m23 := k_hi m23
  refine lv_iload_n hx hb dX11_rate_0 rfl (lv_at hl 1 rfl) ?_
  refine kJi (wr := [(h, .inr (11, [.ref ys, .ref yk, .ref yt, .int m3, .ref yf, .ref yb, .ref yz, .ref yn, .ref yc, .int m9, .ref yp, .ref yw, .int m12, .int m13, .int m14, .int m15, .int m16, .int m17, .int m18, .int m19, .int m20, .ref ye, .int m22, .int m23, .ref yx])), (ys, .inl (cI, 1201, .inl sI)), (yf, .inl (cI, 6, .inl ff))]) (va_runS (As := [.int a]) (rest := []) ⟨hx, hb, hml, hown, hT⟩ (c_X11_isUse l D cI s.heap.size a) (cwS 1 hT (gS_in mw_1476 mw_1474 mw_1475 mw_12) rfl rfl rfl (by decide +kernel) ⟨Nat.le_of_ble_eq_true rfl, Nat.le_of_ble_eq_true rfl⟩) (kStat hK hP hD hN [] rfl (by decide)) rfl rfl hl.1 rfl (lv_room (Nat.le_of_ble_eq_true rfl)) dX11_rate_1 ⟨Nat.le_of_ble_eq_true rfl, Nat.le_of_ble_eq_true rfl⟩) hP hD hS hA [] [0, 1, 2] rfl rfl (by decide) (by decide) (fun r_1 u_3 H locs w_2 hP hD hS => ?_)
  have hP : va_P D vwCl [(h, .inr (11, [.ref ys, .ref yk, .ref yt, .int m3, .ref yf, .ref yb, .ref yz, .ref yn, .ref yc, .int m9, .ref yp, .ref yw, .int m12, .int m13, .int m14, .int m15, .int m16, .int m17, .int m18, .int m19, .int m20, .ref ye, .int m22, .int m23, .ref yx])), (ys, .inl (cI, 1201, .inl sI)), (yf, .inl (cI, 6, .inl ff))] H := hP
  have hD : va_D A [(h, .inr (11, [.ref ys, .ref yk, .ref yt, .int m3, .ref yf, .ref yb, .ref yz, .ref yn, .ref yc, .int m9, .ref yp, .ref yw, .int m12, .int m13, .int m14, .int m15, .int m16, .int m17, .int m18, .int m19, .int m20, .ref ye, .int m22, .int m23, .ref yx])), (ys, .inl (cI, 1201, .inl sI)), (yf, .inl (cI, 6, .inl ff))] := hD
  rcases w_2 with ⟨hr_1, h_4, h_5⟩ | ⟨hr_1, h_6⟩
  · have h_4 : 0 ≤ a.toInt := h_4
    have h_5 : a.toInt ≤ 2 := h_5
    obtain rfl : r_1 = 1 := hr_1.trans (by decide)
    refine b_if_eq hx hb zl_1 (tgt := 14) dX11_rate_4 (by decide) (fun c_7 => by exfalso; omega) (fun c_7 => ?_)
    refine lv_iload_n hx hb dX11_rate_7 rfl (lv_at hl 2 rfl) ?_
    refine kJi (wr := [(h, .inr (11, [.ref ys, .ref yk, .ref yt, .int m3, .ref yf, .ref yb, .ref yz, .ref yn, .ref yc, .int m9, .ref yp, .ref yw, .int m12, .int m13, .int m14, .int m15, .int m16, .int m17, .int m18, .int m19, .int m20, .ref ye, .int m22, .int m23, .ref yx])), (ys, .inl (cI, 1201, .inl sI)), (yf, .inl (cI, 6, .inl ff))]) (va_runS (As := [.int b]) (rest := []) ⟨hx, hb, hml, hown, hT⟩ (c_X11_isDay l D cI H.size b) (cwS 1 hT (gS_in mw_1479 mw_1477 mw_1478 mw_12) rfl rfl rfl (by decide +kernel) ⟨Nat.le_of_ble_eq_true rfl, Nat.le_of_ble_eq_true rfl⟩) (kStat hK hP hD hN [] rfl (by decide)) rfl rfl hl.1 rfl (lv_room (Nat.le_of_ble_eq_true rfl)) dX11_rate_8 ⟨Nat.le_of_ble_eq_true rfl, Nat.le_of_ble_eq_true rfl⟩) hP hD hS hA [] [0, 1, 2] rfl rfl (by decide) (by decide) (fun r_8 u_10 H locs w_9 hP hD hS => ?_)
    have hP : va_P D vwCl [(h, .inr (11, [.ref ys, .ref yk, .ref yt, .int m3, .ref yf, .ref yb, .ref yz, .ref yn, .ref yc, .int m9, .ref yp, .ref yw, .int m12, .int m13, .int m14, .int m15, .int m16, .int m17, .int m18, .int m19, .int m20, .ref ye, .int m22, .int m23, .ref yx])), (ys, .inl (cI, 1201, .inl sI)), (yf, .inl (cI, 6, .inl ff))] H := hP
    have hD : va_D A [(h, .inr (11, [.ref ys, .ref yk, .ref yt, .int m3, .ref yf, .ref yb, .ref yz, .ref yn, .ref yc, .int m9, .ref yp, .ref yw, .int m12, .int m13, .int m14, .int m15, .int m16, .int m17, .int m18, .int m19, .int m20, .ref ye, .int m22, .int m23, .ref yx])), (ys, .inl (cI, 1201, .inl sI)), (yf, .inl (cI, 6, .inl ff))] := hD
    rcases w_9 with ⟨hr_8, h_11, h_12⟩ | ⟨hr_8, h_13⟩
    · have h_11 : 0 ≤ b.toInt := h_11
      have h_12 : b.toInt ≤ 2000 := h_12
      obtain rfl : r_8 = 1 := hr_8.trans (by decide)
      refine b_if_ne hx hb zl_1 (tgt := 21) dX11_rate_11 (by decide) (fun c_14 => ?_) (fun c_14 => by exfalso; omega)
      refine lv_aload_n hx hb dX11_rate_21 rfl (lv_at hl 0 rfl) ?_
      refine va_get (D := D) (ci := 11) (v := .ref ys) (C := RX11) (T := TX11) (N := 25) hx hb hT giX11 hown hK hP 0 rfl rfl 0 (by decide) (hT (Cond.fieldLink RX11 9 "DesertWireModel" "s" "[I") mw_1156) (fun _ h9 => h9) rfl dX11_rate_22 ?_
      refine lv_iconst (v := 3) hx hb dX11_rate_25 (by decide) ?_
      refine k_iald (v := 0) hx hb hK hP 1 0 rfl rfl (k_inl (by decide)) (by decide +kernel) dX11_rate_26 ?_
      refine lv_bipush (v := 12) hx hb dX11_rate_27 (by decide) ?_
      refine b_icmp_ne hx hb zl_0 zl_12 (tgt := 39) dX11_rate_29 (by decide) (fun c_15 => ?_) (fun c_15 => by exfalso; omega)
      refine lv_aload_n hx hb dX11_rate_39 rfl (lv_at hl 0 rfl) ?_
      refine va_get (D := D) (ci := 11) (v := .ref ys) (C := RX11) (T := TX11) (N := 25) hx hb hT giX11 hown hK hP 0 rfl rfl 0 (by decide) (hT (Cond.fieldLink RX11 9 "DesertWireModel" "s" "[I") mw_1156) (fun _ h9 => h9) rfl dX11_rate_40 ?_
      refine lv_iconst (v := 4) hx hb dX11_rate_43 (by decide) ?_
      refine k_iald (v := 0) hx hb hK hP 1 0 rfl rfl (k_inl (by decide)) (by decide +kernel) dX11_rate_44 ?_
      refine lv_istore_n (lv' := [(3, .int 0), (0, .ref h), (1, .int a), (2, .int b)]) hx hb dX11_rate_45 rfl hl (by decide) rfl (fun ls hl => ?_)
      refine lv_aload_n hx hb dX11_rate_46 rfl (lv_at hl 1 rfl) ?_
      refine va_get (D := D) (ci := 11) (v := .ref ys) (C := RX11) (T := TX11) (N := 25) hx hb hT giX11 hown hK hP 0 rfl rfl 0 (by decide) (hT (Cond.fieldLink RX11 9 "DesertWireModel" "s" "[I") mw_1156) (fun _ h9 => h9) rfl dX11_rate_47 ?_
      refine lv_iconst (v := 4) hx hb dX11_rate_50 (by decide) ?_
      refine lv_iconst (v := 0) hx hb dX11_rate_51 (by decide) ?_
      refine va_iast hx hb hK hP hD hS 1 0 rfl rfl (k_inl (by decide)) dX11_rate_52 (fun H locs hP hD hS => ?_)
      have hP : va_P D vwCl [(h, .inr (11, [.ref ys, .ref yk, .ref yt, .int m3, .ref yf, .ref yb, .ref yz, .ref yn, .ref yc, .int m9, .ref yp, .ref yw, .int m12, .int m13, .int m14, .int m15, .int m16, .int m17, .int m18, .int m19, .int m20, .ref ye, .int m22, .int m23, .ref yx])), (ys, .inl (cI, 1201, .inl (upd sI 4 0))), (yf, .inl (cI, 6, .inl ff))] H := hP
      have hD : va_D A [(h, .inr (11, [.ref ys, .ref yk, .ref yt, .int m3, .ref yf, .ref yb, .ref yz, .ref yn, .ref yc, .int m9, .ref yp, .ref yw, .int m12, .int m13, .int m14, .int m15, .int m16, .int m17, .int m18, .int m19, .int m20, .ref ye, .int m22, .int m23, .ref yx])), (ys, .inl (cI, 1201, .inl (upd sI 4 0))), (yf, .inl (cI, 6, .inl ff))] := hD
      obtain ⟨f_16, ef_16⟩ : ∃ g : Nat → Int32, g = upd sI 4 0 := ⟨_, rfl⟩
      rw [← ef_16] at hP hD
      refine lv_aload_n hx hb dX11_rate_53 rfl (lv_at hl 1 rfl) ?_
      refine lv_iload_n hx hb dX11_rate_54 rfl (lv_at hl 2 rfl) ?_
      refine lv_sipush (v := 1131) hx hb dX11_rate_55 (by decide) ?_
      refine lv_iload_n hx hb dX11_rate_58 rfl (lv_at hl 0 rfl) ?_
      refine lv_iconst (v := 0) hx hb dX11_rate_59 (by decide) ?_
      refine lv_iconst (v := 0) hx hb dX11_rate_60 (by decide) ?_
      refine lv_iconst (v := 0) hx hb dX11_rate_61 (by decide) ?_
      refine kJi (wr := [(ys, .inl (cI, 1201, .inl f_16)), (yf, .inl (cI, 6, .inl ff))]) (va_runV (As := [.int a, .int 1131, .int 0, .int 0, .int 0, .int 0]) (rest := []) ⟨hx, hb, hml, hown, hT⟩ (c_X11_goesOver l D cI h ys yk yt yf yb yz yn yc yp yw ye yx H.size m3 m9 m12 m13 m14 m15 m16 m17 m18 m19 m20 m22 m23 a 1131 0 0 0 0 (by first | omega | (simp only [zl_0, zl_1131] <;> omega) | decide | assumption | rfl)) (cwV 6 hT (gV_in mw_1311 mw_1308 mw_1310 mw_p4_2 mw_12) rfl rfl rfl (by decide +kernel) ⟨Nat.le_of_ble_eq_true rfl, Nat.le_of_ble_eq_true rfl⟩) (kRecv (own := "") (q0 := 0) (ci := 11) hK hP hD hN rfl rfl [0] rfl (by decide)) rfl rfl hl.1 rfl (lv_room (Nat.le_of_ble_eq_true rfl)) dX11_rate_62 ⟨Nat.le_of_ble_eq_true rfl, Nat.le_of_ble_eq_true rfl⟩) hP hD hS hA [0] [1, 2] rfl rfl (by decide) (by decide) (fun r_17 u_19 H locs w_18 hP hD hS => ?_)
      have hP : va_P D vwCl [(ys, .inl (cI, 1201, .inl f_16)), (yf, .inl (cI, 6, .inl ff)), (h, .inr (11, [.ref ys, .ref yk, .ref yt, .int m3, .ref yf, .ref yb, .ref yz, .ref yn, .ref yc, .int m9, .ref yp, .ref yw, .int 1131, .int 0, .int 0, .int 1, .int 0, .int a, .int 0, .int 0, .int 0, .ref ye, .int m22, .int m23, .ref yx]))] H := hP
      have hD : va_D A [(ys, .inl (cI, 1201, .inl f_16)), (yf, .inl (cI, 6, .inl ff)), (h, .inr (11, [.ref ys, .ref yk, .ref yt, .int m3, .ref yf, .ref yb, .ref yz, .ref yn, .ref yc, .int m9, .ref yp, .ref yw, .int 1131, .int 0, .int 0, .int 1, .int 0, .int a, .int 0, .int 0, .int 0, .ref ye, .int m22, .int m23, .ref yx]))] := hD
      have hr_17 := w_18
      obtain rfl : r_17 = 0 := hr_17.trans (by decide)
      refine lv_istore (lv' := [(4, .int 0), (3, .int 0), (0, .ref h), (1, .int a), (2, .int b)]) hx hb dX11_rate_65 hl (by decide) rfl (fun ls hl => ?_)
      refine lv_aload_n hx hb dX11_rate_67 rfl (lv_at hl 2 rfl) ?_
      refine va_get (D := D) (ci := 11) (v := .int 1) (C := RX11) (T := TX11) (N := 25) hx hb hT giX11 hown hK hP 2 rfl rfl 15 (by decide) (hT (Cond.fieldLink RX11 148 "DesertWireModel" "isWrong" "Z") mw_1171) (fun _ h9 => h9) rfl dX11_rate_68 ?_
      refine b_if_ne hx hb zl_1 (tgt := 85) dX11_rate_71 (by decide) (fun c_20 => ?_) (fun c_20 => by exfalso; omega)
      refine lv_bipush (v := (-10)) hx hb dX11_rate_85 (by decide) ?_
      refine lv_aload_n hx hb dX11_rate_87 rfl (lv_at hl 2 rfl) ?_
      refine va_get (D := D) (ci := 11) (v := .int 0) (C := RX11) (T := TX11) (N := 25) hx hb hT giX11 hown hK hP 2 rfl rfl 13 (by decide) (hT (Cond.fieldLink RX11 138 "DesertWireModel" "here" "I") mw_1169) (fun _ h9 => h9) rfl dX11_rate_88 ?_
      refine k_isub (v := (-10)) hx hb dX11_rate_91 (by decide) ?_
      exact hRet () [] (by unfold sp_rate; repeat (first | rw [if_pos (by omega)] | rw [if_neg (by omega)])) hP hD (by decide) rfl hS rfl dX11_rate_92
    · have h_13 : b.toInt < 0 ∨ 2000 < b.toInt := h_13
      obtain rfl : r_8 = 0 := hr_8.trans (by decide)
      refine b_if_ne hx hb zl_0 (tgt := 21) dX11_rate_11 (by decide) (fun c_21 => by exfalso; omega) (fun c_21 => ?_)
      refine lv_aload_n hx hb dX11_rate_14 rfl (lv_at hl 0 rfl) ?_
      refine lv_ldc (v := (-1000001)) hx hb hown (hT _ mw_1239) dX11_rate_15 ?_
      refine kJi (wr := [(ys, .inl (cI, 1201, .inl sI))]) (va_runV (As := [.int (-1000001)]) (rest := []) ⟨hx, hb, hml, hown, hT⟩ (c_X11_finding l D cI h ys yk yt yf yb yz yn yc yp yw ye yx H.size m3 m9 m12 m13 m14 m15 m16 m17 m18 m19 m20 m22 m23 ff (-1000001) (by first | omega | (simp only [zl_m1000001] <;> omega) | decide | assumption | rfl) (by first | omega | (simp only [zl_m1000001] <;> omega) | decide | assumption | rfl)) (cwV 1 hT (gV_in mw_1243 mw_1240 mw_1242 mw_p3_8 mw_12) rfl rfl rfl (by decide +kernel) ⟨Nat.le_of_ble_eq_true rfl, Nat.le_of_ble_eq_true rfl⟩) (kRecv (own := "") (q0 := 0) (ci := 11) hK hP hD hN rfl rfl [0, 2] rfl (by decide)) rfl rfl hl.1 rfl (lv_room (Nat.le_of_ble_eq_true rfl)) dX11_rate_17 ⟨Nat.le_of_ble_eq_true rfl, Nat.le_of_ble_eq_true rfl⟩) hP hD hS hA [0, 2] [1] rfl rfl (by decide) (by decide) (fun r_22 u_24 H locs w_23 hP hD hS => ?_)
      have hP : va_P D vwCl [(ys, .inl (cI, 1201, .inl sI))] H := hP
      have hD : va_D A [(ys, .inl (cI, 1201, .inl sI))] := hD
      have hr_22 := w_23
      obtain rfl : r_22 = (-1000001) := hr_22.trans (by decide)
      exact hRet () [] (by unfold sp_rate; repeat (first | rw [if_pos (by omega)] | rw [if_neg (by omega)])) hP hD (by decide) rfl hS rfl dX11_rate_20
  · have h_6 : a.toInt < 0 ∨ 2 < a.toInt := h_6
    obtain rfl : r_1 = 0 := hr_1.trans (by decide)
    refine b_if_eq hx hb zl_0 (tgt := 14) dX11_rate_4 (by decide) (fun c_25 => ?_) (fun c_25 => by exfalso; omega)
    refine lv_aload_n hx hb dX11_rate_14 rfl (lv_at hl 0 rfl) ?_
    refine lv_ldc (v := (-1000001)) hx hb hown (hT _ mw_1239) dX11_rate_15 ?_
    refine kJi (wr := [(ys, .inl (cI, 1201, .inl sI))]) (va_runV (As := [.int (-1000001)]) (rest := []) ⟨hx, hb, hml, hown, hT⟩ (c_X11_finding l D cI h ys yk yt yf yb yz yn yc yp yw ye yx H.size m3 m9 m12 m13 m14 m15 m16 m17 m18 m19 m20 m22 m23 ff (-1000001) (by first | omega | (simp only [zl_m1000001] <;> omega) | decide | assumption | rfl) (by first | omega | (simp only [zl_m1000001] <;> omega) | decide | assumption | rfl)) (cwV 1 hT (gV_in mw_1243 mw_1240 mw_1242 mw_p3_8 mw_12) rfl rfl rfl (by decide +kernel) ⟨Nat.le_of_ble_eq_true rfl, Nat.le_of_ble_eq_true rfl⟩) (kRecv (own := "") (q0 := 0) (ci := 11) hK hP hD hN rfl rfl [0, 2] rfl (by decide)) rfl rfl hl.1 rfl (lv_room (Nat.le_of_ble_eq_true rfl)) dX11_rate_17 ⟨Nat.le_of_ble_eq_true rfl, Nat.le_of_ble_eq_true rfl⟩) hP hD hS hA [0, 2] [1] rfl rfl (by decide) (by decide) (fun r_26 u_28 H locs w_27 hP hD hS => ?_)
    have hP : va_P D vwCl [(ys, .inl (cI, 1201, .inl sI))] H := hP
    have hD : va_D A [(ys, .inl (cI, 1201, .inl sI))] := hD
    have hr_26 := w_27
    obtain rfl : r_26 = (-1000001) := hr_26.trans (by decide)
    exact hRet () [] (by unfold sp_rate; repeat (first | rw [if_pos (by omega)] | rw [if_neg (by omega)])) hP hD (by decide) rfl hS rfl dX11_rate_20
set_option maxHeartbeats 4000000 in
set_option maxRecDepth 100000 in
theorem c_X11_force (l : Launch) (D : va_G) (cI : ClassId) (h ys yk yt yf yb yz yn yc yp yw ye yx : Nat) (sz : Nat) (m3 : Int32) (m9 : Int32) (m12 : Int32) (m13 : Int32) (m14 : Int32) (m15 : Int32) (m16 : Int32) (m17 : Int32) (m18 : Int32) (m19 : Int32) (m20 : Int32) (m22 : Int32) (m23 : Int32) (ff : Nat → Int32) (a : Int32) (b : Int32) : Met l yX11_force (gW yX11_force cX11_force 4 (some .int)) ({ frames := 2, cells := 0, slots := 0, locals := 42 } : Room) (kPre D cI [.ref h, .int a, .int b] [(h, .inr (11, [.ref ys, .ref yk, .ref yt, .int m3, .ref yf, .ref yb, .ref yz, .ref yn, .ref yc, .int m9, .ref yp, .ref yw, .int m12, .int m13, .int m14, .int m15, .int m16, .int m17, .int m18, .int m19, .int m20, .ref ye, .int m22, .int m23, .ref yx])), (ys, .inl (cI, 1201, .inl sI)), (yf, .inl (cI, 6, .inl ff))] sz) (va_Qi (fun (r : Int32) (u : Unit) => r = sp_force a b) (fun u t => kWd D cI (va_A [(h, .inr (11, [.ref ys, .ref yk, .ref yt, .int m3, .ref yf, .ref yb, .ref yz, .ref yn, .ref yc, .int m9, .ref yp, .ref yw, .int m12, .int m13, .int m14, .int m15, .int m16, .int m17, .int m18, .int m19, .int m20, .ref ye, .int m22, .int m23, .ref yx])), (ys, .inl (cI, 1201, .inl sI)), (yf, .inl (cI, 6, .inl ff))] sz) [] t) (va_A [(h, .inr (11, [.ref ys, .ref yk, .ref yt, .int m3, .ref yf, .ref yb, .ref yz, .ref yn, .ref yc, .int m9, .ref yp, .ref yw, .int m12, .int m13, .int m14, .int m15, .int m16, .int m17, .int m18, .int m19, .int m20, .ref ye, .int m22, .int m23, .ref yx])), (ys, .inl (cI, 1201, .inl sI)), (yf, .inl (cI, 6, .inl ff))] sz)) 0 0 (va_A [(h, .inr (11, [.ref ys, .ref yk, .ref yt, .int m3, .ref yf, .ref yb, .ref yz, .ref yn, .ref yc, .int m9, .ref yp, .ref yw, .int m12, .int m13, .int m14, .int m15, .int m16, .int m17, .int m18, .int m19, .int m20, .ref ye, .int m22, .int m23, .ref yx])), (ys, .inl (cI, 1201, .inl sI)), (yf, .inl (cI, 6, .inl ff))] sz) := by
  refine kMetI (own := RX11) (by decide) rfl (Nat.le_of_ble_eq_true rfl) ?_
  intro p e s m args below meth c hx hb hT hown hname hml A Q hK hP hD hS hA hN hRet ls hl
  have hl : lv_has ls 4 [(0, .ref h), (1, .int a), (2, .int b)] := hl
  have lo_a := k_lo a
  have hi_a := k_hi a
  have lo_b := k_lo b
  have hi_b := k_hi b
  have lo_m3 := k_lo m3
  have hi_m3 := k_hi m3
  have lo_m9 := k_lo m9
  have hi_m9 := k_hi m9
  have lo_m12 := k_lo m12
  have hi_m12 := k_hi m12
  have lo_m13 := k_lo m13
  have hi_m13 := k_hi m13
  have lo_m14 := k_lo m14
  have hi_m14 := k_hi m14
  have lo_m15 := k_lo m15
  have hi_m15 := k_hi m15
  have lo_m16 := k_lo m16
  have hi_m16 := k_hi m16
  have lo_m17 := k_lo m17
  have hi_m17 := k_hi m17
  have lo_m18 := k_lo m18
  have hi_m18 := k_hi m18
  have lo_m19 := k_lo m19
  have hi_m19 := k_hi m19
  have lo_m20 := k_lo m20
  have hi_m20 := k_hi m20
  have lo_m22 := k_lo m22
  have hi_m22 := k_hi m22
  have lo_m23 := k_lo m23
  have hi_m23 := k_hi m23
  refine lv_iload_n hx hb dX11_force_0 rfl (lv_at hl 1 rfl) ?_
  refine kJi (wr := [(h, .inr (11, [.ref ys, .ref yk, .ref yt, .int m3, .ref yf, .ref yb, .ref yz, .ref yn, .ref yc, .int m9, .ref yp, .ref yw, .int m12, .int m13, .int m14, .int m15, .int m16, .int m17, .int m18, .int m19, .int m20, .ref ye, .int m22, .int m23, .ref yx])), (ys, .inl (cI, 1201, .inl sI)), (yf, .inl (cI, 6, .inl ff))]) (va_runS (As := [.int a]) (rest := []) ⟨hx, hb, hml, hown, hT⟩ (c_X11_isUse l D cI s.heap.size a) (cwS 1 hT (gS_in mw_1476 mw_1474 mw_1475 mw_12) rfl rfl rfl (by decide +kernel) ⟨Nat.le_of_ble_eq_true rfl, Nat.le_of_ble_eq_true rfl⟩) (kStat hK hP hD hN [] rfl (by decide)) rfl rfl hl.1 rfl (lv_room (Nat.le_of_ble_eq_true rfl)) dX11_force_1 ⟨Nat.le_of_ble_eq_true rfl, Nat.le_of_ble_eq_true rfl⟩) hP hD hS hA [] [0, 1, 2] rfl rfl (by decide) (by decide) (fun r_1 u_3 H locs w_2 hP hD hS => ?_)
  have hP : va_P D vwCl [(h, .inr (11, [.ref ys, .ref yk, .ref yt, .int m3, .ref yf, .ref yb, .ref yz, .ref yn, .ref yc, .int m9, .ref yp, .ref yw, .int m12, .int m13, .int m14, .int m15, .int m16, .int m17, .int m18, .int m19, .int m20, .ref ye, .int m22, .int m23, .ref yx])), (ys, .inl (cI, 1201, .inl sI)), (yf, .inl (cI, 6, .inl ff))] H := hP
  have hD : va_D A [(h, .inr (11, [.ref ys, .ref yk, .ref yt, .int m3, .ref yf, .ref yb, .ref yz, .ref yn, .ref yc, .int m9, .ref yp, .ref yw, .int m12, .int m13, .int m14, .int m15, .int m16, .int m17, .int m18, .int m19, .int m20, .ref ye, .int m22, .int m23, .ref yx])), (ys, .inl (cI, 1201, .inl sI)), (yf, .inl (cI, 6, .inl ff))] := hD
  rcases w_2 with ⟨hr_1, h_4, h_5⟩ | ⟨hr_1, h_6⟩
  · have h_4 : 0 ≤ a.toInt := h_4
    have h_5 : a.toInt ≤ 2 := h_5
    obtain rfl : r_1 = 1 := hr_1.trans (by decide)
    refine b_if_eq hx hb zl_1 (tgt := 14) dX11_force_4 (by decide) (fun c_7 => by exfalso; omega) (fun c_7 => ?_)
    refine lv_iload_n hx hb dX11_force_7 rfl (lv_at hl 2 rfl) ?_
    refine kJi (wr := [(h, .inr (11, [.ref ys, .ref yk, .ref yt, .int m3, .ref yf, .ref yb, .ref yz, .ref yn, .ref yc, .int m9, .ref yp, .ref yw, .int m12, .int m13, .int m14, .int m15, .int m16, .int m17, .int m18, .int m19, .int m20, .ref ye, .int m22, .int m23, .ref yx])), (ys, .inl (cI, 1201, .inl sI)), (yf, .inl (cI, 6, .inl ff))]) (va_runS (As := [.int b]) (rest := []) ⟨hx, hb, hml, hown, hT⟩ (c_X11_isDay l D cI H.size b) (cwS 1 hT (gS_in mw_1479 mw_1477 mw_1478 mw_12) rfl rfl rfl (by decide +kernel) ⟨Nat.le_of_ble_eq_true rfl, Nat.le_of_ble_eq_true rfl⟩) (kStat hK hP hD hN [] rfl (by decide)) rfl rfl hl.1 rfl (lv_room (Nat.le_of_ble_eq_true rfl)) dX11_force_8 ⟨Nat.le_of_ble_eq_true rfl, Nat.le_of_ble_eq_true rfl⟩) hP hD hS hA [] [0, 1, 2] rfl rfl (by decide) (by decide) (fun r_8 u_10 H locs w_9 hP hD hS => ?_)
    have hP : va_P D vwCl [(h, .inr (11, [.ref ys, .ref yk, .ref yt, .int m3, .ref yf, .ref yb, .ref yz, .ref yn, .ref yc, .int m9, .ref yp, .ref yw, .int m12, .int m13, .int m14, .int m15, .int m16, .int m17, .int m18, .int m19, .int m20, .ref ye, .int m22, .int m23, .ref yx])), (ys, .inl (cI, 1201, .inl sI)), (yf, .inl (cI, 6, .inl ff))] H := hP
    have hD : va_D A [(h, .inr (11, [.ref ys, .ref yk, .ref yt, .int m3, .ref yf, .ref yb, .ref yz, .ref yn, .ref yc, .int m9, .ref yp, .ref yw, .int m12, .int m13, .int m14, .int m15, .int m16, .int m17, .int m18, .int m19, .int m20, .ref ye, .int m22, .int m23, .ref yx])), (ys, .inl (cI, 1201, .inl sI)), (yf, .inl (cI, 6, .inl ff))] := hD
    rcases w_9 with ⟨hr_8, h_11, h_12⟩ | ⟨hr_8, h_13⟩
    · have h_11 : 0 ≤ b.toInt := h_11
      have h_12 : b.toInt ≤ 2000 := h_12
      obtain rfl : r_8 = 1 := hr_8.trans (by decide)
      refine b_if_ne hx hb zl_1 (tgt := 21) dX11_force_11 (by decide) (fun c_14 => ?_) (fun c_14 => by exfalso; omega)
      refine lv_aload_n hx hb dX11_force_21 rfl (lv_at hl 0 rfl) ?_
      refine lv_iload_n hx hb dX11_force_22 rfl (lv_at hl 1 rfl) ?_
      refine lv_iload_n hx hb dX11_force_23 rfl (lv_at hl 2 rfl) ?_
      refine kJi (wr := [(yf, .inl (cI, 6, .inl ff))]) (va_runV (As := [.int a, .int b]) (rest := []) ⟨hx, hb, hml, hown, hT⟩ (c_X11_inForce l D cI h ys yk yt yf yb yz yn yc yp yw ye yx H.size m3 m9 m12 m13 m14 m15 m16 m17 m18 m19 m20 m22 m23 sI a b (by decide +kernel)) (cwV 2 hT (gV_in mw_1303 mw_1300 mw_1302 mw_p4_0 mw_12) rfl rfl rfl (by decide +kernel) ⟨Nat.le_of_ble_eq_true rfl, Nat.le_of_ble_eq_true rfl⟩) (kRecv (own := "") (q0 := 0) (ci := 11) hK hP hD hN rfl rfl [0, 1] rfl (by decide)) rfl rfl hl.1 rfl (lv_room (Nat.le_of_ble_eq_true rfl)) dX11_force_24 ⟨Nat.le_of_ble_eq_true rfl, Nat.le_of_ble_eq_true rfl⟩) hP hD hS hA [0, 1] [2] rfl rfl (by decide) (by decide) (fun r_15 u_17 H locs w_16 hP hD hS => ?_)
      have hP : va_P D vwCl [(yf, .inl (cI, 6, .inl ff)), (h, .inr (11, [.ref ys, .ref yk, .ref yt, .int m3, .ref yf, .ref yb, .ref yz, .ref yn, .ref yc, .int m9, .ref yp, .ref yw, .int m12, .int m13, .int m14, .int m15, .int m16, .int m17, .int m18, .int m19, .int m20, .ref ye, .int m22, .int m23, .ref yx])), (ys, .inl (cI, 1201, .inl sI))] H := hP
      have hD : va_D A [(yf, .inl (cI, 6, .inl ff)), (h, .inr (11, [.ref ys, .ref yk, .ref yt, .int m3, .ref yf, .ref yb, .ref yz, .ref yn, .ref yc, .int m9, .ref yp, .ref yw, .int m12, .int m13, .int m14, .int m15, .int m16, .int m17, .int m18, .int m19, .int m20, .ref ye, .int m22, .int m23, .ref yx])), (ys, .inl (cI, 1201, .inl sI))] := hD
      have hr_15 := w_16
      obtain rfl : r_15 = (-1) := hr_15.trans (by decide)
      refine lv_istore_n (lv' := [(3, .int (-1)), (0, .ref h), (1, .int a), (2, .int b)]) hx hb dX11_force_27 rfl hl (by decide) rfl (fun ls hl => ?_)
      refine lv_iload_n hx hb dX11_force_28 rfl (lv_at hl 0 rfl) ?_
      refine b_if_ge hx hb zl_m1 (tgt := 41) dX11_force_29 (by decide) (fun c_18 => by exfalso; omega) (fun c_18 => ?_)
      refine lv_aload_n hx hb dX11_force_32 rfl (lv_at hl 1 rfl) ?_
      refine lv_ldc (v := (-1000002)) hx hb hown (hT _ mw_1392) dX11_force_33 ?_
      refine kJi (wr := [(ys, .inl (cI, 1201, .inl sI))]) (va_runV (As := [.int (-1000002)]) (rest := []) ⟨hx, hb, hml, hown, hT⟩ (c_X11_finding l D cI h ys yk yt yf yb yz yn yc yp yw ye yx H.size m3 m9 m12 m13 m14 m15 m16 m17 m18 m19 m20 m22 m23 ff (-1000002) (by first | omega | (simp only [zl_m1000002] <;> omega) | decide | assumption | rfl) (by first | omega | (simp only [zl_m1000002] <;> omega) | decide | assumption | rfl)) (cwV 1 hT (gV_in mw_1243 mw_1240 mw_1242 mw_p3_8 mw_12) rfl rfl rfl (by decide +kernel) ⟨Nat.le_of_ble_eq_true rfl, Nat.le_of_ble_eq_true rfl⟩) (kRecv (own := "") (q0 := 1) (ci := 11) hK hP hD hN rfl rfl [1, 0] rfl (by decide)) rfl rfl hl.1 rfl (lv_room (Nat.le_of_ble_eq_true rfl)) dX11_force_35 ⟨Nat.le_of_ble_eq_true rfl, Nat.le_of_ble_eq_true rfl⟩) hP hD hS hA [1, 0] [2] rfl rfl (by decide) (by decide) (fun r_19 u_21 H locs w_20 hP hD hS => ?_)
      have hP : va_P D vwCl [(ys, .inl (cI, 1201, .inl sI))] H := hP
      have hD : va_D A [(ys, .inl (cI, 1201, .inl sI))] := hD
      have hr_19 := w_20
      obtain rfl : r_19 = (-1000002) := hr_19.trans (by decide)
      refine lv_goto (tgt := 42) hx hb dX11_force_38 (by decide) ?_
      exact hRet () [] (by unfold sp_force; repeat (first | rw [if_pos (by omega)] | rw [if_neg (by omega)])) hP hD (by decide) rfl hS rfl dX11_force_42
    · have h_13 : b.toInt < 0 ∨ 2000 < b.toInt := h_13
      obtain rfl : r_8 = 0 := hr_8.trans (by decide)
      refine b_if_ne hx hb zl_0 (tgt := 21) dX11_force_11 (by decide) (fun c_22 => by exfalso; omega) (fun c_22 => ?_)
      refine lv_aload_n hx hb dX11_force_14 rfl (lv_at hl 0 rfl) ?_
      refine lv_ldc (v := (-1000001)) hx hb hown (hT _ mw_1239) dX11_force_15 ?_
      refine kJi (wr := [(ys, .inl (cI, 1201, .inl sI))]) (va_runV (As := [.int (-1000001)]) (rest := []) ⟨hx, hb, hml, hown, hT⟩ (c_X11_finding l D cI h ys yk yt yf yb yz yn yc yp yw ye yx H.size m3 m9 m12 m13 m14 m15 m16 m17 m18 m19 m20 m22 m23 ff (-1000001) (by first | omega | (simp only [zl_m1000001] <;> omega) | decide | assumption | rfl) (by first | omega | (simp only [zl_m1000001] <;> omega) | decide | assumption | rfl)) (cwV 1 hT (gV_in mw_1243 mw_1240 mw_1242 mw_p3_8 mw_12) rfl rfl rfl (by decide +kernel) ⟨Nat.le_of_ble_eq_true rfl, Nat.le_of_ble_eq_true rfl⟩) (kRecv (own := "") (q0 := 0) (ci := 11) hK hP hD hN rfl rfl [0, 2] rfl (by decide)) rfl rfl hl.1 rfl (lv_room (Nat.le_of_ble_eq_true rfl)) dX11_force_17 ⟨Nat.le_of_ble_eq_true rfl, Nat.le_of_ble_eq_true rfl⟩) hP hD hS hA [0, 2] [1] rfl rfl (by decide) (by decide) (fun r_23 u_25 H locs w_24 hP hD hS => ?_)
      have hP : va_P D vwCl [(ys, .inl (cI, 1201, .inl sI))] H := hP
      have hD : va_D A [(ys, .inl (cI, 1201, .inl sI))] := hD
      have hr_23 := w_24
      obtain rfl : r_23 = (-1000001) := hr_23.trans (by decide)
      exact hRet () [] (by unfold sp_force; repeat (first | rw [if_pos (by omega)] | rw [if_neg (by omega)])) hP hD (by decide) rfl hS rfl dX11_force_20
  · have h_6 : a.toInt < 0 ∨ 2 < a.toInt := h_6
    obtain rfl : r_1 = 0 := hr_1.trans (by decide)
    refine b_if_eq hx hb zl_0 (tgt := 14) dX11_force_4 (by decide) (fun c_26 => ?_) (fun c_26 => by exfalso; omega)
    refine lv_aload_n hx hb dX11_force_14 rfl (lv_at hl 0 rfl) ?_
    refine lv_ldc (v := (-1000001)) hx hb hown (hT _ mw_1239) dX11_force_15 ?_
    refine kJi (wr := [(ys, .inl (cI, 1201, .inl sI))]) (va_runV (As := [.int (-1000001)]) (rest := []) ⟨hx, hb, hml, hown, hT⟩ (c_X11_finding l D cI h ys yk yt yf yb yz yn yc yp yw ye yx H.size m3 m9 m12 m13 m14 m15 m16 m17 m18 m19 m20 m22 m23 ff (-1000001) (by first | omega | (simp only [zl_m1000001] <;> omega) | decide | assumption | rfl) (by first | omega | (simp only [zl_m1000001] <;> omega) | decide | assumption | rfl)) (cwV 1 hT (gV_in mw_1243 mw_1240 mw_1242 mw_p3_8 mw_12) rfl rfl rfl (by decide +kernel) ⟨Nat.le_of_ble_eq_true rfl, Nat.le_of_ble_eq_true rfl⟩) (kRecv (own := "") (q0 := 0) (ci := 11) hK hP hD hN rfl rfl [0, 2] rfl (by decide)) rfl rfl hl.1 rfl (lv_room (Nat.le_of_ble_eq_true rfl)) dX11_force_17 ⟨Nat.le_of_ble_eq_true rfl, Nat.le_of_ble_eq_true rfl⟩) hP hD hS hA [0, 2] [1] rfl rfl (by decide) (by decide) (fun r_27 u_29 H locs w_28 hP hD hS => ?_)
    have hP : va_P D vwCl [(ys, .inl (cI, 1201, .inl sI))] H := hP
    have hD : va_D A [(ys, .inl (cI, 1201, .inl sI))] := hD
    have hr_27 := w_28
    obtain rfl : r_27 = (-1000001) := hr_27.trans (by decide)
    exact hRet () [] (by unfold sp_force; repeat (first | rw [if_pos (by omega)] | rw [if_neg (by omega)])) hP hD (by decide) rfl hS rfl dX11_force_20
set_option maxHeartbeats 4000000 in
set_option maxRecDepth 100000 in
theorem c_X11_price (l : Launch) (D : va_G) (cI : ClassId) (h ys yk yt yf yb yz yn yc yp yw ye yx : Nat) (sz : Nat) (m3 : Int32) (m9 : Int32) (m12 : Int32) (m13 : Int32) (m14 : Int32) (m15 : Int32) (m16 : Int32) (m17 : Int32) (m18 : Int32) (m19 : Int32) (m20 : Int32) (m22 : Int32) (m23 : Int32) (ff : Nat → Int32) (a : Int32) (b : Int32) (d : Int32) (g : Int32) : Met l yX11_price (gW yX11_price cX11_price 5 (some .int)) ({ frames := 2, cells := 0, slots := 0, locals := 51 } : Room) (kPre D cI [.ref h, .int a, .int b, .int d, .int g] [(h, .inr (11, [.ref ys, .ref yk, .ref yt, .int m3, .ref yf, .ref yb, .ref yz, .ref yn, .ref yc, .int m9, .ref yp, .ref yw, .int m12, .int m13, .int m14, .int m15, .int m16, .int m17, .int m18, .int m19, .int m20, .ref ye, .int m22, .int m23, .ref yx])), (ys, .inl (cI, 1201, .inl sI)), (yf, .inl (cI, 6, .inl ff))] sz) (va_Qi (fun (r : Int32) (u : Unit) => r = sp_price a b d g) (fun u t => kWd D cI (va_A [(h, .inr (11, [.ref ys, .ref yk, .ref yt, .int m3, .ref yf, .ref yb, .ref yz, .ref yn, .ref yc, .int m9, .ref yp, .ref yw, .int m12, .int m13, .int m14, .int m15, .int m16, .int m17, .int m18, .int m19, .int m20, .ref ye, .int m22, .int m23, .ref yx])), (ys, .inl (cI, 1201, .inl sI)), (yf, .inl (cI, 6, .inl ff))] sz) [] t) (va_A [(h, .inr (11, [.ref ys, .ref yk, .ref yt, .int m3, .ref yf, .ref yb, .ref yz, .ref yn, .ref yc, .int m9, .ref yp, .ref yw, .int m12, .int m13, .int m14, .int m15, .int m16, .int m17, .int m18, .int m19, .int m20, .ref ye, .int m22, .int m23, .ref yx])), (ys, .inl (cI, 1201, .inl sI)), (yf, .inl (cI, 6, .inl ff))] sz)) 0 0 (va_A [(h, .inr (11, [.ref ys, .ref yk, .ref yt, .int m3, .ref yf, .ref yb, .ref yz, .ref yn, .ref yc, .int m9, .ref yp, .ref yw, .int m12, .int m13, .int m14, .int m15, .int m16, .int m17, .int m18, .int m19, .int m20, .ref ye, .int m22, .int m23, .ref yx])), (ys, .inl (cI, 1201, .inl sI)), (yf, .inl (cI, 6, .inl ff))] sz) := by
  refine kMetI (own := RX11) (by decide) rfl (Nat.le_of_ble_eq_true rfl) ?_
  intro p e s m args below meth c hx hb hT hown hname hml A Q hK hP hD hS hA hN hRet ls hl
  have hl : lv_has ls 5 [(0, .ref h), (1, .int a), (2, .int b), (3, .int d), (4, .int g)] := hl
  have lo_a := k_lo a
  have hi_a := k_hi a
  have lo_b := k_lo b
  have hi_b := k_hi b
  have lo_d := k_lo d
  have hi_d := k_hi d
  have lo_g := k_lo g
  have hi_g := k_hi g
  have lo_m3 := k_lo m3
  have hi_m3 := k_hi m3
  have lo_m9 := k_lo m9
  have hi_m9 := k_hi m9
  have lo_m12 := k_lo m12
  have hi_m12 := k_hi m12
  have lo_m13 := k_lo m13
  have hi_m13 := k_hi m13
  have lo_m14 := k_lo m14
  have hi_m14 := k_hi m14
  have lo_m15 := k_lo m15
  have hi_m15 := k_hi m15
  have lo_m16 := k_lo m16
  have hi_m16 := k_hi m16
  have lo_m17 := k_lo m17
  have hi_m17 := k_hi m17
  have lo_m18 := k_lo m18
  have hi_m18 := k_hi m18
  have lo_m19 := k_lo m19
  have hi_m19 := k_hi m19
  have lo_m20 := k_lo m20
  have hi_m20 := k_hi m20
  have lo_m22 := k_lo m22
  have hi_m22 := k_hi m22
  have lo_m23 := k_lo m23
  have hi_m23 := k_hi m23
  refine lv_iload_n hx hb dX11_price_0 rfl (lv_at hl 1 rfl) ?_
  refine kJi (wr := [(h, .inr (11, [.ref ys, .ref yk, .ref yt, .int m3, .ref yf, .ref yb, .ref yz, .ref yn, .ref yc, .int m9, .ref yp, .ref yw, .int m12, .int m13, .int m14, .int m15, .int m16, .int m17, .int m18, .int m19, .int m20, .ref ye, .int m22, .int m23, .ref yx])), (ys, .inl (cI, 1201, .inl sI)), (yf, .inl (cI, 6, .inl ff))]) (va_runS (As := [.int a]) (rest := []) ⟨hx, hb, hml, hown, hT⟩ (c_X11_isUse l D cI s.heap.size a) (cwS 1 hT (gS_in mw_1476 mw_1474 mw_1475 mw_12) rfl rfl rfl (by decide +kernel) ⟨Nat.le_of_ble_eq_true rfl, Nat.le_of_ble_eq_true rfl⟩) (kStat hK hP hD hN [] rfl (by decide)) rfl rfl hl.1 rfl (lv_room (Nat.le_of_ble_eq_true rfl)) dX11_price_1 ⟨Nat.le_of_ble_eq_true rfl, Nat.le_of_ble_eq_true rfl⟩) hP hD hS hA [] [0, 1, 2] rfl rfl (by decide) (by decide) (fun r_1 u_3 H locs w_2 hP hD hS => ?_)
  have hP : va_P D vwCl [(h, .inr (11, [.ref ys, .ref yk, .ref yt, .int m3, .ref yf, .ref yb, .ref yz, .ref yn, .ref yc, .int m9, .ref yp, .ref yw, .int m12, .int m13, .int m14, .int m15, .int m16, .int m17, .int m18, .int m19, .int m20, .ref ye, .int m22, .int m23, .ref yx])), (ys, .inl (cI, 1201, .inl sI)), (yf, .inl (cI, 6, .inl ff))] H := hP
  have hD : va_D A [(h, .inr (11, [.ref ys, .ref yk, .ref yt, .int m3, .ref yf, .ref yb, .ref yz, .ref yn, .ref yc, .int m9, .ref yp, .ref yw, .int m12, .int m13, .int m14, .int m15, .int m16, .int m17, .int m18, .int m19, .int m20, .ref ye, .int m22, .int m23, .ref yx])), (ys, .inl (cI, 1201, .inl sI)), (yf, .inl (cI, 6, .inl ff))] := hD
  rcases w_2 with ⟨hr_1, h_4, h_5⟩ | ⟨hr_1, h_6⟩
  · have h_4 : 0 ≤ a.toInt := h_4
    have h_5 : a.toInt ≤ 2 := h_5
    obtain rfl : r_1 = 1 := hr_1.trans (by decide)
    refine b_if_eq hx hb zl_1 (tgt := 25) dX11_price_4 (by decide) (fun c_7 => by exfalso; omega) (fun c_7 => ?_)
    refine lv_aload_n hx hb dX11_price_7 rfl (lv_at hl 0 rfl) ?_
    refine lv_iload_n hx hb dX11_price_8 rfl (lv_at hl 1 rfl) ?_
    refine lv_aload_n hx hb dX11_price_9 rfl (lv_at hl 0 rfl) ?_
    refine va_get (D := D) (ci := 11) (v := .ref ys) (C := RX11) (T := TX11) (N := 25) hx hb hT giX11 hown hK hP 0 rfl rfl 0 (by decide) (hT (Cond.fieldLink RX11 9 "DesertWireModel" "s" "[I") mw_1156) (fun _ h9 => h9) rfl dX11_price_10 ?_
    refine lv_iconst (v := 0) hx hb dX11_price_13 (by decide) ?_
    refine k_iald (v := 0) hx hb hK hP 1 0 rfl rfl (k_inl (by decide)) (by decide +kernel) dX11_price_14 ?_
    refine lv_iload_n hx hb dX11_price_15 rfl (lv_at hl 2 rfl) ?_
    refine lv_iload_n hx hb dX11_price_16 rfl (lv_at hl 3 rfl) ?_
    refine lv_iload hx hb dX11_price_17 (lv_at hl 4 rfl) ?_
    refine kJi (wr := [(yf, .inl (cI, 6, .inl ff))]) (va_runV (As := [.int a, .int 0, .int b, .int d, .int g]) (rest := []) ⟨hx, hb, hml, hown, hT⟩ (c_X11_priceOf l D cI h ys yk yt yf yb yz yn yc yp yw ye yx H.size m3 m9 m12 m13 m14 m15 m16 m17 m18 m19 m20 m22 m23 sI a 0 b d g (by decide +kernel) (by first | omega | (simp only [zl_0] <;> omega) | decide | assumption | rfl) (by first | omega | (simp only [zl_0] <;> omega) | decide | assumption | rfl)) (cwV 5 hT (gV_in mw_1299 mw_1296 mw_1298 mw_p3_15 mw_12) rfl rfl rfl (by decide +kernel) ⟨Nat.le_of_ble_eq_true rfl, Nat.le_of_ble_eq_true rfl⟩) (kRecv (own := "") (q0 := 0) (ci := 11) hK hP hD hN rfl rfl [0, 1] rfl (by decide)) rfl rfl hl.1 rfl (lv_room (Nat.le_of_ble_eq_true rfl)) dX11_price_19 ⟨Nat.le_of_ble_eq_true rfl, Nat.le_of_ble_eq_true rfl⟩) hP hD hS hA [0, 1] [2] rfl rfl (by decide) (by decide) (fun r_8 u_10 H locs w_9 hP hD hS => ?_)
    have hP : va_P D vwCl [(yf, .inl (cI, 6, .inl ff)), (h, .inr (11, [.ref ys, .ref yk, .ref yt, .int m3, .ref yf, .ref yb, .ref yz, .ref yn, .ref yc, .int m9, .ref yp, .ref yw, .int m12, .int m13, .int m14, .int m15, .int m16, .int m17, .int m18, .int m19, .int m20, .ref ye, .int m22, .int m23, .ref yx])), (ys, .inl (cI, 1201, .inl sI))] H := hP
    have hD : va_D A [(yf, .inl (cI, 6, .inl ff)), (h, .inr (11, [.ref ys, .ref yk, .ref yt, .int m3, .ref yf, .ref yb, .ref yz, .ref yn, .ref yc, .int m9, .ref yp, .ref yw, .int m12, .int m13, .int m14, .int m15, .int m16, .int m17, .int m18, .int m19, .int m20, .ref ye, .int m22, .int m23, .ref yx])), (ys, .inl (cI, 1201, .inl sI))] := hD
    have hr_8 := w_9
    have hr_8 : r_8 = sp_val a b d g := hr_8
    have lo_r_8 := k_lo r_8
    have hi_r_8 := k_hi r_8
    refine lv_goto (tgt := 31) hx hb dX11_price_22 (by decide) ?_
    exact hRet () [] (by unfold sp_price; first | (rw [if_pos (by omega)]; first | exact hr_8 | rfl) | (rw [if_neg (by omega)])) hP hD (by decide) rfl hS rfl dX11_price_31
  · have h_6 : a.toInt < 0 ∨ 2 < a.toInt := h_6
    obtain rfl : r_1 = 0 := hr_1.trans (by decide)
    refine b_if_eq hx hb zl_0 (tgt := 25) dX11_price_4 (by decide) (fun c_11 => ?_) (fun c_11 => by exfalso; omega)
    refine lv_aload_n hx hb dX11_price_25 rfl (lv_at hl 0 rfl) ?_
    refine lv_ldc (v := (-1000001)) hx hb hown (hT _ mw_1239) dX11_price_26 ?_
    refine kJi (wr := [(ys, .inl (cI, 1201, .inl sI))]) (va_runV (As := [.int (-1000001)]) (rest := []) ⟨hx, hb, hml, hown, hT⟩ (c_X11_finding l D cI h ys yk yt yf yb yz yn yc yp yw ye yx H.size m3 m9 m12 m13 m14 m15 m16 m17 m18 m19 m20 m22 m23 ff (-1000001) (by first | omega | (simp only [zl_m1000001] <;> omega) | decide | assumption | rfl) (by first | omega | (simp only [zl_m1000001] <;> omega) | decide | assumption | rfl)) (cwV 1 hT (gV_in mw_1243 mw_1240 mw_1242 mw_p3_8 mw_12) rfl rfl rfl (by decide +kernel) ⟨Nat.le_of_ble_eq_true rfl, Nat.le_of_ble_eq_true rfl⟩) (kRecv (own := "") (q0 := 0) (ci := 11) hK hP hD hN rfl rfl [0, 2] rfl (by decide)) rfl rfl hl.1 rfl (lv_room (Nat.le_of_ble_eq_true rfl)) dX11_price_28 ⟨Nat.le_of_ble_eq_true rfl, Nat.le_of_ble_eq_true rfl⟩) hP hD hS hA [0, 2] [1] rfl rfl (by decide) (by decide) (fun r_12 u_14 H locs w_13 hP hD hS => ?_)
    have hP : va_P D vwCl [(ys, .inl (cI, 1201, .inl sI))] H := hP
    have hD : va_D A [(ys, .inl (cI, 1201, .inl sI))] := hD
    have hr_12 := w_13
    obtain rfl : r_12 = (-1000001) := hr_12.trans (by decide)
    exact hRet () [] (by unfold sp_price; first | (rw [if_pos (by omega)]; first | exact h | rfl) | (rw [if_neg (by omega)])) hP hD (by decide) rfl hS rfl dX11_price_31
set_option maxHeartbeats 4000000 in
set_option maxRecDepth 100000 in
theorem c_X11_owed (l : Launch) (D : va_G) (cI : ClassId) (h ys yk yt yf yb yz yn yc yp yw ye yx : Nat) (sz : Nat) (m3 : Int32) (m9 : Int32) (m12 : Int32) (m13 : Int32) (m14 : Int32) (m15 : Int32) (m16 : Int32) (m17 : Int32) (m18 : Int32) (m19 : Int32) (m20 : Int32) (m22 : Int32) (m23 : Int32) (ff : Nat → Int32) (a : Int32) : Met l yX11_owed (gW yX11_owed cX11_owed 2 (some .int)) ({ frames := 2, cells := 0, slots := 0, locals := 42 } : Room) (kPre D cI [.ref h, .int a] [(h, .inr (11, [.ref ys, .ref yk, .ref yt, .int m3, .ref yf, .ref yb, .ref yz, .ref yn, .ref yc, .int m9, .ref yp, .ref yw, .int m12, .int m13, .int m14, .int m15, .int m16, .int m17, .int m18, .int m19, .int m20, .ref ye, .int m22, .int m23, .ref yx])), (ys, .inl (cI, 1201, .inl sI)), (yf, .inl (cI, 6, .inl ff))] sz) (va_Qi (fun (r : Int32) (u : Unit) => r = sp_owed a) (fun u t => kWd D cI (va_A [(h, .inr (11, [.ref ys, .ref yk, .ref yt, .int m3, .ref yf, .ref yb, .ref yz, .ref yn, .ref yc, .int m9, .ref yp, .ref yw, .int m12, .int m13, .int m14, .int m15, .int m16, .int m17, .int m18, .int m19, .int m20, .ref ye, .int m22, .int m23, .ref yx])), (ys, .inl (cI, 1201, .inl sI)), (yf, .inl (cI, 6, .inl ff))] sz) [] t) (va_A [(h, .inr (11, [.ref ys, .ref yk, .ref yt, .int m3, .ref yf, .ref yb, .ref yz, .ref yn, .ref yc, .int m9, .ref yp, .ref yw, .int m12, .int m13, .int m14, .int m15, .int m16, .int m17, .int m18, .int m19, .int m20, .ref ye, .int m22, .int m23, .ref yx])), (ys, .inl (cI, 1201, .inl sI)), (yf, .inl (cI, 6, .inl ff))] sz)) 0 0 (va_A [(h, .inr (11, [.ref ys, .ref yk, .ref yt, .int m3, .ref yf, .ref yb, .ref yz, .ref yn, .ref yc, .int m9, .ref yp, .ref yw, .int m12, .int m13, .int m14, .int m15, .int m16, .int m17, .int m18, .int m19, .int m20, .ref ye, .int m22, .int m23, .ref yx])), (ys, .inl (cI, 1201, .inl sI)), (yf, .inl (cI, 6, .inl ff))] sz) := by
  refine kMetI (own := RX11) (by decide) rfl (Nat.le_of_ble_eq_true rfl) ?_
  intro p e s m args below meth c hx hb hT hown hname hml A Q hK hP hD hS hA hN hRet ls hl
  have hl : lv_has ls 2 [(0, .ref h), (1, .int a)] := hl
  have lo_a := k_lo a
  have hi_a := k_hi a
  have lo_m3 := k_lo m3
  have hi_m3 := k_hi m3
  have lo_m9 := k_lo m9
  have hi_m9 := k_hi m9
  have lo_m12 := k_lo m12
  have hi_m12 := k_hi m12
  have lo_m13 := k_lo m13
  have hi_m13 := k_hi m13
  have lo_m14 := k_lo m14
  have hi_m14 := k_hi m14
  have lo_m15 := k_lo m15
  have hi_m15 := k_hi m15
  have lo_m16 := k_lo m16
  have hi_m16 := k_hi m16
  have lo_m17 := k_lo m17
  have hi_m17 := k_hi m17
  have lo_m18 := k_lo m18
  have hi_m18 := k_hi m18
  have lo_m19 := k_lo m19
  have hi_m19 := k_hi m19
  have lo_m20 := k_lo m20
  have hi_m20 := k_hi m20
  have lo_m22 := k_lo m22
  have hi_m22 := k_hi m22
  have lo_m23 := k_lo m23
  have hi_m23 := k_hi m23
  refine lv_iload_n hx hb dX11_owed_0 rfl (lv_at hl 1 rfl) ?_
  refine kJi (wr := [(h, .inr (11, [.ref ys, .ref yk, .ref yt, .int m3, .ref yf, .ref yb, .ref yz, .ref yn, .ref yc, .int m9, .ref yp, .ref yw, .int m12, .int m13, .int m14, .int m15, .int m16, .int m17, .int m18, .int m19, .int m20, .ref ye, .int m22, .int m23, .ref yx])), (ys, .inl (cI, 1201, .inl sI)), (yf, .inl (cI, 6, .inl ff))]) (va_runS (As := [.int a]) (rest := []) ⟨hx, hb, hml, hown, hT⟩ (c_X11_isDay l D cI s.heap.size a) (cwS 1 hT (gS_in mw_1479 mw_1477 mw_1478 mw_12) rfl rfl rfl (by decide +kernel) ⟨Nat.le_of_ble_eq_true rfl, Nat.le_of_ble_eq_true rfl⟩) (kStat hK hP hD hN [] rfl (by decide)) rfl rfl hl.1 rfl (lv_room (Nat.le_of_ble_eq_true rfl)) dX11_owed_1 ⟨Nat.le_of_ble_eq_true rfl, Nat.le_of_ble_eq_true rfl⟩) hP hD hS hA [] [0, 1, 2] rfl rfl (by decide) (by decide) (fun r_1 u_3 H locs w_2 hP hD hS => ?_)
  have hP : va_P D vwCl [(h, .inr (11, [.ref ys, .ref yk, .ref yt, .int m3, .ref yf, .ref yb, .ref yz, .ref yn, .ref yc, .int m9, .ref yp, .ref yw, .int m12, .int m13, .int m14, .int m15, .int m16, .int m17, .int m18, .int m19, .int m20, .ref ye, .int m22, .int m23, .ref yx])), (ys, .inl (cI, 1201, .inl sI)), (yf, .inl (cI, 6, .inl ff))] H := hP
  have hD : va_D A [(h, .inr (11, [.ref ys, .ref yk, .ref yt, .int m3, .ref yf, .ref yb, .ref yz, .ref yn, .ref yc, .int m9, .ref yp, .ref yw, .int m12, .int m13, .int m14, .int m15, .int m16, .int m17, .int m18, .int m19, .int m20, .ref ye, .int m22, .int m23, .ref yx])), (ys, .inl (cI, 1201, .inl sI)), (yf, .inl (cI, 6, .inl ff))] := hD
  rcases w_2 with ⟨hr_1, h_4, h_5⟩ | ⟨hr_1, h_6⟩
  · have h_4 : 0 ≤ a.toInt := h_4
    have h_5 : a.toInt ≤ 2000 := h_5
    obtain rfl : r_1 = 1 := hr_1.trans (by decide)
    refine b_if_ne hx hb zl_1 (tgt := 14) dX11_owed_4 (by decide) (fun c_7 => ?_) (fun c_7 => by exfalso; omega)
    refine lv_aload_n hx hb dX11_owed_14 rfl (lv_at hl 0 rfl) ?_
    refine va_get (D := D) (ci := 11) (v := .ref ys) (C := RX11) (T := TX11) (N := 25) hx hb hT giX11 hown hK hP 0 rfl rfl 0 (by decide) (hT (Cond.fieldLink RX11 9 "DesertWireModel" "s" "[I") mw_1156) (fun _ h9 => h9) rfl dX11_owed_15 ?_
    refine lv_iconst (v := 0) hx hb dX11_owed_18 (by decide) ?_
    refine k_iald (v := 0) hx hb hK hP 1 0 rfl rfl (k_inl (by decide)) (by decide +kernel) dX11_owed_19 ?_
    refine lv_iload_n hx hb dX11_owed_20 rfl (lv_at hl 1 rfl) ?_
    refine b_icmp_le hx hb zl_0 rfl (tgt := 53) dX11_owed_21 (by decide) (fun c_8 => ?_) (fun c_8 => by exfalso; omega)
    refine lv_iconst (v := 0) hx hb dX11_owed_53 (by decide) ?_
    exact hRet () [] (by unfold sp_owed; repeat (first | rw [if_pos (by omega)] | rw [if_neg (by omega)])) hP hD (by decide) rfl hS rfl dX11_owed_54
  · have h_6 : a.toInt < 0 ∨ 2000 < a.toInt := h_6
    obtain rfl : r_1 = 0 := hr_1.trans (by decide)
    refine b_if_ne hx hb zl_0 (tgt := 14) dX11_owed_4 (by decide) (fun c_9 => by exfalso; omega) (fun c_9 => ?_)
    refine lv_aload_n hx hb dX11_owed_7 rfl (lv_at hl 0 rfl) ?_
    refine lv_ldc (v := (-1000001)) hx hb hown (hT _ mw_1239) dX11_owed_8 ?_
    refine kJi (wr := [(ys, .inl (cI, 1201, .inl sI))]) (va_runV (As := [.int (-1000001)]) (rest := []) ⟨hx, hb, hml, hown, hT⟩ (c_X11_finding l D cI h ys yk yt yf yb yz yn yc yp yw ye yx H.size m3 m9 m12 m13 m14 m15 m16 m17 m18 m19 m20 m22 m23 ff (-1000001) (by first | omega | (simp only [zl_m1000001] <;> omega) | decide | assumption | rfl) (by first | omega | (simp only [zl_m1000001] <;> omega) | decide | assumption | rfl)) (cwV 1 hT (gV_in mw_1243 mw_1240 mw_1242 mw_p3_8 mw_12) rfl rfl rfl (by decide +kernel) ⟨Nat.le_of_ble_eq_true rfl, Nat.le_of_ble_eq_true rfl⟩) (kRecv (own := "") (q0 := 0) (ci := 11) hK hP hD hN rfl rfl [0, 2] rfl (by decide)) rfl rfl hl.1 rfl (lv_room (Nat.le_of_ble_eq_true rfl)) dX11_owed_10 ⟨Nat.le_of_ble_eq_true rfl, Nat.le_of_ble_eq_true rfl⟩) hP hD hS hA [0, 2] [1] rfl rfl (by decide) (by decide) (fun r_10 u_12 H locs w_11 hP hD hS => ?_)
    have hP : va_P D vwCl [(ys, .inl (cI, 1201, .inl sI))] H := hP
    have hD : va_D A [(ys, .inl (cI, 1201, .inl sI))] := hD
    have hr_10 := w_11
    obtain rfl : r_10 = (-1000001) := hr_10.trans (by decide)
    exact hRet () [] (by unfold sp_owed; repeat (first | rw [if_pos (by omega)] | rw [if_neg (by omega)])) hP hD (by decide) rfl hS rfl dX11_owed_13
set_option maxHeartbeats 4000000 in
set_option maxRecDepth 100000 in
theorem c_X11_trace (l : Launch) (D : va_G) (cI : ClassId) (h ys yk yt yf yb yz yn yc yp yw ye yx : Nat) (sz : Nat) (m3 : Int32) (m12 : Int32) (m13 : Int32) (m14 : Int32) (m15 : Int32) (m16 : Int32) (m17 : Int32) (m18 : Int32) (m19 : Int32) (m20 : Int32) (m22 : Int32) (m23 : Int32) (f0 : Nat → Int32) (ff : Nat → Int32) (a : Int32) : Met l yX11_trace (gW yX11_trace cX11_trace 2 (some .int)) ({ frames := 1, cells := 0, slots := 0, locals := 22 } : Room) (kPre D cI [.ref h, .int a] [(h, .inr (11, [.ref ys, .ref yk, .ref yt, .int m3, .ref yf, .ref yb, .ref yz, .ref yn, .ref yc, .int 0, .ref yp, .ref yw, .int m12, .int m13, .int m14, .int m15, .int m16, .int m17, .int m18, .int m19, .int m20, .ref ye, .int m22, .int m23, .ref yx])), (yc, .inl (cI, 40, .inl f0)), (yf, .inl (cI, 6, .inl ff))] sz) (va_Qi (fun (r : Int32) (u : Unit) => r = (-1000002)) (fun u t => kWd D cI (va_A [(h, .inr (11, [.ref ys, .ref yk, .ref yt, .int m3, .ref yf, .ref yb, .ref yz, .ref yn, .ref yc, .int 0, .ref yp, .ref yw, .int m12, .int m13, .int m14, .int m15, .int m16, .int m17, .int m18, .int m19, .int m20, .ref ye, .int m22, .int m23, .ref yx])), (yc, .inl (cI, 40, .inl f0)), (yf, .inl (cI, 6, .inl ff))] sz) [] t) (va_A [(h, .inr (11, [.ref ys, .ref yk, .ref yt, .int m3, .ref yf, .ref yb, .ref yz, .ref yn, .ref yc, .int 0, .ref yp, .ref yw, .int m12, .int m13, .int m14, .int m15, .int m16, .int m17, .int m18, .int m19, .int m20, .ref ye, .int m22, .int m23, .ref yx])), (yc, .inl (cI, 40, .inl f0)), (yf, .inl (cI, 6, .inl ff))] sz)) 0 0 (va_A [(h, .inr (11, [.ref ys, .ref yk, .ref yt, .int m3, .ref yf, .ref yb, .ref yz, .ref yn, .ref yc, .int 0, .ref yp, .ref yw, .int m12, .int m13, .int m14, .int m15, .int m16, .int m17, .int m18, .int m19, .int m20, .ref ye, .int m22, .int m23, .ref yx])), (yc, .inl (cI, 40, .inl f0)), (yf, .inl (cI, 6, .inl ff))] sz) := by
  refine kMetI (own := RX11) (by decide) rfl (Nat.le_of_ble_eq_true rfl) ?_
  intro p e s m args below meth c hx hb hT hown hname hml A Q hK hP hD hS hA hN hRet ls hl
  have hl : lv_has ls 2 [(0, .ref h), (1, .int a)] := hl
  have lo_a := k_lo a
  have hi_a := k_hi a
  have lo_m3 := k_lo m3
  have hi_m3 := k_hi m3
  have lo_m12 := k_lo m12
  have hi_m12 := k_hi m12
  have lo_m13 := k_lo m13
  have hi_m13 := k_hi m13
  have lo_m14 := k_lo m14
  have hi_m14 := k_hi m14
  have lo_m15 := k_lo m15
  have hi_m15 := k_hi m15
  have lo_m16 := k_lo m16
  have hi_m16 := k_hi m16
  have lo_m17 := k_lo m17
  have hi_m17 := k_hi m17
  have lo_m18 := k_lo m18
  have hi_m18 := k_hi m18
  have lo_m19 := k_lo m19
  have hi_m19 := k_hi m19
  have lo_m20 := k_lo m20
  have hi_m20 := k_hi m20
  have lo_m22 := k_lo m22
  have hi_m22 := k_hi m22
  have lo_m23 := k_lo m23
  have hi_m23 := k_hi m23
  refine lv_iload_n hx hb dX11_trace_0 rfl (lv_at hl 1 rfl) ?_
  refine lv_iconst (v := 0) hx hb dX11_trace_1 (by decide) ?_
  refine lv_aload_n hx hb dX11_trace_2 rfl (lv_at hl 0 rfl) ?_
  refine va_get (D := D) (ci := 11) (v := .int 0) (C := RX11) (T := TX11) (N := 25) hx hb hT giX11 hown hK hP 0 rfl rfl 9 (by decide) (hT (Cond.fieldLink RX11 267 "DesertWireModel" "traces" "I") mw_1165) (fun _ h9 => h9) rfl dX11_trace_3 ?_
  refine lv_iconst (v := 1) hx hb dX11_trace_6 (by decide) ?_
  refine k_isub (v := (-1)) hx hb dX11_trace_7 (by decide) ?_
  refine kJi (wr := [(h, .inr (11, [.ref ys, .ref yk, .ref yt, .int m3, .ref yf, .ref yb, .ref yz, .ref yn, .ref yc, .int 0, .ref yp, .ref yw, .int m12, .int m13, .int m14, .int m15, .int m16, .int m17, .int m18, .int m19, .int m20, .ref ye, .int m22, .int m23, .ref yx])), (yc, .inl (cI, 40, .inl f0)), (yf, .inl (cI, 6, .inl ff))]) (va_runS (As := [.int a, .int 0, .int (-1)]) (rest := []) ⟨hx, hb, hml, hown, hT⟩ (c_X11_in l D cI s.heap.size a 0 (-1)) (cwS 3 hT (gS_in mw_1238 mw_1236 mw_1237 mw_12) rfl rfl rfl (by decide +kernel) ⟨Nat.le_of_ble_eq_true rfl, Nat.le_of_ble_eq_true rfl⟩) (kStat hK hP hD hN [] rfl (by decide)) rfl rfl hl.1 rfl (lv_room (Nat.le_of_ble_eq_true rfl)) dX11_trace_8 ⟨Nat.le_of_ble_eq_true rfl, Nat.le_of_ble_eq_true rfl⟩) hP hD hS hA [] [0, 1, 2] rfl rfl (by decide) (by decide) (fun r_1 u_3 H locs w_2 hP hD hS => ?_)
  have hP : va_P D vwCl [(h, .inr (11, [.ref ys, .ref yk, .ref yt, .int m3, .ref yf, .ref yb, .ref yz, .ref yn, .ref yc, .int 0, .ref yp, .ref yw, .int m12, .int m13, .int m14, .int m15, .int m16, .int m17, .int m18, .int m19, .int m20, .ref ye, .int m22, .int m23, .ref yx])), (yc, .inl (cI, 40, .inl f0)), (yf, .inl (cI, 6, .inl ff))] H := hP
  have hD : va_D A [(h, .inr (11, [.ref ys, .ref yk, .ref yt, .int m3, .ref yf, .ref yb, .ref yz, .ref yn, .ref yc, .int 0, .ref yp, .ref yw, .int m12, .int m13, .int m14, .int m15, .int m16, .int m17, .int m18, .int m19, .int m20, .ref ye, .int m22, .int m23, .ref yx])), (yc, .inl (cI, 40, .inl f0)), (yf, .inl (cI, 6, .inl ff))] := hD
  rcases w_2 with ⟨hr_1, h_4, h_5⟩ | ⟨hr_1, h_6⟩
  · (try simp only [zl_m1, zl_0] at h_4 h_5); exfalso; omega
  · try simp only [zl_m1, zl_0] at h_6
    have h_6 : a.toInt < 0 ∨ (-1) < a.toInt := h_6
    obtain rfl : r_1 = 0 := hr_1.trans (by decide)
    refine b_if_eq hx hb zl_0 (tgt := 23) dX11_trace_11 (by decide) (fun c_7 => ?_) (fun c_7 => by exfalso; omega)
    refine lv_aload_n hx hb dX11_trace_23 rfl (lv_at hl 0 rfl) ?_
    refine lv_ldc (v := (-1000002)) hx hb hown (hT _ mw_1392) dX11_trace_24 ?_
    refine kJi (wr := [(yc, .inl (cI, 40, .inl f0))]) (va_runV (As := [.int (-1000002)]) (rest := []) ⟨hx, hb, hml, hown, hT⟩ (c_X11_finding l D cI h ys yk yt yf yb yz yn yc yp yw ye yx H.size m3 0 m12 m13 m14 m15 m16 m17 m18 m19 m20 m22 m23 ff (-1000002) (by first | omega | (simp only [zl_m1000002, zl_0] <;> omega) | decide | assumption | rfl) (by first | omega | (simp only [zl_m1000002, zl_0] <;> omega) | decide | assumption | rfl)) (cwV 1 hT (gV_in mw_1243 mw_1240 mw_1242 mw_p3_8 mw_12) rfl rfl rfl (by decide +kernel) ⟨Nat.le_of_ble_eq_true rfl, Nat.le_of_ble_eq_true rfl⟩) (kRecv (own := "") (q0 := 0) (ci := 11) hK hP hD hN rfl rfl [0, 2] rfl (by decide)) rfl rfl hl.1 rfl (lv_room (Nat.le_of_ble_eq_true rfl)) dX11_trace_26 ⟨Nat.le_of_ble_eq_true rfl, Nat.le_of_ble_eq_true rfl⟩) hP hD hS hA [0, 2] [1] rfl rfl (by decide) (by decide) (fun r_8 u_10 H locs w_9 hP hD hS => ?_)
    have hP : va_P D vwCl [(yc, .inl (cI, 40, .inl f0))] H := hP
    have hD : va_D A [(yc, .inl (cI, 40, .inl f0))] := hD
    have hr_8 := w_9
    obtain rfl : r_8 = (-1000002) := hr_8.trans (by decide)
    exact hRet () [] rfl hP hD (by decide) rfl hS rfl dX11_trace_29
set_option maxHeartbeats 4000000 in
set_option maxRecDepth 100000 in
theorem c_X11_sheet (l : Launch) (D : va_G) (cI : ClassId) (h ys yk yt yf yb yz yn yc yp yw ye yx : Nat) (sz : Nat) (m3 : Int32) (m9 : Int32) (m12 : Int32) (m13 : Int32) (m14 : Int32) (m15 : Int32) (m16 : Int32) (m17 : Int32) (m18 : Int32) (m19 : Int32) (m20 : Int32) (m22 : Int32) (m23 : Int32) (f0 : Nat → Int32) (f1 : Nat → Int32) (f2 : Nat → Int32) (ff : Nat → Int32) (a : Int32) (b : Int32) (d : Int32) : Met l yX11_sheet (gW yX11_sheet cX11_sheet 5 (some .int)) ({ frames := 2, cells := 0, slots := 0, locals := 42 } : Room) (kPre D cI [.ref h, .int a, .int b, .int d] [(h, .inr (11, [.ref ys, .ref yk, .ref yt, .int m3, .ref yf, .ref yb, .ref yz, .ref yn, .ref yc, .int m9, .ref yp, .ref yw, .int m12, .int m13, .int m14, .int m15, .int m16, .int m17, .int m18, .int m19, .int m20, .ref ye, .int m22, .int m23, .ref yx])), (yb, .inl (cI, 4, .inl f0)), (yz, .inl (cI, 4, .inl f1)), (yn, .inl (cI, 144, .inl f2)), (yf, .inl (cI, 6, .inl ff))] sz) (va_Qi (fun (r : Int32) (u : Unit) => r = sp_sheet a b d) (fun u t => kWd D cI (va_A [(h, .inr (11, [.ref ys, .ref yk, .ref yt, .int m3, .ref yf, .ref yb, .ref yz, .ref yn, .ref yc, .int m9, .ref yp, .ref yw, .int m12, .int m13, .int m14, .int m15, .int m16, .int m17, .int m18, .int m19, .int m20, .ref ye, .int m22, .int m23, .ref yx])), (yb, .inl (cI, 4, .inl f0)), (yz, .inl (cI, 4, .inl f1)), (yn, .inl (cI, 144, .inl f2)), (yf, .inl (cI, 6, .inl ff))] sz) [] t) (va_A [(h, .inr (11, [.ref ys, .ref yk, .ref yt, .int m3, .ref yf, .ref yb, .ref yz, .ref yn, .ref yc, .int m9, .ref yp, .ref yw, .int m12, .int m13, .int m14, .int m15, .int m16, .int m17, .int m18, .int m19, .int m20, .ref ye, .int m22, .int m23, .ref yx])), (yb, .inl (cI, 4, .inl f0)), (yz, .inl (cI, 4, .inl f1)), (yn, .inl (cI, 144, .inl f2)), (yf, .inl (cI, 6, .inl ff))] sz)) 0 0 (va_A [(h, .inr (11, [.ref ys, .ref yk, .ref yt, .int m3, .ref yf, .ref yb, .ref yz, .ref yn, .ref yc, .int m9, .ref yp, .ref yw, .int m12, .int m13, .int m14, .int m15, .int m16, .int m17, .int m18, .int m19, .int m20, .ref ye, .int m22, .int m23, .ref yx])), (yb, .inl (cI, 4, .inl f0)), (yz, .inl (cI, 4, .inl f1)), (yn, .inl (cI, 144, .inl f2)), (yf, .inl (cI, 6, .inl ff))] sz) := by
  refine kMetI (own := RX11) (by decide) rfl (Nat.le_of_ble_eq_true rfl) ?_
  intro p e s m args below meth c hx hb hT hown hname hml A Q hK hP hD hS hA hN hRet ls hl
  have hl : lv_has ls 5 [(0, .ref h), (1, .int a), (2, .int b), (3, .int d)] := hl
  have lo_a := k_lo a
  have hi_a := k_hi a
  have lo_b := k_lo b
  have hi_b := k_hi b
  have lo_d := k_lo d
  have hi_d := k_hi d
  have lo_m3 := k_lo m3
  have hi_m3 := k_hi m3
  have lo_m9 := k_lo m9
  have hi_m9 := k_hi m9
  have lo_m12 := k_lo m12
  have hi_m12 := k_hi m12
  have lo_m13 := k_lo m13
  have hi_m13 := k_hi m13
  have lo_m14 := k_lo m14
  have hi_m14 := k_hi m14
  have lo_m15 := k_lo m15
  have hi_m15 := k_hi m15
  have lo_m16 := k_lo m16
  have hi_m16 := k_hi m16
  have lo_m17 := k_lo m17
  have hi_m17 := k_hi m17
  have lo_m18 := k_lo m18
  have hi_m18 := k_hi m18
  have lo_m19 := k_lo m19
  have hi_m19 := k_hi m19
  have lo_m20 := k_lo m20
  have hi_m20 := k_hi m20
  have lo_m22 := k_lo m22
  have hi_m22 := k_hi m22
  have lo_m23 := k_lo m23
  have hi_m23 := k_hi m23
  refine lv_iload_n hx hb dX11_sheet_0 rfl (lv_at hl 1 rfl) ?_
  refine kJi (wr := [(h, .inr (11, [.ref ys, .ref yk, .ref yt, .int m3, .ref yf, .ref yb, .ref yz, .ref yn, .ref yc, .int m9, .ref yp, .ref yw, .int m12, .int m13, .int m14, .int m15, .int m16, .int m17, .int m18, .int m19, .int m20, .ref ye, .int m22, .int m23, .ref yx])), (yb, .inl (cI, 4, .inl f0)), (yz, .inl (cI, 4, .inl f1)), (yn, .inl (cI, 144, .inl f2)), (yf, .inl (cI, 6, .inl ff))]) (va_runS (As := [.int a]) (rest := []) ⟨hx, hb, hml, hown, hT⟩ (c_X11_isSheet l D cI s.heap.size a) (cwS 1 hT (gS_in mw_1391 mw_1389 mw_1390 mw_12) rfl rfl rfl (by decide +kernel) ⟨Nat.le_of_ble_eq_true rfl, Nat.le_of_ble_eq_true rfl⟩) (kStat hK hP hD hN [] rfl (by decide)) rfl rfl hl.1 rfl (lv_room (Nat.le_of_ble_eq_true rfl)) dX11_sheet_1 ⟨Nat.le_of_ble_eq_true rfl, Nat.le_of_ble_eq_true rfl⟩) hP hD hS hA [] [0, 1, 2, 3, 4] rfl rfl (by decide) (by decide) (fun r_1 u_3 H locs w_2 hP hD hS => ?_)
  have hP : va_P D vwCl [(h, .inr (11, [.ref ys, .ref yk, .ref yt, .int m3, .ref yf, .ref yb, .ref yz, .ref yn, .ref yc, .int m9, .ref yp, .ref yw, .int m12, .int m13, .int m14, .int m15, .int m16, .int m17, .int m18, .int m19, .int m20, .ref ye, .int m22, .int m23, .ref yx])), (yb, .inl (cI, 4, .inl f0)), (yz, .inl (cI, 4, .inl f1)), (yn, .inl (cI, 144, .inl f2)), (yf, .inl (cI, 6, .inl ff))] H := hP
  have hD : va_D A [(h, .inr (11, [.ref ys, .ref yk, .ref yt, .int m3, .ref yf, .ref yb, .ref yz, .ref yn, .ref yc, .int m9, .ref yp, .ref yw, .int m12, .int m13, .int m14, .int m15, .int m16, .int m17, .int m18, .int m19, .int m20, .ref ye, .int m22, .int m23, .ref yx])), (yb, .inl (cI, 4, .inl f0)), (yz, .inl (cI, 4, .inl f1)), (yn, .inl (cI, 144, .inl f2)), (yf, .inl (cI, 6, .inl ff))] := hD
  rcases w_2 with ⟨hr_1, h_4, h_5⟩ | ⟨hr_1, h_6⟩
  · have h_4 : 0 ≤ a.toInt := h_4
    have h_5 : a.toInt ≤ 3 := h_5
    obtain rfl : r_1 = 1 := hr_1.trans (by decide)
    refine b_if_eq hx hb zl_1 (tgt := 29) dX11_sheet_4 (by decide) (fun c_7 => by exfalso; omega) (fun c_7 => ?_)
    refine lv_iload_n hx hb dX11_sheet_7 rfl (lv_at hl 2 rfl) ?_
    refine b_if_eq hx hb rfl (tgt := 36) dX11_sheet_8 (by decide) (fun c_8 => ?_) (fun c_8 => ?_)
    · refine lv_iload_n hx hb dX11_sheet_36 rfl (lv_at hl 2 rfl) ?_
      refine b_if_eq hx hb rfl (tgt := 51) dX11_sheet_37 (by decide) (fun c_9 => ?_) (fun c_9 => by exfalso; omega)
      refine lv_iload_n hx hb dX11_sheet_51 rfl (lv_at hl 2 rfl) ?_
      refine b_if_eq hx hb rfl (tgt := 68) dX11_sheet_52 (by decide) (fun c_10 => ?_) (fun c_10 => by exfalso; omega)
      refine lv_aload_n hx hb dX11_sheet_68 rfl (lv_at hl 0 rfl) ?_
      refine va_get (D := D) (ci := 11) (v := .ref yb) (C := RX11) (T := TX11) (N := 25) hx hb hT giX11 hown hK hP 0 rfl rfl 5 (by decide) (hT (Cond.fieldLink RX11 22 "DesertWireModel" "bits" "[I") mw_1161) (fun _ h9 => h9) rfl dX11_sheet_69 ?_
      refine lv_iload_n hx hb dX11_sheet_72 rfl (lv_at hl 1 rfl) ?_
      refine lv_iload_n hx hb dX11_sheet_73 rfl (lv_at hl 2 rfl) ?_
      refine va_iast hx hb hK hP hD hS 1 0 rfl rfl (k_in (by omega) (by omega)) dX11_sheet_74 (fun H locs hP hD hS => ?_)
      have hP : va_P D vwCl [(h, .inr (11, [.ref ys, .ref yk, .ref yt, .int m3, .ref yf, .ref yb, .ref yz, .ref yn, .ref yc, .int m9, .ref yp, .ref yw, .int m12, .int m13, .int m14, .int m15, .int m16, .int m17, .int m18, .int m19, .int m20, .ref ye, .int m22, .int m23, .ref yx])), (yb, .inl (cI, 4, .inl (upd f0 a.toNatClampNeg b))), (yz, .inl (cI, 4, .inl f1)), (yn, .inl (cI, 144, .inl f2)), (yf, .inl (cI, 6, .inl ff))] H := hP
      have hD : va_D A [(h, .inr (11, [.ref ys, .ref yk, .ref yt, .int m3, .ref yf, .ref yb, .ref yz, .ref yn, .ref yc, .int m9, .ref yp, .ref yw, .int m12, .int m13, .int m14, .int m15, .int m16, .int m17, .int m18, .int m19, .int m20, .ref ye, .int m22, .int m23, .ref yx])), (yb, .inl (cI, 4, .inl (upd f0 a.toNatClampNeg b))), (yz, .inl (cI, 4, .inl f1)), (yn, .inl (cI, 144, .inl f2)), (yf, .inl (cI, 6, .inl ff))] := hD
      obtain ⟨f_11, ef_11⟩ : ∃ g : Nat → Int32, g = upd f0 a.toNatClampNeg b := ⟨_, rfl⟩
      rw [← ef_11] at hP hD
      refine lv_aload_n hx hb dX11_sheet_75 rfl (lv_at hl 0 rfl) ?_
      refine va_get (D := D) (ci := 11) (v := .ref yz) (C := RX11) (T := TX11) (N := 25) hx hb hT giX11 hown hK hP 0 rfl rfl 6 (by decide) (hT (Cond.fieldLink RX11 25 "DesertWireModel" "size" "[I") mw_1162) (fun _ h9 => h9) rfl dX11_sheet_76 ?_
      refine lv_iload_n hx hb dX11_sheet_79 rfl (lv_at hl 1 rfl) ?_
      refine lv_iload_n hx hb dX11_sheet_80 rfl (lv_at hl 2 rfl) ?_
      refine b_if_ne hx hb rfl (tgt := 88) dX11_sheet_81 (by decide) (fun c_12 => by exfalso; omega) (fun c_12 => ?_)
      refine lv_iconst (v := 0) hx hb dX11_sheet_84 (by decide) ?_
      refine lv_goto (tgt := 89) hx hb dX11_sheet_85 (by decide) ?_
      refine va_iast hx hb hK hP hD hS 2 0 rfl rfl (k_in (by omega) (by omega)) dX11_sheet_89 (fun H locs hP hD hS => ?_)
      have hP : va_P D vwCl [(h, .inr (11, [.ref ys, .ref yk, .ref yt, .int m3, .ref yf, .ref yb, .ref yz, .ref yn, .ref yc, .int m9, .ref yp, .ref yw, .int m12, .int m13, .int m14, .int m15, .int m16, .int m17, .int m18, .int m19, .int m20, .ref ye, .int m22, .int m23, .ref yx])), (yb, .inl (cI, 4, .inl f_11)), (yz, .inl (cI, 4, .inl (upd f1 a.toNatClampNeg 0))), (yn, .inl (cI, 144, .inl f2)), (yf, .inl (cI, 6, .inl ff))] H := hP
      have hD : va_D A [(h, .inr (11, [.ref ys, .ref yk, .ref yt, .int m3, .ref yf, .ref yb, .ref yz, .ref yn, .ref yc, .int m9, .ref yp, .ref yw, .int m12, .int m13, .int m14, .int m15, .int m16, .int m17, .int m18, .int m19, .int m20, .ref ye, .int m22, .int m23, .ref yx])), (yb, .inl (cI, 4, .inl f_11)), (yz, .inl (cI, 4, .inl (upd f1 a.toNatClampNeg 0))), (yn, .inl (cI, 144, .inl f2)), (yf, .inl (cI, 6, .inl ff))] := hD
      obtain ⟨f_13, ef_13⟩ : ∃ g : Nat → Int32, g = upd f1 a.toNatClampNeg 0 := ⟨_, rfl⟩
      rw [← ef_13] at hP hD
      refine lv_iconst (v := 0) hx hb dX11_sheet_90 (by decide) ?_
      refine lv_istore (lv' := [(4, .int 0), (0, .ref h), (1, .int a), (2, .int b), (3, .int d)]) hx hb dX11_sheet_91 hl (by decide) rfl (fun ls hl => ?_)
      have hloop_93 : ∀ (fu_ : Nat) (i : Int32) (q : Nat → Int32), 0 ≤ i.toInt → i.toInt ≤ 36 → (36 - i.toInt).toNat < fu_ → ∀ (ls : Array Slot) (H : Heap) (locs : List Loc), lv_has ls 5 [(4, .int i), (0, .ref h), (1, .int a), (2, .int b), (3, .int d)] → va_P D vwCl [(h, .inr (11, [.ref ys, .ref yk, .ref yt, .int m3, .ref yf, .ref yb, .ref yz, .ref yn, .ref yc, .int m9, .ref yp, .ref yw, .int m12, .int m13, .int m14, .int m15, .int m16, .int m17, .int m18, .int m19, .int m20, .ref ye, .int m22, .int m23, .ref yx])), (yb, .inl (cI, 4, .inl f_11)), (yz, .inl (cI, 4, .inl f_13)), (yn, .inl (cI, 144, .inl q)), (yf, .inl (cI, 6, .inl ff))] H → va_D A [(h, .inr (11, [.ref ys, .ref yk, .ref yt, .int m3, .ref yf, .ref yb, .ref yz, .ref yn, .ref yc, .int m9, .ref yp, .ref yw, .int m12, .int m13, .int m14, .int m15, .int m16, .int m17, .int m18, .int m19, .int m20, .ref ye, .int m22, .int m23, .ref yx])), (yb, .inl (cI, 4, .inl f_11)), (yz, .inl (cI, 4, .inl f_13)), (yn, .inl (cI, 144, .inl q)), (yf, .inl (cI, 6, .inl ff))] → va_S A s.heap H locs → W p l e ({ frames := 2, cells := 0, slots := 0, locals := 42 } : Room) s m args below meth c H locs 0 0 Q (F0 m 93 ls []) := by
        intro fu_; induction fu_ with
        | zero => intro i q i93_0 i93_1 hm; exact absurd hm (by omega)
        | succ fu_ ih93 =>
            intro i q i93_0 i93_1 hm ls H locs hl hP hD hS
            have lo_i := k_lo i
            have hi_i := k_hi i
            refine lv_iload hx hb dX11_sheet_93 (lv_at hl 0 rfl) ?_
            refine lv_bipush (v := 36) hx hb dX11_sheet_95 (by decide) ?_
            refine b_icmp_ge hx hb rfl zl_36 (tgt := 119) dX11_sheet_97 (by decide) (fun c_14 => ?_) (fun c_14 => ?_)
            · refine lv_iconst (v := 1) hx hb dX11_sheet_119 (by decide) ?_
              exact hRet () [] (by unfold sp_sheet; repeat (first | rw [if_pos (by omega)] | rw [if_neg (by omega)])) hP hD (by decide) rfl hS rfl dX11_sheet_120
            · refine lv_aload_n hx hb dX11_sheet_100 rfl (lv_at hl 1 rfl) ?_
              refine va_get (D := D) (ci := 11) (v := .ref yn) (C := RX11) (T := TX11) (N := 25) hx hb hT giX11 hown hK hP 0 rfl rfl 7 (by decide) (hT (Cond.fieldLink RX11 28 "DesertWireModel" "number" "[I") mw_1163) (fun _ h9 => h9) rfl dX11_sheet_101 ?_
              refine lv_bipush (v := 36) hx hb dX11_sheet_104 (by decide) ?_
              refine lv_iload_n hx hb dX11_sheet_106 rfl (lv_at hl 2 rfl) ?_
              refine lv_imul hx hb dX11_sheet_107 ?_
              refine lv_topi (fun v_15 ev_15 => ?_)
              have tv_15 : v_15.toInt = 36 * a.toInt := by rw [ev_15]; exact k_mulv zl_36 rfl (by omega) (by omega)
              refine lv_iload hx hb dX11_sheet_108 (lv_at hl 0 rfl) ?_
              refine lv_iadd hx hb dX11_sheet_110 ?_
              refine lv_topi (fun v_16 ev_16 => ?_)
              have tv_16 : v_16.toInt = v_15.toInt + i.toInt := by rw [ev_16]; exact k_addv rfl rfl (by omega) (by omega)
              refine lv_iconst (v := 0) hx hb dX11_sheet_111 (by decide) ?_
              refine va_iast hx hb hK hP hD hS 3 0 rfl rfl (k_in (by omega) (by omega)) dX11_sheet_112 (fun H locs hP hD hS => ?_)
              have hP : va_P D vwCl [(h, .inr (11, [.ref ys, .ref yk, .ref yt, .int m3, .ref yf, .ref yb, .ref yz, .ref yn, .ref yc, .int m9, .ref yp, .ref yw, .int m12, .int m13, .int m14, .int m15, .int m16, .int m17, .int m18, .int m19, .int m20, .ref ye, .int m22, .int m23, .ref yx])), (yb, .inl (cI, 4, .inl f_11)), (yz, .inl (cI, 4, .inl f_13)), (yn, .inl (cI, 144, .inl (upd q v_16.toNatClampNeg 0))), (yf, .inl (cI, 6, .inl ff))] H := hP
              have hD : va_D A [(h, .inr (11, [.ref ys, .ref yk, .ref yt, .int m3, .ref yf, .ref yb, .ref yz, .ref yn, .ref yc, .int m9, .ref yp, .ref yw, .int m12, .int m13, .int m14, .int m15, .int m16, .int m17, .int m18, .int m19, .int m20, .ref ye, .int m22, .int m23, .ref yx])), (yb, .inl (cI, 4, .inl f_11)), (yz, .inl (cI, 4, .inl f_13)), (yn, .inl (cI, 144, .inl (upd q v_16.toNatClampNeg 0))), (yf, .inl (cI, 6, .inl ff))] := hD
              obtain ⟨f_17, ef_17⟩ : ∃ g : Nat → Int32, g = upd q v_16.toNatClampNeg 0 := ⟨_, rfl⟩
              rw [← ef_17] at hP hD
              obtain ⟨v_18, ev_18⟩ : ∃ y : Int32, y = i + 1 := ⟨_, rfl⟩
              have tv_18 : v_18.toInt = i.toInt + 1 := by rw [ev_18]; exact k_addv rfl zl_1 (by omega) (by omega)
              refine lv_iinc (v := v_18) (lv' := [(4, .int v_18), (0, .ref h), (1, .int a), (2, .int b), (3, .int d)]) hx hb dX11_sheet_113 hl (k := 0) rfl (by rw [ev_18]; rfl) (by decide) rfl (fun ls hl => ?_)
              refine lv_goto (tgt := 93) hx hb dX11_sheet_116 (by decide) ?_
              exact ih93 v_18 f_17 (by first | omega | decide | assumption | rfl) (by first | omega | decide | assumption | rfl) (by omega) ls _ _ (lv_sub hl [0, 1, 2, 3, 4] rfl) (hP.sub [0, 1, 2, 3, 4] rfl) (hD.sub [0, 1, 2, 3, 4] (by decide) rfl) hS
      exact hloop_93 _ 0 f2 (by first | omega | (simp only [zl_0] <;> omega) | decide | assumption | rfl) (by first | omega | (simp only [zl_0] <;> omega) | decide | assumption | rfl) (Nat.lt_succ_self _) ls _ _ (lv_sub hl [0, 1, 2, 3, 4] rfl) hP hD hS
    · refine lv_iload_n hx hb dX11_sheet_11 rfl (lv_at hl 2 rfl) ?_
      refine lv_bipush (v := 8) hx hb dX11_sheet_12 (by decide) ?_
      refine b_icmp_eq hx hb rfl zl_8 (tgt := 36) dX11_sheet_14 (by decide) (fun c_19 => ?_) (fun c_19 => ?_)
      · refine lv_iload_n hx hb dX11_sheet_36 rfl (lv_at hl 2 rfl) ?_
        refine b_if_eq hx hb rfl (tgt := 51) dX11_sheet_37 (by decide) (fun c_20 => by exfalso; omega) (fun c_20 => ?_)
        refine lv_iload_n hx hb dX11_sheet_40 rfl (lv_at hl 3 rfl) ?_
        refine b_if_ge hx hb rfl (tgt := 51) dX11_sheet_41 (by decide) (fun c_21 => ?_) (fun c_21 => ?_)
        · refine lv_iload_n hx hb dX11_sheet_51 rfl (lv_at hl 2 rfl) ?_
          refine b_if_eq hx hb rfl (tgt := 68) dX11_sheet_52 (by decide) (fun c_22 => by exfalso; omega) (fun c_22 => ?_)
          refine lv_iload_n hx hb dX11_sheet_55 rfl (lv_at hl 3 rfl) ?_
          refine lv_bipush (v := 36) hx hb dX11_sheet_56 (by decide) ?_
          refine b_icmp_le hx hb rfl zl_36 (tgt := 68) dX11_sheet_58 (by decide) (fun c_23 => ?_) (fun c_23 => ?_)
          · refine lv_aload_n hx hb dX11_sheet_68 rfl (lv_at hl 0 rfl) ?_
            refine va_get (D := D) (ci := 11) (v := .ref yb) (C := RX11) (T := TX11) (N := 25) hx hb hT giX11 hown hK hP 0 rfl rfl 5 (by decide) (hT (Cond.fieldLink RX11 22 "DesertWireModel" "bits" "[I") mw_1161) (fun _ h9 => h9) rfl dX11_sheet_69 ?_
            refine lv_iload_n hx hb dX11_sheet_72 rfl (lv_at hl 1 rfl) ?_
            refine lv_iload_n hx hb dX11_sheet_73 rfl (lv_at hl 2 rfl) ?_
            refine va_iast hx hb hK hP hD hS 1 0 rfl rfl (k_in (by omega) (by omega)) dX11_sheet_74 (fun H locs hP hD hS => ?_)
            have hP : va_P D vwCl [(h, .inr (11, [.ref ys, .ref yk, .ref yt, .int m3, .ref yf, .ref yb, .ref yz, .ref yn, .ref yc, .int m9, .ref yp, .ref yw, .int m12, .int m13, .int m14, .int m15, .int m16, .int m17, .int m18, .int m19, .int m20, .ref ye, .int m22, .int m23, .ref yx])), (yb, .inl (cI, 4, .inl (upd f0 a.toNatClampNeg b))), (yz, .inl (cI, 4, .inl f1)), (yn, .inl (cI, 144, .inl f2)), (yf, .inl (cI, 6, .inl ff))] H := hP
            have hD : va_D A [(h, .inr (11, [.ref ys, .ref yk, .ref yt, .int m3, .ref yf, .ref yb, .ref yz, .ref yn, .ref yc, .int m9, .ref yp, .ref yw, .int m12, .int m13, .int m14, .int m15, .int m16, .int m17, .int m18, .int m19, .int m20, .ref ye, .int m22, .int m23, .ref yx])), (yb, .inl (cI, 4, .inl (upd f0 a.toNatClampNeg b))), (yz, .inl (cI, 4, .inl f1)), (yn, .inl (cI, 144, .inl f2)), (yf, .inl (cI, 6, .inl ff))] := hD
            obtain ⟨f_24, ef_24⟩ : ∃ g : Nat → Int32, g = upd f0 a.toNatClampNeg b := ⟨_, rfl⟩
            rw [← ef_24] at hP hD
            refine lv_aload_n hx hb dX11_sheet_75 rfl (lv_at hl 0 rfl) ?_
            refine va_get (D := D) (ci := 11) (v := .ref yz) (C := RX11) (T := TX11) (N := 25) hx hb hT giX11 hown hK hP 0 rfl rfl 6 (by decide) (hT (Cond.fieldLink RX11 25 "DesertWireModel" "size" "[I") mw_1162) (fun _ h9 => h9) rfl dX11_sheet_76 ?_
            refine lv_iload_n hx hb dX11_sheet_79 rfl (lv_at hl 1 rfl) ?_
            refine lv_iload_n hx hb dX11_sheet_80 rfl (lv_at hl 2 rfl) ?_
            refine b_if_ne hx hb rfl (tgt := 88) dX11_sheet_81 (by decide) (fun c_25 => ?_) (fun c_25 => by exfalso; omega)
            refine lv_iload_n hx hb dX11_sheet_88 rfl (lv_at hl 3 rfl) ?_
            refine va_iast hx hb hK hP hD hS 2 0 rfl rfl (k_in (by omega) (by omega)) dX11_sheet_89 (fun H locs hP hD hS => ?_)
            have hP : va_P D vwCl [(h, .inr (11, [.ref ys, .ref yk, .ref yt, .int m3, .ref yf, .ref yb, .ref yz, .ref yn, .ref yc, .int m9, .ref yp, .ref yw, .int m12, .int m13, .int m14, .int m15, .int m16, .int m17, .int m18, .int m19, .int m20, .ref ye, .int m22, .int m23, .ref yx])), (yb, .inl (cI, 4, .inl f_24)), (yz, .inl (cI, 4, .inl (upd f1 a.toNatClampNeg d))), (yn, .inl (cI, 144, .inl f2)), (yf, .inl (cI, 6, .inl ff))] H := hP
            have hD : va_D A [(h, .inr (11, [.ref ys, .ref yk, .ref yt, .int m3, .ref yf, .ref yb, .ref yz, .ref yn, .ref yc, .int m9, .ref yp, .ref yw, .int m12, .int m13, .int m14, .int m15, .int m16, .int m17, .int m18, .int m19, .int m20, .ref ye, .int m22, .int m23, .ref yx])), (yb, .inl (cI, 4, .inl f_24)), (yz, .inl (cI, 4, .inl (upd f1 a.toNatClampNeg d))), (yn, .inl (cI, 144, .inl f2)), (yf, .inl (cI, 6, .inl ff))] := hD
            obtain ⟨f_26, ef_26⟩ : ∃ g : Nat → Int32, g = upd f1 a.toNatClampNeg d := ⟨_, rfl⟩
            rw [← ef_26] at hP hD
            refine lv_iconst (v := 0) hx hb dX11_sheet_90 (by decide) ?_
            refine lv_istore (lv' := [(4, .int 0), (0, .ref h), (1, .int a), (2, .int b), (3, .int d)]) hx hb dX11_sheet_91 hl (by decide) rfl (fun ls hl => ?_)
            have hloop_93 : ∀ (fu_ : Nat) (i : Int32) (q : Nat → Int32), 0 ≤ i.toInt → i.toInt ≤ 36 → (36 - i.toInt).toNat < fu_ → ∀ (ls : Array Slot) (H : Heap) (locs : List Loc), lv_has ls 5 [(4, .int i), (0, .ref h), (1, .int a), (2, .int b), (3, .int d)] → va_P D vwCl [(h, .inr (11, [.ref ys, .ref yk, .ref yt, .int m3, .ref yf, .ref yb, .ref yz, .ref yn, .ref yc, .int m9, .ref yp, .ref yw, .int m12, .int m13, .int m14, .int m15, .int m16, .int m17, .int m18, .int m19, .int m20, .ref ye, .int m22, .int m23, .ref yx])), (yb, .inl (cI, 4, .inl f_24)), (yz, .inl (cI, 4, .inl f_26)), (yn, .inl (cI, 144, .inl q)), (yf, .inl (cI, 6, .inl ff))] H → va_D A [(h, .inr (11, [.ref ys, .ref yk, .ref yt, .int m3, .ref yf, .ref yb, .ref yz, .ref yn, .ref yc, .int m9, .ref yp, .ref yw, .int m12, .int m13, .int m14, .int m15, .int m16, .int m17, .int m18, .int m19, .int m20, .ref ye, .int m22, .int m23, .ref yx])), (yb, .inl (cI, 4, .inl f_24)), (yz, .inl (cI, 4, .inl f_26)), (yn, .inl (cI, 144, .inl q)), (yf, .inl (cI, 6, .inl ff))] → va_S A s.heap H locs → W p l e ({ frames := 2, cells := 0, slots := 0, locals := 42 } : Room) s m args below meth c H locs 0 0 Q (F0 m 93 ls []) := by
              intro fu_; induction fu_ with
              | zero => intro i q i93_0 i93_1 hm; exact absurd hm (by omega)
              | succ fu_ ih93 =>
                  intro i q i93_0 i93_1 hm ls H locs hl hP hD hS
                  have lo_i := k_lo i
                  have hi_i := k_hi i
                  refine lv_iload hx hb dX11_sheet_93 (lv_at hl 0 rfl) ?_
                  refine lv_bipush (v := 36) hx hb dX11_sheet_95 (by decide) ?_
                  refine b_icmp_ge hx hb rfl zl_36 (tgt := 119) dX11_sheet_97 (by decide) (fun c_27 => ?_) (fun c_27 => ?_)
                  · refine lv_iconst (v := 1) hx hb dX11_sheet_119 (by decide) ?_
                    exact hRet () [] (by unfold sp_sheet; repeat (first | rw [if_pos (by omega)] | rw [if_neg (by omega)])) hP hD (by decide) rfl hS rfl dX11_sheet_120
                  · refine lv_aload_n hx hb dX11_sheet_100 rfl (lv_at hl 1 rfl) ?_
                    refine va_get (D := D) (ci := 11) (v := .ref yn) (C := RX11) (T := TX11) (N := 25) hx hb hT giX11 hown hK hP 0 rfl rfl 7 (by decide) (hT (Cond.fieldLink RX11 28 "DesertWireModel" "number" "[I") mw_1163) (fun _ h9 => h9) rfl dX11_sheet_101 ?_
                    refine lv_bipush (v := 36) hx hb dX11_sheet_104 (by decide) ?_
                    refine lv_iload_n hx hb dX11_sheet_106 rfl (lv_at hl 2 rfl) ?_
                    refine lv_imul hx hb dX11_sheet_107 ?_
                    refine lv_topi (fun v_28 ev_28 => ?_)
                    have tv_28 : v_28.toInt = 36 * a.toInt := by rw [ev_28]; exact k_mulv zl_36 rfl (by omega) (by omega)
                    refine lv_iload hx hb dX11_sheet_108 (lv_at hl 0 rfl) ?_
                    refine lv_iadd hx hb dX11_sheet_110 ?_
                    refine lv_topi (fun v_29 ev_29 => ?_)
                    have tv_29 : v_29.toInt = v_28.toInt + i.toInt := by rw [ev_29]; exact k_addv rfl rfl (by omega) (by omega)
                    refine lv_iconst (v := 0) hx hb dX11_sheet_111 (by decide) ?_
                    refine va_iast hx hb hK hP hD hS 3 0 rfl rfl (k_in (by omega) (by omega)) dX11_sheet_112 (fun H locs hP hD hS => ?_)
                    have hP : va_P D vwCl [(h, .inr (11, [.ref ys, .ref yk, .ref yt, .int m3, .ref yf, .ref yb, .ref yz, .ref yn, .ref yc, .int m9, .ref yp, .ref yw, .int m12, .int m13, .int m14, .int m15, .int m16, .int m17, .int m18, .int m19, .int m20, .ref ye, .int m22, .int m23, .ref yx])), (yb, .inl (cI, 4, .inl f_24)), (yz, .inl (cI, 4, .inl f_26)), (yn, .inl (cI, 144, .inl (upd q v_29.toNatClampNeg 0))), (yf, .inl (cI, 6, .inl ff))] H := hP
                    have hD : va_D A [(h, .inr (11, [.ref ys, .ref yk, .ref yt, .int m3, .ref yf, .ref yb, .ref yz, .ref yn, .ref yc, .int m9, .ref yp, .ref yw, .int m12, .int m13, .int m14, .int m15, .int m16, .int m17, .int m18, .int m19, .int m20, .ref ye, .int m22, .int m23, .ref yx])), (yb, .inl (cI, 4, .inl f_24)), (yz, .inl (cI, 4, .inl f_26)), (yn, .inl (cI, 144, .inl (upd q v_29.toNatClampNeg 0))), (yf, .inl (cI, 6, .inl ff))] := hD
                    obtain ⟨f_30, ef_30⟩ : ∃ g : Nat → Int32, g = upd q v_29.toNatClampNeg 0 := ⟨_, rfl⟩
                    rw [← ef_30] at hP hD
                    obtain ⟨v_31, ev_31⟩ : ∃ y : Int32, y = i + 1 := ⟨_, rfl⟩
                    have tv_31 : v_31.toInt = i.toInt + 1 := by rw [ev_31]; exact k_addv rfl zl_1 (by omega) (by omega)
                    refine lv_iinc (v := v_31) (lv' := [(4, .int v_31), (0, .ref h), (1, .int a), (2, .int b), (3, .int d)]) hx hb dX11_sheet_113 hl (k := 0) rfl (by rw [ev_31]; rfl) (by decide) rfl (fun ls hl => ?_)
                    refine lv_goto (tgt := 93) hx hb dX11_sheet_116 (by decide) ?_
                    exact ih93 v_31 f_30 (by first | omega | decide | assumption | rfl) (by first | omega | decide | assumption | rfl) (by omega) ls _ _ (lv_sub hl [0, 1, 2, 3, 4] rfl) (hP.sub [0, 1, 2, 3, 4] rfl) (hD.sub [0, 1, 2, 3, 4] (by decide) rfl) hS
            exact hloop_93 _ 0 f2 (by first | omega | (simp only [zl_0] <;> omega) | decide | assumption | rfl) (by first | omega | (simp only [zl_0] <;> omega) | decide | assumption | rfl) (Nat.lt_succ_self _) ls _ _ (lv_sub hl [0, 1, 2, 3, 4] rfl) hP hD hS
          · refine lv_aload_n hx hb dX11_sheet_61 rfl (lv_at hl 0 rfl) ?_
            refine lv_ldc (v := (-1000001)) hx hb hown (hT _ mw_1239) dX11_sheet_62 ?_
            refine kJi (wr := [(yb, .inl (cI, 4, .inl f0)), (yz, .inl (cI, 4, .inl f1)), (yn, .inl (cI, 144, .inl f2))]) (va_runV (As := [.int (-1000001)]) (rest := []) ⟨hx, hb, hml, hown, hT⟩ (c_X11_finding l D cI h ys yk yt yf yb yz yn yc yp yw ye yx H.size m3 m9 m12 m13 m14 m15 m16 m17 m18 m19 m20 m22 m23 ff (-1000001) (by first | omega | (simp only [zl_m1000001] <;> omega) | decide | assumption | rfl) (by first | omega | (simp only [zl_m1000001] <;> omega) | decide | assumption | rfl)) (cwV 1 hT (gV_in mw_1243 mw_1240 mw_1242 mw_p3_8 mw_12) rfl rfl rfl (by decide +kernel) ⟨Nat.le_of_ble_eq_true rfl, Nat.le_of_ble_eq_true rfl⟩) (kRecv (own := "") (q0 := 0) (ci := 11) hK hP hD hN rfl rfl [0, 4] rfl (by decide)) rfl rfl hl.1 rfl (lv_room (Nat.le_of_ble_eq_true rfl)) dX11_sheet_64 ⟨Nat.le_of_ble_eq_true rfl, Nat.le_of_ble_eq_true rfl⟩) hP hD hS hA [0, 4] [1, 2, 3] rfl rfl (by decide) (by decide) (fun r_32 u_34 H locs w_33 hP hD hS => ?_)
            have hP : va_P D vwCl [(yb, .inl (cI, 4, .inl f0)), (yz, .inl (cI, 4, .inl f1)), (yn, .inl (cI, 144, .inl f2))] H := hP
            have hD : va_D A [(yb, .inl (cI, 4, .inl f0)), (yz, .inl (cI, 4, .inl f1)), (yn, .inl (cI, 144, .inl f2))] := hD
            have hr_32 := w_33
            obtain rfl : r_32 = (-1000001) := hr_32.trans (by decide)
            exact hRet () [] (by unfold sp_sheet; repeat (first | rw [if_pos (by omega)] | rw [if_neg (by omega)])) hP hD (by decide) rfl hS rfl dX11_sheet_67
        · refine lv_aload_n hx hb dX11_sheet_44 rfl (lv_at hl 0 rfl) ?_
          refine lv_ldc (v := (-1000003)) hx hb hown (hT _ mw_1356) dX11_sheet_45 ?_
          refine kJi (wr := [(yb, .inl (cI, 4, .inl f0)), (yz, .inl (cI, 4, .inl f1)), (yn, .inl (cI, 144, .inl f2))]) (va_runV (As := [.int (-1000003)]) (rest := []) ⟨hx, hb, hml, hown, hT⟩ (c_X11_finding l D cI h ys yk yt yf yb yz yn yc yp yw ye yx H.size m3 m9 m12 m13 m14 m15 m16 m17 m18 m19 m20 m22 m23 ff (-1000003) (by first | omega | (simp only [zl_m1000003] <;> omega) | decide | assumption | rfl) (by first | omega | (simp only [zl_m1000003] <;> omega) | decide | assumption | rfl)) (cwV 1 hT (gV_in mw_1243 mw_1240 mw_1242 mw_p3_8 mw_12) rfl rfl rfl (by decide +kernel) ⟨Nat.le_of_ble_eq_true rfl, Nat.le_of_ble_eq_true rfl⟩) (kRecv (own := "") (q0 := 0) (ci := 11) hK hP hD hN rfl rfl [0, 4] rfl (by decide)) rfl rfl hl.1 rfl (lv_room (Nat.le_of_ble_eq_true rfl)) dX11_sheet_47 ⟨Nat.le_of_ble_eq_true rfl, Nat.le_of_ble_eq_true rfl⟩) hP hD hS hA [0, 4] [1, 2, 3] rfl rfl (by decide) (by decide) (fun r_35 u_37 H locs w_36 hP hD hS => ?_)
          have hP : va_P D vwCl [(yb, .inl (cI, 4, .inl f0)), (yz, .inl (cI, 4, .inl f1)), (yn, .inl (cI, 144, .inl f2))] H := hP
          have hD : va_D A [(yb, .inl (cI, 4, .inl f0)), (yz, .inl (cI, 4, .inl f1)), (yn, .inl (cI, 144, .inl f2))] := hD
          have hr_35 := w_36
          obtain rfl : r_35 = (-1000003) := hr_35.trans (by decide)
          exact hRet () [] (by unfold sp_sheet; repeat (first | rw [if_pos (by omega)] | rw [if_neg (by omega)])) hP hD (by decide) rfl hS rfl dX11_sheet_50
      · refine lv_iload_n hx hb dX11_sheet_17 rfl (lv_at hl 2 rfl) ?_
        refine lv_bipush (v := 16) hx hb dX11_sheet_18 (by decide) ?_
        refine b_icmp_eq hx hb rfl zl_16 (tgt := 36) dX11_sheet_20 (by decide) (fun c_38 => ?_) (fun c_38 => ?_)
        · refine lv_iload_n hx hb dX11_sheet_36 rfl (lv_at hl 2 rfl) ?_
          refine b_if_eq hx hb rfl (tgt := 51) dX11_sheet_37 (by decide) (fun c_39 => by exfalso; omega) (fun c_39 => ?_)
          refine lv_iload_n hx hb dX11_sheet_40 rfl (lv_at hl 3 rfl) ?_
          refine b_if_ge hx hb rfl (tgt := 51) dX11_sheet_41 (by decide) (fun c_40 => ?_) (fun c_40 => ?_)
          · refine lv_iload_n hx hb dX11_sheet_51 rfl (lv_at hl 2 rfl) ?_
            refine b_if_eq hx hb rfl (tgt := 68) dX11_sheet_52 (by decide) (fun c_41 => by exfalso; omega) (fun c_41 => ?_)
            refine lv_iload_n hx hb dX11_sheet_55 rfl (lv_at hl 3 rfl) ?_
            refine lv_bipush (v := 36) hx hb dX11_sheet_56 (by decide) ?_
            refine b_icmp_le hx hb rfl zl_36 (tgt := 68) dX11_sheet_58 (by decide) (fun c_42 => ?_) (fun c_42 => ?_)
            · refine lv_aload_n hx hb dX11_sheet_68 rfl (lv_at hl 0 rfl) ?_
              refine va_get (D := D) (ci := 11) (v := .ref yb) (C := RX11) (T := TX11) (N := 25) hx hb hT giX11 hown hK hP 0 rfl rfl 5 (by decide) (hT (Cond.fieldLink RX11 22 "DesertWireModel" "bits" "[I") mw_1161) (fun _ h9 => h9) rfl dX11_sheet_69 ?_
              refine lv_iload_n hx hb dX11_sheet_72 rfl (lv_at hl 1 rfl) ?_
              refine lv_iload_n hx hb dX11_sheet_73 rfl (lv_at hl 2 rfl) ?_
              refine va_iast hx hb hK hP hD hS 1 0 rfl rfl (k_in (by omega) (by omega)) dX11_sheet_74 (fun H locs hP hD hS => ?_)
              have hP : va_P D vwCl [(h, .inr (11, [.ref ys, .ref yk, .ref yt, .int m3, .ref yf, .ref yb, .ref yz, .ref yn, .ref yc, .int m9, .ref yp, .ref yw, .int m12, .int m13, .int m14, .int m15, .int m16, .int m17, .int m18, .int m19, .int m20, .ref ye, .int m22, .int m23, .ref yx])), (yb, .inl (cI, 4, .inl (upd f0 a.toNatClampNeg b))), (yz, .inl (cI, 4, .inl f1)), (yn, .inl (cI, 144, .inl f2)), (yf, .inl (cI, 6, .inl ff))] H := hP
              have hD : va_D A [(h, .inr (11, [.ref ys, .ref yk, .ref yt, .int m3, .ref yf, .ref yb, .ref yz, .ref yn, .ref yc, .int m9, .ref yp, .ref yw, .int m12, .int m13, .int m14, .int m15, .int m16, .int m17, .int m18, .int m19, .int m20, .ref ye, .int m22, .int m23, .ref yx])), (yb, .inl (cI, 4, .inl (upd f0 a.toNatClampNeg b))), (yz, .inl (cI, 4, .inl f1)), (yn, .inl (cI, 144, .inl f2)), (yf, .inl (cI, 6, .inl ff))] := hD
              obtain ⟨f_43, ef_43⟩ : ∃ g : Nat → Int32, g = upd f0 a.toNatClampNeg b := ⟨_, rfl⟩
              rw [← ef_43] at hP hD
              refine lv_aload_n hx hb dX11_sheet_75 rfl (lv_at hl 0 rfl) ?_
              refine va_get (D := D) (ci := 11) (v := .ref yz) (C := RX11) (T := TX11) (N := 25) hx hb hT giX11 hown hK hP 0 rfl rfl 6 (by decide) (hT (Cond.fieldLink RX11 25 "DesertWireModel" "size" "[I") mw_1162) (fun _ h9 => h9) rfl dX11_sheet_76 ?_
              refine lv_iload_n hx hb dX11_sheet_79 rfl (lv_at hl 1 rfl) ?_
              refine lv_iload_n hx hb dX11_sheet_80 rfl (lv_at hl 2 rfl) ?_
              refine b_if_ne hx hb rfl (tgt := 88) dX11_sheet_81 (by decide) (fun c_44 => ?_) (fun c_44 => by exfalso; omega)
              refine lv_iload_n hx hb dX11_sheet_88 rfl (lv_at hl 3 rfl) ?_
              refine va_iast hx hb hK hP hD hS 2 0 rfl rfl (k_in (by omega) (by omega)) dX11_sheet_89 (fun H locs hP hD hS => ?_)
              have hP : va_P D vwCl [(h, .inr (11, [.ref ys, .ref yk, .ref yt, .int m3, .ref yf, .ref yb, .ref yz, .ref yn, .ref yc, .int m9, .ref yp, .ref yw, .int m12, .int m13, .int m14, .int m15, .int m16, .int m17, .int m18, .int m19, .int m20, .ref ye, .int m22, .int m23, .ref yx])), (yb, .inl (cI, 4, .inl f_43)), (yz, .inl (cI, 4, .inl (upd f1 a.toNatClampNeg d))), (yn, .inl (cI, 144, .inl f2)), (yf, .inl (cI, 6, .inl ff))] H := hP
              have hD : va_D A [(h, .inr (11, [.ref ys, .ref yk, .ref yt, .int m3, .ref yf, .ref yb, .ref yz, .ref yn, .ref yc, .int m9, .ref yp, .ref yw, .int m12, .int m13, .int m14, .int m15, .int m16, .int m17, .int m18, .int m19, .int m20, .ref ye, .int m22, .int m23, .ref yx])), (yb, .inl (cI, 4, .inl f_43)), (yz, .inl (cI, 4, .inl (upd f1 a.toNatClampNeg d))), (yn, .inl (cI, 144, .inl f2)), (yf, .inl (cI, 6, .inl ff))] := hD
              obtain ⟨f_45, ef_45⟩ : ∃ g : Nat → Int32, g = upd f1 a.toNatClampNeg d := ⟨_, rfl⟩
              rw [← ef_45] at hP hD
              refine lv_iconst (v := 0) hx hb dX11_sheet_90 (by decide) ?_
              refine lv_istore (lv' := [(4, .int 0), (0, .ref h), (1, .int a), (2, .int b), (3, .int d)]) hx hb dX11_sheet_91 hl (by decide) rfl (fun ls hl => ?_)
              have hloop_93 : ∀ (fu_ : Nat) (i : Int32) (q : Nat → Int32), 0 ≤ i.toInt → i.toInt ≤ 36 → (36 - i.toInt).toNat < fu_ → ∀ (ls : Array Slot) (H : Heap) (locs : List Loc), lv_has ls 5 [(4, .int i), (0, .ref h), (1, .int a), (2, .int b), (3, .int d)] → va_P D vwCl [(h, .inr (11, [.ref ys, .ref yk, .ref yt, .int m3, .ref yf, .ref yb, .ref yz, .ref yn, .ref yc, .int m9, .ref yp, .ref yw, .int m12, .int m13, .int m14, .int m15, .int m16, .int m17, .int m18, .int m19, .int m20, .ref ye, .int m22, .int m23, .ref yx])), (yb, .inl (cI, 4, .inl f_43)), (yz, .inl (cI, 4, .inl f_45)), (yn, .inl (cI, 144, .inl q)), (yf, .inl (cI, 6, .inl ff))] H → va_D A [(h, .inr (11, [.ref ys, .ref yk, .ref yt, .int m3, .ref yf, .ref yb, .ref yz, .ref yn, .ref yc, .int m9, .ref yp, .ref yw, .int m12, .int m13, .int m14, .int m15, .int m16, .int m17, .int m18, .int m19, .int m20, .ref ye, .int m22, .int m23, .ref yx])), (yb, .inl (cI, 4, .inl f_43)), (yz, .inl (cI, 4, .inl f_45)), (yn, .inl (cI, 144, .inl q)), (yf, .inl (cI, 6, .inl ff))] → va_S A s.heap H locs → W p l e ({ frames := 2, cells := 0, slots := 0, locals := 42 } : Room) s m args below meth c H locs 0 0 Q (F0 m 93 ls []) := by
                intro fu_; induction fu_ with
                | zero => intro i q i93_0 i93_1 hm; exact absurd hm (by omega)
                | succ fu_ ih93 =>
                    intro i q i93_0 i93_1 hm ls H locs hl hP hD hS
                    have lo_i := k_lo i
                    have hi_i := k_hi i
                    refine lv_iload hx hb dX11_sheet_93 (lv_at hl 0 rfl) ?_
                    refine lv_bipush (v := 36) hx hb dX11_sheet_95 (by decide) ?_
                    refine b_icmp_ge hx hb rfl zl_36 (tgt := 119) dX11_sheet_97 (by decide) (fun c_46 => ?_) (fun c_46 => ?_)
                    · refine lv_iconst (v := 1) hx hb dX11_sheet_119 (by decide) ?_
                      exact hRet () [] (by unfold sp_sheet; repeat (first | rw [if_pos (by omega)] | rw [if_neg (by omega)])) hP hD (by decide) rfl hS rfl dX11_sheet_120
                    · refine lv_aload_n hx hb dX11_sheet_100 rfl (lv_at hl 1 rfl) ?_
                      refine va_get (D := D) (ci := 11) (v := .ref yn) (C := RX11) (T := TX11) (N := 25) hx hb hT giX11 hown hK hP 0 rfl rfl 7 (by decide) (hT (Cond.fieldLink RX11 28 "DesertWireModel" "number" "[I") mw_1163) (fun _ h9 => h9) rfl dX11_sheet_101 ?_
                      refine lv_bipush (v := 36) hx hb dX11_sheet_104 (by decide) ?_
                      refine lv_iload_n hx hb dX11_sheet_106 rfl (lv_at hl 2 rfl) ?_
                      refine lv_imul hx hb dX11_sheet_107 ?_
                      refine lv_topi (fun v_47 ev_47 => ?_)
                      have tv_47 : v_47.toInt = 36 * a.toInt := by rw [ev_47]; exact k_mulv zl_36 rfl (by omega) (by omega)
                      refine lv_iload hx hb dX11_sheet_108 (lv_at hl 0 rfl) ?_
                      refine lv_iadd hx hb dX11_sheet_110 ?_
                      refine lv_topi (fun v_48 ev_48 => ?_)
                      have tv_48 : v_48.toInt = v_47.toInt + i.toInt := by rw [ev_48]; exact k_addv rfl rfl (by omega) (by omega)
                      refine lv_iconst (v := 0) hx hb dX11_sheet_111 (by decide) ?_
                      refine va_iast hx hb hK hP hD hS 3 0 rfl rfl (k_in (by omega) (by omega)) dX11_sheet_112 (fun H locs hP hD hS => ?_)
                      have hP : va_P D vwCl [(h, .inr (11, [.ref ys, .ref yk, .ref yt, .int m3, .ref yf, .ref yb, .ref yz, .ref yn, .ref yc, .int m9, .ref yp, .ref yw, .int m12, .int m13, .int m14, .int m15, .int m16, .int m17, .int m18, .int m19, .int m20, .ref ye, .int m22, .int m23, .ref yx])), (yb, .inl (cI, 4, .inl f_43)), (yz, .inl (cI, 4, .inl f_45)), (yn, .inl (cI, 144, .inl (upd q v_48.toNatClampNeg 0))), (yf, .inl (cI, 6, .inl ff))] H := hP
                      have hD : va_D A [(h, .inr (11, [.ref ys, .ref yk, .ref yt, .int m3, .ref yf, .ref yb, .ref yz, .ref yn, .ref yc, .int m9, .ref yp, .ref yw, .int m12, .int m13, .int m14, .int m15, .int m16, .int m17, .int m18, .int m19, .int m20, .ref ye, .int m22, .int m23, .ref yx])), (yb, .inl (cI, 4, .inl f_43)), (yz, .inl (cI, 4, .inl f_45)), (yn, .inl (cI, 144, .inl (upd q v_48.toNatClampNeg 0))), (yf, .inl (cI, 6, .inl ff))] := hD
                      obtain ⟨f_49, ef_49⟩ : ∃ g : Nat → Int32, g = upd q v_48.toNatClampNeg 0 := ⟨_, rfl⟩
                      rw [← ef_49] at hP hD
                      obtain ⟨v_50, ev_50⟩ : ∃ y : Int32, y = i + 1 := ⟨_, rfl⟩
                      have tv_50 : v_50.toInt = i.toInt + 1 := by rw [ev_50]; exact k_addv rfl zl_1 (by omega) (by omega)
                      refine lv_iinc (v := v_50) (lv' := [(4, .int v_50), (0, .ref h), (1, .int a), (2, .int b), (3, .int d)]) hx hb dX11_sheet_113 hl (k := 0) rfl (by rw [ev_50]; rfl) (by decide) rfl (fun ls hl => ?_)
                      refine lv_goto (tgt := 93) hx hb dX11_sheet_116 (by decide) ?_
                      exact ih93 v_50 f_49 (by first | omega | decide | assumption | rfl) (by first | omega | decide | assumption | rfl) (by omega) ls _ _ (lv_sub hl [0, 1, 2, 3, 4] rfl) (hP.sub [0, 1, 2, 3, 4] rfl) (hD.sub [0, 1, 2, 3, 4] (by decide) rfl) hS
              exact hloop_93 _ 0 f2 (by first | omega | (simp only [zl_0] <;> omega) | decide | assumption | rfl) (by first | omega | (simp only [zl_0] <;> omega) | decide | assumption | rfl) (Nat.lt_succ_self _) ls _ _ (lv_sub hl [0, 1, 2, 3, 4] rfl) hP hD hS
            · refine lv_aload_n hx hb dX11_sheet_61 rfl (lv_at hl 0 rfl) ?_
              refine lv_ldc (v := (-1000001)) hx hb hown (hT _ mw_1239) dX11_sheet_62 ?_
              refine kJi (wr := [(yb, .inl (cI, 4, .inl f0)), (yz, .inl (cI, 4, .inl f1)), (yn, .inl (cI, 144, .inl f2))]) (va_runV (As := [.int (-1000001)]) (rest := []) ⟨hx, hb, hml, hown, hT⟩ (c_X11_finding l D cI h ys yk yt yf yb yz yn yc yp yw ye yx H.size m3 m9 m12 m13 m14 m15 m16 m17 m18 m19 m20 m22 m23 ff (-1000001) (by first | omega | (simp only [zl_m1000001] <;> omega) | decide | assumption | rfl) (by first | omega | (simp only [zl_m1000001] <;> omega) | decide | assumption | rfl)) (cwV 1 hT (gV_in mw_1243 mw_1240 mw_1242 mw_p3_8 mw_12) rfl rfl rfl (by decide +kernel) ⟨Nat.le_of_ble_eq_true rfl, Nat.le_of_ble_eq_true rfl⟩) (kRecv (own := "") (q0 := 0) (ci := 11) hK hP hD hN rfl rfl [0, 4] rfl (by decide)) rfl rfl hl.1 rfl (lv_room (Nat.le_of_ble_eq_true rfl)) dX11_sheet_64 ⟨Nat.le_of_ble_eq_true rfl, Nat.le_of_ble_eq_true rfl⟩) hP hD hS hA [0, 4] [1, 2, 3] rfl rfl (by decide) (by decide) (fun r_51 u_53 H locs w_52 hP hD hS => ?_)
              have hP : va_P D vwCl [(yb, .inl (cI, 4, .inl f0)), (yz, .inl (cI, 4, .inl f1)), (yn, .inl (cI, 144, .inl f2))] H := hP
              have hD : va_D A [(yb, .inl (cI, 4, .inl f0)), (yz, .inl (cI, 4, .inl f1)), (yn, .inl (cI, 144, .inl f2))] := hD
              have hr_51 := w_52
              obtain rfl : r_51 = (-1000001) := hr_51.trans (by decide)
              exact hRet () [] (by unfold sp_sheet; repeat (first | rw [if_pos (by omega)] | rw [if_neg (by omega)])) hP hD (by decide) rfl hS rfl dX11_sheet_67
          · refine lv_aload_n hx hb dX11_sheet_44 rfl (lv_at hl 0 rfl) ?_
            refine lv_ldc (v := (-1000003)) hx hb hown (hT _ mw_1356) dX11_sheet_45 ?_
            refine kJi (wr := [(yb, .inl (cI, 4, .inl f0)), (yz, .inl (cI, 4, .inl f1)), (yn, .inl (cI, 144, .inl f2))]) (va_runV (As := [.int (-1000003)]) (rest := []) ⟨hx, hb, hml, hown, hT⟩ (c_X11_finding l D cI h ys yk yt yf yb yz yn yc yp yw ye yx H.size m3 m9 m12 m13 m14 m15 m16 m17 m18 m19 m20 m22 m23 ff (-1000003) (by first | omega | (simp only [zl_m1000003] <;> omega) | decide | assumption | rfl) (by first | omega | (simp only [zl_m1000003] <;> omega) | decide | assumption | rfl)) (cwV 1 hT (gV_in mw_1243 mw_1240 mw_1242 mw_p3_8 mw_12) rfl rfl rfl (by decide +kernel) ⟨Nat.le_of_ble_eq_true rfl, Nat.le_of_ble_eq_true rfl⟩) (kRecv (own := "") (q0 := 0) (ci := 11) hK hP hD hN rfl rfl [0, 4] rfl (by decide)) rfl rfl hl.1 rfl (lv_room (Nat.le_of_ble_eq_true rfl)) dX11_sheet_47 ⟨Nat.le_of_ble_eq_true rfl, Nat.le_of_ble_eq_true rfl⟩) hP hD hS hA [0, 4] [1, 2, 3] rfl rfl (by decide) (by decide) (fun r_54 u_56 H locs w_55 hP hD hS => ?_)
            have hP : va_P D vwCl [(yb, .inl (cI, 4, .inl f0)), (yz, .inl (cI, 4, .inl f1)), (yn, .inl (cI, 144, .inl f2))] H := hP
            have hD : va_D A [(yb, .inl (cI, 4, .inl f0)), (yz, .inl (cI, 4, .inl f1)), (yn, .inl (cI, 144, .inl f2))] := hD
            have hr_54 := w_55
            obtain rfl : r_54 = (-1000003) := hr_54.trans (by decide)
            exact hRet () [] (by unfold sp_sheet; repeat (first | rw [if_pos (by omega)] | rw [if_neg (by omega)])) hP hD (by decide) rfl hS rfl dX11_sheet_50
        · refine lv_iload_n hx hb dX11_sheet_23 rfl (lv_at hl 2 rfl) ?_
          refine lv_bipush (v := 32) hx hb dX11_sheet_24 (by decide) ?_
          refine b_icmp_eq hx hb rfl zl_32 (tgt := 36) dX11_sheet_26 (by decide) (fun c_57 => ?_) (fun c_57 => ?_)
          · refine lv_iload_n hx hb dX11_sheet_36 rfl (lv_at hl 2 rfl) ?_
            refine b_if_eq hx hb rfl (tgt := 51) dX11_sheet_37 (by decide) (fun c_58 => by exfalso; omega) (fun c_58 => ?_)
            refine lv_iload_n hx hb dX11_sheet_40 rfl (lv_at hl 3 rfl) ?_
            refine b_if_ge hx hb rfl (tgt := 51) dX11_sheet_41 (by decide) (fun c_59 => ?_) (fun c_59 => ?_)
            · refine lv_iload_n hx hb dX11_sheet_51 rfl (lv_at hl 2 rfl) ?_
              refine b_if_eq hx hb rfl (tgt := 68) dX11_sheet_52 (by decide) (fun c_60 => by exfalso; omega) (fun c_60 => ?_)
              refine lv_iload_n hx hb dX11_sheet_55 rfl (lv_at hl 3 rfl) ?_
              refine lv_bipush (v := 36) hx hb dX11_sheet_56 (by decide) ?_
              refine b_icmp_le hx hb rfl zl_36 (tgt := 68) dX11_sheet_58 (by decide) (fun c_61 => ?_) (fun c_61 => ?_)
              · refine lv_aload_n hx hb dX11_sheet_68 rfl (lv_at hl 0 rfl) ?_
                refine va_get (D := D) (ci := 11) (v := .ref yb) (C := RX11) (T := TX11) (N := 25) hx hb hT giX11 hown hK hP 0 rfl rfl 5 (by decide) (hT (Cond.fieldLink RX11 22 "DesertWireModel" "bits" "[I") mw_1161) (fun _ h9 => h9) rfl dX11_sheet_69 ?_
                refine lv_iload_n hx hb dX11_sheet_72 rfl (lv_at hl 1 rfl) ?_
                refine lv_iload_n hx hb dX11_sheet_73 rfl (lv_at hl 2 rfl) ?_
                refine va_iast hx hb hK hP hD hS 1 0 rfl rfl (k_in (by omega) (by omega)) dX11_sheet_74 (fun H locs hP hD hS => ?_)
                have hP : va_P D vwCl [(h, .inr (11, [.ref ys, .ref yk, .ref yt, .int m3, .ref yf, .ref yb, .ref yz, .ref yn, .ref yc, .int m9, .ref yp, .ref yw, .int m12, .int m13, .int m14, .int m15, .int m16, .int m17, .int m18, .int m19, .int m20, .ref ye, .int m22, .int m23, .ref yx])), (yb, .inl (cI, 4, .inl (upd f0 a.toNatClampNeg b))), (yz, .inl (cI, 4, .inl f1)), (yn, .inl (cI, 144, .inl f2)), (yf, .inl (cI, 6, .inl ff))] H := hP
                have hD : va_D A [(h, .inr (11, [.ref ys, .ref yk, .ref yt, .int m3, .ref yf, .ref yb, .ref yz, .ref yn, .ref yc, .int m9, .ref yp, .ref yw, .int m12, .int m13, .int m14, .int m15, .int m16, .int m17, .int m18, .int m19, .int m20, .ref ye, .int m22, .int m23, .ref yx])), (yb, .inl (cI, 4, .inl (upd f0 a.toNatClampNeg b))), (yz, .inl (cI, 4, .inl f1)), (yn, .inl (cI, 144, .inl f2)), (yf, .inl (cI, 6, .inl ff))] := hD
                obtain ⟨f_62, ef_62⟩ : ∃ g : Nat → Int32, g = upd f0 a.toNatClampNeg b := ⟨_, rfl⟩
                rw [← ef_62] at hP hD
                refine lv_aload_n hx hb dX11_sheet_75 rfl (lv_at hl 0 rfl) ?_
                refine va_get (D := D) (ci := 11) (v := .ref yz) (C := RX11) (T := TX11) (N := 25) hx hb hT giX11 hown hK hP 0 rfl rfl 6 (by decide) (hT (Cond.fieldLink RX11 25 "DesertWireModel" "size" "[I") mw_1162) (fun _ h9 => h9) rfl dX11_sheet_76 ?_
                refine lv_iload_n hx hb dX11_sheet_79 rfl (lv_at hl 1 rfl) ?_
                refine lv_iload_n hx hb dX11_sheet_80 rfl (lv_at hl 2 rfl) ?_
                refine b_if_ne hx hb rfl (tgt := 88) dX11_sheet_81 (by decide) (fun c_63 => ?_) (fun c_63 => by exfalso; omega)
                refine lv_iload_n hx hb dX11_sheet_88 rfl (lv_at hl 3 rfl) ?_
                refine va_iast hx hb hK hP hD hS 2 0 rfl rfl (k_in (by omega) (by omega)) dX11_sheet_89 (fun H locs hP hD hS => ?_)
                have hP : va_P D vwCl [(h, .inr (11, [.ref ys, .ref yk, .ref yt, .int m3, .ref yf, .ref yb, .ref yz, .ref yn, .ref yc, .int m9, .ref yp, .ref yw, .int m12, .int m13, .int m14, .int m15, .int m16, .int m17, .int m18, .int m19, .int m20, .ref ye, .int m22, .int m23, .ref yx])), (yb, .inl (cI, 4, .inl f_62)), (yz, .inl (cI, 4, .inl (upd f1 a.toNatClampNeg d))), (yn, .inl (cI, 144, .inl f2)), (yf, .inl (cI, 6, .inl ff))] H := hP
                have hD : va_D A [(h, .inr (11, [.ref ys, .ref yk, .ref yt, .int m3, .ref yf, .ref yb, .ref yz, .ref yn, .ref yc, .int m9, .ref yp, .ref yw, .int m12, .int m13, .int m14, .int m15, .int m16, .int m17, .int m18, .int m19, .int m20, .ref ye, .int m22, .int m23, .ref yx])), (yb, .inl (cI, 4, .inl f_62)), (yz, .inl (cI, 4, .inl (upd f1 a.toNatClampNeg d))), (yn, .inl (cI, 144, .inl f2)), (yf, .inl (cI, 6, .inl ff))] := hD
                obtain ⟨f_64, ef_64⟩ : ∃ g : Nat → Int32, g = upd f1 a.toNatClampNeg d := ⟨_, rfl⟩
                rw [← ef_64] at hP hD
                refine lv_iconst (v := 0) hx hb dX11_sheet_90 (by decide) ?_
                refine lv_istore (lv' := [(4, .int 0), (0, .ref h), (1, .int a), (2, .int b), (3, .int d)]) hx hb dX11_sheet_91 hl (by decide) rfl (fun ls hl => ?_)
                have hloop_93 : ∀ (fu_ : Nat) (i : Int32) (q : Nat → Int32), 0 ≤ i.toInt → i.toInt ≤ 36 → (36 - i.toInt).toNat < fu_ → ∀ (ls : Array Slot) (H : Heap) (locs : List Loc), lv_has ls 5 [(4, .int i), (0, .ref h), (1, .int a), (2, .int b), (3, .int d)] → va_P D vwCl [(h, .inr (11, [.ref ys, .ref yk, .ref yt, .int m3, .ref yf, .ref yb, .ref yz, .ref yn, .ref yc, .int m9, .ref yp, .ref yw, .int m12, .int m13, .int m14, .int m15, .int m16, .int m17, .int m18, .int m19, .int m20, .ref ye, .int m22, .int m23, .ref yx])), (yb, .inl (cI, 4, .inl f_62)), (yz, .inl (cI, 4, .inl f_64)), (yn, .inl (cI, 144, .inl q)), (yf, .inl (cI, 6, .inl ff))] H → va_D A [(h, .inr (11, [.ref ys, .ref yk, .ref yt, .int m3, .ref yf, .ref yb, .ref yz, .ref yn, .ref yc, .int m9, .ref yp, .ref yw, .int m12, .int m13, .int m14, .int m15, .int m16, .int m17, .int m18, .int m19, .int m20, .ref ye, .int m22, .int m23, .ref yx])), (yb, .inl (cI, 4, .inl f_62)), (yz, .inl (cI, 4, .inl f_64)), (yn, .inl (cI, 144, .inl q)), (yf, .inl (cI, 6, .inl ff))] → va_S A s.heap H locs → W p l e ({ frames := 2, cells := 0, slots := 0, locals := 42 } : Room) s m args below meth c H locs 0 0 Q (F0 m 93 ls []) := by
                  intro fu_; induction fu_ with
                  | zero => intro i q i93_0 i93_1 hm; exact absurd hm (by omega)
                  | succ fu_ ih93 =>
                      intro i q i93_0 i93_1 hm ls H locs hl hP hD hS
                      have lo_i := k_lo i
                      have hi_i := k_hi i
                      refine lv_iload hx hb dX11_sheet_93 (lv_at hl 0 rfl) ?_
                      refine lv_bipush (v := 36) hx hb dX11_sheet_95 (by decide) ?_
                      refine b_icmp_ge hx hb rfl zl_36 (tgt := 119) dX11_sheet_97 (by decide) (fun c_65 => ?_) (fun c_65 => ?_)
                      · refine lv_iconst (v := 1) hx hb dX11_sheet_119 (by decide) ?_
                        exact hRet () [] (by unfold sp_sheet; repeat (first | rw [if_pos (by omega)] | rw [if_neg (by omega)])) hP hD (by decide) rfl hS rfl dX11_sheet_120
                      · refine lv_aload_n hx hb dX11_sheet_100 rfl (lv_at hl 1 rfl) ?_
                        refine va_get (D := D) (ci := 11) (v := .ref yn) (C := RX11) (T := TX11) (N := 25) hx hb hT giX11 hown hK hP 0 rfl rfl 7 (by decide) (hT (Cond.fieldLink RX11 28 "DesertWireModel" "number" "[I") mw_1163) (fun _ h9 => h9) rfl dX11_sheet_101 ?_
                        refine lv_bipush (v := 36) hx hb dX11_sheet_104 (by decide) ?_
                        refine lv_iload_n hx hb dX11_sheet_106 rfl (lv_at hl 2 rfl) ?_
                        refine lv_imul hx hb dX11_sheet_107 ?_
                        refine lv_topi (fun v_66 ev_66 => ?_)
                        have tv_66 : v_66.toInt = 36 * a.toInt := by rw [ev_66]; exact k_mulv zl_36 rfl (by omega) (by omega)
                        refine lv_iload hx hb dX11_sheet_108 (lv_at hl 0 rfl) ?_
                        refine lv_iadd hx hb dX11_sheet_110 ?_
                        refine lv_topi (fun v_67 ev_67 => ?_)
                        have tv_67 : v_67.toInt = v_66.toInt + i.toInt := by rw [ev_67]; exact k_addv rfl rfl (by omega) (by omega)
                        refine lv_iconst (v := 0) hx hb dX11_sheet_111 (by decide) ?_
                        refine va_iast hx hb hK hP hD hS 3 0 rfl rfl (k_in (by omega) (by omega)) dX11_sheet_112 (fun H locs hP hD hS => ?_)
                        have hP : va_P D vwCl [(h, .inr (11, [.ref ys, .ref yk, .ref yt, .int m3, .ref yf, .ref yb, .ref yz, .ref yn, .ref yc, .int m9, .ref yp, .ref yw, .int m12, .int m13, .int m14, .int m15, .int m16, .int m17, .int m18, .int m19, .int m20, .ref ye, .int m22, .int m23, .ref yx])), (yb, .inl (cI, 4, .inl f_62)), (yz, .inl (cI, 4, .inl f_64)), (yn, .inl (cI, 144, .inl (upd q v_67.toNatClampNeg 0))), (yf, .inl (cI, 6, .inl ff))] H := hP
                        have hD : va_D A [(h, .inr (11, [.ref ys, .ref yk, .ref yt, .int m3, .ref yf, .ref yb, .ref yz, .ref yn, .ref yc, .int m9, .ref yp, .ref yw, .int m12, .int m13, .int m14, .int m15, .int m16, .int m17, .int m18, .int m19, .int m20, .ref ye, .int m22, .int m23, .ref yx])), (yb, .inl (cI, 4, .inl f_62)), (yz, .inl (cI, 4, .inl f_64)), (yn, .inl (cI, 144, .inl (upd q v_67.toNatClampNeg 0))), (yf, .inl (cI, 6, .inl ff))] := hD
                        obtain ⟨f_68, ef_68⟩ : ∃ g : Nat → Int32, g = upd q v_67.toNatClampNeg 0 := ⟨_, rfl⟩
                        rw [← ef_68] at hP hD
                        obtain ⟨v_69, ev_69⟩ : ∃ y : Int32, y = i + 1 := ⟨_, rfl⟩
                        have tv_69 : v_69.toInt = i.toInt + 1 := by rw [ev_69]; exact k_addv rfl zl_1 (by omega) (by omega)
                        refine lv_iinc (v := v_69) (lv' := [(4, .int v_69), (0, .ref h), (1, .int a), (2, .int b), (3, .int d)]) hx hb dX11_sheet_113 hl (k := 0) rfl (by rw [ev_69]; rfl) (by decide) rfl (fun ls hl => ?_)
                        refine lv_goto (tgt := 93) hx hb dX11_sheet_116 (by decide) ?_
                        exact ih93 v_69 f_68 (by first | omega | decide | assumption | rfl) (by first | omega | decide | assumption | rfl) (by omega) ls _ _ (lv_sub hl [0, 1, 2, 3, 4] rfl) (hP.sub [0, 1, 2, 3, 4] rfl) (hD.sub [0, 1, 2, 3, 4] (by decide) rfl) hS
                exact hloop_93 _ 0 f2 (by first | omega | (simp only [zl_0] <;> omega) | decide | assumption | rfl) (by first | omega | (simp only [zl_0] <;> omega) | decide | assumption | rfl) (Nat.lt_succ_self _) ls _ _ (lv_sub hl [0, 1, 2, 3, 4] rfl) hP hD hS
              · refine lv_aload_n hx hb dX11_sheet_61 rfl (lv_at hl 0 rfl) ?_
                refine lv_ldc (v := (-1000001)) hx hb hown (hT _ mw_1239) dX11_sheet_62 ?_
                refine kJi (wr := [(yb, .inl (cI, 4, .inl f0)), (yz, .inl (cI, 4, .inl f1)), (yn, .inl (cI, 144, .inl f2))]) (va_runV (As := [.int (-1000001)]) (rest := []) ⟨hx, hb, hml, hown, hT⟩ (c_X11_finding l D cI h ys yk yt yf yb yz yn yc yp yw ye yx H.size m3 m9 m12 m13 m14 m15 m16 m17 m18 m19 m20 m22 m23 ff (-1000001) (by first | omega | (simp only [zl_m1000001] <;> omega) | decide | assumption | rfl) (by first | omega | (simp only [zl_m1000001] <;> omega) | decide | assumption | rfl)) (cwV 1 hT (gV_in mw_1243 mw_1240 mw_1242 mw_p3_8 mw_12) rfl rfl rfl (by decide +kernel) ⟨Nat.le_of_ble_eq_true rfl, Nat.le_of_ble_eq_true rfl⟩) (kRecv (own := "") (q0 := 0) (ci := 11) hK hP hD hN rfl rfl [0, 4] rfl (by decide)) rfl rfl hl.1 rfl (lv_room (Nat.le_of_ble_eq_true rfl)) dX11_sheet_64 ⟨Nat.le_of_ble_eq_true rfl, Nat.le_of_ble_eq_true rfl⟩) hP hD hS hA [0, 4] [1, 2, 3] rfl rfl (by decide) (by decide) (fun r_70 u_72 H locs w_71 hP hD hS => ?_)
                have hP : va_P D vwCl [(yb, .inl (cI, 4, .inl f0)), (yz, .inl (cI, 4, .inl f1)), (yn, .inl (cI, 144, .inl f2))] H := hP
                have hD : va_D A [(yb, .inl (cI, 4, .inl f0)), (yz, .inl (cI, 4, .inl f1)), (yn, .inl (cI, 144, .inl f2))] := hD
                have hr_70 := w_71
                obtain rfl : r_70 = (-1000001) := hr_70.trans (by decide)
                exact hRet () [] (by unfold sp_sheet; repeat (first | rw [if_pos (by omega)] | rw [if_neg (by omega)])) hP hD (by decide) rfl hS rfl dX11_sheet_67
            · refine lv_aload_n hx hb dX11_sheet_44 rfl (lv_at hl 0 rfl) ?_
              refine lv_ldc (v := (-1000003)) hx hb hown (hT _ mw_1356) dX11_sheet_45 ?_
              refine kJi (wr := [(yb, .inl (cI, 4, .inl f0)), (yz, .inl (cI, 4, .inl f1)), (yn, .inl (cI, 144, .inl f2))]) (va_runV (As := [.int (-1000003)]) (rest := []) ⟨hx, hb, hml, hown, hT⟩ (c_X11_finding l D cI h ys yk yt yf yb yz yn yc yp yw ye yx H.size m3 m9 m12 m13 m14 m15 m16 m17 m18 m19 m20 m22 m23 ff (-1000003) (by first | omega | (simp only [zl_m1000003] <;> omega) | decide | assumption | rfl) (by first | omega | (simp only [zl_m1000003] <;> omega) | decide | assumption | rfl)) (cwV 1 hT (gV_in mw_1243 mw_1240 mw_1242 mw_p3_8 mw_12) rfl rfl rfl (by decide +kernel) ⟨Nat.le_of_ble_eq_true rfl, Nat.le_of_ble_eq_true rfl⟩) (kRecv (own := "") (q0 := 0) (ci := 11) hK hP hD hN rfl rfl [0, 4] rfl (by decide)) rfl rfl hl.1 rfl (lv_room (Nat.le_of_ble_eq_true rfl)) dX11_sheet_47 ⟨Nat.le_of_ble_eq_true rfl, Nat.le_of_ble_eq_true rfl⟩) hP hD hS hA [0, 4] [1, 2, 3] rfl rfl (by decide) (by decide) (fun r_73 u_75 H locs w_74 hP hD hS => ?_)
              have hP : va_P D vwCl [(yb, .inl (cI, 4, .inl f0)), (yz, .inl (cI, 4, .inl f1)), (yn, .inl (cI, 144, .inl f2))] H := hP
              have hD : va_D A [(yb, .inl (cI, 4, .inl f0)), (yz, .inl (cI, 4, .inl f1)), (yn, .inl (cI, 144, .inl f2))] := hD
              have hr_73 := w_74
              obtain rfl : r_73 = (-1000003) := hr_73.trans (by decide)
              exact hRet () [] (by unfold sp_sheet; repeat (first | rw [if_pos (by omega)] | rw [if_neg (by omega)])) hP hD (by decide) rfl hS rfl dX11_sheet_50
          · refine lv_aload_n hx hb dX11_sheet_29 rfl (lv_at hl 0 rfl) ?_
            refine lv_ldc (v := (-1000001)) hx hb hown (hT _ mw_1239) dX11_sheet_30 ?_
            refine kJi (wr := [(yb, .inl (cI, 4, .inl f0)), (yz, .inl (cI, 4, .inl f1)), (yn, .inl (cI, 144, .inl f2))]) (va_runV (As := [.int (-1000001)]) (rest := []) ⟨hx, hb, hml, hown, hT⟩ (c_X11_finding l D cI h ys yk yt yf yb yz yn yc yp yw ye yx H.size m3 m9 m12 m13 m14 m15 m16 m17 m18 m19 m20 m22 m23 ff (-1000001) (by first | omega | (simp only [zl_m1000001] <;> omega) | decide | assumption | rfl) (by first | omega | (simp only [zl_m1000001] <;> omega) | decide | assumption | rfl)) (cwV 1 hT (gV_in mw_1243 mw_1240 mw_1242 mw_p3_8 mw_12) rfl rfl rfl (by decide +kernel) ⟨Nat.le_of_ble_eq_true rfl, Nat.le_of_ble_eq_true rfl⟩) (kRecv (own := "") (q0 := 0) (ci := 11) hK hP hD hN rfl rfl [0, 4] rfl (by decide)) rfl rfl hl.1 rfl (lv_room (Nat.le_of_ble_eq_true rfl)) dX11_sheet_32 ⟨Nat.le_of_ble_eq_true rfl, Nat.le_of_ble_eq_true rfl⟩) hP hD hS hA [0, 4] [1, 2, 3] rfl rfl (by decide) (by decide) (fun r_76 u_78 H locs w_77 hP hD hS => ?_)
            have hP : va_P D vwCl [(yb, .inl (cI, 4, .inl f0)), (yz, .inl (cI, 4, .inl f1)), (yn, .inl (cI, 144, .inl f2))] H := hP
            have hD : va_D A [(yb, .inl (cI, 4, .inl f0)), (yz, .inl (cI, 4, .inl f1)), (yn, .inl (cI, 144, .inl f2))] := hD
            have hr_76 := w_77
            obtain rfl : r_76 = (-1000001) := hr_76.trans (by decide)
            exact hRet () [] (by unfold sp_sheet; repeat (first | rw [if_pos (by omega)] | rw [if_neg (by omega)])) hP hD (by decide) rfl hS rfl dX11_sheet_35
  · have h_6 : a.toInt < 0 ∨ 3 < a.toInt := h_6
    obtain rfl : r_1 = 0 := hr_1.trans (by decide)
    refine b_if_eq hx hb zl_0 (tgt := 29) dX11_sheet_4 (by decide) (fun c_79 => ?_) (fun c_79 => by exfalso; omega)
    refine lv_aload_n hx hb dX11_sheet_29 rfl (lv_at hl 0 rfl) ?_
    refine lv_ldc (v := (-1000001)) hx hb hown (hT _ mw_1239) dX11_sheet_30 ?_
    refine kJi (wr := [(yb, .inl (cI, 4, .inl f0)), (yz, .inl (cI, 4, .inl f1)), (yn, .inl (cI, 144, .inl f2))]) (va_runV (As := [.int (-1000001)]) (rest := []) ⟨hx, hb, hml, hown, hT⟩ (c_X11_finding l D cI h ys yk yt yf yb yz yn yc yp yw ye yx H.size m3 m9 m12 m13 m14 m15 m16 m17 m18 m19 m20 m22 m23 ff (-1000001) (by first | omega | (simp only [zl_m1000001] <;> omega) | decide | assumption | rfl) (by first | omega | (simp only [zl_m1000001] <;> omega) | decide | assumption | rfl)) (cwV 1 hT (gV_in mw_1243 mw_1240 mw_1242 mw_p3_8 mw_12) rfl rfl rfl (by decide +kernel) ⟨Nat.le_of_ble_eq_true rfl, Nat.le_of_ble_eq_true rfl⟩) (kRecv (own := "") (q0 := 0) (ci := 11) hK hP hD hN rfl rfl [0, 4] rfl (by decide)) rfl rfl hl.1 rfl (lv_room (Nat.le_of_ble_eq_true rfl)) dX11_sheet_32 ⟨Nat.le_of_ble_eq_true rfl, Nat.le_of_ble_eq_true rfl⟩) hP hD hS hA [0, 4] [1, 2, 3] rfl rfl (by decide) (by decide) (fun r_80 u_82 H locs w_81 hP hD hS => ?_)
    have hP : va_P D vwCl [(yb, .inl (cI, 4, .inl f0)), (yz, .inl (cI, 4, .inl f1)), (yn, .inl (cI, 144, .inl f2))] H := hP
    have hD : va_D A [(yb, .inl (cI, 4, .inl f0)), (yz, .inl (cI, 4, .inl f1)), (yn, .inl (cI, 144, .inl f2))] := hD
    have hr_80 := w_81
    obtain rfl : r_80 = (-1000001) := hr_80.trans (by decide)
    exact hRet () [] (by unfold sp_sheet; repeat (first | rw [if_pos (by omega)] | rw [if_neg (by omega)])) hP hD (by decide) rfl hS rfl dX11_sheet_35
set_option maxHeartbeats 4000000 in
set_option maxRecDepth 100000 in
theorem c_X11_put (l : Launch) (D : va_G) (cI : ClassId) (h ys yk yt yf yb yz yn yc yp yw ye yx : Nat) (sz : Nat) (m3 : Int32) (m9 : Int32) (m12 : Int32) (m13 : Int32) (m14 : Int32) (m15 : Int32) (m16 : Int32) (m17 : Int32) (m18 : Int32) (m19 : Int32) (m20 : Int32) (m22 : Int32) (m23 : Int32) (ff : Nat → Int32) (a : Int32) (b : Int32) (d : Int32) : Met l yX11_put (gW yX11_put cX11_put 5 (some .int)) ({ frames := 2, cells := 0, slots := 0, locals := 42 } : Room) (kPre D cI [.ref h, .int a, .int b, .int d] [(h, .inr (11, [.ref ys, .ref yk, .ref yt, .int m3, .ref yf, .ref yb, .ref yz, .ref yn, .ref yc, .int m9, .ref yp, .ref yw, .int m12, .int m13, .int m14, .int m15, .int m16, .int m17, .int m18, .int m19, .int m20, .ref ye, .int m22, .int m23, .ref yx])), (yb, .inl (cI, 4, .inl (fun _ => (0 : Int32)))), (yf, .inl (cI, 6, .inl ff))] sz) (va_Qi (fun (r : Int32) (u : Unit) => r = sp_put a) (fun u t => kWd D cI (va_A [(h, .inr (11, [.ref ys, .ref yk, .ref yt, .int m3, .ref yf, .ref yb, .ref yz, .ref yn, .ref yc, .int m9, .ref yp, .ref yw, .int m12, .int m13, .int m14, .int m15, .int m16, .int m17, .int m18, .int m19, .int m20, .ref ye, .int m22, .int m23, .ref yx])), (yb, .inl (cI, 4, .inl (fun _ => (0 : Int32)))), (yf, .inl (cI, 6, .inl ff))] sz) [] t) (va_A [(h, .inr (11, [.ref ys, .ref yk, .ref yt, .int m3, .ref yf, .ref yb, .ref yz, .ref yn, .ref yc, .int m9, .ref yp, .ref yw, .int m12, .int m13, .int m14, .int m15, .int m16, .int m17, .int m18, .int m19, .int m20, .ref ye, .int m22, .int m23, .ref yx])), (yb, .inl (cI, 4, .inl (fun _ => (0 : Int32)))), (yf, .inl (cI, 6, .inl ff))] sz)) 0 0 (va_A [(h, .inr (11, [.ref ys, .ref yk, .ref yt, .int m3, .ref yf, .ref yb, .ref yz, .ref yn, .ref yc, .int m9, .ref yp, .ref yw, .int m12, .int m13, .int m14, .int m15, .int m16, .int m17, .int m18, .int m19, .int m20, .ref ye, .int m22, .int m23, .ref yx])), (yb, .inl (cI, 4, .inl (fun _ => (0 : Int32)))), (yf, .inl (cI, 6, .inl ff))] sz) := by
  refine kMetI (own := RX11) (by decide) rfl (Nat.le_of_ble_eq_true rfl) ?_
  intro p e s m args below meth c hx hb hT hown hname hml A Q hK hP hD hS hA hN hRet ls hl
  have hl : lv_has ls 5 [(0, .ref h), (1, .int a), (2, .int b), (3, .int d)] := hl
  have lo_a := k_lo a
  have hi_a := k_hi a
  have lo_b := k_lo b
  have hi_b := k_hi b
  have lo_d := k_lo d
  have hi_d := k_hi d
  have lo_m3 := k_lo m3
  have hi_m3 := k_hi m3
  have lo_m9 := k_lo m9
  have hi_m9 := k_hi m9
  have lo_m12 := k_lo m12
  have hi_m12 := k_hi m12
  have lo_m13 := k_lo m13
  have hi_m13 := k_hi m13
  have lo_m14 := k_lo m14
  have hi_m14 := k_hi m14
  have lo_m15 := k_lo m15
  have hi_m15 := k_hi m15
  have lo_m16 := k_lo m16
  have hi_m16 := k_hi m16
  have lo_m17 := k_lo m17
  have hi_m17 := k_hi m17
  have lo_m18 := k_lo m18
  have hi_m18 := k_hi m18
  have lo_m19 := k_lo m19
  have hi_m19 := k_hi m19
  have lo_m20 := k_lo m20
  have hi_m20 := k_hi m20
  have lo_m22 := k_lo m22
  have hi_m22 := k_hi m22
  have lo_m23 := k_lo m23
  have hi_m23 := k_hi m23
  refine lv_iload_n hx hb dX11_put_0 rfl (lv_at hl 1 rfl) ?_
  refine kJi (wr := [(h, .inr (11, [.ref ys, .ref yk, .ref yt, .int m3, .ref yf, .ref yb, .ref yz, .ref yn, .ref yc, .int m9, .ref yp, .ref yw, .int m12, .int m13, .int m14, .int m15, .int m16, .int m17, .int m18, .int m19, .int m20, .ref ye, .int m22, .int m23, .ref yx])), (yb, .inl (cI, 4, .inl (fun _ => (0 : Int32)))), (yf, .inl (cI, 6, .inl ff))]) (va_runS (As := [.int a]) (rest := []) ⟨hx, hb, hml, hown, hT⟩ (c_X11_isSheet l D cI s.heap.size a) (cwS 1 hT (gS_in mw_1391 mw_1389 mw_1390 mw_12) rfl rfl rfl (by decide +kernel) ⟨Nat.le_of_ble_eq_true rfl, Nat.le_of_ble_eq_true rfl⟩) (kStat hK hP hD hN [] rfl (by decide)) rfl rfl hl.1 rfl (lv_room (Nat.le_of_ble_eq_true rfl)) dX11_put_1 ⟨Nat.le_of_ble_eq_true rfl, Nat.le_of_ble_eq_true rfl⟩) hP hD hS hA [] [0, 1, 2] rfl rfl (by decide) (by decide) (fun r_1 u_3 H locs w_2 hP hD hS => ?_)
  have hP : va_P D vwCl [(h, .inr (11, [.ref ys, .ref yk, .ref yt, .int m3, .ref yf, .ref yb, .ref yz, .ref yn, .ref yc, .int m9, .ref yp, .ref yw, .int m12, .int m13, .int m14, .int m15, .int m16, .int m17, .int m18, .int m19, .int m20, .ref ye, .int m22, .int m23, .ref yx])), (yb, .inl (cI, 4, .inl (fun _ => (0 : Int32)))), (yf, .inl (cI, 6, .inl ff))] H := hP
  have hD : va_D A [(h, .inr (11, [.ref ys, .ref yk, .ref yt, .int m3, .ref yf, .ref yb, .ref yz, .ref yn, .ref yc, .int m9, .ref yp, .ref yw, .int m12, .int m13, .int m14, .int m15, .int m16, .int m17, .int m18, .int m19, .int m20, .ref ye, .int m22, .int m23, .ref yx])), (yb, .inl (cI, 4, .inl (fun _ => (0 : Int32)))), (yf, .inl (cI, 6, .inl ff))] := hD
  rcases w_2 with ⟨hr_1, h_4, h_5⟩ | ⟨hr_1, h_6⟩
  · have h_4 : 0 ≤ a.toInt := h_4
    have h_5 : a.toInt ≤ 3 := h_5
    obtain rfl : r_1 = 1 := hr_1.trans (by decide)
    refine b_if_ne hx hb zl_1 (tgt := 14) dX11_put_4 (by decide) (fun c_7 => ?_) (fun c_7 => by exfalso; omega)
    refine lv_aload_n hx hb dX11_put_14 rfl (lv_at hl 0 rfl) ?_
    refine va_get (D := D) (ci := 11) (v := .ref yb) (C := RX11) (T := TX11) (N := 25) hx hb hT giX11 hown hK hP 0 rfl rfl 5 (by decide) (hT (Cond.fieldLink RX11 22 "DesertWireModel" "bits" "[I") mw_1161) (fun _ h9 => h9) rfl dX11_put_15 ?_
    refine lv_iload_n hx hb dX11_put_18 rfl (lv_at hl 1 rfl) ?_
    refine k_iald (v := 0) hx hb hK hP 1 0 rfl rfl (k_in (by omega) (by omega)) rfl dX11_put_19 ?_
    refine b_if_ne hx hb zl_0 (tgt := 30) dX11_put_20 (by decide) (fun c_8 => by exfalso; omega) (fun c_8 => ?_)
    refine lv_aload_n hx hb dX11_put_23 rfl (lv_at hl 0 rfl) ?_
    refine lv_ldc (v := (-1000002)) hx hb hown (hT _ mw_1392) dX11_put_24 ?_
    refine kJi (wr := [(yb, .inl (cI, 4, .inl (fun _ => (0 : Int32))))]) (va_runV (As := [.int (-1000002)]) (rest := []) ⟨hx, hb, hml, hown, hT⟩ (c_X11_finding l D cI h ys yk yt yf yb yz yn yc yp yw ye yx H.size m3 m9 m12 m13 m14 m15 m16 m17 m18 m19 m20 m22 m23 ff (-1000002) (by first | omega | (simp only [zl_m1000002] <;> omega) | decide | assumption | rfl) (by first | omega | (simp only [zl_m1000002] <;> omega) | decide | assumption | rfl)) (cwV 1 hT (gV_in mw_1243 mw_1240 mw_1242 mw_p3_8 mw_12) rfl rfl rfl (by decide +kernel) ⟨Nat.le_of_ble_eq_true rfl, Nat.le_of_ble_eq_true rfl⟩) (kRecv (own := "") (q0 := 0) (ci := 11) hK hP hD hN rfl rfl [0, 2] rfl (by decide)) rfl rfl hl.1 rfl (lv_room (Nat.le_of_ble_eq_true rfl)) dX11_put_26 ⟨Nat.le_of_ble_eq_true rfl, Nat.le_of_ble_eq_true rfl⟩) hP hD hS hA [0, 2] [1] rfl rfl (by decide) (by decide) (fun r_9 u_11 H locs w_10 hP hD hS => ?_)
    have hP : va_P D vwCl [(yb, .inl (cI, 4, .inl (fun _ => (0 : Int32))))] H := hP
    have hD : va_D A [(yb, .inl (cI, 4, .inl (fun _ => (0 : Int32))))] := hD
    have hr_9 := w_10
    obtain rfl : r_9 = (-1000002) := hr_9.trans (by decide)
    exact hRet () [] (by unfold sp_put; repeat (first | rw [if_pos (by omega)] | rw [if_neg (by omega)])) hP hD (by decide) rfl hS rfl dX11_put_29
  · have h_6 : a.toInt < 0 ∨ 3 < a.toInt := h_6
    obtain rfl : r_1 = 0 := hr_1.trans (by decide)
    refine b_if_ne hx hb zl_0 (tgt := 14) dX11_put_4 (by decide) (fun c_12 => by exfalso; omega) (fun c_12 => ?_)
    refine lv_aload_n hx hb dX11_put_7 rfl (lv_at hl 0 rfl) ?_
    refine lv_ldc (v := (-1000001)) hx hb hown (hT _ mw_1239) dX11_put_8 ?_
    refine kJi (wr := [(yb, .inl (cI, 4, .inl (fun _ => (0 : Int32))))]) (va_runV (As := [.int (-1000001)]) (rest := []) ⟨hx, hb, hml, hown, hT⟩ (c_X11_finding l D cI h ys yk yt yf yb yz yn yc yp yw ye yx H.size m3 m9 m12 m13 m14 m15 m16 m17 m18 m19 m20 m22 m23 ff (-1000001) (by first | omega | (simp only [zl_m1000001] <;> omega) | decide | assumption | rfl) (by first | omega | (simp only [zl_m1000001] <;> omega) | decide | assumption | rfl)) (cwV 1 hT (gV_in mw_1243 mw_1240 mw_1242 mw_p3_8 mw_12) rfl rfl rfl (by decide +kernel) ⟨Nat.le_of_ble_eq_true rfl, Nat.le_of_ble_eq_true rfl⟩) (kRecv (own := "") (q0 := 0) (ci := 11) hK hP hD hN rfl rfl [0, 2] rfl (by decide)) rfl rfl hl.1 rfl (lv_room (Nat.le_of_ble_eq_true rfl)) dX11_put_10 ⟨Nat.le_of_ble_eq_true rfl, Nat.le_of_ble_eq_true rfl⟩) hP hD hS hA [0, 2] [1] rfl rfl (by decide) (by decide) (fun r_13 u_15 H locs w_14 hP hD hS => ?_)
    have hP : va_P D vwCl [(yb, .inl (cI, 4, .inl (fun _ => (0 : Int32))))] H := hP
    have hD : va_D A [(yb, .inl (cI, 4, .inl (fun _ => (0 : Int32))))] := hD
    have hr_13 := w_14
    obtain rfl : r_13 = (-1000001) := hr_13.trans (by decide)
    exact hRet () [] (by unfold sp_put; repeat (first | rw [if_pos (by omega)] | rw [if_neg (by omega)])) hP hD (by decide) rfl hS rfl dX11_put_13
set_option maxHeartbeats 4000000 in
set_option maxRecDepth 100000 in
theorem c_X11_move (l : Launch) (D : va_G) (cI : ClassId) (h ys yk yt yf yb yz yn yc yp yw ye yx : Nat) (sz : Nat) (m3 : Int32) (m9 : Int32) (m12 : Int32) (m13 : Int32) (m14 : Int32) (m15 : Int32) (m16 : Int32) (m17 : Int32) (m18 : Int32) (m19 : Int32) (m20 : Int32) (m22 : Int32) (m23 : Int32) (ff : Nat → Int32) (a : Int32) (b : Int32) (d : Int32) (g : Int32) (i0 : Int32) : Met l yX11_move (gW yX11_move cX11_move 7 (some .int)) ({ frames := 2, cells := 0, slots := 0, locals := 42 } : Room) (kPre D cI [.ref h, .int a, .int b, .int d, .int g, .int i0] [(h, .inr (11, [.ref ys, .ref yk, .ref yt, .int m3, .ref yf, .ref yb, .ref yz, .ref yn, .ref yc, .int m9, .ref yp, .ref yw, .int m12, .int m13, .int m14, .int m15, .int m16, .int m17, .int m18, .int m19, .int m20, .ref ye, .int m22, .int m23, .ref yx])), (yb, .inl (cI, 4, .inl (fun _ => (0 : Int32)))), (yf, .inl (cI, 6, .inl ff))] sz) (va_Qi (fun (r : Int32) (u : Unit) => r = sp_move a d) (fun u t => kWd D cI (va_A [(h, .inr (11, [.ref ys, .ref yk, .ref yt, .int m3, .ref yf, .ref yb, .ref yz, .ref yn, .ref yc, .int m9, .ref yp, .ref yw, .int m12, .int m13, .int m14, .int m15, .int m16, .int m17, .int m18, .int m19, .int m20, .ref ye, .int m22, .int m23, .ref yx])), (yb, .inl (cI, 4, .inl (fun _ => (0 : Int32)))), (yf, .inl (cI, 6, .inl ff))] sz) [] t) (va_A [(h, .inr (11, [.ref ys, .ref yk, .ref yt, .int m3, .ref yf, .ref yb, .ref yz, .ref yn, .ref yc, .int m9, .ref yp, .ref yw, .int m12, .int m13, .int m14, .int m15, .int m16, .int m17, .int m18, .int m19, .int m20, .ref ye, .int m22, .int m23, .ref yx])), (yb, .inl (cI, 4, .inl (fun _ => (0 : Int32)))), (yf, .inl (cI, 6, .inl ff))] sz)) 0 0 (va_A [(h, .inr (11, [.ref ys, .ref yk, .ref yt, .int m3, .ref yf, .ref yb, .ref yz, .ref yn, .ref yc, .int m9, .ref yp, .ref yw, .int m12, .int m13, .int m14, .int m15, .int m16, .int m17, .int m18, .int m19, .int m20, .ref ye, .int m22, .int m23, .ref yx])), (yb, .inl (cI, 4, .inl (fun _ => (0 : Int32)))), (yf, .inl (cI, 6, .inl ff))] sz) := by
  refine kMetI (own := RX11) (by decide) rfl (Nat.le_of_ble_eq_true rfl) ?_
  intro p e s m args below meth c hx hb hT hown hname hml A Q hK hP hD hS hA hN hRet ls hl
  have hl : lv_has ls 7 [(0, .ref h), (1, .int a), (2, .int b), (3, .int d), (4, .int g), (5, .int i0)] := hl
  have lo_a := k_lo a
  have hi_a := k_hi a
  have lo_b := k_lo b
  have hi_b := k_hi b
  have lo_d := k_lo d
  have hi_d := k_hi d
  have lo_g := k_lo g
  have hi_g := k_hi g
  have lo_i0 := k_lo i0
  have hi_i0 := k_hi i0
  have lo_m3 := k_lo m3
  have hi_m3 := k_hi m3
  have lo_m9 := k_lo m9
  have hi_m9 := k_hi m9
  have lo_m12 := k_lo m12
  have hi_m12 := k_hi m12
  have lo_m13 := k_lo m13
  have hi_m13 := k_hi m13
  have lo_m14 := k_lo m14
  have hi_m14 := k_hi m14
  have lo_m15 := k_lo m15
  have hi_m15 := k_hi m15
  have lo_m16 := k_lo m16
  have hi_m16 := k_hi m16
  have lo_m17 := k_lo m17
  have hi_m17 := k_hi m17
  have lo_m18 := k_lo m18
  have hi_m18 := k_hi m18
  have lo_m19 := k_lo m19
  have hi_m19 := k_hi m19
  have lo_m20 := k_lo m20
  have hi_m20 := k_hi m20
  have lo_m22 := k_lo m22
  have hi_m22 := k_hi m22
  have lo_m23 := k_lo m23
  have hi_m23 := k_hi m23
  refine lv_iload_n hx hb dX11_move_0 rfl (lv_at hl 1 rfl) ?_
  refine kJi (wr := [(h, .inr (11, [.ref ys, .ref yk, .ref yt, .int m3, .ref yf, .ref yb, .ref yz, .ref yn, .ref yc, .int m9, .ref yp, .ref yw, .int m12, .int m13, .int m14, .int m15, .int m16, .int m17, .int m18, .int m19, .int m20, .ref ye, .int m22, .int m23, .ref yx])), (yb, .inl (cI, 4, .inl (fun _ => (0 : Int32)))), (yf, .inl (cI, 6, .inl ff))]) (va_runS (As := [.int a]) (rest := []) ⟨hx, hb, hml, hown, hT⟩ (c_X11_isSheet l D cI s.heap.size a) (cwS 1 hT (gS_in mw_1391 mw_1389 mw_1390 mw_12) rfl rfl rfl (by decide +kernel) ⟨Nat.le_of_ble_eq_true rfl, Nat.le_of_ble_eq_true rfl⟩) (kStat hK hP hD hN [] rfl (by decide)) rfl rfl hl.1 rfl (lv_room (Nat.le_of_ble_eq_true rfl)) dX11_move_1 ⟨Nat.le_of_ble_eq_true rfl, Nat.le_of_ble_eq_true rfl⟩) hP hD hS hA [] [0, 1, 2] rfl rfl (by decide) (by decide) (fun r_1 u_3 H locs w_2 hP hD hS => ?_)
  have hP : va_P D vwCl [(h, .inr (11, [.ref ys, .ref yk, .ref yt, .int m3, .ref yf, .ref yb, .ref yz, .ref yn, .ref yc, .int m9, .ref yp, .ref yw, .int m12, .int m13, .int m14, .int m15, .int m16, .int m17, .int m18, .int m19, .int m20, .ref ye, .int m22, .int m23, .ref yx])), (yb, .inl (cI, 4, .inl (fun _ => (0 : Int32)))), (yf, .inl (cI, 6, .inl ff))] H := hP
  have hD : va_D A [(h, .inr (11, [.ref ys, .ref yk, .ref yt, .int m3, .ref yf, .ref yb, .ref yz, .ref yn, .ref yc, .int m9, .ref yp, .ref yw, .int m12, .int m13, .int m14, .int m15, .int m16, .int m17, .int m18, .int m19, .int m20, .ref ye, .int m22, .int m23, .ref yx])), (yb, .inl (cI, 4, .inl (fun _ => (0 : Int32)))), (yf, .inl (cI, 6, .inl ff))] := hD
  rcases w_2 with ⟨hr_1, h_4, h_5⟩ | ⟨hr_1, h_6⟩
  · have h_4 : 0 ≤ a.toInt := h_4
    have h_5 : a.toInt ≤ 3 := h_5
    obtain rfl : r_1 = 1 := hr_1.trans (by decide)
    refine b_if_eq hx hb zl_1 (tgt := 14) dX11_move_4 (by decide) (fun c_7 => by exfalso; omega) (fun c_7 => ?_)
    refine lv_iload_n hx hb dX11_move_7 rfl (lv_at hl 3 rfl) ?_
    refine kJi (wr := [(h, .inr (11, [.ref ys, .ref yk, .ref yt, .int m3, .ref yf, .ref yb, .ref yz, .ref yn, .ref yc, .int m9, .ref yp, .ref yw, .int m12, .int m13, .int m14, .int m15, .int m16, .int m17, .int m18, .int m19, .int m20, .ref ye, .int m22, .int m23, .ref yx])), (yb, .inl (cI, 4, .inl (fun _ => (0 : Int32)))), (yf, .inl (cI, 6, .inl ff))]) (va_runS (As := [.int d]) (rest := []) ⟨hx, hb, hml, hown, hT⟩ (c_X11_isSheet l D cI H.size d) (cwS 1 hT (gS_in mw_1391 mw_1389 mw_1390 mw_12) rfl rfl rfl (by decide +kernel) ⟨Nat.le_of_ble_eq_true rfl, Nat.le_of_ble_eq_true rfl⟩) (kStat hK hP hD hN [] rfl (by decide)) rfl rfl hl.1 rfl (lv_room (Nat.le_of_ble_eq_true rfl)) dX11_move_8 ⟨Nat.le_of_ble_eq_true rfl, Nat.le_of_ble_eq_true rfl⟩) hP hD hS hA [] [0, 1, 2] rfl rfl (by decide) (by decide) (fun r_8 u_10 H locs w_9 hP hD hS => ?_)
    have hP : va_P D vwCl [(h, .inr (11, [.ref ys, .ref yk, .ref yt, .int m3, .ref yf, .ref yb, .ref yz, .ref yn, .ref yc, .int m9, .ref yp, .ref yw, .int m12, .int m13, .int m14, .int m15, .int m16, .int m17, .int m18, .int m19, .int m20, .ref ye, .int m22, .int m23, .ref yx])), (yb, .inl (cI, 4, .inl (fun _ => (0 : Int32)))), (yf, .inl (cI, 6, .inl ff))] H := hP
    have hD : va_D A [(h, .inr (11, [.ref ys, .ref yk, .ref yt, .int m3, .ref yf, .ref yb, .ref yz, .ref yn, .ref yc, .int m9, .ref yp, .ref yw, .int m12, .int m13, .int m14, .int m15, .int m16, .int m17, .int m18, .int m19, .int m20, .ref ye, .int m22, .int m23, .ref yx])), (yb, .inl (cI, 4, .inl (fun _ => (0 : Int32)))), (yf, .inl (cI, 6, .inl ff))] := hD
    rcases w_9 with ⟨hr_8, h_11, h_12⟩ | ⟨hr_8, h_13⟩
    · have h_11 : 0 ≤ d.toInt := h_11
      have h_12 : d.toInt ≤ 3 := h_12
      obtain rfl : r_8 = 1 := hr_8.trans (by decide)
      refine b_if_ne hx hb zl_1 (tgt := 21) dX11_move_11 (by decide) (fun c_14 => ?_) (fun c_14 => by exfalso; omega)
      refine lv_aload_n hx hb dX11_move_21 rfl (lv_at hl 0 rfl) ?_
      refine va_get (D := D) (ci := 11) (v := .ref yb) (C := RX11) (T := TX11) (N := 25) hx hb hT giX11 hown hK hP 0 rfl rfl 5 (by decide) (hT (Cond.fieldLink RX11 22 "DesertWireModel" "bits" "[I") mw_1161) (fun _ h9 => h9) rfl dX11_move_22 ?_
      refine lv_iload_n hx hb dX11_move_25 rfl (lv_at hl 1 rfl) ?_
      refine k_iald (v := 0) hx hb hK hP 1 0 rfl rfl (k_in (by omega) (by omega)) rfl dX11_move_26 ?_
      refine b_if_eq hx hb zl_0 (tgt := 39) dX11_move_27 (by decide) (fun c_15 => ?_) (fun c_15 => by exfalso; omega)
      refine lv_aload_n hx hb dX11_move_39 rfl (lv_at hl 0 rfl) ?_
      refine lv_ldc (v := (-1000002)) hx hb hown (hT _ mw_1392) dX11_move_40 ?_
      refine kJi (wr := [(yb, .inl (cI, 4, .inl (fun _ => (0 : Int32))))]) (va_runV (As := [.int (-1000002)]) (rest := []) ⟨hx, hb, hml, hown, hT⟩ (c_X11_finding l D cI h ys yk yt yf yb yz yn yc yp yw ye yx H.size m3 m9 m12 m13 m14 m15 m16 m17 m18 m19 m20 m22 m23 ff (-1000002) (by first | omega | (simp only [zl_m1000002] <;> omega) | decide | assumption | rfl) (by first | omega | (simp only [zl_m1000002] <;> omega) | decide | assumption | rfl)) (cwV 1 hT (gV_in mw_1243 mw_1240 mw_1242 mw_p3_8 mw_12) rfl rfl rfl (by decide +kernel) ⟨Nat.le_of_ble_eq_true rfl, Nat.le_of_ble_eq_true rfl⟩) (kRecv (own := "") (q0 := 0) (ci := 11) hK hP hD hN rfl rfl [0, 2] rfl (by decide)) rfl rfl hl.1 rfl (lv_room (Nat.le_of_ble_eq_true rfl)) dX11_move_42 ⟨Nat.le_of_ble_eq_true rfl, Nat.le_of_ble_eq_true rfl⟩) hP hD hS hA [0, 2] [1] rfl rfl (by decide) (by decide) (fun r_16 u_18 H locs w_17 hP hD hS => ?_)
      have hP : va_P D vwCl [(yb, .inl (cI, 4, .inl (fun _ => (0 : Int32))))] H := hP
      have hD : va_D A [(yb, .inl (cI, 4, .inl (fun _ => (0 : Int32))))] := hD
      have hr_16 := w_17
      obtain rfl : r_16 = (-1000002) := hr_16.trans (by decide)
      exact hRet () [] (by unfold sp_move; repeat (first | rw [if_pos (by omega)] | rw [if_neg (by omega)])) hP hD (by decide) rfl hS rfl dX11_move_45
    · have h_13 : d.toInt < 0 ∨ 3 < d.toInt := h_13
      obtain rfl : r_8 = 0 := hr_8.trans (by decide)
      refine b_if_ne hx hb zl_0 (tgt := 21) dX11_move_11 (by decide) (fun c_19 => by exfalso; omega) (fun c_19 => ?_)
      refine lv_aload_n hx hb dX11_move_14 rfl (lv_at hl 0 rfl) ?_
      refine lv_ldc (v := (-1000001)) hx hb hown (hT _ mw_1239) dX11_move_15 ?_
      refine kJi (wr := [(yb, .inl (cI, 4, .inl (fun _ => (0 : Int32))))]) (va_runV (As := [.int (-1000001)]) (rest := []) ⟨hx, hb, hml, hown, hT⟩ (c_X11_finding l D cI h ys yk yt yf yb yz yn yc yp yw ye yx H.size m3 m9 m12 m13 m14 m15 m16 m17 m18 m19 m20 m22 m23 ff (-1000001) (by first | omega | (simp only [zl_m1000001] <;> omega) | decide | assumption | rfl) (by first | omega | (simp only [zl_m1000001] <;> omega) | decide | assumption | rfl)) (cwV 1 hT (gV_in mw_1243 mw_1240 mw_1242 mw_p3_8 mw_12) rfl rfl rfl (by decide +kernel) ⟨Nat.le_of_ble_eq_true rfl, Nat.le_of_ble_eq_true rfl⟩) (kRecv (own := "") (q0 := 0) (ci := 11) hK hP hD hN rfl rfl [0, 2] rfl (by decide)) rfl rfl hl.1 rfl (lv_room (Nat.le_of_ble_eq_true rfl)) dX11_move_17 ⟨Nat.le_of_ble_eq_true rfl, Nat.le_of_ble_eq_true rfl⟩) hP hD hS hA [0, 2] [1] rfl rfl (by decide) (by decide) (fun r_20 u_22 H locs w_21 hP hD hS => ?_)
      have hP : va_P D vwCl [(yb, .inl (cI, 4, .inl (fun _ => (0 : Int32))))] H := hP
      have hD : va_D A [(yb, .inl (cI, 4, .inl (fun _ => (0 : Int32))))] := hD
      have hr_20 := w_21
      obtain rfl : r_20 = (-1000001) := hr_20.trans (by decide)
      exact hRet () [] (by unfold sp_move; repeat (first | rw [if_pos (by omega)] | rw [if_neg (by omega)])) hP hD (by decide) rfl hS rfl dX11_move_20
  · have h_6 : a.toInt < 0 ∨ 3 < a.toInt := h_6
    obtain rfl : r_1 = 0 := hr_1.trans (by decide)
    refine b_if_eq hx hb zl_0 (tgt := 14) dX11_move_4 (by decide) (fun c_23 => ?_) (fun c_23 => by exfalso; omega)
    refine lv_aload_n hx hb dX11_move_14 rfl (lv_at hl 0 rfl) ?_
    refine lv_ldc (v := (-1000001)) hx hb hown (hT _ mw_1239) dX11_move_15 ?_
    refine kJi (wr := [(yb, .inl (cI, 4, .inl (fun _ => (0 : Int32))))]) (va_runV (As := [.int (-1000001)]) (rest := []) ⟨hx, hb, hml, hown, hT⟩ (c_X11_finding l D cI h ys yk yt yf yb yz yn yc yp yw ye yx H.size m3 m9 m12 m13 m14 m15 m16 m17 m18 m19 m20 m22 m23 ff (-1000001) (by first | omega | (simp only [zl_m1000001] <;> omega) | decide | assumption | rfl) (by first | omega | (simp only [zl_m1000001] <;> omega) | decide | assumption | rfl)) (cwV 1 hT (gV_in mw_1243 mw_1240 mw_1242 mw_p3_8 mw_12) rfl rfl rfl (by decide +kernel) ⟨Nat.le_of_ble_eq_true rfl, Nat.le_of_ble_eq_true rfl⟩) (kRecv (own := "") (q0 := 0) (ci := 11) hK hP hD hN rfl rfl [0, 2] rfl (by decide)) rfl rfl hl.1 rfl (lv_room (Nat.le_of_ble_eq_true rfl)) dX11_move_17 ⟨Nat.le_of_ble_eq_true rfl, Nat.le_of_ble_eq_true rfl⟩) hP hD hS hA [0, 2] [1] rfl rfl (by decide) (by decide) (fun r_24 u_26 H locs w_25 hP hD hS => ?_)
    have hP : va_P D vwCl [(yb, .inl (cI, 4, .inl (fun _ => (0 : Int32))))] H := hP
    have hD : va_D A [(yb, .inl (cI, 4, .inl (fun _ => (0 : Int32))))] := hD
    have hr_24 := w_25
    obtain rfl : r_24 = (-1000001) := hr_24.trans (by decide)
    exact hRet () [] (by unfold sp_move; repeat (first | rw [if_pos (by omega)] | rw [if_neg (by omega)])) hP hD (by decide) rfl hS rfl dX11_move_20
set_option maxHeartbeats 4000000 in
set_option maxRecDepth 100000 in
theorem c_X11_restore (l : Launch) (D : va_G) (cI : ClassId) (h ys yk yt yf yb yz yn yc yp yw ye yx : Nat) (sz : Nat) (m9 : Int32) (m12 : Int32) (m13 : Int32) (m14 : Int32) (m15 : Int32) (m16 : Int32) (m17 : Int32) (m18 : Int32) (m19 : Int32) (m20 : Int32) (m22 : Int32) (m23 : Int32) (ff : Nat → Int32) : Met l yX11_restore (gW yX11_restore cX11_restore 1 (some .int)) ({ frames := 1, cells := 0, slots := 0, locals := 21 } : Room) (kPre D cI [.ref h] [(h, .inr (11, [.ref ys, .ref yk, .ref yt, .int 0, .ref yf, .ref yb, .ref yz, .ref yn, .ref yc, .int m9, .ref yp, .ref yw, .int m12, .int m13, .int m14, .int m15, .int m16, .int m17, .int m18, .int m19, .int m20, .ref ye, .int m22, .int m23, .ref yx])), (yf, .inl (cI, 6, .inl ff))] sz) (va_Qi (fun (r : Int32) (u : Unit) => r = (-1000002)) (fun u t => kWd D cI (va_A [(h, .inr (11, [.ref ys, .ref yk, .ref yt, .int 0, .ref yf, .ref yb, .ref yz, .ref yn, .ref yc, .int m9, .ref yp, .ref yw, .int m12, .int m13, .int m14, .int m15, .int m16, .int m17, .int m18, .int m19, .int m20, .ref ye, .int m22, .int m23, .ref yx])), (yf, .inl (cI, 6, .inl ff))] sz) [] t) (va_A [(h, .inr (11, [.ref ys, .ref yk, .ref yt, .int 0, .ref yf, .ref yb, .ref yz, .ref yn, .ref yc, .int m9, .ref yp, .ref yw, .int m12, .int m13, .int m14, .int m15, .int m16, .int m17, .int m18, .int m19, .int m20, .ref ye, .int m22, .int m23, .ref yx])), (yf, .inl (cI, 6, .inl ff))] sz)) 0 0 (va_A [(h, .inr (11, [.ref ys, .ref yk, .ref yt, .int 0, .ref yf, .ref yb, .ref yz, .ref yn, .ref yc, .int m9, .ref yp, .ref yw, .int m12, .int m13, .int m14, .int m15, .int m16, .int m17, .int m18, .int m19, .int m20, .ref ye, .int m22, .int m23, .ref yx])), (yf, .inl (cI, 6, .inl ff))] sz) := by
  refine kMetI (own := RX11) (by decide) rfl (Nat.le_of_ble_eq_true rfl) ?_
  intro p e s m args below meth c hx hb hT hown hname hml A Q hK hP hD hS hA hN hRet ls hl
  have hl : lv_has ls 1 [(0, .ref h)] := hl
  have lo_m9 := k_lo m9
  have hi_m9 := k_hi m9
  have lo_m12 := k_lo m12
  have hi_m12 := k_hi m12
  have lo_m13 := k_lo m13
  have hi_m13 := k_hi m13
  have lo_m14 := k_lo m14
  have hi_m14 := k_hi m14
  have lo_m15 := k_lo m15
  have hi_m15 := k_hi m15
  have lo_m16 := k_lo m16
  have hi_m16 := k_hi m16
  have lo_m17 := k_lo m17
  have hi_m17 := k_hi m17
  have lo_m18 := k_lo m18
  have hi_m18 := k_hi m18
  have lo_m19 := k_lo m19
  have hi_m19 := k_hi m19
  have lo_m20 := k_lo m20
  have hi_m20 := k_hi m20
  have lo_m22 := k_lo m22
  have hi_m22 := k_hi m22
  have lo_m23 := k_lo m23
  have hi_m23 := k_hi m23
  refine lv_aload_n hx hb dX11_restore_0 rfl (lv_at hl 0 rfl) ?_
  refine va_get (D := D) (ci := 11) (v := .int 0) (C := RX11) (T := TX11) (N := 25) hx hb hT giX11 hown hK hP 0 rfl rfl 3 (by decide) (hT (Cond.fieldLink RX11 279 "DesertWireModel" "images" "I") mw_1159) (fun _ h9 => h9) rfl dX11_restore_1 ?_
  refine b_if_ne hx hb zl_0 (tgt := 14) dX11_restore_4 (by decide) (fun c_1 => by exfalso; omega) (fun c_1 => ?_)
  refine lv_aload_n hx hb dX11_restore_7 rfl (lv_at hl 0 rfl) ?_
  refine lv_ldc (v := (-1000002)) hx hb hown (hT _ mw_1392) dX11_restore_8 ?_
  refine kJi (wr := []) (va_runV (As := [.int (-1000002)]) (rest := []) ⟨hx, hb, hml, hown, hT⟩ (c_X11_finding l D cI h ys yk yt yf yb yz yn yc yp yw ye yx s.heap.size 0 m9 m12 m13 m14 m15 m16 m17 m18 m19 m20 m22 m23 ff (-1000002) (by first | omega | (simp only [zl_m1000002, zl_0] <;> omega) | decide | assumption | rfl) (by first | omega | (simp only [zl_m1000002, zl_0] <;> omega) | decide | assumption | rfl)) (cwV 1 hT (gV_in mw_1243 mw_1240 mw_1242 mw_p3_8 mw_12) rfl rfl rfl (by decide +kernel) ⟨Nat.le_of_ble_eq_true rfl, Nat.le_of_ble_eq_true rfl⟩) (kRecv (own := "") (q0 := 0) (ci := 11) hK hP hD hN rfl rfl [0, 1] rfl (by decide)) rfl rfl hl.1 rfl (lv_room (Nat.le_of_ble_eq_true rfl)) dX11_restore_10 ⟨Nat.le_of_ble_eq_true rfl, Nat.le_of_ble_eq_true rfl⟩) hP hD hS hA [0, 1] [] rfl rfl (by decide) (by decide) (fun r_2 u_4 H locs w_3 hP hD hS => ?_)
  have hP : va_P D vwCl [] H := hP
  have hD : va_D A [] := hD
  have hr_2 := w_3
  obtain rfl : r_2 = (-1000002) := hr_2.trans (by decide)
  exact hRet () [] rfl hP hD (by decide) rfl hS rfl dX11_restore_13
set_option maxHeartbeats 4000000 in
set_option maxRecDepth 100000 in
theorem c_X11_tell (l : Launch) (D : va_G) (cI : ClassId) (h ys yk yt yf yb yz yn yc yp yw ye yx : Nat) (sz : Nat) (m3 : Int32) (m9 : Int32) (m12 : Int32) (m13 : Int32) (m14 : Int32) (m15 : Int32) (m16 : Int32) (m17 : Int32) (m18 : Int32) (m19 : Int32) (m20 : Int32) (m22 : Int32) (m23 : Int32) (ff : Nat → Int32) (a : Int32) : Met l yX11_tell (gW yX11_tell cX11_tell 2 (some .int)) ({ frames := 0, cells := 0, slots := 0, locals := 0 } : Room) (kPre D cI [.ref h, .int a] [(h, .inr (11, [.ref ys, .ref yk, .ref yt, .int m3, .ref yf, .ref yb, .ref yz, .ref yn, .ref yc, .int m9, .ref yp, .ref yw, .int m12, .int m13, .int m14, .int m15, .int m16, .int m17, .int m18, .int m19, .int m20, .ref ye, .int m22, .int m23, .ref yx])), (ys, .inl (cI, 1201, .inl sI)), (yf, .inl (cI, 6, .inl ff))] sz) (va_Qi (fun (r : Int32) (u : Unit) => r = 1) (fun u t => kWd D cI (va_A [(h, .inr (11, [.ref ys, .ref yk, .ref yt, .int m3, .ref yf, .ref yb, .ref yz, .ref yn, .ref yc, .int m9, .ref yp, .ref yw, .int m12, .int m13, .int m14, .int m15, .int m16, .int m17, .int m18, .int m19, .int m20, .ref ye, .int m22, .int m23, .ref yx])), (ys, .inl (cI, 1201, .inl sI)), (yf, .inl (cI, 6, .inl ff))] sz) [] t) (va_A [(h, .inr (11, [.ref ys, .ref yk, .ref yt, .int m3, .ref yf, .ref yb, .ref yz, .ref yn, .ref yc, .int m9, .ref yp, .ref yw, .int m12, .int m13, .int m14, .int m15, .int m16, .int m17, .int m18, .int m19, .int m20, .ref ye, .int m22, .int m23, .ref yx])), (ys, .inl (cI, 1201, .inl sI)), (yf, .inl (cI, 6, .inl ff))] sz)) 0 0 (va_A [(h, .inr (11, [.ref ys, .ref yk, .ref yt, .int m3, .ref yf, .ref yb, .ref yz, .ref yn, .ref yc, .int m9, .ref yp, .ref yw, .int m12, .int m13, .int m14, .int m15, .int m16, .int m17, .int m18, .int m19, .int m20, .ref ye, .int m22, .int m23, .ref yx])), (ys, .inl (cI, 1201, .inl sI)), (yf, .inl (cI, 6, .inl ff))] sz) := by
  refine kMetI (own := RX11) (by decide) rfl (Nat.le_of_ble_eq_true rfl) ?_
  intro p e s m args below meth c hx hb hT hown hname hml A Q hK hP hD hS hA hN hRet ls hl
  have hl : lv_has ls 2 [(0, .ref h), (1, .int a)] := hl
  have lo_a := k_lo a
  have hi_a := k_hi a
  have lo_m3 := k_lo m3
  have hi_m3 := k_hi m3
  have lo_m9 := k_lo m9
  have hi_m9 := k_hi m9
  have lo_m12 := k_lo m12
  have hi_m12 := k_hi m12
  have lo_m13 := k_lo m13
  have hi_m13 := k_hi m13
  have lo_m14 := k_lo m14
  have hi_m14 := k_hi m14
  have lo_m15 := k_lo m15
  have hi_m15 := k_hi m15
  have lo_m16 := k_lo m16
  have hi_m16 := k_hi m16
  have lo_m17 := k_lo m17
  have hi_m17 := k_hi m17
  have lo_m18 := k_lo m18
  have hi_m18 := k_hi m18
  have lo_m19 := k_lo m19
  have hi_m19 := k_hi m19
  have lo_m20 := k_lo m20
  have hi_m20 := k_hi m20
  have lo_m22 := k_lo m22
  have hi_m22 := k_hi m22
  have lo_m23 := k_lo m23
  have hi_m23 := k_hi m23
  refine lv_aload_n hx hb dX11_tell_0 rfl (lv_at hl 0 rfl) ?_
  refine va_get (D := D) (ci := 11) (v := .ref ys) (C := RX11) (T := TX11) (N := 25) hx hb hT giX11 hown hK hP 0 rfl rfl 0 (by decide) (hT (Cond.fieldLink RX11 9 "DesertWireModel" "s" "[I") mw_1156) (fun _ h9 => h9) rfl dX11_tell_1 ?_
  refine lv_iconst (v := 5) hx hb dX11_tell_4 (by decide) ?_
  refine k_iald (v := 0) hx hb hK hP 1 0 rfl rfl (k_inl (by decide)) (by decide +kernel) dX11_tell_5 ?_
  refine lv_bipush (v := 20) hx hb dX11_tell_6 (by decide) ?_
  refine b_icmp_ne hx hb zl_0 zl_20 (tgt := 18) dX11_tell_8 (by decide) (fun c_1 => ?_) (fun c_1 => by exfalso; omega)
  refine lv_aload_n hx hb dX11_tell_18 rfl (lv_at hl 0 rfl) ?_
  refine va_get (D := D) (ci := 11) (v := .ref ys) (C := RX11) (T := TX11) (N := 25) hx hb hT giX11 hown hK hP 0 rfl rfl 0 (by decide) (hT (Cond.fieldLink RX11 9 "DesertWireModel" "s" "[I") mw_1156) (fun _ h9 => h9) rfl dX11_tell_19 ?_
  refine lv_sipush (v := 1181) hx hb dX11_tell_22 (by decide) ?_
  refine lv_aload_n hx hb dX11_tell_25 rfl (lv_at hl 0 rfl) ?_
  refine va_get (D := D) (ci := 11) (v := .ref ys) (C := RX11) (T := TX11) (N := 25) hx hb hT giX11 hown hK hP 0 rfl rfl 0 (by decide) (hT (Cond.fieldLink RX11 9 "DesertWireModel" "s" "[I") mw_1156) (fun _ h9 => h9) rfl dX11_tell_26 ?_
  refine lv_iconst (v := 5) hx hb dX11_tell_29 (by decide) ?_
  refine k_iald (v := 0) hx hb hK hP 1 0 rfl rfl (k_inl (by decide)) (by decide +kernel) dX11_tell_30 ?_
  refine k_iadd (v := 1181) hx hb dX11_tell_31 (by decide) ?_
  refine lv_iload_n hx hb dX11_tell_32 rfl (lv_at hl 1 rfl) ?_
  refine va_iast hx hb hK hP hD hS 1 0 rfl rfl (k_inl (by decide)) dX11_tell_33 (fun H locs hP hD hS => ?_)
  have hP : va_P D vwCl [(h, .inr (11, [.ref ys, .ref yk, .ref yt, .int m3, .ref yf, .ref yb, .ref yz, .ref yn, .ref yc, .int m9, .ref yp, .ref yw, .int m12, .int m13, .int m14, .int m15, .int m16, .int m17, .int m18, .int m19, .int m20, .ref ye, .int m22, .int m23, .ref yx])), (ys, .inl (cI, 1201, .inl (upd sI 1181 a))), (yf, .inl (cI, 6, .inl ff))] H := hP
  have hD : va_D A [(h, .inr (11, [.ref ys, .ref yk, .ref yt, .int m3, .ref yf, .ref yb, .ref yz, .ref yn, .ref yc, .int m9, .ref yp, .ref yw, .int m12, .int m13, .int m14, .int m15, .int m16, .int m17, .int m18, .int m19, .int m20, .ref ye, .int m22, .int m23, .ref yx])), (ys, .inl (cI, 1201, .inl (upd sI 1181 a))), (yf, .inl (cI, 6, .inl ff))] := hD
  obtain ⟨f_2, ef_2⟩ : ∃ g : Nat → Int32, g = upd sI 1181 a := ⟨_, rfl⟩
  rw [← ef_2] at hP hD
  refine lv_aload_n hx hb dX11_tell_34 rfl (lv_at hl 0 rfl) ?_
  refine va_get (D := D) (ci := 11) (v := .ref ys) (C := RX11) (T := TX11) (N := 25) hx hb hT giX11 hown hK hP 0 rfl rfl 0 (by decide) (hT (Cond.fieldLink RX11 9 "DesertWireModel" "s" "[I") mw_1156) (fun _ h9 => h9) rfl dX11_tell_35 ?_
  refine lv_iconst (v := 5) hx hb dX11_tell_38 (by decide) ?_
  refine lv_dup2_11 hx hb dX11_tell_39 rfl rfl ?_
  refine k_iald (v := 0) hx hb hK hP 1 0 rfl rfl (k_inl (by decide)) (by rw [ef_2]; exact (show sI 5 = 0 from (by decide +kernel))) dX11_tell_40 ?_
  refine lv_iconst (v := 1) hx hb dX11_tell_41 (by decide) ?_
  refine k_iadd (v := 1) hx hb dX11_tell_42 (by decide) ?_
  refine va_iast hx hb hK hP hD hS 1 0 rfl rfl (k_inl (by decide)) dX11_tell_43 (fun H locs hP hD hS => ?_)
  have hP : va_P D vwCl [(h, .inr (11, [.ref ys, .ref yk, .ref yt, .int m3, .ref yf, .ref yb, .ref yz, .ref yn, .ref yc, .int m9, .ref yp, .ref yw, .int m12, .int m13, .int m14, .int m15, .int m16, .int m17, .int m18, .int m19, .int m20, .ref ye, .int m22, .int m23, .ref yx])), (ys, .inl (cI, 1201, .inl (upd f_2 5 1))), (yf, .inl (cI, 6, .inl ff))] H := hP
  have hD : va_D A [(h, .inr (11, [.ref ys, .ref yk, .ref yt, .int m3, .ref yf, .ref yb, .ref yz, .ref yn, .ref yc, .int m9, .ref yp, .ref yw, .int m12, .int m13, .int m14, .int m15, .int m16, .int m17, .int m18, .int m19, .int m20, .ref ye, .int m22, .int m23, .ref yx])), (ys, .inl (cI, 1201, .inl (upd f_2 5 1))), (yf, .inl (cI, 6, .inl ff))] := hD
  obtain ⟨f_3, ef_3⟩ : ∃ g : Nat → Int32, g = upd f_2 5 1 := ⟨_, rfl⟩
  rw [← ef_3] at hP hD
  refine lv_aload_n hx hb dX11_tell_44 rfl (lv_at hl 0 rfl) ?_
  refine va_get (D := D) (ci := 11) (v := .ref ys) (C := RX11) (T := TX11) (N := 25) hx hb hT giX11 hown hK hP 0 rfl rfl 0 (by decide) (hT (Cond.fieldLink RX11 9 "DesertWireModel" "s" "[I") mw_1156) (fun _ h9 => h9) rfl dX11_tell_45 ?_
  refine lv_iconst (v := 5) hx hb dX11_tell_48 (by decide) ?_
  refine k_iald (v := 1) hx hb hK hP 1 0 rfl rfl (k_inl (by decide)) (by rw [ef_3]; rfl) dX11_tell_49 ?_
  exact hRet () [] rfl hP hD (by decide) rfl hS rfl dX11_tell_50
set_option maxHeartbeats 4000000 in
set_option maxRecDepth 100000 in
theorem c_X11_check (l : Launch) (D : va_G) (cI : ClassId) (h ys yk yt yf yb yz yn yc yp yw ye yx : Nat) (sz : Nat) (m3 : Int32) (m9 : Int32) (m12 : Int32) (m13 : Int32) (m14 : Int32) (m15 : Int32) (m16 : Int32) (m17 : Int32) (m18 : Int32) (m19 : Int32) (m20 : Int32) (m22 : Int32) (m23 : Int32) : Met l yX11_check (gW yX11_check cX11_check 3 (some .int)) ({ frames := 0, cells := 0, slots := 0, locals := 0 } : Room) (kPre D cI [.ref h] [(h, .inr (11, [.ref ys, .ref yk, .ref yt, .int m3, .ref yf, .ref yb, .ref yz, .ref yn, .ref yc, .int m9, .ref yp, .ref yw, .int m12, .int m13, .int m14, .int m15, .int m16, .int m17, .int m18, .int m19, .int m20, .ref ye, .int m22, .int m23, .ref yx])), (ys, .inl (cI, 1201, .inl sI))] sz) (va_Qi (fun (r : Int32) (u : Unit) => r = 0) (fun u t => kWd D cI (va_A [(h, .inr (11, [.ref ys, .ref yk, .ref yt, .int m3, .ref yf, .ref yb, .ref yz, .ref yn, .ref yc, .int m9, .ref yp, .ref yw, .int m12, .int m13, .int m14, .int m15, .int m16, .int m17, .int m18, .int m19, .int m20, .ref ye, .int m22, .int m23, .ref yx])), (ys, .inl (cI, 1201, .inl sI))] sz) [] t) (va_A [(h, .inr (11, [.ref ys, .ref yk, .ref yt, .int m3, .ref yf, .ref yb, .ref yz, .ref yn, .ref yc, .int m9, .ref yp, .ref yw, .int m12, .int m13, .int m14, .int m15, .int m16, .int m17, .int m18, .int m19, .int m20, .ref ye, .int m22, .int m23, .ref yx])), (ys, .inl (cI, 1201, .inl sI))] sz)) 0 0 (va_A [(h, .inr (11, [.ref ys, .ref yk, .ref yt, .int m3, .ref yf, .ref yb, .ref yz, .ref yn, .ref yc, .int m9, .ref yp, .ref yw, .int m12, .int m13, .int m14, .int m15, .int m16, .int m17, .int m18, .int m19, .int m20, .ref ye, .int m22, .int m23, .ref yx])), (ys, .inl (cI, 1201, .inl sI))] sz) := by
  refine kMetI (own := RX11) (by decide) rfl (Nat.le_of_ble_eq_true rfl) ?_
  intro p e s m args below meth c hx hb hT hown hname hml A Q hK hP hD hS hA hN hRet ls hl
  have hl : lv_has ls 3 [(0, .ref h)] := hl
  have lo_m3 := k_lo m3
  have hi_m3 := k_hi m3
  have lo_m9 := k_lo m9
  have hi_m9 := k_hi m9
  have lo_m12 := k_lo m12
  have hi_m12 := k_hi m12
  have lo_m13 := k_lo m13
  have hi_m13 := k_hi m13
  have lo_m14 := k_lo m14
  have hi_m14 := k_hi m14
  have lo_m15 := k_lo m15
  have hi_m15 := k_hi m15
  have lo_m16 := k_lo m16
  have hi_m16 := k_hi m16
  have lo_m17 := k_lo m17
  have hi_m17 := k_hi m17
  have lo_m18 := k_lo m18
  have hi_m18 := k_hi m18
  have lo_m19 := k_lo m19
  have hi_m19 := k_hi m19
  have lo_m20 := k_lo m20
  have hi_m20 := k_hi m20
  have lo_m22 := k_lo m22
  have hi_m22 := k_hi m22
  have lo_m23 := k_lo m23
  have hi_m23 := k_hi m23
  refine lv_aload_n hx hb dX11_check_0 rfl (lv_at hl 0 rfl) ?_
  refine va_get (D := D) (ci := 11) (v := .ref ys) (C := RX11) (T := TX11) (N := 25) hx hb hT giX11 hown hK hP 0 rfl rfl 0 (by decide) (hT (Cond.fieldLink RX11 9 "DesertWireModel" "s" "[I") mw_1156) (fun _ h9 => h9) rfl dX11_check_1 ?_
  refine lv_iconst (v := 5) hx hb dX11_check_4 (by decide) ?_
  refine k_iald (v := 0) hx hb hK hP 1 0 rfl rfl (k_inl (by decide)) (by decide +kernel) dX11_check_5 ?_
  refine lv_istore_n (lv' := [(1, .int 0), (0, .ref h)]) hx hb dX11_check_6 rfl hl (by decide) rfl (fun ls hl => ?_)
  refine lv_aload_n hx hb dX11_check_7 rfl (lv_at hl 1 rfl) ?_
  refine va_get (D := D) (ci := 11) (v := .ref ys) (C := RX11) (T := TX11) (N := 25) hx hb hT giX11 hown hK hP 0 rfl rfl 0 (by decide) (hT (Cond.fieldLink RX11 9 "DesertWireModel" "s" "[I") mw_1156) (fun _ h9 => h9) rfl dX11_check_8 ?_
  refine lv_iconst (v := 5) hx hb dX11_check_11 (by decide) ?_
  refine lv_iconst (v := 0) hx hb dX11_check_12 (by decide) ?_
  refine va_iast hx hb hK hP hD hS 1 0 rfl rfl (k_inl (by decide)) dX11_check_13 (fun H locs hP hD hS => ?_)
  have hP : va_P D vwCl [(h, .inr (11, [.ref ys, .ref yk, .ref yt, .int m3, .ref yf, .ref yb, .ref yz, .ref yn, .ref yc, .int m9, .ref yp, .ref yw, .int m12, .int m13, .int m14, .int m15, .int m16, .int m17, .int m18, .int m19, .int m20, .ref ye, .int m22, .int m23, .ref yx])), (ys, .inl (cI, 1201, .inl (upd sI 5 0)))] H := hP
  have hD : va_D A [(h, .inr (11, [.ref ys, .ref yk, .ref yt, .int m3, .ref yf, .ref yb, .ref yz, .ref yn, .ref yc, .int m9, .ref yp, .ref yw, .int m12, .int m13, .int m14, .int m15, .int m16, .int m17, .int m18, .int m19, .int m20, .ref ye, .int m22, .int m23, .ref yx])), (ys, .inl (cI, 1201, .inl (upd sI 5 0)))] := hD
  obtain ⟨f_1, ef_1⟩ : ∃ g : Nat → Int32, g = upd sI 5 0 := ⟨_, rfl⟩
  rw [← ef_1] at hP hD
  refine lv_iconst (v := 0) hx hb dX11_check_14 (by decide) ?_
  refine lv_istore_n (lv' := [(2, .int 0), (1, .int 0), (0, .ref h)]) hx hb dX11_check_15 rfl hl (by decide) rfl (fun ls hl => ?_)
  refine lv_iload_n hx hb dX11_check_16 rfl (lv_at hl 0 rfl) ?_
  refine lv_iload_n hx hb dX11_check_17 rfl (lv_at hl 1 rfl) ?_
  refine b_icmp_ge hx hb zl_0 zl_0 (tgt := 49) dX11_check_18 (by decide) (fun c_2 => ?_) (fun c_2 => by exfalso; omega)
  refine lv_iconst (v := 0) hx hb dX11_check_49 (by decide) ?_
  exact hRet () [] rfl hP hD (by decide) rfl hS rfl dX11_check_50
set_option maxHeartbeats 4000000 in
set_option maxRecDepth 100000 in
theorem c_X11_found (l : Launch) (D : va_G) (cI : ClassId) (h ys yk yt yf yb yz yn yc yp yw ye yx : Nat) (sz : Nat) (m3 : Int32) (m9 : Int32) (m12 : Int32) (m13 : Int32) (m14 : Int32) (m15 : Int32) (m16 : Int32) (m17 : Int32) (m18 : Int32) (m19 : Int32) (m20 : Int32) (m22 : Int32) (m23 : Int32) (a : Int32) : Met l yX11_found (gW yX11_found cX11_found 2 (some .int)) ({ frames := 1, cells := 0, slots := 0, locals := 22 } : Room) (kPre D cI [.ref h, .int a] [(h, .inr (11, [.ref ys, .ref yk, .ref yt, .int m3, .ref yf, .ref yb, .ref yz, .ref yn, .ref yc, .int m9, .ref yp, .ref yw, .int m12, .int m13, .int m14, .int m15, .int m16, .int m17, .int m18, .int m19, .int m20, .ref ye, .int m22, .int m23, .ref yx])), (yf, .inl (cI, 6, .inl (fun _ => (0 : Int32))))] sz) (va_Qi (fun (r : Int32) (u : Unit) => r = sp_found a) (fun u t => kWd D cI (va_A [(h, .inr (11, [.ref ys, .ref yk, .ref yt, .int m3, .ref yf, .ref yb, .ref yz, .ref yn, .ref yc, .int m9, .ref yp, .ref yw, .int m12, .int m13, .int m14, .int m15, .int m16, .int m17, .int m18, .int m19, .int m20, .ref ye, .int m22, .int m23, .ref yx])), (yf, .inl (cI, 6, .inl (fun _ => (0 : Int32))))] sz) [] t) (va_A [(h, .inr (11, [.ref ys, .ref yk, .ref yt, .int m3, .ref yf, .ref yb, .ref yz, .ref yn, .ref yc, .int m9, .ref yp, .ref yw, .int m12, .int m13, .int m14, .int m15, .int m16, .int m17, .int m18, .int m19, .int m20, .ref ye, .int m22, .int m23, .ref yx])), (yf, .inl (cI, 6, .inl (fun _ => (0 : Int32))))] sz)) 0 0 (va_A [(h, .inr (11, [.ref ys, .ref yk, .ref yt, .int m3, .ref yf, .ref yb, .ref yz, .ref yn, .ref yc, .int m9, .ref yp, .ref yw, .int m12, .int m13, .int m14, .int m15, .int m16, .int m17, .int m18, .int m19, .int m20, .ref ye, .int m22, .int m23, .ref yx])), (yf, .inl (cI, 6, .inl (fun _ => (0 : Int32))))] sz) := by
  refine kMetI (own := RX11) (by decide) rfl (Nat.le_of_ble_eq_true rfl) ?_
  intro p e s m args below meth c hx hb hT hown hname hml A Q hK hP hD hS hA hN hRet ls hl
  have hl : lv_has ls 2 [(0, .ref h), (1, .int a)] := hl
  have lo_a := k_lo a
  have hi_a := k_hi a
  have lo_m3 := k_lo m3
  have hi_m3 := k_hi m3
  have lo_m9 := k_lo m9
  have hi_m9 := k_hi m9
  have lo_m12 := k_lo m12
  have hi_m12 := k_hi m12
  have lo_m13 := k_lo m13
  have hi_m13 := k_hi m13
  have lo_m14 := k_lo m14
  have hi_m14 := k_hi m14
  have lo_m15 := k_lo m15
  have hi_m15 := k_hi m15
  have lo_m16 := k_lo m16
  have hi_m16 := k_hi m16
  have lo_m17 := k_lo m17
  have hi_m17 := k_hi m17
  have lo_m18 := k_lo m18
  have hi_m18 := k_hi m18
  have lo_m19 := k_lo m19
  have hi_m19 := k_hi m19
  have lo_m20 := k_lo m20
  have hi_m20 := k_hi m20
  have lo_m22 := k_lo m22
  have hi_m22 := k_hi m22
  have lo_m23 := k_lo m23
  have hi_m23 := k_hi m23
  refine lv_iload_n hx hb dX11_found_0 rfl (lv_at hl 1 rfl) ?_
  refine lv_iconst (v := 1) hx hb dX11_found_1 (by decide) ?_
  refine lv_iconst (v := 5) hx hb dX11_found_2 (by decide) ?_
  refine kJi (wr := [(h, .inr (11, [.ref ys, .ref yk, .ref yt, .int m3, .ref yf, .ref yb, .ref yz, .ref yn, .ref yc, .int m9, .ref yp, .ref yw, .int m12, .int m13, .int m14, .int m15, .int m16, .int m17, .int m18, .int m19, .int m20, .ref ye, .int m22, .int m23, .ref yx])), (yf, .inl (cI, 6, .inl (fun _ => (0 : Int32))))]) (va_runS (As := [.int a, .int 1, .int 5]) (rest := []) ⟨hx, hb, hml, hown, hT⟩ (c_X11_in l D cI s.heap.size a 1 5) (cwS 3 hT (gS_in mw_1238 mw_1236 mw_1237 mw_12) rfl rfl rfl (by decide +kernel) ⟨Nat.le_of_ble_eq_true rfl, Nat.le_of_ble_eq_true rfl⟩) (kStat hK hP hD hN [] rfl (by decide)) rfl rfl hl.1 rfl (lv_room (Nat.le_of_ble_eq_true rfl)) dX11_found_3 ⟨Nat.le_of_ble_eq_true rfl, Nat.le_of_ble_eq_true rfl⟩) hP hD hS hA [] [0, 1] rfl rfl (by decide) (by decide) (fun r_1 u_3 H locs w_2 hP hD hS => ?_)
  have hP : va_P D vwCl [(h, .inr (11, [.ref ys, .ref yk, .ref yt, .int m3, .ref yf, .ref yb, .ref yz, .ref yn, .ref yc, .int m9, .ref yp, .ref yw, .int m12, .int m13, .int m14, .int m15, .int m16, .int m17, .int m18, .int m19, .int m20, .ref ye, .int m22, .int m23, .ref yx])), (yf, .inl (cI, 6, .inl (fun _ => (0 : Int32))))] H := hP
  have hD : va_D A [(h, .inr (11, [.ref ys, .ref yk, .ref yt, .int m3, .ref yf, .ref yb, .ref yz, .ref yn, .ref yc, .int m9, .ref yp, .ref yw, .int m12, .int m13, .int m14, .int m15, .int m16, .int m17, .int m18, .int m19, .int m20, .ref ye, .int m22, .int m23, .ref yx])), (yf, .inl (cI, 6, .inl (fun _ => (0 : Int32))))] := hD
  rcases w_2 with ⟨hr_1, h_4, h_5⟩ | ⟨hr_1, h_6⟩
  · try simp only [zl_1, zl_5] at h_4
    have h_4 : 1 ≤ a.toInt := h_4
    try simp only [zl_1, zl_5] at h_5
    have h_5 : a.toInt ≤ 5 := h_5
    obtain rfl : r_1 = 1 := hr_1.trans (by decide)
    refine b_if_eq hx hb zl_1 (tgt := 18) dX11_found_6 (by decide) (fun c_7 => by exfalso; omega) (fun c_7 => ?_)
    refine lv_aload_n hx hb dX11_found_9 rfl (lv_at hl 0 rfl) ?_
    refine va_get (D := D) (ci := 11) (v := .ref yf) (C := RX11) (T := TX11) (N := 25) hx hb hT giX11 hown hK hP 0 rfl rfl 4 (by decide) (hT (Cond.fieldLink RX11 19 "DesertWireModel" "found" "[I") mw_1160) (fun _ h9 => h9) rfl dX11_found_10 ?_
    refine lv_iload_n hx hb dX11_found_13 rfl (lv_at hl 1 rfl) ?_
    refine k_iald (v := 0) hx hb hK hP 1 0 rfl rfl (k_in (by omega) (by omega)) rfl dX11_found_14 ?_
    refine lv_goto (tgt := 24) hx hb dX11_found_15 (by decide) ?_
    exact hRet () [] (by unfold sp_found; repeat (first | rw [if_pos (by omega)] | rw [if_neg (by omega)])) hP hD (by decide) rfl hS rfl dX11_found_24
  · try simp only [zl_1, zl_5] at h_6
    have h_6 : a.toInt < 1 ∨ 5 < a.toInt := h_6
    obtain rfl : r_1 = 0 := hr_1.trans (by decide)
    refine b_if_eq hx hb zl_0 (tgt := 18) dX11_found_6 (by decide) (fun c_8 => ?_) (fun c_8 => by exfalso; omega)
    refine lv_aload_n hx hb dX11_found_18 rfl (lv_at hl 0 rfl) ?_
    refine lv_ldc (v := (-1000001)) hx hb hown (hT _ mw_1239) dX11_found_19 ?_
    refine kJi (wr := []) (va_runV (As := [.int (-1000001)]) (rest := []) ⟨hx, hb, hml, hown, hT⟩ (c_X11_finding l D cI h ys yk yt yf yb yz yn yc yp yw ye yx H.size m3 m9 m12 m13 m14 m15 m16 m17 m18 m19 m20 m22 m23 (fun _ => (0 : Int32)) (-1000001) (by first | omega | (simp only [zl_m1000001] <;> omega) | decide | assumption | rfl) (by first | omega | (simp only [zl_m1000001] <;> omega) | decide | assumption | rfl)) (cwV 1 hT (gV_in mw_1243 mw_1240 mw_1242 mw_p3_8 mw_12) rfl rfl rfl (by decide +kernel) ⟨Nat.le_of_ble_eq_true rfl, Nat.le_of_ble_eq_true rfl⟩) (kRecv (own := "") (q0 := 0) (ci := 11) hK hP hD hN rfl rfl [0, 1] rfl (by decide)) rfl rfl hl.1 rfl (lv_room (Nat.le_of_ble_eq_true rfl)) dX11_found_21 ⟨Nat.le_of_ble_eq_true rfl, Nat.le_of_ble_eq_true rfl⟩) hP hD hS hA [0, 1] [] rfl rfl (by decide) (by decide) (fun r_9 u_11 H locs w_10 hP hD hS => ?_)
    have hP : va_P D vwCl [] H := hP
    have hD : va_D A [] := hD
    have hr_9 := w_10
    obtain rfl : r_9 = (-1000001) := hr_9.trans (by decide)
    exact hRet () [] (by unfold sp_found; repeat (first | rw [if_pos (by omega)] | rw [if_neg (by omega)])) hP hD (by decide) rfl hS rfl dX11_found_24
set_option maxHeartbeats 4000000 in
set_option maxRecDepth 100000 in
theorem c_X11_count (l : Launch) (D : va_G) (cI : ClassId) (h ys yk yt yf yb yz yn yc yp yw ye yx : Nat) (sz : Nat) (m3 : Int32) (m12 : Int32) (m13 : Int32) (m14 : Int32) (m15 : Int32) (m16 : Int32) (m17 : Int32) (m18 : Int32) (m19 : Int32) (m20 : Int32) (m22 : Int32) (m23 : Int32) (ff : Nat → Int32) (a : Int32) : Met l yX11_count (gW yX11_count cX11_count 4 (some .int)) ({ frames := 2, cells := 0, slots := 0, locals := 45 } : Room) (kPre D cI [.ref h, .int a] [(h, .inr (11, [.ref ys, .ref yk, .ref yt, .int m3, .ref yf, .ref yb, .ref yz, .ref yn, .ref yc, .int 0, .ref yp, .ref yw, .int m12, .int m13, .int m14, .int m15, .int m16, .int m17, .int m18, .int m19, .int m20, .ref ye, .int m22, .int m23, .ref yx])), (ys, .inl (cI, 1201, .inl sI)), (yf, .inl (cI, 6, .inl ff))] sz) (va_Qi (fun (r : Int32) (u : Unit) => r = sp_count a) (fun u t => kWd D cI (va_A [(h, .inr (11, [.ref ys, .ref yk, .ref yt, .int m3, .ref yf, .ref yb, .ref yz, .ref yn, .ref yc, .int 0, .ref yp, .ref yw, .int m12, .int m13, .int m14, .int m15, .int m16, .int m17, .int m18, .int m19, .int m20, .ref ye, .int m22, .int m23, .ref yx])), (ys, .inl (cI, 1201, .inl sI)), (yf, .inl (cI, 6, .inl ff))] sz) [] t) (va_A [(h, .inr (11, [.ref ys, .ref yk, .ref yt, .int m3, .ref yf, .ref yb, .ref yz, .ref yn, .ref yc, .int 0, .ref yp, .ref yw, .int m12, .int m13, .int m14, .int m15, .int m16, .int m17, .int m18, .int m19, .int m20, .ref ye, .int m22, .int m23, .ref yx])), (ys, .inl (cI, 1201, .inl sI)), (yf, .inl (cI, 6, .inl ff))] sz)) 0 0 (va_A [(h, .inr (11, [.ref ys, .ref yk, .ref yt, .int m3, .ref yf, .ref yb, .ref yz, .ref yn, .ref yc, .int 0, .ref yp, .ref yw, .int m12, .int m13, .int m14, .int m15, .int m16, .int m17, .int m18, .int m19, .int m20, .ref ye, .int m22, .int m23, .ref yx])), (ys, .inl (cI, 1201, .inl sI)), (yf, .inl (cI, 6, .inl ff))] sz) := by
  refine kMetI (own := RX11) (by decide) rfl (Nat.le_of_ble_eq_true rfl) ?_
  intro p e s m args below meth c hx hb hT hown hname hml A Q hK hP hD hS hA hN hRet ls hl
  have hl : lv_has ls 4 [(0, .ref h), (1, .int a)] := hl
  have lo_a := k_lo a
  have hi_a := k_hi a
  have lo_m3 := k_lo m3
  have hi_m3 := k_hi m3
  have lo_m12 := k_lo m12
  have hi_m12 := k_hi m12
  have lo_m13 := k_lo m13
  have hi_m13 := k_hi m13
  have lo_m14 := k_lo m14
  have hi_m14 := k_hi m14
  have lo_m15 := k_lo m15
  have hi_m15 := k_hi m15
  have lo_m16 := k_lo m16
  have hi_m16 := k_hi m16
  have lo_m17 := k_lo m17
  have hi_m17 := k_hi m17
  have lo_m18 := k_lo m18
  have hi_m18 := k_hi m18
  have lo_m19 := k_lo m19
  have hi_m19 := k_hi m19
  have lo_m20 := k_lo m20
  have hi_m20 := k_hi m20
  have lo_m22 := k_lo m22
  have hi_m22 := k_hi m22
  have lo_m23 := k_lo m23
  have hi_m23 := k_hi m23
  refine lv_iconst (v := 0) hx hb dX11_count_0 (by decide) ?_
  refine lv_istore_n (lv' := [(2, .int 0), (0, .ref h), (1, .int a)]) hx hb dX11_count_1 rfl hl (by decide) rfl (fun ls hl => ?_)
  refine lv_iload_n hx hb dX11_count_2 rfl (lv_at hl 2 rfl) ?_
  by_cases c_1 : a.toInt = 0
  · refine lv_tableIn (off := 65) (tgt := 68) hx hb dX11_count_3 (by omega) (by omega) (by rw [c_1]; decide) (by decide) ?_
    refine lv_aload_n hx hb dX11_count_68 rfl (lv_at hl 1 rfl) ?_
    refine va_get (D := D) (ci := 11) (v := .ref ys) (C := RX11) (T := TX11) (N := 25) hx hb hT giX11 hown hK hP 0 rfl rfl 0 (by decide) (hT (Cond.fieldLink RX11 9 "DesertWireModel" "s" "[I") mw_1156) (fun _ h9 => h9) rfl dX11_count_69 ?_
    refine lv_iconst (v := 1) hx hb dX11_count_72 (by decide) ?_
    refine k_iald (v := 0) hx hb hK hP 1 0 rfl rfl (k_inl (by decide)) (by decide +kernel) dX11_count_73 ?_
    exact hRet () [] (by unfold sp_count; repeat (first | rw [if_pos (by omega)] | rw [if_neg (by omega)])) hP hD (by decide) rfl hS rfl dX11_count_74
  by_cases c_2 : a.toInt = 1
  · refine lv_tableIn (off := 72) (tgt := 75) hx hb dX11_count_3 (by omega) (by omega) (by rw [c_2]; decide) (by decide) ?_
    refine lv_iconst (v := 0) hx hb dX11_count_75 (by decide) ?_
    refine lv_istore_n (lv' := [(3, .int 0), (2, .int 0), (0, .ref h), (1, .int a)]) hx hb dX11_count_76 rfl hl (by decide) rfl (fun ls hl => ?_)
    refine lv_iload_n hx hb dX11_count_77 rfl (lv_at hl 0 rfl) ?_
    refine lv_aload_n hx hb dX11_count_78 rfl (lv_at hl 2 rfl) ?_
    refine va_get (D := D) (ci := 11) (v := .ref ys) (C := RX11) (T := TX11) (N := 25) hx hb hT giX11 hown hK hP 0 rfl rfl 0 (by decide) (hT (Cond.fieldLink RX11 9 "DesertWireModel" "s" "[I") mw_1156) (fun _ h9 => h9) rfl dX11_count_79 ?_
    refine lv_iconst (v := 1) hx hb dX11_count_82 (by decide) ?_
    refine k_iald (v := 0) hx hb hK hP 1 0 rfl rfl (k_inl (by decide)) (by decide +kernel) dX11_count_83 ?_
    refine b_icmp_ge hx hb zl_0 zl_0 (tgt := 102) dX11_count_84 (by decide) (fun c_3 => ?_) (fun c_3 => by exfalso; omega)
    refine lv_iload_n hx hb dX11_count_102 rfl (lv_at hl 1 rfl) ?_
    exact hRet () [] (by unfold sp_count; repeat (first | rw [if_pos (by omega)] | rw [if_neg (by omega)])) hP hD (by decide) rfl hS rfl dX11_count_103
  by_cases c_4 : a.toInt = 2
  · refine lv_tableIn (off := 101) (tgt := 104) hx hb dX11_count_3 (by omega) (by omega) (by rw [c_4]; decide) (by decide) ?_
    refine lv_aload_n hx hb dX11_count_104 rfl (lv_at hl 1 rfl) ?_
    refine va_get (D := D) (ci := 11) (v := .ref ys) (C := RX11) (T := TX11) (N := 25) hx hb hT giX11 hown hK hP 0 rfl rfl 0 (by decide) (hT (Cond.fieldLink RX11 9 "DesertWireModel" "s" "[I") mw_1156) (fun _ h9 => h9) rfl dX11_count_105 ?_
    refine lv_iconst (v := 2) hx hb dX11_count_108 (by decide) ?_
    refine k_iald (v := 0) hx hb hK hP 1 0 rfl rfl (k_inl (by decide)) (by decide +kernel) dX11_count_109 ?_
    exact hRet () [] (by unfold sp_count; repeat (first | rw [if_pos (by omega)] | rw [if_neg (by omega)])) hP hD (by decide) rfl hS rfl dX11_count_110
  by_cases c_5 : a.toInt = 3
  · refine lv_tableIn (off := 108) (tgt := 111) hx hb dX11_count_3 (by omega) (by omega) (by rw [c_5]; decide) (by decide) ?_
    refine lv_iconst (v := 0) hx hb dX11_count_111 (by decide) ?_
    refine lv_istore_n (lv' := [(3, .int 0), (2, .int 0), (0, .ref h), (1, .int a)]) hx hb dX11_count_112 rfl hl (by decide) rfl (fun ls hl => ?_)
    refine lv_iload_n hx hb dX11_count_113 rfl (lv_at hl 0 rfl) ?_
    refine lv_aload_n hx hb dX11_count_114 rfl (lv_at hl 2 rfl) ?_
    refine va_get (D := D) (ci := 11) (v := .ref ys) (C := RX11) (T := TX11) (N := 25) hx hb hT giX11 hown hK hP 0 rfl rfl 0 (by decide) (hT (Cond.fieldLink RX11 9 "DesertWireModel" "s" "[I") mw_1156) (fun _ h9 => h9) rfl dX11_count_115 ?_
    refine lv_iconst (v := 2) hx hb dX11_count_118 (by decide) ?_
    refine k_iald (v := 0) hx hb hK hP 1 0 rfl rfl (k_inl (by decide)) (by decide +kernel) dX11_count_119 ?_
    refine b_icmp_ge hx hb zl_0 zl_0 (tgt := 145) dX11_count_120 (by decide) (fun c_6 => ?_) (fun c_6 => by exfalso; omega)
    refine lv_iload_n hx hb dX11_count_145 rfl (lv_at hl 1 rfl) ?_
    exact hRet () [] (by unfold sp_count; repeat (first | rw [if_pos (by omega)] | rw [if_neg (by omega)])) hP hD (by decide) rfl hS rfl dX11_count_146
  by_cases c_7 : a.toInt = 4
  · refine lv_tableIn (off := 144) (tgt := 147) hx hb dX11_count_3 (by omega) (by omega) (by rw [c_7]; decide) (by decide) ?_
    refine lv_aload_n hx hb dX11_count_147 rfl (lv_at hl 1 rfl) ?_
    refine va_get (D := D) (ci := 11) (v := .ref ys) (C := RX11) (T := TX11) (N := 25) hx hb hT giX11 hown hK hP 0 rfl rfl 0 (by decide) (hT (Cond.fieldLink RX11 9 "DesertWireModel" "s" "[I") mw_1156) (fun _ h9 => h9) rfl dX11_count_148 ?_
    refine lv_iconst (v := 3) hx hb dX11_count_151 (by decide) ?_
    refine k_iald (v := 0) hx hb hK hP 1 0 rfl rfl (k_inl (by decide)) (by decide +kernel) dX11_count_152 ?_
    exact hRet () [] (by unfold sp_count; repeat (first | rw [if_pos (by omega)] | rw [if_neg (by omega)])) hP hD (by decide) rfl hS rfl dX11_count_153
  by_cases c_8 : a.toInt = 5
  · refine lv_tableIn (off := 151) (tgt := 154) hx hb dX11_count_3 (by omega) (by omega) (by rw [c_8]; decide) (by decide) ?_
    refine lv_aload_n hx hb dX11_count_154 rfl (lv_at hl 1 rfl) ?_
    refine va_get (D := D) (ci := 11) (v := .ref ys) (C := RX11) (T := TX11) (N := 25) hx hb hT giX11 hown hK hP 0 rfl rfl 0 (by decide) (hT (Cond.fieldLink RX11 9 "DesertWireModel" "s" "[I") mw_1156) (fun _ h9 => h9) rfl dX11_count_155 ?_
    refine lv_iconst (v := 0) hx hb dX11_count_158 (by decide) ?_
    refine k_iald (v := 0) hx hb hK hP 1 0 rfl rfl (k_inl (by decide)) (by decide +kernel) dX11_count_159 ?_
    exact hRet () [] (by unfold sp_count; repeat (first | rw [if_pos (by omega)] | rw [if_neg (by omega)])) hP hD (by decide) rfl hS rfl dX11_count_160
  by_cases c_9 : a.toInt = 6
  · refine lv_tableIn (off := 158) (tgt := 161) hx hb dX11_count_3 (by omega) (by omega) (by rw [c_9]; decide) (by decide) ?_
    refine lv_aload_n hx hb dX11_count_161 rfl (lv_at hl 1 rfl) ?_
    refine va_get (D := D) (ci := 11) (v := .ref ys) (C := RX11) (T := TX11) (N := 25) hx hb hT giX11 hown hK hP 0 rfl rfl 0 (by decide) (hT (Cond.fieldLink RX11 9 "DesertWireModel" "s" "[I") mw_1156) (fun _ h9 => h9) rfl dX11_count_162 ?_
    refine lv_iconst (v := 4) hx hb dX11_count_165 (by decide) ?_
    refine k_iald (v := 0) hx hb hK hP 1 0 rfl rfl (k_inl (by decide)) (by decide +kernel) dX11_count_166 ?_
    exact hRet () [] (by unfold sp_count; repeat (first | rw [if_pos (by omega)] | rw [if_neg (by omega)])) hP hD (by decide) rfl hS rfl dX11_count_167
  by_cases c_10 : a.toInt = 7
  · refine lv_tableIn (off := 165) (tgt := 168) hx hb dX11_count_3 (by omega) (by omega) (by rw [c_10]; decide) (by decide) ?_
    refine lv_aload_n hx hb dX11_count_168 rfl (lv_at hl 1 rfl) ?_
    refine va_get (D := D) (ci := 11) (v := .int 0) (C := RX11) (T := TX11) (N := 25) hx hb hT giX11 hown hK hP 0 rfl rfl 9 (by decide) (hT (Cond.fieldLink RX11 267 "DesertWireModel" "traces" "I") mw_1165) (fun _ h9 => h9) rfl dX11_count_169 ?_
    exact hRet () [] (by unfold sp_count; repeat (first | rw [if_pos (by omega)] | rw [if_neg (by omega)])) hP hD (by decide) rfl hS rfl dX11_count_172
  by_cases c_11 : a.toInt = 8
  · refine lv_tableIn (off := 170) (tgt := 173) hx hb dX11_count_3 (by omega) (by omega) (by rw [c_11]; decide) (by decide) ?_
    refine lv_aload_n hx hb dX11_count_173 rfl (lv_at hl 1 rfl) ?_
    refine va_get (D := D) (ci := 11) (v := .ref ys) (C := RX11) (T := TX11) (N := 25) hx hb hT giX11 hown hK hP 0 rfl rfl 0 (by decide) (hT (Cond.fieldLink RX11 9 "DesertWireModel" "s" "[I") mw_1156) (fun _ h9 => h9) rfl dX11_count_174 ?_
    refine lv_iconst (v := 5) hx hb dX11_count_177 (by decide) ?_
    refine k_iald (v := 0) hx hb hK hP 1 0 rfl rfl (k_inl (by decide)) (by decide +kernel) dX11_count_178 ?_
    exact hRet () [] (by unfold sp_count; repeat (first | rw [if_pos (by omega)] | rw [if_neg (by omega)])) hP hD (by decide) rfl hS rfl dX11_count_179
  by_cases c_12 : a.toInt = 9
  · refine lv_tableIn (off := 177) (tgt := 180) hx hb dX11_count_3 (by omega) (by omega) (by rw [c_12]; decide) (by decide) ?_
    refine lv_aload_n hx hb dX11_count_180 rfl (lv_at hl 1 rfl) ?_
    refine kJi (wr := [(yf, .inl (cI, 6, .inl ff))]) (va_runV (As := []) (rest := []) ⟨hx, hb, hml, hown, hT⟩ (c_X11_wired l D cI h ys yk yt yf yb yz yn yc yp yw ye yx s.heap.size m3 0 m12 m13 m14 m15 m16 m17 m18 m19 m20 m22 m23 sI (by decide +kernel)) (cwV 0 hT (gV_in mw_1562 mw_1559 mw_1561 mw_p6_4 mw_12) rfl rfl rfl (by decide +kernel) ⟨Nat.le_of_ble_eq_true rfl, Nat.le_of_ble_eq_true rfl⟩) (kRecv (own := "") (q0 := 0) (ci := 11) hK hP hD hN rfl rfl [0, 1] rfl (by decide)) rfl rfl hl.1 rfl (lv_room (Nat.le_of_ble_eq_true rfl)) dX11_count_181 ⟨Nat.le_of_ble_eq_true rfl, Nat.le_of_ble_eq_true rfl⟩) hP hD hS hA [0, 1] [2] rfl rfl (by decide) (by decide) (fun r_13 u_15 H locs w_14 hP hD hS => ?_)
    have hP : va_P D vwCl [(yf, .inl (cI, 6, .inl ff)), (h, .inr (11, [.ref ys, .ref yk, .ref yt, .int m3, .ref yf, .ref yb, .ref yz, .ref yn, .ref yc, .int 0, .ref yp, .ref yw, .int m12, .int m13, .int m14, .int m15, .int m16, .int m17, .int m18, .int m19, .int m20, .ref ye, .int m22, .int m23, .ref yx])), (ys, .inl (cI, 1201, .inl sI))] H := hP
    have hD : va_D A [(yf, .inl (cI, 6, .inl ff)), (h, .inr (11, [.ref ys, .ref yk, .ref yt, .int m3, .ref yf, .ref yb, .ref yz, .ref yn, .ref yc, .int 0, .ref yp, .ref yw, .int m12, .int m13, .int m14, .int m15, .int m16, .int m17, .int m18, .int m19, .int m20, .ref ye, .int m22, .int m23, .ref yx])), (ys, .inl (cI, 1201, .inl sI))] := hD
    have hr_13 := w_14
    obtain rfl : r_13 = 0 := hr_13.trans (by decide)
    exact hRet () [] (by unfold sp_count; repeat (first | rw [if_pos (by omega)] | rw [if_neg (by omega)])) hP hD (by decide) rfl hS rfl dX11_count_184
  by_cases c_16 : a.toInt = 10
  · refine lv_tableIn (off := 182) (tgt := 185) hx hb dX11_count_3 (by omega) (by omega) (by rw [c_16]; decide) (by decide) ?_
    refine lv_iconst (v := 0) hx hb dX11_count_185 (by decide) ?_
    refine lv_istore_n (lv' := [(3, .int 0), (2, .int 0), (0, .ref h), (1, .int a)]) hx hb dX11_count_186 rfl hl (by decide) rfl (fun ls hl => ?_)
    refine lv_iload_n hx hb dX11_count_187 rfl (lv_at hl 0 rfl) ?_
    refine lv_aload_n hx hb dX11_count_188 rfl (lv_at hl 2 rfl) ?_
    refine va_get (D := D) (ci := 11) (v := .ref ys) (C := RX11) (T := TX11) (N := 25) hx hb hT giX11 hown hK hP 0 rfl rfl 0 (by decide) (hT (Cond.fieldLink RX11 9 "DesertWireModel" "s" "[I") mw_1156) (fun _ h9 => h9) rfl dX11_count_189 ?_
    refine lv_iconst (v := 1) hx hb dX11_count_192 (by decide) ?_
    refine k_iald (v := 0) hx hb hK hP 1 0 rfl rfl (k_inl (by decide)) (by decide +kernel) dX11_count_193 ?_
    refine b_icmp_ge hx hb zl_0 zl_0 (tgt := 220) dX11_count_194 (by decide) (fun c_17 => ?_) (fun c_17 => by exfalso; omega)
    refine lv_iload_n hx hb dX11_count_220 rfl (lv_at hl 1 rfl) ?_
    exact hRet () [] (by unfold sp_count; repeat (first | rw [if_pos (by omega)] | rw [if_neg (by omega)])) hP hD (by decide) rfl hS rfl dX11_count_221
  by_cases c_18 : a.toInt = 11
  · refine lv_tableIn (off := 219) (tgt := 222) hx hb dX11_count_3 (by omega) (by omega) (by rw [c_18]; decide) (by decide) ?_
    refine lv_iconst (v := 0) hx hb dX11_count_222 (by decide) ?_
    refine lv_istore_n (lv' := [(3, .int 0), (2, .int 0), (0, .ref h), (1, .int a)]) hx hb dX11_count_223 rfl hl (by decide) rfl (fun ls hl => ?_)
    refine lv_iload_n hx hb dX11_count_224 rfl (lv_at hl 0 rfl) ?_
    refine lv_aload_n hx hb dX11_count_225 rfl (lv_at hl 2 rfl) ?_
    refine va_get (D := D) (ci := 11) (v := .ref ys) (C := RX11) (T := TX11) (N := 25) hx hb hT giX11 hown hK hP 0 rfl rfl 0 (by decide) (hT (Cond.fieldLink RX11 9 "DesertWireModel" "s" "[I") mw_1156) (fun _ h9 => h9) rfl dX11_count_226 ?_
    refine lv_iconst (v := 2) hx hb dX11_count_229 (by decide) ?_
    refine k_iald (v := 0) hx hb hK hP 1 0 rfl rfl (k_inl (by decide)) (by decide +kernel) dX11_count_230 ?_
    refine b_icmp_ge hx hb zl_0 zl_0 (tgt := 249) dX11_count_231 (by decide) (fun c_19 => ?_) (fun c_19 => by exfalso; omega)
    refine lv_iload_n hx hb dX11_count_249 rfl (lv_at hl 1 rfl) ?_
    exact hRet () [] (by unfold sp_count; repeat (first | rw [if_pos (by omega)] | rw [if_neg (by omega)])) hP hD (by decide) rfl hS rfl dX11_count_250
  by_cases c_20 : a.toInt = 12
  · refine lv_tableIn (off := 248) (tgt := 251) hx hb dX11_count_3 (by omega) (by omega) (by rw [c_20]; decide) (by decide) ?_
    refine lv_iconst (v := 0) hx hb dX11_count_251 (by decide) ?_
    refine lv_istore_n (lv' := [(3, .int 0), (2, .int 0), (0, .ref h), (1, .int a)]) hx hb dX11_count_252 rfl hl (by decide) rfl (fun ls hl => ?_)
    refine lv_iload_n hx hb dX11_count_253 rfl (lv_at hl 0 rfl) ?_
    refine lv_aload_n hx hb dX11_count_254 rfl (lv_at hl 2 rfl) ?_
    refine va_get (D := D) (ci := 11) (v := .ref ys) (C := RX11) (T := TX11) (N := 25) hx hb hT giX11 hown hK hP 0 rfl rfl 0 (by decide) (hT (Cond.fieldLink RX11 9 "DesertWireModel" "s" "[I") mw_1156) (fun _ h9 => h9) rfl dX11_count_255 ?_
    refine lv_iconst (v := 1) hx hb dX11_count_258 (by decide) ?_
    refine k_iald (v := 0) hx hb hK hP 1 0 rfl rfl (k_inl (by decide)) (by decide +kernel) dX11_count_259 ?_
    refine b_icmp_ge hx hb zl_0 zl_0 (tgt := 291) dX11_count_260 (by decide) (fun c_21 => ?_) (fun c_21 => by exfalso; omega)
    refine lv_iload_n hx hb dX11_count_291 rfl (lv_at hl 1 rfl) ?_
    exact hRet () [] (by unfold sp_count; repeat (first | rw [if_pos (by omega)] | rw [if_neg (by omega)])) hP hD (by decide) rfl hS rfl dX11_count_292
  refine lv_tableOut (tgt := 293) hx hb dX11_count_3 (by omega) (by decide) ?_
  refine lv_aload_n hx hb dX11_count_293 rfl (lv_at hl 1 rfl) ?_
  refine lv_ldc (v := (-1000001)) hx hb hown (hT _ mw_1239) dX11_count_294 ?_
  refine kJi (wr := [(ys, .inl (cI, 1201, .inl sI))]) (va_runV (As := [.int (-1000001)]) (rest := []) ⟨hx, hb, hml, hown, hT⟩ (c_X11_finding l D cI h ys yk yt yf yb yz yn yc yp yw ye yx s.heap.size m3 0 m12 m13 m14 m15 m16 m17 m18 m19 m20 m22 m23 ff (-1000001) (by first | omega | (simp only [zl_m1000001, zl_0] <;> omega) | decide | assumption | rfl) (by first | omega | (simp only [zl_m1000001, zl_0] <;> omega) | decide | assumption | rfl)) (cwV 1 hT (gV_in mw_1243 mw_1240 mw_1242 mw_p3_8 mw_12) rfl rfl rfl (by decide +kernel) ⟨Nat.le_of_ble_eq_true rfl, Nat.le_of_ble_eq_true rfl⟩) (kRecv (own := "") (q0 := 0) (ci := 11) hK hP hD hN rfl rfl [0, 2] rfl (by decide)) rfl rfl hl.1 rfl (lv_room (Nat.le_of_ble_eq_true rfl)) dX11_count_296 ⟨Nat.le_of_ble_eq_true rfl, Nat.le_of_ble_eq_true rfl⟩) hP hD hS hA [0, 2] [1] rfl rfl (by decide) (by decide) (fun r_22 u_24 H locs w_23 hP hD hS => ?_)
  have hP : va_P D vwCl [(ys, .inl (cI, 1201, .inl sI))] H := hP
  have hD : va_D A [(ys, .inl (cI, 1201, .inl sI))] := hD
  have hr_22 := w_23
  obtain rfl : r_22 = (-1000001) := hr_22.trans (by decide)
  exact hRet () [] (by unfold sp_count; repeat (first | rw [if_pos (by omega)] | rw [if_neg (by omega)])) hP hD (by decide) rfl hS rfl dX11_count_299
set_option maxHeartbeats 4000000 in
set_option maxRecDepth 100000 in
theorem c_X11_feed (l : Launch) (D : va_G) (cI : ClassId) (h ys yk yt yf yb yz yn yc yp yw ye yx : Nat) (sz : Nat) (m3 : Int32) (m9 : Int32) (m12 : Int32) (m13 : Int32) (m14 : Int32) (m15 : Int32) (m16 : Int32) (m17 : Int32) (m18 : Int32) (m19 : Int32) (m20 : Int32) (m22 : Int32) (m23 : Int32) (ff : Nat → Int32) (wo : Int64) (a : Int32) : Met l yX11_feed (gW yX11_feed cX11_feed 5 (some .int)) ({ frames := 1, cells := 0, slots := 0, locals := 22 } : Room) (kPre D cI [.ref h, .long wo, .int a] [(h, .inr (11, [.ref ys, .ref yk, .ref yt, .int m3, .ref yf, .ref yb, .ref yz, .ref yn, .ref yc, .int m9, .ref yp, .ref yw, .int m12, .int m13, .int m14, .int m15, .int m16, .int m17, .int m18, .int m19, .int m20, .ref ye, .int m22, .int m23, .ref yx])), (ys, .inl (cI, 1201, .inl sI)), (yf, .inl (cI, 6, .inl ff))] sz) (va_Qi (fun (r : Int32) (u : Unit) => r = sp_feed a) (fun u t => kWd D cI (va_A [(h, .inr (11, [.ref ys, .ref yk, .ref yt, .int m3, .ref yf, .ref yb, .ref yz, .ref yn, .ref yc, .int m9, .ref yp, .ref yw, .int m12, .int m13, .int m14, .int m15, .int m16, .int m17, .int m18, .int m19, .int m20, .ref ye, .int m22, .int m23, .ref yx])), (ys, .inl (cI, 1201, .inl sI)), (yf, .inl (cI, 6, .inl ff))] sz) [] t) (va_A [(h, .inr (11, [.ref ys, .ref yk, .ref yt, .int m3, .ref yf, .ref yb, .ref yz, .ref yn, .ref yc, .int m9, .ref yp, .ref yw, .int m12, .int m13, .int m14, .int m15, .int m16, .int m17, .int m18, .int m19, .int m20, .ref ye, .int m22, .int m23, .ref yx])), (ys, .inl (cI, 1201, .inl sI)), (yf, .inl (cI, 6, .inl ff))] sz)) 0 0 (va_A [(h, .inr (11, [.ref ys, .ref yk, .ref yt, .int m3, .ref yf, .ref yb, .ref yz, .ref yn, .ref yc, .int m9, .ref yp, .ref yw, .int m12, .int m13, .int m14, .int m15, .int m16, .int m17, .int m18, .int m19, .int m20, .ref ye, .int m22, .int m23, .ref yx])), (ys, .inl (cI, 1201, .inl sI)), (yf, .inl (cI, 6, .inl ff))] sz) := by
  refine kMetI (own := RX11) (by decide) rfl (Nat.le_of_ble_eq_true rfl) ?_
  intro p e s m args below meth c hx hb hT hown hname hml A Q hK hP hD hS hA hN hRet ls hl
  have hl : lv_has ls 5 [(0, .ref h), (1, .long wo), (3, .int a)] := hl
  have lo_a := k_lo a
  have hi_a := k_hi a
  have lo_m3 := k_lo m3
  have hi_m3 := k_hi m3
  have lo_m9 := k_lo m9
  have hi_m9 := k_hi m9
  have lo_m12 := k_lo m12
  have hi_m12 := k_hi m12
  have lo_m13 := k_lo m13
  have hi_m13 := k_hi m13
  have lo_m14 := k_lo m14
  have hi_m14 := k_hi m14
  have lo_m15 := k_lo m15
  have hi_m15 := k_hi m15
  have lo_m16 := k_lo m16
  have hi_m16 := k_hi m16
  have lo_m17 := k_lo m17
  have hi_m17 := k_hi m17
  have lo_m18 := k_lo m18
  have hi_m18 := k_hi m18
  have lo_m19 := k_lo m19
  have hi_m19 := k_hi m19
  have lo_m20 := k_lo m20
  have hi_m20 := k_hi m20
  have lo_m22 := k_lo m22
  have hi_m22 := k_hi m22
  have lo_m23 := k_lo m23
  have hi_m23 := k_hi m23
  refine lv_iload_n hx hb dX11_feed_0 rfl (lv_at hl 2 rfl) ?_
  refine lv_iconst (v := 1) hx hb dX11_feed_1 (by decide) ?_
  refine lv_bipush (v := 8) hx hb dX11_feed_2 (by decide) ?_
  refine kJi (wr := [(h, .inr (11, [.ref ys, .ref yk, .ref yt, .int m3, .ref yf, .ref yb, .ref yz, .ref yn, .ref yc, .int m9, .ref yp, .ref yw, .int m12, .int m13, .int m14, .int m15, .int m16, .int m17, .int m18, .int m19, .int m20, .ref ye, .int m22, .int m23, .ref yx])), (ys, .inl (cI, 1201, .inl sI)), (yf, .inl (cI, 6, .inl ff))]) (va_runS (As := [.int a, .int 1, .int 8]) (rest := []) ⟨hx, hb, hml, hown, hT⟩ (c_X11_in l D cI s.heap.size a 1 8) (cwS 3 hT (gS_in mw_1238 mw_1236 mw_1237 mw_12) rfl rfl rfl (by decide +kernel) ⟨Nat.le_of_ble_eq_true rfl, Nat.le_of_ble_eq_true rfl⟩) (kStat hK hP hD hN [] rfl (by decide)) rfl rfl hl.1 rfl (lv_room (Nat.le_of_ble_eq_true rfl)) dX11_feed_4 ⟨Nat.le_of_ble_eq_true rfl, Nat.le_of_ble_eq_true rfl⟩) hP hD hS hA [] [0, 1, 2] rfl rfl (by decide) (by decide) (fun r_1 u_3 H locs w_2 hP hD hS => ?_)
  have hP : va_P D vwCl [(h, .inr (11, [.ref ys, .ref yk, .ref yt, .int m3, .ref yf, .ref yb, .ref yz, .ref yn, .ref yc, .int m9, .ref yp, .ref yw, .int m12, .int m13, .int m14, .int m15, .int m16, .int m17, .int m18, .int m19, .int m20, .ref ye, .int m22, .int m23, .ref yx])), (ys, .inl (cI, 1201, .inl sI)), (yf, .inl (cI, 6, .inl ff))] H := hP
  have hD : va_D A [(h, .inr (11, [.ref ys, .ref yk, .ref yt, .int m3, .ref yf, .ref yb, .ref yz, .ref yn, .ref yc, .int m9, .ref yp, .ref yw, .int m12, .int m13, .int m14, .int m15, .int m16, .int m17, .int m18, .int m19, .int m20, .ref ye, .int m22, .int m23, .ref yx])), (ys, .inl (cI, 1201, .inl sI)), (yf, .inl (cI, 6, .inl ff))] := hD
  rcases w_2 with ⟨hr_1, h_4, h_5⟩ | ⟨hr_1, h_6⟩
  · try simp only [zl_1, zl_8] at h_4
    have h_4 : 1 ≤ a.toInt := h_4
    try simp only [zl_1, zl_8] at h_5
    have h_5 : a.toInt ≤ 8 := h_5
    obtain rfl : r_1 = 1 := hr_1.trans (by decide)
    refine b_if_ne hx hb zl_1 (tgt := 17) dX11_feed_7 (by decide) (fun c_7 => ?_) (fun c_7 => by exfalso; omega)
    refine lv_aload_n hx hb dX11_feed_17 rfl (lv_at hl 0 rfl) ?_
    refine va_get (D := D) (ci := 11) (v := .ref ys) (C := RX11) (T := TX11) (N := 25) hx hb hT giX11 hown hK hP 0 rfl rfl 0 (by decide) (hT (Cond.fieldLink RX11 9 "DesertWireModel" "s" "[I") mw_1156) (fun _ h9 => h9) rfl dX11_feed_18 ?_
    refine lv_iconst (v := 4) hx hb dX11_feed_21 (by decide) ?_
    refine k_iald (v := 0) hx hb hK hP 1 0 rfl rfl (k_inl (by decide)) (by decide +kernel) dX11_feed_22 ?_
    refine lv_iload_n hx hb dX11_feed_23 rfl (lv_at hl 2 rfl) ?_
    refine lv_iadd hx hb dX11_feed_24 ?_
    refine lv_topi (fun v_8 ev_8 => ?_)
    have tv_8 : v_8.toInt = 0 + a.toInt := by rw [ev_8]; exact k_addv zl_0 rfl (by omega) (by omega)
    refine lv_bipush (v := 50) hx hb dX11_feed_25 (by decide) ?_
    refine b_icmp_le hx hb rfl zl_50 (tgt := 37) dX11_feed_27 (by decide) (fun c_9 => ?_) (fun c_9 => by exfalso; omega)
    refine lv_iconst (v := 0) hx hb dX11_feed_37 (by decide) ?_
    refine lv_istore (lv' := [(4, .int 0), (0, .ref h), (1, .long wo), (3, .int a)]) hx hb dX11_feed_38 hl (by decide) rfl (fun ls hl => ?_)
    have hloop_40 : ∀ (fu_ : Nat) (i : Int32) (q : Nat → Int32), 0 ≤ i.toInt → i.toInt ≤ a.toInt → (q 4).toInt = i.toInt → (8 - i.toInt).toNat < fu_ → ∀ (ls : Array Slot) (H : Heap) (locs : List Loc), lv_has ls 5 [(4, .int i), (0, .ref h), (1, .long wo), (3, .int a)] → va_P D vwCl [(h, .inr (11, [.ref ys, .ref yk, .ref yt, .int m3, .ref yf, .ref yb, .ref yz, .ref yn, .ref yc, .int m9, .ref yp, .ref yw, .int m12, .int m13, .int m14, .int m15, .int m16, .int m17, .int m18, .int m19, .int m20, .ref ye, .int m22, .int m23, .ref yx])), (ys, .inl (cI, 1201, .inl q)), (yf, .inl (cI, 6, .inl ff))] H → va_D A [(h, .inr (11, [.ref ys, .ref yk, .ref yt, .int m3, .ref yf, .ref yb, .ref yz, .ref yn, .ref yc, .int m9, .ref yp, .ref yw, .int m12, .int m13, .int m14, .int m15, .int m16, .int m17, .int m18, .int m19, .int m20, .ref ye, .int m22, .int m23, .ref yx])), (ys, .inl (cI, 1201, .inl q)), (yf, .inl (cI, 6, .inl ff))] → va_S A s.heap H locs → W p l e ({ frames := 1, cells := 0, slots := 0, locals := 22 } : Room) s m args below meth c H locs 0 0 Q (F0 m 40 ls []) := by
      intro fu_; induction fu_ with
      | zero => intro i q i40_0 i40_1 i40_2 hm; exact absurd hm (by omega)
      | succ fu_ ih40 =>
          intro i q i40_0 i40_1 i40_2 hm ls H locs hl hP hD hS
          have lo_i := k_lo i
          have hi_i := k_hi i
          refine lv_iload hx hb dX11_feed_40 (lv_at hl 0 rfl) ?_
          refine lv_iload_n hx hb dX11_feed_42 rfl (lv_at hl 3 rfl) ?_
          refine b_icmp_ge hx hb rfl rfl (tgt := 89) dX11_feed_43 (by decide) (fun c_10 => ?_) (fun c_10 => ?_)
          · refine lv_aload_n hx hb dX11_feed_89 rfl (lv_at hl 1 rfl) ?_
            refine va_get (D := D) (ci := 11) (v := .ref ys) (C := RX11) (T := TX11) (N := 25) hx hb hT giX11 hown hK hP 0 rfl rfl 0 (by decide) (hT (Cond.fieldLink RX11 9 "DesertWireModel" "s" "[I") mw_1156) (fun _ h9 => h9) rfl dX11_feed_90 ?_
            refine lv_iconst (v := 4) hx hb dX11_feed_93 (by decide) ?_
            refine k_iald (v := (q 4)) hx hb hK hP 1 0 rfl rfl (k_inl (by decide)) rfl dX11_feed_94 ?_
            refine lv_topi (fun v_11 ev_11 => ?_)
            have lo_v_11 := k_lo v_11
            have hi_v_11 := k_hi v_11
            have tv_11 : v_11.toInt = (q 4).toInt := by rw [ev_11]
            exact hRet () [] (by unfold sp_feed; first | (rw [if_pos (by omega)]; exact k_inj (by first | omega | (rw [ev_11]; omega))) | rw [if_neg (by omega)]) hP hD (by decide) rfl hS rfl dX11_feed_95
          · refine lv_aload_n hx hb dX11_feed_46 rfl (lv_at hl 1 rfl) ?_
            refine va_get (D := D) (ci := 11) (v := .ref ys) (C := RX11) (T := TX11) (N := 25) hx hb hT giX11 hown hK hP 0 rfl rfl 0 (by decide) (hT (Cond.fieldLink RX11 9 "DesertWireModel" "s" "[I") mw_1156) (fun _ h9 => h9) rfl dX11_feed_47 ?_
            refine lv_sipush (v := 1131) hx hb dX11_feed_50 (by decide) ?_
            refine lv_aload_n hx hb dX11_feed_53 rfl (lv_at hl 1 rfl) ?_
            refine va_get (D := D) (ci := 11) (v := .ref ys) (C := RX11) (T := TX11) (N := 25) hx hb hT giX11 hown hK hP 0 rfl rfl 0 (by decide) (hT (Cond.fieldLink RX11 9 "DesertWireModel" "s" "[I") mw_1156) (fun _ h9 => h9) rfl dX11_feed_54 ?_
            refine lv_iconst (v := 4) hx hb dX11_feed_57 (by decide) ?_
            refine k_iald (v := (q 4)) hx hb hK hP 1 0 rfl rfl (k_inl (by decide)) rfl dX11_feed_58 ?_
            refine lv_topi (fun v_12 ev_12 => ?_)
            have lo_v_12 := k_lo v_12
            have hi_v_12 := k_hi v_12
            have tv_12 : v_12.toInt = (q 4).toInt := by rw [ev_12]
            refine lv_iadd hx hb dX11_feed_59 ?_
            refine lv_topi (fun v_13 ev_13 => ?_)
            have tv_13 : v_13.toInt = 1131 + v_12.toInt := by rw [ev_13]; exact k_addv zl_1131 rfl (by omega) (by omega)
            refine lv_lload_n hx hb dX11_feed_60 rfl (lv_at hl 2 rfl) ?_
            refine lv_bipush (v := 8) hx hb dX11_feed_61 (by decide) ?_
            refine lv_iload hx hb dX11_feed_63 (lv_at hl 0 rfl) ?_
            refine lv_imul hx hb dX11_feed_65 ?_
            refine lv_topi (fun v_14 ev_14 => ?_)
            have tv_14 : v_14.toInt = 8 * i.toInt := by rw [ev_14]; exact k_mulv zl_8 rfl (by omega) (by omega)
            refine lv_lshr hx hb dX11_feed_66 rfl ?_
            refine lv_topl (fun g_15 eg_15 => ?_)
            refine lv_ldc2 (v := 255) hx hb hown (hT _ mw_1469) dX11_feed_67 ?_
            refine lv_land hx hb dX11_feed_70 ?_
            refine lv_topl (fun g_16 eg_16 => ?_)
            refine lv_l2i (v := g_16.toInt32) hx hb dX11_feed_71 rfl ?_
            refine lv_topi (fun v_17 ev_17 => ?_)
            have lo_v_17 := k_lo v_17
            have hi_v_17 := k_hi v_17
            refine va_iast hx hb hK hP hD hS 1 0 rfl rfl (k_in (by omega) (by omega)) dX11_feed_72 (fun H locs hP hD hS => ?_)
            have hP : va_P D vwCl [(h, .inr (11, [.ref ys, .ref yk, .ref yt, .int m3, .ref yf, .ref yb, .ref yz, .ref yn, .ref yc, .int m9, .ref yp, .ref yw, .int m12, .int m13, .int m14, .int m15, .int m16, .int m17, .int m18, .int m19, .int m20, .ref ye, .int m22, .int m23, .ref yx])), (ys, .inl (cI, 1201, .inl (upd q v_13.toNatClampNeg v_17))), (yf, .inl (cI, 6, .inl ff))] H := hP
            have hD : va_D A [(h, .inr (11, [.ref ys, .ref yk, .ref yt, .int m3, .ref yf, .ref yb, .ref yz, .ref yn, .ref yc, .int m9, .ref yp, .ref yw, .int m12, .int m13, .int m14, .int m15, .int m16, .int m17, .int m18, .int m19, .int m20, .ref ye, .int m22, .int m23, .ref yx])), (ys, .inl (cI, 1201, .inl (upd q v_13.toNatClampNeg v_17))), (yf, .inl (cI, 6, .inl ff))] := hD
            obtain ⟨f_18, ef_18⟩ : ∃ g : Nat → Int32, g = upd q v_13.toNatClampNeg v_17 := ⟨_, rfl⟩
            rw [← ef_18] at hP hD
            refine lv_aload_n hx hb dX11_feed_73 rfl (lv_at hl 1 rfl) ?_
            refine va_get (D := D) (ci := 11) (v := .ref ys) (C := RX11) (T := TX11) (N := 25) hx hb hT giX11 hown hK hP 0 rfl rfl 0 (by decide) (hT (Cond.fieldLink RX11 9 "DesertWireModel" "s" "[I") mw_1156) (fun _ h9 => h9) rfl dX11_feed_74 ?_
            refine lv_iconst (v := 4) hx hb dX11_feed_77 (by decide) ?_
            refine lv_dup2_11 hx hb dX11_feed_78 rfl rfl ?_
            refine k_iald (v := (q 4)) hx hb hK hP 1 0 rfl rfl (k_inl (by decide)) (show f_18 4 = (q 4) from (by rw [ef_18, pk_un (by rw [k_clamp]; omega)] <;> exact (show q 4 = (q 4) from rfl))) dX11_feed_79 ?_
            refine lv_topi (fun v_19 ev_19 => ?_)
            have lo_v_19 := k_lo v_19
            have hi_v_19 := k_hi v_19
            have tv_19 : v_19.toInt = (q 4).toInt := by rw [ev_19]
            refine lv_iconst (v := 1) hx hb dX11_feed_80 (by decide) ?_
            refine lv_iadd hx hb dX11_feed_81 ?_
            refine lv_topi (fun v_20 ev_20 => ?_)
            have tv_20 : v_20.toInt = v_19.toInt + 1 := by rw [ev_20]; exact k_addv rfl zl_1 (by omega) (by omega)
            refine va_iast hx hb hK hP hD hS 1 0 rfl rfl (k_inl (by decide)) dX11_feed_82 (fun H locs hP hD hS => ?_)
            have hP : va_P D vwCl [(h, .inr (11, [.ref ys, .ref yk, .ref yt, .int m3, .ref yf, .ref yb, .ref yz, .ref yn, .ref yc, .int m9, .ref yp, .ref yw, .int m12, .int m13, .int m14, .int m15, .int m16, .int m17, .int m18, .int m19, .int m20, .ref ye, .int m22, .int m23, .ref yx])), (ys, .inl (cI, 1201, .inl (upd f_18 4 v_20))), (yf, .inl (cI, 6, .inl ff))] H := hP
            have hD : va_D A [(h, .inr (11, [.ref ys, .ref yk, .ref yt, .int m3, .ref yf, .ref yb, .ref yz, .ref yn, .ref yc, .int m9, .ref yp, .ref yw, .int m12, .int m13, .int m14, .int m15, .int m16, .int m17, .int m18, .int m19, .int m20, .ref ye, .int m22, .int m23, .ref yx])), (ys, .inl (cI, 1201, .inl (upd f_18 4 v_20))), (yf, .inl (cI, 6, .inl ff))] := hD
            obtain ⟨f_21, ef_21⟩ : ∃ g : Nat → Int32, g = upd f_18 4 v_20 := ⟨_, rfl⟩
            rw [← ef_21] at hP hD
            obtain ⟨v_22, ev_22⟩ : ∃ y : Int32, y = i + 1 := ⟨_, rfl⟩
            have tv_22 : v_22.toInt = i.toInt + 1 := by rw [ev_22]; exact k_addv rfl zl_1 (by omega) (by omega)
            refine lv_iinc (v := v_22) (lv' := [(4, .int v_22), (0, .ref h), (1, .long wo), (3, .int a)]) hx hb dX11_feed_83 hl (k := 0) rfl (by rw [ev_22]; rfl) (by decide) rfl (fun ls hl => ?_)
            refine lv_goto (tgt := 40) hx hb dX11_feed_86 (by decide) ?_
            exact ih40 v_22 f_21 (by first | omega | decide | assumption | rfl) (by first | omega | decide | assumption | rfl) (by rw [show f_21 4 = v_20 from (by rw [ef_21]; rfl)] <;> first | omega) (by omega) ls _ _ (lv_sub hl [0, 1, 2, 3] rfl) (hP.sub [0, 1, 2] rfl) (hD.sub [0, 1, 2] (by decide) rfl) hS
    exact hloop_40 _ 0 sI (by first | omega | (simp only [zl_0] <;> omega) | decide | assumption | rfl) (by first | omega | (simp only [zl_0] <;> omega) | decide | assumption | rfl) (by rw [show sI 4 = 0 from (by decide +kernel)] <;> first | omega | (simp only [zl_0] <;> omega) | (simp [zl_0]; done)) (Nat.lt_succ_self _) ls _ _ (lv_sub hl [0, 1, 2, 3] rfl) hP hD hS
  · try simp only [zl_1, zl_8] at h_6
    have h_6 : a.toInt < 1 ∨ 8 < a.toInt := h_6
    obtain rfl : r_1 = 0 := hr_1.trans (by decide)
    refine b_if_ne hx hb zl_0 (tgt := 17) dX11_feed_7 (by decide) (fun c_23 => by exfalso; omega) (fun c_23 => ?_)
    refine lv_aload_n hx hb dX11_feed_10 rfl (lv_at hl 0 rfl) ?_
    refine lv_ldc (v := (-1000001)) hx hb hown (hT _ mw_1239) dX11_feed_11 ?_
    refine kJi (wr := [(ys, .inl (cI, 1201, .inl sI))]) (va_runV (As := [.int (-1000001)]) (rest := []) ⟨hx, hb, hml, hown, hT⟩ (c_X11_finding l D cI h ys yk yt yf yb yz yn yc yp yw ye yx H.size m3 m9 m12 m13 m14 m15 m16 m17 m18 m19 m20 m22 m23 ff (-1000001) (by first | omega | (simp only [zl_m1000001] <;> omega) | decide | assumption | rfl) (by first | omega | (simp only [zl_m1000001] <;> omega) | decide | assumption | rfl)) (cwV 1 hT (gV_in mw_1243 mw_1240 mw_1242 mw_p3_8 mw_12) rfl rfl rfl (by decide +kernel) ⟨Nat.le_of_ble_eq_true rfl, Nat.le_of_ble_eq_true rfl⟩) (kRecv (own := "") (q0 := 0) (ci := 11) hK hP hD hN rfl rfl [0, 2] rfl (by decide)) rfl rfl hl.1 rfl (lv_room (Nat.le_of_ble_eq_true rfl)) dX11_feed_13 ⟨Nat.le_of_ble_eq_true rfl, Nat.le_of_ble_eq_true rfl⟩) hP hD hS hA [0, 2] [1] rfl rfl (by decide) (by decide) (fun r_24 u_26 H locs w_25 hP hD hS => ?_)
    have hP : va_P D vwCl [(ys, .inl (cI, 1201, .inl sI))] H := hP
    have hD : va_D A [(ys, .inl (cI, 1201, .inl sI))] := hD
    have hr_24 := w_25
    obtain rfl : r_24 = (-1000001) := hr_24.trans (by decide)
    exact hRet () [] (by unfold sp_feed; first | (rw [if_pos (by omega)]; exact k_inj (by first | omega | (rw [zl_0]; omega))) | rw [if_neg (by omega)]) hP hD (by decide) rfl hS rfl dX11_feed_16
set_option maxHeartbeats 4000000 in
set_option maxRecDepth 100000 in
theorem c_X11_eaten (l : Launch) (D : va_G) (cI : ClassId) (h ys yk yt yf yb yz yn yc yp yw ye yx : Nat) (sz : Nat) (m3 : Int32) (m9 : Int32) (m12 : Int32) (m13 : Int32) (m14 : Int32) (m15 : Int32) (m16 : Int32) (m17 : Int32) (m18 : Int32) (m19 : Int32) (m20 : Int32) (m22 : Int32) (m23 : Int32) (f : Nat → Int32) (pre0 : f 1 = 0) : Met l yX11_eaten (gW yX11_eaten cX11_eaten 3 none) ({ frames := 0, cells := 0, slots := 0, locals := 0 } : Room) (kPre D cI [.ref h] [(h, .inr (11, [.ref ys, .ref yk, .ref yt, .int m3, .ref yf, .ref yb, .ref yz, .ref yn, .ref yc, .int m9, .ref yp, .ref yw, .int m12, .int m13, .int m14, .int m15, .int m16, .int m17, .int m18, .int m19, .int m20, .ref ye, .int m22, .int m23, .ref yx])), (ys, .inl (cI, 1201, .inl f))] sz) (va_Qv (fun (u : Unit) => True) (fun u t => kWd D cI (va_A [(h, .inr (11, [.ref ys, .ref yk, .ref yt, .int m3, .ref yf, .ref yb, .ref yz, .ref yn, .ref yc, .int m9, .ref yp, .ref yw, .int m12, .int m13, .int m14, .int m15, .int m16, .int m17, .int m18, .int m19, .int m20, .ref ye, .int m22, .int m23, .ref yx])), (ys, .inl (cI, 1201, .inl f))] sz) [(h, .inr (11, [.ref ys, .ref yk, .ref yt, .int m3, .ref yf, .ref yb, .ref yz, .ref yn, .ref yc, .int m9, .ref yp, .ref yw, .int m12, .int m13, .int m14, .int m15, .int m16, .int m17, .int m18, .int m19, .int m20, .ref ye, .int m22, .int m23, .ref yx])), (ys, .inl (cI, 1201, .inl f))] t) (va_A [(h, .inr (11, [.ref ys, .ref yk, .ref yt, .int m3, .ref yf, .ref yb, .ref yz, .ref yn, .ref yc, .int m9, .ref yp, .ref yw, .int m12, .int m13, .int m14, .int m15, .int m16, .int m17, .int m18, .int m19, .int m20, .ref ye, .int m22, .int m23, .ref yx])), (ys, .inl (cI, 1201, .inl f))] sz)) 0 0 (va_A [(h, .inr (11, [.ref ys, .ref yk, .ref yt, .int m3, .ref yf, .ref yb, .ref yz, .ref yn, .ref yc, .int m9, .ref yp, .ref yw, .int m12, .int m13, .int m14, .int m15, .int m16, .int m17, .int m18, .int m19, .int m20, .ref ye, .int m22, .int m23, .ref yx])), (ys, .inl (cI, 1201, .inl f))] sz) := by
  refine kMetV (own := RX11) (by decide) rfl (Nat.le_of_ble_eq_true rfl) ?_
  intro p e s m args below meth c hx hb hT hown hname hml A Q hK hP hD hS hA hN hRet ls hl
  have hl : lv_has ls 3 [(0, .ref h)] := hl
  have lo_m3 := k_lo m3
  have hi_m3 := k_hi m3
  have lo_m9 := k_lo m9
  have hi_m9 := k_hi m9
  have lo_m12 := k_lo m12
  have hi_m12 := k_hi m12
  have lo_m13 := k_lo m13
  have hi_m13 := k_hi m13
  have lo_m14 := k_lo m14
  have hi_m14 := k_hi m14
  have lo_m15 := k_lo m15
  have hi_m15 := k_hi m15
  have lo_m16 := k_lo m16
  have hi_m16 := k_hi m16
  have lo_m17 := k_lo m17
  have hi_m17 := k_hi m17
  have lo_m18 := k_lo m18
  have hi_m18 := k_hi m18
  have lo_m19 := k_lo m19
  have hi_m19 := k_hi m19
  have lo_m20 := k_lo m20
  have hi_m20 := k_hi m20
  have lo_m22 := k_lo m22
  have hi_m22 := k_hi m22
  have lo_m23 := k_lo m23
  have hi_m23 := k_hi m23
  refine lv_iconst (v := 0) hx hb dX11_eaten_0 (by decide) ?_
  refine lv_istore_n (lv' := [(1, .int 0), (0, .ref h)]) hx hb dX11_eaten_1 rfl hl (by decide) rfl (fun ls hl => ?_)
  refine lv_iload_n hx hb dX11_eaten_2 rfl (lv_at hl 0 rfl) ?_
  refine lv_aload_n hx hb dX11_eaten_3 rfl (lv_at hl 1 rfl) ?_
  refine va_get (D := D) (ci := 11) (v := .ref ys) (C := RX11) (T := TX11) (N := 25) hx hb hT giX11 hown hK hP 0 rfl rfl 0 (by decide) (hT (Cond.fieldLink RX11 9 "DesertWireModel" "s" "[I") mw_1156) (fun _ h9 => h9) rfl dX11_eaten_4 ?_
  refine lv_iconst (v := 1) hx hb dX11_eaten_7 (by decide) ?_
  refine k_iald (v := 0) hx hb hK hP 1 0 rfl rfl (k_inl (by decide)) pre0 dX11_eaten_8 ?_
  refine b_icmp_ge hx hb zl_0 zl_0 (tgt := 47) dX11_eaten_9 (by decide) (fun c_1 => ?_) (fun c_1 => by exfalso; omega)
  exact hRet () [0, 1] trivial hP hD (by decide) rfl hS dX11_eaten_47
set_option maxHeartbeats 4000000 in
set_option maxRecDepth 100000 in
theorem c_X11_oneDay (l : Launch) (D : va_G) (cI : ClassId) (h ys yk yt yf yb yz yn yc yp yw ye yx : Nat) (sz : Nat) (m3 : Int32) (m9 : Int32) (m12 : Int32) (m13 : Int32) (m14 : Int32) (m15 : Int32) (m16 : Int32) (m17 : Int32) (m18 : Int32) (m19 : Int32) (m20 : Int32) (m22 : Int32) (m23 : Int32) (f : Nat → Int32) (dy : Int32) (pre0 : f 0 = dy) (pre1 : f 1 = 0) (pre2 : f 2 = 0) (pre3 : 0 ≤ dy.toInt) (pre4 : dy.toInt ≤ 10000) : Met l yX11_oneDay (gW yX11_oneDay cX11_oneDay 2 none) ({ frames := 1, cells := 0, slots := 0, locals := 22 } : Room) (kPre D cI [.ref h] [(h, .inr (11, [.ref ys, .ref yk, .ref yt, .int m3, .ref yf, .ref yb, .ref yz, .ref yn, .ref yc, .int m9, .ref yp, .ref yw, .int m12, .int m13, .int m14, .int m15, .int m16, .int m17, .int m18, .int m19, .int m20, .ref ye, .int m22, .int m23, .ref yx])), (ys, .inl (cI, 1201, .inl f))] sz) (va_Qv (fun (u : (Nat → Int32) × Int32) => u.1 0 = u.2 ∧ u.1 1 = 0 ∧ u.1 2 = 0 ∧ u.2.toInt = dy.toInt + 1) (fun u t => kWd D cI (va_A [(h, .inr (11, [.ref ys, .ref yk, .ref yt, .int m3, .ref yf, .ref yb, .ref yz, .ref yn, .ref yc, .int m9, .ref yp, .ref yw, .int m12, .int m13, .int m14, .int m15, .int m16, .int m17, .int m18, .int m19, .int m20, .ref ye, .int m22, .int m23, .ref yx])), (ys, .inl (cI, 1201, .inl f))] sz) [(h, .inr (11, [.ref ys, .ref yk, .ref yt, .int m3, .ref yf, .ref yb, .ref yz, .ref yn, .ref yc, .int m9, .ref yp, .ref yw, .int m12, .int m13, .int m14, .int m15, .int m16, .int m17, .int m18, .int m19, .int m20, .ref ye, .int m22, .int m23, .ref yx])), (ys, .inl (cI, 1201, .inl u.1))] t) (va_A [(h, .inr (11, [.ref ys, .ref yk, .ref yt, .int m3, .ref yf, .ref yb, .ref yz, .ref yn, .ref yc, .int m9, .ref yp, .ref yw, .int m12, .int m13, .int m14, .int m15, .int m16, .int m17, .int m18, .int m19, .int m20, .ref ye, .int m22, .int m23, .ref yx])), (ys, .inl (cI, 1201, .inl f))] sz)) 0 0 (va_A [(h, .inr (11, [.ref ys, .ref yk, .ref yt, .int m3, .ref yf, .ref yb, .ref yz, .ref yn, .ref yc, .int m9, .ref yp, .ref yw, .int m12, .int m13, .int m14, .int m15, .int m16, .int m17, .int m18, .int m19, .int m20, .ref ye, .int m22, .int m23, .ref yx])), (ys, .inl (cI, 1201, .inl f))] sz) := by
  refine kMetV (own := RX11) (by decide) rfl (Nat.le_of_ble_eq_true rfl) ?_
  intro p e s m args below meth c hx hb hT hown hname hml A Q hK hP hD hS hA hN hRet ls hl
  have hl : lv_has ls 2 [(0, .ref h)] := hl
  have lo_m3 := k_lo m3
  have hi_m3 := k_hi m3
  have lo_m9 := k_lo m9
  have hi_m9 := k_hi m9
  have lo_m12 := k_lo m12
  have hi_m12 := k_hi m12
  have lo_m13 := k_lo m13
  have hi_m13 := k_hi m13
  have lo_m14 := k_lo m14
  have hi_m14 := k_hi m14
  have lo_m15 := k_lo m15
  have hi_m15 := k_hi m15
  have lo_m16 := k_lo m16
  have hi_m16 := k_hi m16
  have lo_m17 := k_lo m17
  have hi_m17 := k_hi m17
  have lo_m18 := k_lo m18
  have hi_m18 := k_hi m18
  have lo_m19 := k_lo m19
  have hi_m19 := k_hi m19
  have lo_m20 := k_lo m20
  have hi_m20 := k_hi m20
  have lo_m22 := k_lo m22
  have hi_m22 := k_hi m22
  have lo_m23 := k_lo m23
  have hi_m23 := k_hi m23
  have lo_dy := k_lo dy
  have hi_dy := k_hi dy
  refine lv_aload_n hx hb dX11_oneDay_0 rfl (lv_at hl 0 rfl) ?_
  refine kJv (wr := []) (va_runV (As := []) (rest := []) ⟨hx, hb, hml, hown, hT⟩ (c_X11_eaten l D cI h ys yk yt yf yb yz yn yc yp yw ye yx s.heap.size m3 m9 m12 m13 m14 m15 m16 m17 m18 m19 m20 m22 m23 f pre1) (cwV 0 hT (gV_in mw_1539 mw_1536 mw_1538 mw_p6_0 mw_12) rfl rfl rfl (by decide +kernel) ⟨Nat.le_of_ble_eq_true rfl, Nat.le_of_ble_eq_true rfl⟩) (kRecv (own := "") (q0 := 0) (ci := 11) hK hP hD hN rfl rfl [0, 1] rfl (by decide)) rfl rfl hl.1 rfl (lv_room (Nat.le_of_ble_eq_true rfl)) dX11_oneDay_1 ⟨Nat.le_of_ble_eq_true rfl, Nat.le_of_ble_eq_true rfl⟩) hP hD hS hA [0, 1] [] rfl rfl (by decide) (by decide) (fun u_3 H locs w_2 hP hD hS => ?_)
  have hP : va_P D vwCl [(h, .inr (11, [.ref ys, .ref yk, .ref yt, .int m3, .ref yf, .ref yb, .ref yz, .ref yn, .ref yc, .int m9, .ref yp, .ref yw, .int m12, .int m13, .int m14, .int m15, .int m16, .int m17, .int m18, .int m19, .int m20, .ref ye, .int m22, .int m23, .ref yx])), (ys, .inl (cI, 1201, .inl f))] H := hP
  have hD : va_D A [(h, .inr (11, [.ref ys, .ref yk, .ref yt, .int m3, .ref yf, .ref yb, .ref yz, .ref yn, .ref yc, .int m9, .ref yp, .ref yw, .int m12, .int m13, .int m14, .int m15, .int m16, .int m17, .int m18, .int m19, .int m20, .ref ye, .int m22, .int m23, .ref yx])), (ys, .inl (cI, 1201, .inl f))] := hD
  refine lv_iconst (v := 0) hx hb dX11_oneDay_4 (by decide) ?_
  refine lv_istore_n (lv' := [(1, .int 0), (0, .ref h)]) hx hb dX11_oneDay_5 rfl hl (by decide) rfl (fun ls hl => ?_)
  refine lv_iload_n hx hb dX11_oneDay_6 rfl (lv_at hl 0 rfl) ?_
  refine lv_aload_n hx hb dX11_oneDay_7 rfl (lv_at hl 1 rfl) ?_
  refine va_get (D := D) (ci := 11) (v := .ref ys) (C := RX11) (T := TX11) (N := 25) hx hb hT giX11 hown hK hP 0 rfl rfl 0 (by decide) (hT (Cond.fieldLink RX11 9 "DesertWireModel" "s" "[I") mw_1156) (fun _ h9 => h9) rfl dX11_oneDay_8 ?_
  refine lv_iconst (v := 2) hx hb dX11_oneDay_11 (by decide) ?_
  refine k_iald (v := 0) hx hb hK hP 1 0 rfl rfl (k_inl (by decide)) pre2 dX11_oneDay_12 ?_
  refine b_icmp_ge hx hb zl_0 zl_0 (tgt := 67) dX11_oneDay_13 (by decide) (fun c_4 => ?_) (fun c_4 => by exfalso; omega)
  refine lv_iconst (v := 0) hx hb dX11_oneDay_67 (by decide) ?_
  refine lv_istore_n (lv' := [(1, .int 0), (0, .ref h)]) hx hb dX11_oneDay_68 rfl hl (by decide) rfl (fun ls hl => ?_)
  refine lv_iload_n hx hb dX11_oneDay_69 rfl (lv_at hl 0 rfl) ?_
  refine lv_aload_n hx hb dX11_oneDay_70 rfl (lv_at hl 1 rfl) ?_
  refine va_get (D := D) (ci := 11) (v := .ref ys) (C := RX11) (T := TX11) (N := 25) hx hb hT giX11 hown hK hP 0 rfl rfl 0 (by decide) (hT (Cond.fieldLink RX11 9 "DesertWireModel" "s" "[I") mw_1156) (fun _ h9 => h9) rfl dX11_oneDay_71 ?_
  refine lv_iconst (v := 2) hx hb dX11_oneDay_74 (by decide) ?_
  refine k_iald (v := 0) hx hb hK hP 1 0 rfl rfl (k_inl (by decide)) pre2 dX11_oneDay_75 ?_
  refine b_icmp_ge hx hb zl_0 zl_0 (tgt := 100) dX11_oneDay_76 (by decide) (fun c_5 => ?_) (fun c_5 => by exfalso; omega)
  refine lv_aload_n hx hb dX11_oneDay_100 rfl (lv_at hl 1 rfl) ?_
  refine va_get (D := D) (ci := 11) (v := .ref ys) (C := RX11) (T := TX11) (N := 25) hx hb hT giX11 hown hK hP 0 rfl rfl 0 (by decide) (hT (Cond.fieldLink RX11 9 "DesertWireModel" "s" "[I") mw_1156) (fun _ h9 => h9) rfl dX11_oneDay_101 ?_
  refine lv_iconst (v := 0) hx hb dX11_oneDay_104 (by decide) ?_
  refine lv_dup2_11 hx hb dX11_oneDay_105 rfl rfl ?_
  refine k_iald (v := dy) hx hb hK hP 1 0 rfl rfl (k_inl (by decide)) pre0 dX11_oneDay_106 ?_
  refine lv_iconst (v := 1) hx hb dX11_oneDay_107 (by decide) ?_
  refine lv_iadd hx hb dX11_oneDay_108 ?_
  refine lv_topi (fun v_6 ev_6 => ?_)
  have tv_6 : v_6.toInt = dy.toInt + 1 := by rw [ev_6]; exact k_addv rfl zl_1 (by omega) (by omega)
  refine va_iast hx hb hK hP hD hS 1 0 rfl rfl (k_inl (by decide)) dX11_oneDay_109 (fun H locs hP hD hS => ?_)
  have hP : va_P D vwCl [(h, .inr (11, [.ref ys, .ref yk, .ref yt, .int m3, .ref yf, .ref yb, .ref yz, .ref yn, .ref yc, .int m9, .ref yp, .ref yw, .int m12, .int m13, .int m14, .int m15, .int m16, .int m17, .int m18, .int m19, .int m20, .ref ye, .int m22, .int m23, .ref yx])), (ys, .inl (cI, 1201, .inl (upd f 0 v_6)))] H := hP
  have hD : va_D A [(h, .inr (11, [.ref ys, .ref yk, .ref yt, .int m3, .ref yf, .ref yb, .ref yz, .ref yn, .ref yc, .int m9, .ref yp, .ref yw, .int m12, .int m13, .int m14, .int m15, .int m16, .int m17, .int m18, .int m19, .int m20, .ref ye, .int m22, .int m23, .ref yx])), (ys, .inl (cI, 1201, .inl (upd f 0 v_6)))] := hD
  obtain ⟨f_7, ef_7⟩ : ∃ g : Nat → Int32, g = upd f 0 v_6 := ⟨_, rfl⟩
  rw [← ef_7] at hP hD
  exact hRet (f_7, v_6) [0, 1] ⟨(by rw [ef_7]; rfl), (by rw [ef_7]; exact pre1), (by rw [ef_7]; exact pre2), (by first | omega | decide | assumption | rfl)⟩ hP hD (by decide) rfl hS dX11_oneDay_110
set_option maxHeartbeats 4000000 in
set_option maxRecDepth 100000 in
theorem c_X11_days (l : Launch) (D : va_G) (cI : ClassId) (h ys yk yt yf yb yz yn yc yp yw ye yx : Nat) (sz : Nat) (m3 : Int32) (m9 : Int32) (m12 : Int32) (m13 : Int32) (m14 : Int32) (m15 : Int32) (m16 : Int32) (m17 : Int32) (m18 : Int32) (m19 : Int32) (m20 : Int32) (m22 : Int32) (m23 : Int32) (ff : Nat → Int32) (a : Int32) : Met l yX11_days (gW yX11_days cX11_days 3 (some .int)) ({ frames := 2, cells := 0, slots := 0, locals := 43 } : Room) (kPre D cI [.ref h, .int a] [(h, .inr (11, [.ref ys, .ref yk, .ref yt, .int m3, .ref yf, .ref yb, .ref yz, .ref yn, .ref yc, .int m9, .ref yp, .ref yw, .int m12, .int m13, .int m14, .int m15, .int m16, .int m17, .int m18, .int m19, .int m20, .ref ye, .int m22, .int m23, .ref yx])), (ys, .inl (cI, 1201, .inl sI)), (yf, .inl (cI, 6, .inl ff))] sz) (va_Qi (fun (r : Int32) (u : Unit) => r = sp_days a) (fun u t => kWd D cI (va_A [(h, .inr (11, [.ref ys, .ref yk, .ref yt, .int m3, .ref yf, .ref yb, .ref yz, .ref yn, .ref yc, .int m9, .ref yp, .ref yw, .int m12, .int m13, .int m14, .int m15, .int m16, .int m17, .int m18, .int m19, .int m20, .ref ye, .int m22, .int m23, .ref yx])), (ys, .inl (cI, 1201, .inl sI)), (yf, .inl (cI, 6, .inl ff))] sz) [] t) (va_A [(h, .inr (11, [.ref ys, .ref yk, .ref yt, .int m3, .ref yf, .ref yb, .ref yz, .ref yn, .ref yc, .int m9, .ref yp, .ref yw, .int m12, .int m13, .int m14, .int m15, .int m16, .int m17, .int m18, .int m19, .int m20, .ref ye, .int m22, .int m23, .ref yx])), (ys, .inl (cI, 1201, .inl sI)), (yf, .inl (cI, 6, .inl ff))] sz)) 0 0 (va_A [(h, .inr (11, [.ref ys, .ref yk, .ref yt, .int m3, .ref yf, .ref yb, .ref yz, .ref yn, .ref yc, .int m9, .ref yp, .ref yw, .int m12, .int m13, .int m14, .int m15, .int m16, .int m17, .int m18, .int m19, .int m20, .ref ye, .int m22, .int m23, .ref yx])), (ys, .inl (cI, 1201, .inl sI)), (yf, .inl (cI, 6, .inl ff))] sz) := by
  refine kMetI (own := RX11) (by decide) rfl (Nat.le_of_ble_eq_true rfl) ?_
  intro p e s m args below meth c hx hb hT hown hname hml A Q hK hP hD hS hA hN hRet ls hl
  have hl : lv_has ls 3 [(0, .ref h), (1, .int a)] := hl
  have lo_a := k_lo a
  have hi_a := k_hi a
  have lo_m3 := k_lo m3
  have hi_m3 := k_hi m3
  have lo_m9 := k_lo m9
  have hi_m9 := k_hi m9
  have lo_m12 := k_lo m12
  have hi_m12 := k_hi m12
  have lo_m13 := k_lo m13
  have hi_m13 := k_hi m13
  have lo_m14 := k_lo m14
  have hi_m14 := k_hi m14
  have lo_m15 := k_lo m15
  have hi_m15 := k_hi m15
  have lo_m16 := k_lo m16
  have hi_m16 := k_hi m16
  have lo_m17 := k_lo m17
  have hi_m17 := k_hi m17
  have lo_m18 := k_lo m18
  have hi_m18 := k_hi m18
  have lo_m19 := k_lo m19
  have hi_m19 := k_hi m19
  have lo_m20 := k_lo m20
  have hi_m20 := k_hi m20
  have lo_m22 := k_lo m22
  have hi_m22 := k_hi m22
  have lo_m23 := k_lo m23
  have hi_m23 := k_hi m23
  refine lv_iload_n hx hb dX11_days_0 rfl (lv_at hl 1 rfl) ?_
  refine lv_iconst (v := 1) hx hb dX11_days_1 (by decide) ?_
  refine lv_sipush (v := 200) hx hb dX11_days_2 (by decide) ?_
  refine kJi (wr := [(h, .inr (11, [.ref ys, .ref yk, .ref yt, .int m3, .ref yf, .ref yb, .ref yz, .ref yn, .ref yc, .int m9, .ref yp, .ref yw, .int m12, .int m13, .int m14, .int m15, .int m16, .int m17, .int m18, .int m19, .int m20, .ref ye, .int m22, .int m23, .ref yx])), (ys, .inl (cI, 1201, .inl sI)), (yf, .inl (cI, 6, .inl ff))]) (va_runS (As := [.int a, .int 1, .int 200]) (rest := []) ⟨hx, hb, hml, hown, hT⟩ (c_X11_in l D cI s.heap.size a 1 200) (cwS 3 hT (gS_in mw_1238 mw_1236 mw_1237 mw_12) rfl rfl rfl (by decide +kernel) ⟨Nat.le_of_ble_eq_true rfl, Nat.le_of_ble_eq_true rfl⟩) (kStat hK hP hD hN [] rfl (by decide)) rfl rfl hl.1 rfl (lv_room (Nat.le_of_ble_eq_true rfl)) dX11_days_5 ⟨Nat.le_of_ble_eq_true rfl, Nat.le_of_ble_eq_true rfl⟩) hP hD hS hA [] [0, 1, 2] rfl rfl (by decide) (by decide) (fun r_1 u_3 H locs w_2 hP hD hS => ?_)
  have hP : va_P D vwCl [(h, .inr (11, [.ref ys, .ref yk, .ref yt, .int m3, .ref yf, .ref yb, .ref yz, .ref yn, .ref yc, .int m9, .ref yp, .ref yw, .int m12, .int m13, .int m14, .int m15, .int m16, .int m17, .int m18, .int m19, .int m20, .ref ye, .int m22, .int m23, .ref yx])), (ys, .inl (cI, 1201, .inl sI)), (yf, .inl (cI, 6, .inl ff))] H := hP
  have hD : va_D A [(h, .inr (11, [.ref ys, .ref yk, .ref yt, .int m3, .ref yf, .ref yb, .ref yz, .ref yn, .ref yc, .int m9, .ref yp, .ref yw, .int m12, .int m13, .int m14, .int m15, .int m16, .int m17, .int m18, .int m19, .int m20, .ref ye, .int m22, .int m23, .ref yx])), (ys, .inl (cI, 1201, .inl sI)), (yf, .inl (cI, 6, .inl ff))] := hD
  rcases w_2 with ⟨hr_1, h_4, h_5⟩ | ⟨hr_1, h_6⟩
  · try simp only [zl_1, zl_200] at h_4
    have h_4 : 1 ≤ a.toInt := h_4
    try simp only [zl_1, zl_200] at h_5
    have h_5 : a.toInt ≤ 200 := h_5
    obtain rfl : r_1 = 1 := hr_1.trans (by decide)
    refine b_if_eq hx hb zl_1 (tgt := 25) dX11_days_8 (by decide) (fun c_7 => by exfalso; omega) (fun c_7 => ?_)
    refine lv_aload_n hx hb dX11_days_11 rfl (lv_at hl 0 rfl) ?_
    refine va_get (D := D) (ci := 11) (v := .ref ys) (C := RX11) (T := TX11) (N := 25) hx hb hT giX11 hown hK hP 0 rfl rfl 0 (by decide) (hT (Cond.fieldLink RX11 9 "DesertWireModel" "s" "[I") mw_1156) (fun _ h9 => h9) rfl dX11_days_12 ?_
    refine lv_iconst (v := 0) hx hb dX11_days_15 (by decide) ?_
    refine k_iald (v := 0) hx hb hK hP 1 0 rfl rfl (k_inl (by decide)) (by decide +kernel) dX11_days_16 ?_
    refine lv_iload_n hx hb dX11_days_17 rfl (lv_at hl 1 rfl) ?_
    refine lv_iadd hx hb dX11_days_18 ?_
    refine lv_topi (fun v_8 ev_8 => ?_)
    have tv_8 : v_8.toInt = 0 + a.toInt := by rw [ev_8]; exact k_addv zl_0 rfl (by omega) (by omega)
    refine lv_sipush (v := 2000) hx hb dX11_days_19 (by decide) ?_
    refine b_icmp_le hx hb rfl zl_2000 (tgt := 32) dX11_days_22 (by decide) (fun c_9 => ?_) (fun c_9 => by exfalso; omega)
    refine lv_iconst (v := 0) hx hb dX11_days_32 (by decide) ?_
    refine lv_istore_n (lv' := [(2, .int 0), (0, .ref h), (1, .int a)]) hx hb dX11_days_33 rfl hl (by decide) rfl (fun ls hl => ?_)
    have hloop_34 : ∀ (fu_ : Nat) (i : Int32) (q : Nat → Int32), 0 ≤ i.toInt → i.toInt ≤ a.toInt → (q 0).toInt = i.toInt → q 1 = 0 → q 2 = 0 → (200 - i.toInt).toNat < fu_ → ∀ (ls : Array Slot) (H : Heap) (locs : List Loc), lv_has ls 3 [(2, .int i), (0, .ref h), (1, .int a)] → va_P D vwCl [(h, .inr (11, [.ref ys, .ref yk, .ref yt, .int m3, .ref yf, .ref yb, .ref yz, .ref yn, .ref yc, .int m9, .ref yp, .ref yw, .int m12, .int m13, .int m14, .int m15, .int m16, .int m17, .int m18, .int m19, .int m20, .ref ye, .int m22, .int m23, .ref yx])), (ys, .inl (cI, 1201, .inl q)), (yf, .inl (cI, 6, .inl ff))] H → va_D A [(h, .inr (11, [.ref ys, .ref yk, .ref yt, .int m3, .ref yf, .ref yb, .ref yz, .ref yn, .ref yc, .int m9, .ref yp, .ref yw, .int m12, .int m13, .int m14, .int m15, .int m16, .int m17, .int m18, .int m19, .int m20, .ref ye, .int m22, .int m23, .ref yx])), (ys, .inl (cI, 1201, .inl q)), (yf, .inl (cI, 6, .inl ff))] → va_S A s.heap H locs → W p l e ({ frames := 2, cells := 0, slots := 0, locals := 43 } : Room) s m args below meth c H locs 0 0 Q (F0 m 34 ls []) := by
      intro fu_; induction fu_ with
      | zero => intro i q i34_0 i34_1 i34_2 i34_3 i34_4 hm; exact absurd hm (by omega)
      | succ fu_ ih34 =>
          intro i q i34_0 i34_1 i34_2 i34_3 i34_4 hm ls H locs hl hP hD hS
          have lo_i := k_lo i
          have hi_i := k_hi i
          refine lv_iload_n hx hb dX11_days_34 rfl (lv_at hl 0 rfl) ?_
          refine lv_iload_n hx hb dX11_days_35 rfl (lv_at hl 2 rfl) ?_
          refine b_icmp_ge hx hb rfl rfl (tgt := 49) dX11_days_36 (by decide) (fun c_10 => ?_) (fun c_10 => ?_)
          · refine lv_aload_n hx hb dX11_days_49 rfl (lv_at hl 1 rfl) ?_
            refine va_get (D := D) (ci := 11) (v := .ref ys) (C := RX11) (T := TX11) (N := 25) hx hb hT giX11 hown hK hP 0 rfl rfl 0 (by decide) (hT (Cond.fieldLink RX11 9 "DesertWireModel" "s" "[I") mw_1156) (fun _ h9 => h9) rfl dX11_days_50 ?_
            refine lv_iconst (v := 0) hx hb dX11_days_53 (by decide) ?_
            refine k_iald (v := (q 0)) hx hb hK hP 1 0 rfl rfl (k_inl (by decide)) rfl dX11_days_54 ?_
            refine lv_topi (fun v_11 ev_11 => ?_)
            have lo_v_11 := k_lo v_11
            have hi_v_11 := k_hi v_11
            have tv_11 : v_11.toInt = (q 0).toInt := by rw [ev_11]
            exact hRet () [] (by unfold sp_days; first | (rw [if_pos (by omega)]; exact k_inj (by first | omega | (rw [ev_11]; omega))) | rw [if_neg (by omega)]) hP hD (by decide) rfl hS rfl dX11_days_55
          · refine lv_aload_n hx hb dX11_days_39 rfl (lv_at hl 1 rfl) ?_
            refine kJv (wr := [(yf, .inl (cI, 6, .inl ff))]) (va_runV (As := []) (rest := []) ⟨hx, hb, hml, hown, hT⟩ (c_X11_oneDay l D cI h ys yk yt yf yb yz yn yc yp yw ye yx H.size m3 m9 m12 m13 m14 m15 m16 m17 m18 m19 m20 m22 m23 q (q 0) rfl i34_3 i34_4 (by first | omega | decide | assumption | rfl) (by first | omega | decide | assumption | rfl)) (cwV 0 hT (gV_in mw_1535 mw_1532 mw_1534 mw_p5_15 mw_12) rfl rfl rfl (by decide +kernel) ⟨Nat.le_of_ble_eq_true rfl, Nat.le_of_ble_eq_true rfl⟩) (kRecv (own := "") (q0 := 0) (ci := 11) hK hP hD hN rfl rfl [0, 1] rfl (by decide)) rfl rfl hl.1 rfl (lv_room (Nat.le_of_ble_eq_true rfl)) dX11_days_40 ⟨Nat.le_of_ble_eq_true rfl, Nat.le_of_ble_eq_true rfl⟩) hP hD hS hA [0, 1] [2] rfl rfl (by decide) (by decide) (fun u_16 H locs w_13 hP hD hS => ?_)
            obtain ⟨g_14, d2_15⟩ := u_16
            have hP : va_P D vwCl [(yf, .inl (cI, 6, .inl ff)), (h, .inr (11, [.ref ys, .ref yk, .ref yt, .int m3, .ref yf, .ref yb, .ref yz, .ref yn, .ref yc, .int m9, .ref yp, .ref yw, .int m12, .int m13, .int m14, .int m15, .int m16, .int m17, .int m18, .int m19, .int m20, .ref ye, .int m22, .int m23, .ref yx])), (ys, .inl (cI, 1201, .inl g_14))] H := hP
            have hD : va_D A [(yf, .inl (cI, 6, .inl ff)), (h, .inr (11, [.ref ys, .ref yk, .ref yt, .int m3, .ref yf, .ref yb, .ref yz, .ref yn, .ref yc, .int m9, .ref yp, .ref yw, .int m12, .int m13, .int m14, .int m15, .int m16, .int m17, .int m18, .int m19, .int m20, .ref ye, .int m22, .int m23, .ref yx])), (ys, .inl (cI, 1201, .inl g_14))] := hD
            have lo_d2_15 := k_lo d2_15
            have hi_d2_15 := k_hi d2_15
            obtain ⟨h_17, h_18, h_19, h_20⟩ := w_13
            have h_17 : g_14 0 = d2_15 := h_17
            have h_18 : g_14 1 = 0 := h_18
            have h_19 : g_14 2 = 0 := h_19
            have h_20 : d2_15.toInt = (q 0).toInt + 1 := h_20
            obtain ⟨v_21, ev_21⟩ : ∃ y : Int32, y = i + 1 := ⟨_, rfl⟩
            have tv_21 : v_21.toInt = i.toInt + 1 := by rw [ev_21]; exact k_addv rfl zl_1 (by omega) (by omega)
            refine lv_iinc (v := v_21) (lv' := [(2, .int v_21), (0, .ref h), (1, .int a)]) hx hb dX11_days_43 hl (k := 0) rfl (by rw [ev_21]; rfl) (by decide) rfl (fun ls hl => ?_)
            refine lv_goto (tgt := 34) hx hb dX11_days_46 (by decide) ?_
            exact ih34 v_21 g_14 (by first | omega | decide | assumption | rfl) (by first | omega | decide | assumption | rfl) (by rw [show g_14 0 = d2_15 from h_17] <;> first | omega) h_18 h_19 (by omega) ls _ _ (lv_sub hl [0, 1, 2] rfl) (hP.sub [1, 2, 0] rfl) (hD.sub [1, 2, 0] (by decide) rfl) hS
    exact hloop_34 _ 0 sI (by first | omega | (simp only [zl_0] <;> omega) | decide | assumption | rfl) (by first | omega | (simp only [zl_0] <;> omega) | decide | assumption | rfl) (by rw [show sI 0 = 0 from (by decide +kernel)] <;> first | omega | (simp only [zl_0] <;> omega) | (simp [zl_0]; done)) (by decide +kernel) (by decide +kernel) (Nat.lt_succ_self _) ls _ _ (lv_sub hl [0, 1, 2] rfl) hP hD hS
  · try simp only [zl_1, zl_200] at h_6
    have h_6 : a.toInt < 1 ∨ 200 < a.toInt := h_6
    obtain rfl : r_1 = 0 := hr_1.trans (by decide)
    refine b_if_eq hx hb zl_0 (tgt := 25) dX11_days_8 (by decide) (fun c_22 => ?_) (fun c_22 => by exfalso; omega)
    refine lv_aload_n hx hb dX11_days_25 rfl (lv_at hl 0 rfl) ?_
    refine lv_ldc (v := (-1000001)) hx hb hown (hT _ mw_1239) dX11_days_26 ?_
    refine kJi (wr := [(ys, .inl (cI, 1201, .inl sI))]) (va_runV (As := [.int (-1000001)]) (rest := []) ⟨hx, hb, hml, hown, hT⟩ (c_X11_finding l D cI h ys yk yt yf yb yz yn yc yp yw ye yx H.size m3 m9 m12 m13 m14 m15 m16 m17 m18 m19 m20 m22 m23 ff (-1000001) (by first | omega | (simp only [zl_m1000001] <;> omega) | decide | assumption | rfl) (by first | omega | (simp only [zl_m1000001] <;> omega) | decide | assumption | rfl)) (cwV 1 hT (gV_in mw_1243 mw_1240 mw_1242 mw_p3_8 mw_12) rfl rfl rfl (by decide +kernel) ⟨Nat.le_of_ble_eq_true rfl, Nat.le_of_ble_eq_true rfl⟩) (kRecv (own := "") (q0 := 0) (ci := 11) hK hP hD hN rfl rfl [0, 2] rfl (by decide)) rfl rfl hl.1 rfl (lv_room (Nat.le_of_ble_eq_true rfl)) dX11_days_28 ⟨Nat.le_of_ble_eq_true rfl, Nat.le_of_ble_eq_true rfl⟩) hP hD hS hA [0, 2] [1] rfl rfl (by decide) (by decide) (fun r_23 u_25 H locs w_24 hP hD hS => ?_)
    have hP : va_P D vwCl [(ys, .inl (cI, 1201, .inl sI))] H := hP
    have hD : va_D A [(ys, .inl (cI, 1201, .inl sI))] := hD
    have hr_23 := w_24
    obtain rfl : r_23 = (-1000001) := hr_23.trans (by decide)
    exact hRet () [] (by unfold sp_days; first | (rw [if_pos (by omega)]; exact k_inj (by first | omega | (rw [zl_0]; omega))) | rw [if_neg (by omega)]) hP hD (by decide) rfl hS rfl dX11_days_31
set_option maxHeartbeats 4000000 in
set_option maxRecDepth 100000 in
theorem c_X11_copy (l : Launch) (D : va_G) (cI : ClassId) (a b : Nat) (sz : Nat) (f : Nat → Int32) (g : Nat → Int32) : Met l yX11_copy (gW yX11_copy cX11_copy 3 none) ({ frames := 0, cells := 0, slots := 0, locals := 0 } : Room) (kPre D cI [.ref a, .ref b] [(a, .inl (cI, 1201, .inl f)), (b, .inl (cI, 1201, .inl g))] sz) (va_Qv (fun (u : Unit) => True) (fun u t => kWd D cI (va_A [(a, .inl (cI, 1201, .inl f)), (b, .inl (cI, 1201, .inl g))] sz) [(a, .inl (cI, 1201, .inl f)), (b, .inl (cI, 1201, .inl f))] t) (va_A [(a, .inl (cI, 1201, .inl f)), (b, .inl (cI, 1201, .inl g))] sz)) 0 0 (va_A [(a, .inl (cI, 1201, .inl f)), (b, .inl (cI, 1201, .inl g))] sz) := by
  refine kMetV (own := RX11) (by decide) rfl (Nat.le_of_ble_eq_true rfl) ?_
  intro p e s m args below meth c hx hb hT hown hname hml A Q hK hP hD hS hA hN hRet ls hl
  have hl : lv_has ls 3 [(0, .ref a), (1, .ref b)] := hl
  refine lv_iconst (v := 0) hx hb dX11_copy_0 (by decide) ?_
  refine lv_istore_n (lv' := [(2, .int 0), (0, .ref a), (1, .ref b)]) hx hb dX11_copy_1 rfl hl (by decide) rfl (fun ls hl => ?_)
  have hloop_2 : ∀ (fu_ : Nat) (i : Int32) (q : Nat → Int32), 0 ≤ i.toInt → i.toInt ≤ 1201 → (∀ j : Nat, j < i.toInt.toNat → q j = f j) → (1201 - i.toInt).toNat < fu_ → ∀ (ls : Array Slot) (H : Heap) (locs : List Loc), lv_has ls 3 [(2, .int i), (0, .ref a), (1, .ref b)] → va_P D vwCl [(a, .inl (cI, 1201, .inl f)), (b, .inl (cI, 1201, .inl q))] H → va_D A [(a, .inl (cI, 1201, .inl f)), (b, .inl (cI, 1201, .inl q))] → va_S A s.heap H locs → W p l e ({ frames := 0, cells := 0, slots := 0, locals := 0 } : Room) s m args below meth c H locs 0 0 Q (F0 m 2 ls []) := by
    intro fu_; induction fu_ with
    | zero => intro i q i2_0 i2_1 i2_2 hm; exact absurd hm (by omega)
    | succ fu_ ih2 =>
        intro i q i2_0 i2_1 i2_2 hm ls H locs hl hP hD hS
        have lo_i := k_lo i
        have hi_i := k_hi i
        refine lv_iload_n hx hb dX11_copy_2 rfl (lv_at hl 0 rfl) ?_
        refine lv_sipush (v := 1201) hx hb dX11_copy_3 (by decide) ?_
        refine b_icmp_ge hx hb rfl zl_1201 (tgt := 21) dX11_copy_6 (by decide) (fun c_1 => ?_) (fun c_1 => ?_)
        · have hPv := k_conv (q := 1) (g := f) hP rfl (fun j hj => i2_2 j (by omega))
          have hDv := k_convD (q := 1) (y := .inl (cI, 1201, .inl f)) hD rfl
          have hP : va_P D vwCl [(a, .inl (cI, 1201, .inl f)), (b, .inl (cI, 1201, .inl f))] H := hPv
          have hD : va_D A [(a, .inl (cI, 1201, .inl f)), (b, .inl (cI, 1201, .inl f))] := hDv
          exact hRet () [0, 1] trivial hP hD (by decide) rfl hS dX11_copy_21
        · refine lv_aload_n hx hb dX11_copy_9 rfl (lv_at hl 2 rfl) ?_
          refine lv_iload_n hx hb dX11_copy_10 rfl (lv_at hl 0 rfl) ?_
          refine lv_aload_n hx hb dX11_copy_11 rfl (lv_at hl 1 rfl) ?_
          refine lv_iload_n hx hb dX11_copy_12 rfl (lv_at hl 0 rfl) ?_
          refine k_iald (v := (f i.toNatClampNeg)) hx hb hK hP 0 0 rfl rfl (k_in (by omega) (by omega)) rfl dX11_copy_13 ?_
          refine lv_topi (fun v_2 ev_2 => ?_)
          have lo_v_2 := k_lo v_2
          have hi_v_2 := k_hi v_2
          have tv_2 : v_2.toInt = (f i.toNatClampNeg).toInt := by rw [ev_2]
          refine va_iast hx hb hK hP hD hS 1 0 rfl rfl (k_in (by omega) (by omega)) dX11_copy_14 (fun H locs hP hD hS => ?_)
          have hP : va_P D vwCl [(a, .inl (cI, 1201, .inl f)), (b, .inl (cI, 1201, .inl (upd q i.toNatClampNeg v_2)))] H := hP
          have hD : va_D A [(a, .inl (cI, 1201, .inl f)), (b, .inl (cI, 1201, .inl (upd q i.toNatClampNeg v_2)))] := hD
          obtain ⟨f_3, ef_3⟩ : ∃ g : Nat → Int32, g = upd q i.toNatClampNeg v_2 := ⟨_, rfl⟩
          rw [← ef_3] at hP hD
          obtain ⟨v_4, ev_4⟩ : ∃ y : Int32, y = i + 1 := ⟨_, rfl⟩
          have tv_4 : v_4.toInt = i.toInt + 1 := by rw [ev_4]; exact k_addv rfl zl_1 (by omega) (by omega)
          refine lv_iinc (v := v_4) (lv' := [(2, .int v_4), (0, .ref a), (1, .ref b)]) hx hb dX11_copy_15 hl (k := 0) rfl (by rw [ev_4]; rfl) (by decide) rfl (fun ls hl => ?_)
          refine lv_goto (tgt := 2) hx hb dX11_copy_18 (by decide) ?_
          exact ih2 v_4 f_3 (by first | omega | decide | assumption | rfl) (by first | omega | decide | assumption | rfl) (by rw [ef_3]; exact k_fillc i2_2 (by omega) tv_4 ev_2) (by omega) ls _ _ (lv_sub hl [0, 1, 2] rfl) (hP.sub [0, 1] rfl) (hD.sub [0, 1] (by decide) rfl) hS
  exact hloop_2 _ 0 g (by first | omega | (simp only [zl_0] <;> omega) | decide | assumption | rfl) (by first | omega | (simp only [zl_0] <;> omega) | decide | assumption | rfl) (fun j hj => by rw [zl_0] at hj; omega) (Nat.lt_succ_self _) ls _ _ (lv_sub hl [0, 1, 2] rfl) hP hD hS
set_option maxHeartbeats 4000000 in
set_option maxRecDepth 100000 in
theorem c_X11_ahead (l : Launch) (D : va_G) (cI : ClassId) (h ys yk yt yf yb yz yn yc yp yw ye yx : Nat) (sz : Nat) (m3 : Int32) (m9 : Int32) (m12 : Int32) (m13 : Int32) (m14 : Int32) (m15 : Int32) (m16 : Int32) (m17 : Int32) (m18 : Int32) (m19 : Int32) (m20 : Int32) (m22 : Int32) (m23 : Int32) (ff : Nat → Int32) (ft : Nat → Int32) (a : Int32) (b : Int32) (d : Int32) : Met l yX11_ahead (gW yX11_ahead cX11_ahead 6 (some .int)) ({ frames := 2, cells := 0, slots := 0, locals := 45 } : Room) (kPre D cI [.ref h, .int a, .int b, .int d] [(h, .inr (11, [.ref ys, .ref yk, .ref yt, .int m3, .ref yf, .ref yb, .ref yz, .ref yn, .ref yc, .int m9, .ref yp, .ref yw, .int m12, .int m13, .int m14, .int m15, .int m16, .int m17, .int m18, .int m19, .int m20, .ref ye, .int m22, .int m23, .ref yx])), (ys, .inl (cI, 1201, .inl sI)), (yt, .inl (cI, 1201, .inl ft)), (yf, .inl (cI, 6, .inl ff))] sz) (va_Qi (fun (r : Int32) (u : Unit) => r = sp_ahead a b) (fun u t => kWd D cI (va_A [(h, .inr (11, [.ref ys, .ref yk, .ref yt, .int m3, .ref yf, .ref yb, .ref yz, .ref yn, .ref yc, .int m9, .ref yp, .ref yw, .int m12, .int m13, .int m14, .int m15, .int m16, .int m17, .int m18, .int m19, .int m20, .ref ye, .int m22, .int m23, .ref yx])), (ys, .inl (cI, 1201, .inl sI)), (yt, .inl (cI, 1201, .inl ft)), (yf, .inl (cI, 6, .inl ff))] sz) [] t) (va_A [(h, .inr (11, [.ref ys, .ref yk, .ref yt, .int m3, .ref yf, .ref yb, .ref yz, .ref yn, .ref yc, .int m9, .ref yp, .ref yw, .int m12, .int m13, .int m14, .int m15, .int m16, .int m17, .int m18, .int m19, .int m20, .ref ye, .int m22, .int m23, .ref yx])), (ys, .inl (cI, 1201, .inl sI)), (yt, .inl (cI, 1201, .inl ft)), (yf, .inl (cI, 6, .inl ff))] sz)) 0 0 (va_A [(h, .inr (11, [.ref ys, .ref yk, .ref yt, .int m3, .ref yf, .ref yb, .ref yz, .ref yn, .ref yc, .int m9, .ref yp, .ref yw, .int m12, .int m13, .int m14, .int m15, .int m16, .int m17, .int m18, .int m19, .int m20, .ref ye, .int m22, .int m23, .ref yx])), (ys, .inl (cI, 1201, .inl sI)), (yt, .inl (cI, 1201, .inl ft)), (yf, .inl (cI, 6, .inl ff))] sz) := by
  refine kMetI (own := RX11) (by decide) rfl (Nat.le_of_ble_eq_true rfl) ?_
  intro p e s m args below meth c hx hb hT hown hname hml A Q hK hP hD hS hA hN hRet ls hl
  have hl : lv_has ls 6 [(0, .ref h), (1, .int a), (2, .int b), (3, .int d)] := hl
  have lo_a := k_lo a
  have hi_a := k_hi a
  have lo_b := k_lo b
  have hi_b := k_hi b
  have lo_d := k_lo d
  have hi_d := k_hi d
  have lo_m3 := k_lo m3
  have hi_m3 := k_hi m3
  have lo_m9 := k_lo m9
  have hi_m9 := k_hi m9
  have lo_m12 := k_lo m12
  have hi_m12 := k_hi m12
  have lo_m13 := k_lo m13
  have hi_m13 := k_hi m13
  have lo_m14 := k_lo m14
  have hi_m14 := k_hi m14
  have lo_m15 := k_lo m15
  have hi_m15 := k_hi m15
  have lo_m16 := k_lo m16
  have hi_m16 := k_hi m16
  have lo_m17 := k_lo m17
  have hi_m17 := k_hi m17
  have lo_m18 := k_lo m18
  have hi_m18 := k_hi m18
  have lo_m19 := k_lo m19
  have hi_m19 := k_hi m19
  have lo_m20 := k_lo m20
  have hi_m20 := k_hi m20
  have lo_m22 := k_lo m22
  have hi_m22 := k_hi m22
  have lo_m23 := k_lo m23
  have hi_m23 := k_hi m23
  refine lv_iload_n hx hb dX11_ahead_0 rfl (lv_at hl 1 rfl) ?_
  refine lv_iconst (v := 0) hx hb dX11_ahead_1 (by decide) ?_
  refine lv_sipush (v := 200) hx hb dX11_ahead_2 (by decide) ?_
  refine kJi (wr := [(h, .inr (11, [.ref ys, .ref yk, .ref yt, .int m3, .ref yf, .ref yb, .ref yz, .ref yn, .ref yc, .int m9, .ref yp, .ref yw, .int m12, .int m13, .int m14, .int m15, .int m16, .int m17, .int m18, .int m19, .int m20, .ref ye, .int m22, .int m23, .ref yx])), (ys, .inl (cI, 1201, .inl sI)), (yt, .inl (cI, 1201, .inl ft)), (yf, .inl (cI, 6, .inl ff))]) (va_runS (As := [.int a, .int 0, .int 200]) (rest := []) ⟨hx, hb, hml, hown, hT⟩ (c_X11_in l D cI s.heap.size a 0 200) (cwS 3 hT (gS_in mw_1238 mw_1236 mw_1237 mw_12) rfl rfl rfl (by decide +kernel) ⟨Nat.le_of_ble_eq_true rfl, Nat.le_of_ble_eq_true rfl⟩) (kStat hK hP hD hN [] rfl (by decide)) rfl rfl hl.1 rfl (lv_room (Nat.le_of_ble_eq_true rfl)) dX11_ahead_5 ⟨Nat.le_of_ble_eq_true rfl, Nat.le_of_ble_eq_true rfl⟩) hP hD hS hA [] [0, 1, 2, 3] rfl rfl (by decide) (by decide) (fun r_1 u_3 H locs w_2 hP hD hS => ?_)
  have hP : va_P D vwCl [(h, .inr (11, [.ref ys, .ref yk, .ref yt, .int m3, .ref yf, .ref yb, .ref yz, .ref yn, .ref yc, .int m9, .ref yp, .ref yw, .int m12, .int m13, .int m14, .int m15, .int m16, .int m17, .int m18, .int m19, .int m20, .ref ye, .int m22, .int m23, .ref yx])), (ys, .inl (cI, 1201, .inl sI)), (yt, .inl (cI, 1201, .inl ft)), (yf, .inl (cI, 6, .inl ff))] H := hP
  have hD : va_D A [(h, .inr (11, [.ref ys, .ref yk, .ref yt, .int m3, .ref yf, .ref yb, .ref yz, .ref yn, .ref yc, .int m9, .ref yp, .ref yw, .int m12, .int m13, .int m14, .int m15, .int m16, .int m17, .int m18, .int m19, .int m20, .ref ye, .int m22, .int m23, .ref yx])), (ys, .inl (cI, 1201, .inl sI)), (yt, .inl (cI, 1201, .inl ft)), (yf, .inl (cI, 6, .inl ff))] := hD
  rcases w_2 with ⟨hr_1, h_4, h_5⟩ | ⟨hr_1, h_6⟩
  · try simp only [zl_0, zl_200] at h_4
    have h_4 : 0 ≤ a.toInt := h_4
    try simp only [zl_0, zl_200] at h_5
    have h_5 : a.toInt ≤ 200 := h_5
    obtain rfl : r_1 = 1 := hr_1.trans (by decide)
    refine b_if_eq hx hb zl_1 (tgt := 49) dX11_ahead_8 (by decide) (fun c_7 => by exfalso; omega) (fun c_7 => ?_)
    refine lv_aload_n hx hb dX11_ahead_11 rfl (lv_at hl 0 rfl) ?_
    refine va_get (D := D) (ci := 11) (v := .ref ys) (C := RX11) (T := TX11) (N := 25) hx hb hT giX11 hown hK hP 0 rfl rfl 0 (by decide) (hT (Cond.fieldLink RX11 9 "DesertWireModel" "s" "[I") mw_1156) (fun _ h9 => h9) rfl dX11_ahead_12 ?_
    refine lv_iconst (v := 0) hx hb dX11_ahead_15 (by decide) ?_
    refine k_iald (v := 0) hx hb hK hP 1 0 rfl rfl (k_inl (by decide)) (by decide +kernel) dX11_ahead_16 ?_
    refine lv_iload_n hx hb dX11_ahead_17 rfl (lv_at hl 1 rfl) ?_
    refine lv_iadd hx hb dX11_ahead_18 ?_
    refine lv_topi (fun v_8 ev_8 => ?_)
    have tv_8 : v_8.toInt = 0 + a.toInt := by rw [ev_8]; exact k_addv zl_0 rfl (by omega) (by omega)
    refine lv_sipush (v := 2000) hx hb dX11_ahead_19 (by decide) ?_
    refine b_icmp_gt hx hb rfl zl_2000 (tgt := 49) dX11_ahead_22 (by decide) (fun c_9 => by exfalso; omega) (fun c_9 => ?_)
    refine lv_iload_n hx hb dX11_ahead_25 rfl (lv_at hl 2 rfl) ?_
    refine lv_iconst (v := 0) hx hb dX11_ahead_26 (by decide) ?_
    refine lv_bipush (v := 10) hx hb dX11_ahead_27 (by decide) ?_
    refine kJi (wr := [(h, .inr (11, [.ref ys, .ref yk, .ref yt, .int m3, .ref yf, .ref yb, .ref yz, .ref yn, .ref yc, .int m9, .ref yp, .ref yw, .int m12, .int m13, .int m14, .int m15, .int m16, .int m17, .int m18, .int m19, .int m20, .ref ye, .int m22, .int m23, .ref yx])), (ys, .inl (cI, 1201, .inl sI)), (yt, .inl (cI, 1201, .inl ft)), (yf, .inl (cI, 6, .inl ff))]) (va_runS (As := [.int b, .int 0, .int 10]) (rest := []) ⟨hx, hb, hml, hown, hT⟩ (c_X11_in l D cI H.size b 0 10) (cwS 3 hT (gS_in mw_1238 mw_1236 mw_1237 mw_12) rfl rfl rfl (by decide +kernel) ⟨Nat.le_of_ble_eq_true rfl, Nat.le_of_ble_eq_true rfl⟩) (kStat hK hP hD hN [] rfl (by decide)) rfl rfl hl.1 rfl (lv_room (Nat.le_of_ble_eq_true rfl)) dX11_ahead_29 ⟨Nat.le_of_ble_eq_true rfl, Nat.le_of_ble_eq_true rfl⟩) hP hD hS hA [] [0, 1, 2, 3] rfl rfl (by decide) (by decide) (fun r_10 u_12 H locs w_11 hP hD hS => ?_)
    have hP : va_P D vwCl [(h, .inr (11, [.ref ys, .ref yk, .ref yt, .int m3, .ref yf, .ref yb, .ref yz, .ref yn, .ref yc, .int m9, .ref yp, .ref yw, .int m12, .int m13, .int m14, .int m15, .int m16, .int m17, .int m18, .int m19, .int m20, .ref ye, .int m22, .int m23, .ref yx])), (ys, .inl (cI, 1201, .inl sI)), (yt, .inl (cI, 1201, .inl ft)), (yf, .inl (cI, 6, .inl ff))] H := hP
    have hD : va_D A [(h, .inr (11, [.ref ys, .ref yk, .ref yt, .int m3, .ref yf, .ref yb, .ref yz, .ref yn, .ref yc, .int m9, .ref yp, .ref yw, .int m12, .int m13, .int m14, .int m15, .int m16, .int m17, .int m18, .int m19, .int m20, .ref ye, .int m22, .int m23, .ref yx])), (ys, .inl (cI, 1201, .inl sI)), (yt, .inl (cI, 1201, .inl ft)), (yf, .inl (cI, 6, .inl ff))] := hD
    rcases w_11 with ⟨hr_10, h_13, h_14⟩ | ⟨hr_10, h_15⟩
    · try simp only [zl_0, zl_10] at h_13
      have h_13 : 0 ≤ b.toInt := h_13
      try simp only [zl_0, zl_10] at h_14
      have h_14 : b.toInt ≤ 10 := h_14
      obtain rfl : r_10 = 1 := hr_10.trans (by decide)
      refine b_if_eq hx hb zl_1 (tgt := 49) dX11_ahead_32 (by decide) (fun c_16 => by exfalso; omega) (fun c_16 => ?_)
      refine lv_iload_n hx hb dX11_ahead_35 rfl (lv_at hl 2 rfl) ?_
      refine lv_bipush (v := 9) hx hb dX11_ahead_36 (by decide) ?_
      refine b_icmp_ge hx hb rfl zl_9 (tgt := 56) dX11_ahead_38 (by decide) (fun c_17 => ?_) (fun c_17 => ?_)
      · refine lv_aload_n hx hb dX11_ahead_56 rfl (lv_at hl 0 rfl) ?_
        refine va_get (D := D) (ci := 11) (v := .ref ys) (C := RX11) (T := TX11) (N := 25) hx hb hT giX11 hown hK hP 0 rfl rfl 0 (by decide) (hT (Cond.fieldLink RX11 9 "DesertWireModel" "s" "[I") mw_1156) (fun _ h9 => h9) rfl dX11_ahead_57 ?_
        refine lv_astore (lv' := [(4, .ref ys), (0, .ref h), (1, .int a), (2, .int b), (3, .int d)]) hx hb dX11_ahead_60 hl (by decide) rfl (fun ls hl => ?_)
        refine lv_aload hx hb dX11_ahead_62 (lv_at hl 0 rfl) ?_
        refine lv_aload_n hx hb dX11_ahead_64 rfl (lv_at hl 1 rfl) ?_
        refine va_get (D := D) (ci := 11) (v := .ref yt) (C := RX11) (T := TX11) (N := 25) hx hb hT giX11 hown hK hP 0 rfl rfl 2 (by decide) (hT (Cond.fieldLink RX11 16 "DesertWireModel" "trial" "[I") mw_1158) (fun _ h9 => h9) rfl dX11_ahead_65 ?_
        refine kJv (wr := [(h, .inr (11, [.ref ys, .ref yk, .ref yt, .int m3, .ref yf, .ref yb, .ref yz, .ref yn, .ref yc, .int m9, .ref yp, .ref yw, .int m12, .int m13, .int m14, .int m15, .int m16, .int m17, .int m18, .int m19, .int m20, .ref ye, .int m22, .int m23, .ref yx])), (yf, .inl (cI, 6, .inl ff))]) (va_runS (As := [.ref ys, .ref yt]) (rest := []) ⟨hx, hb, hml, hown, hT⟩ (c_X11_copy l D cI ys yt H.size sI ft) (cwS 2 hT (gS_in mw_1558 mw_1556 mw_1557 mw_12) rfl rfl rfl (by decide +kernel) ⟨Nat.le_of_ble_eq_true rfl, Nat.le_of_ble_eq_true rfl⟩) (kStat hK hP hD hN [1, 2] rfl (by decide)) rfl rfl hl.1 rfl (lv_room (Nat.le_of_ble_eq_true rfl)) dX11_ahead_68 ⟨Nat.le_of_ble_eq_true rfl, Nat.le_of_ble_eq_true rfl⟩) hP hD hS hA [1, 2] [0, 3] rfl rfl (by decide) (by decide) (fun u_20 H locs w_19 hP hD hS => ?_)
        have hP : va_P D vwCl [(h, .inr (11, [.ref ys, .ref yk, .ref yt, .int m3, .ref yf, .ref yb, .ref yz, .ref yn, .ref yc, .int m9, .ref yp, .ref yw, .int m12, .int m13, .int m14, .int m15, .int m16, .int m17, .int m18, .int m19, .int m20, .ref ye, .int m22, .int m23, .ref yx])), (yf, .inl (cI, 6, .inl ff)), (ys, .inl (cI, 1201, .inl sI)), (yt, .inl (cI, 1201, .inl sI))] H := hP
        have hD : va_D A [(h, .inr (11, [.ref ys, .ref yk, .ref yt, .int m3, .ref yf, .ref yb, .ref yz, .ref yn, .ref yc, .int m9, .ref yp, .ref yw, .int m12, .int m13, .int m14, .int m15, .int m16, .int m17, .int m18, .int m19, .int m20, .ref ye, .int m22, .int m23, .ref yx])), (yf, .inl (cI, 6, .inl ff)), (ys, .inl (cI, 1201, .inl sI)), (yt, .inl (cI, 1201, .inl sI))] := hD
        refine lv_aload_n hx hb dX11_ahead_71 rfl (lv_at hl 1 rfl) ?_
        refine lv_aload_n hx hb dX11_ahead_72 rfl (lv_at hl 1 rfl) ?_
        refine va_get (D := D) (ci := 11) (v := .ref yt) (C := RX11) (T := TX11) (N := 25) hx hb hT giX11 hown hK hP 0 rfl rfl 2 (by decide) (hT (Cond.fieldLink RX11 16 "DesertWireModel" "trial" "[I") mw_1158) (fun _ h9 => h9) rfl dX11_ahead_73 ?_
        refine va_put (D := D) (ci := 11) (v := .ref yt) (ty := .array .int) (C := RX11) (T := TX11) (N := 25) hx hb hT giX11 tyX11 tyX11_ok nmX11 hown hK hP hD hS 0 rfl rfl 0 (by decide) (hT (Cond.fieldLink RX11 9 "DesertWireModel" "s" "[I") mw_1156) (fun _ h9 => h9) rfl (by decide +kernel) rfl rfl (Nat.le_of_ble_eq_true rfl) dX11_ahead_76 (fun H locs hP hD hS => ?_)
        have hP : va_P D vwCl [(h, .inr (11, [.ref yt, .ref yk, .ref yt, .int m3, .ref yf, .ref yb, .ref yz, .ref yn, .ref yc, .int m9, .ref yp, .ref yw, .int m12, .int m13, .int m14, .int m15, .int m16, .int m17, .int m18, .int m19, .int m20, .ref ye, .int m22, .int m23, .ref yx])), (yf, .inl (cI, 6, .inl ff)), (ys, .inl (cI, 1201, .inl sI)), (yt, .inl (cI, 1201, .inl sI))] H := hP
        have hD : va_D A [(h, .inr (11, [.ref yt, .ref yk, .ref yt, .int m3, .ref yf, .ref yb, .ref yz, .ref yn, .ref yc, .int m9, .ref yp, .ref yw, .int m12, .int m13, .int m14, .int m15, .int m16, .int m17, .int m18, .int m19, .int m20, .ref ye, .int m22, .int m23, .ref yx])), (yf, .inl (cI, 6, .inl ff)), (ys, .inl (cI, 1201, .inl sI)), (yt, .inl (cI, 1201, .inl sI))] := hD
        refine lv_iconst (v := 0) hx hb dX11_ahead_79 (by decide) ?_
        refine lv_istore (lv' := [(5, .int 0), (4, .ref ys), (0, .ref h), (1, .int a), (2, .int b), (3, .int d)]) hx hb dX11_ahead_80 hl (by decide) rfl (fun ls hl => ?_)
        have hloop_82 : ∀ (fu_ : Nat) (i : Int32) (q : Nat → Int32), 0 ≤ i.toInt → i.toInt ≤ a.toInt → (q 0).toInt = i.toInt → q 1 = 0 → q 2 = 0 → (200 - i.toInt).toNat < fu_ → ∀ (ls : Array Slot) (H : Heap) (locs : List Loc), lv_has ls 6 [(5, .int i), (4, .ref ys), (0, .ref h), (1, .int a), (2, .int b), (3, .int d)] → va_P D vwCl [(h, .inr (11, [.ref yt, .ref yk, .ref yt, .int m3, .ref yf, .ref yb, .ref yz, .ref yn, .ref yc, .int m9, .ref yp, .ref yw, .int m12, .int m13, .int m14, .int m15, .int m16, .int m17, .int m18, .int m19, .int m20, .ref ye, .int m22, .int m23, .ref yx])), (yf, .inl (cI, 6, .inl ff)), (ys, .inl (cI, 1201, .inl sI)), (yt, .inl (cI, 1201, .inl q))] H → va_D A [(h, .inr (11, [.ref yt, .ref yk, .ref yt, .int m3, .ref yf, .ref yb, .ref yz, .ref yn, .ref yc, .int m9, .ref yp, .ref yw, .int m12, .int m13, .int m14, .int m15, .int m16, .int m17, .int m18, .int m19, .int m20, .ref ye, .int m22, .int m23, .ref yx])), (yf, .inl (cI, 6, .inl ff)), (ys, .inl (cI, 1201, .inl sI)), (yt, .inl (cI, 1201, .inl q))] → va_S A s.heap H locs → W p l e ({ frames := 2, cells := 0, slots := 0, locals := 45 } : Room) s m args below meth c H locs 0 0 Q (F0 m 82 ls []) := by
          intro fu_; induction fu_ with
          | zero => intro i q i82_0 i82_1 i82_2 i82_3 i82_4 hm; exact absurd hm (by omega)
          | succ fu_ ih82 =>
              intro i q i82_0 i82_1 i82_2 i82_3 i82_4 hm ls H locs hl hP hD hS
              have lo_i := k_lo i
              have hi_i := k_hi i
              refine lv_iload hx hb dX11_ahead_82 (lv_at hl 0 rfl) ?_
              refine lv_iload_n hx hb dX11_ahead_84 rfl (lv_at hl 3 rfl) ?_
              refine b_icmp_ge hx hb rfl rfl (tgt := 98) dX11_ahead_85 (by decide) (fun c_21 => ?_) (fun c_21 => ?_)
              · refine lv_iload_n hx hb dX11_ahead_98 rfl (lv_at hl 4 rfl) ?_
                refine lv_bipush (v := 9) hx hb dX11_ahead_99 (by decide) ?_
                refine b_icmp_ge hx hb rfl zl_9 (tgt := 113) dX11_ahead_101 (by decide) (fun c_22 => ?_) (fun c_22 => by exfalso; omega)
                refine lv_iload_n hx hb dX11_ahead_113 rfl (lv_at hl 4 rfl) ?_
                refine lv_bipush (v := 9) hx hb dX11_ahead_114 (by decide) ?_
                refine b_icmp_ne hx hb rfl zl_9 (tgt := 126) dX11_ahead_116 (by decide) (fun c_23 => ?_) (fun c_23 => ?_)
                · refine lv_aload_n hx hb dX11_ahead_126 rfl (lv_at hl 2 rfl) ?_
                  refine va_get (D := D) (ci := 11) (v := .ref yt) (C := RX11) (T := TX11) (N := 25) hx hb hT giX11 hown hK hP 0 rfl rfl 0 (by decide) (hT (Cond.fieldLink RX11 9 "DesertWireModel" "s" "[I") mw_1156) (fun _ h9 => h9) rfl dX11_ahead_127 ?_
                  refine lv_iconst (v := 1) hx hb dX11_ahead_130 (by decide) ?_
                  refine k_iald (v := 0) hx hb hK hP 3 0 rfl rfl (k_inl (by decide)) i82_3 dX11_ahead_131 ?_
                  refine lv_istore (lv' := [(5, .int 0), (4, .ref ys), (0, .ref h), (1, .int a), (2, .int b), (3, .int d)]) hx hb dX11_ahead_132 hl (by decide) rfl (fun ls hl => ?_)
                  refine lv_aload_n hx hb dX11_ahead_134 rfl (lv_at hl 2 rfl) ?_
                  refine lv_aload hx hb dX11_ahead_135 (lv_at hl 1 rfl) ?_
                  refine va_put (D := D) (ci := 11) (v := .ref ys) (ty := .array .int) (C := RX11) (T := TX11) (N := 25) hx hb hT giX11 tyX11 tyX11_ok nmX11 hown hK hP hD hS 0 rfl rfl 0 (by decide) (hT (Cond.fieldLink RX11 9 "DesertWireModel" "s" "[I") mw_1156) (fun _ h9 => h9) rfl (by decide +kernel) rfl rfl (Nat.le_of_ble_eq_true rfl) dX11_ahead_137 (fun H locs hP hD hS => ?_)
                  have hP : va_P D vwCl [(h, .inr (11, [.ref ys, .ref yk, .ref yt, .int m3, .ref yf, .ref yb, .ref yz, .ref yn, .ref yc, .int m9, .ref yp, .ref yw, .int m12, .int m13, .int m14, .int m15, .int m16, .int m17, .int m18, .int m19, .int m20, .ref ye, .int m22, .int m23, .ref yx])), (yf, .inl (cI, 6, .inl ff)), (ys, .inl (cI, 1201, .inl sI)), (yt, .inl (cI, 1201, .inl q))] H := hP
                  have hD : va_D A [(h, .inr (11, [.ref ys, .ref yk, .ref yt, .int m3, .ref yf, .ref yb, .ref yz, .ref yn, .ref yc, .int m9, .ref yp, .ref yw, .int m12, .int m13, .int m14, .int m15, .int m16, .int m17, .int m18, .int m19, .int m20, .ref ye, .int m22, .int m23, .ref yx])), (yf, .inl (cI, 6, .inl ff)), (ys, .inl (cI, 1201, .inl sI)), (yt, .inl (cI, 1201, .inl q))] := hD
                  refine lv_iload hx hb dX11_ahead_140 (lv_at hl 0 rfl) ?_
                  exact hRet () [] (by unfold sp_ahead; repeat (first | rw [if_pos (by omega)] | rw [if_neg (by omega)])) hP hD (by decide) rfl hS rfl dX11_ahead_142
                · refine lv_aload_n hx hb dX11_ahead_119 rfl (lv_at hl 2 rfl) ?_
                  refine kJi (wr := [(yf, .inl (cI, 6, .inl ff)), (ys, .inl (cI, 1201, .inl sI))]) (va_runV (As := []) (rest := []) ⟨hx, hb, hml, hown, hT⟩ (c_X11_wired l D cI h yt yk yt yf yb yz yn yc yp yw ye yx H.size m3 m9 m12 m13 m14 m15 m16 m17 m18 m19 m20 m22 m23 q i82_3) (cwV 0 hT (gV_in mw_1562 mw_1559 mw_1561 mw_p6_4 mw_12) rfl rfl rfl (by decide +kernel) ⟨Nat.le_of_ble_eq_true rfl, Nat.le_of_ble_eq_true rfl⟩) (kRecv (own := "") (q0 := 0) (ci := 11) hK hP hD hN rfl rfl [0, 3] rfl (by decide)) rfl rfl hl.1 rfl (lv_room (Nat.le_of_ble_eq_true rfl)) dX11_ahead_120 ⟨Nat.le_of_ble_eq_true rfl, Nat.le_of_ble_eq_true rfl⟩) hP hD hS hA [0, 3] [1, 2] rfl rfl (by decide) (by decide) (fun r_24 u_26 H locs w_25 hP hD hS => ?_)
                  have hP : va_P D vwCl [(yf, .inl (cI, 6, .inl ff)), (ys, .inl (cI, 1201, .inl sI)), (h, .inr (11, [.ref yt, .ref yk, .ref yt, .int m3, .ref yf, .ref yb, .ref yz, .ref yn, .ref yc, .int m9, .ref yp, .ref yw, .int m12, .int m13, .int m14, .int m15, .int m16, .int m17, .int m18, .int m19, .int m20, .ref ye, .int m22, .int m23, .ref yx])), (yt, .inl (cI, 1201, .inl q))] H := hP
                  have hD : va_D A [(yf, .inl (cI, 6, .inl ff)), (ys, .inl (cI, 1201, .inl sI)), (h, .inr (11, [.ref yt, .ref yk, .ref yt, .int m3, .ref yf, .ref yb, .ref yz, .ref yn, .ref yc, .int m9, .ref yp, .ref yw, .int m12, .int m13, .int m14, .int m15, .int m16, .int m17, .int m18, .int m19, .int m20, .ref ye, .int m22, .int m23, .ref yx])), (yt, .inl (cI, 1201, .inl q))] := hD
                  have hr_24 := w_25
                  obtain rfl : r_24 = 0 := hr_24.trans (by decide)
                  refine lv_goto (tgt := 132) hx hb dX11_ahead_123 (by decide) ?_
                  refine lv_istore (lv' := [(5, .int 0), (4, .ref ys), (0, .ref h), (1, .int a), (2, .int b), (3, .int d)]) hx hb dX11_ahead_132 hl (by decide) rfl (fun ls hl => ?_)
                  refine lv_aload_n hx hb dX11_ahead_134 rfl (lv_at hl 2 rfl) ?_
                  refine lv_aload hx hb dX11_ahead_135 (lv_at hl 1 rfl) ?_
                  refine va_put (D := D) (ci := 11) (v := .ref ys) (ty := .array .int) (C := RX11) (T := TX11) (N := 25) hx hb hT giX11 tyX11 tyX11_ok nmX11 hown hK hP hD hS 2 rfl rfl 0 (by decide) (hT (Cond.fieldLink RX11 9 "DesertWireModel" "s" "[I") mw_1156) (fun _ h9 => h9) rfl (by decide +kernel) rfl rfl (Nat.le_of_ble_eq_true rfl) dX11_ahead_137 (fun H locs hP hD hS => ?_)
                  have hP : va_P D vwCl [(yf, .inl (cI, 6, .inl ff)), (ys, .inl (cI, 1201, .inl sI)), (h, .inr (11, [.ref ys, .ref yk, .ref yt, .int m3, .ref yf, .ref yb, .ref yz, .ref yn, .ref yc, .int m9, .ref yp, .ref yw, .int m12, .int m13, .int m14, .int m15, .int m16, .int m17, .int m18, .int m19, .int m20, .ref ye, .int m22, .int m23, .ref yx])), (yt, .inl (cI, 1201, .inl q))] H := hP
                  have hD : va_D A [(yf, .inl (cI, 6, .inl ff)), (ys, .inl (cI, 1201, .inl sI)), (h, .inr (11, [.ref ys, .ref yk, .ref yt, .int m3, .ref yf, .ref yb, .ref yz, .ref yn, .ref yc, .int m9, .ref yp, .ref yw, .int m12, .int m13, .int m14, .int m15, .int m16, .int m17, .int m18, .int m19, .int m20, .ref ye, .int m22, .int m23, .ref yx])), (yt, .inl (cI, 1201, .inl q))] := hD
                  refine lv_iload hx hb dX11_ahead_140 (lv_at hl 0 rfl) ?_
                  exact hRet () [] (by unfold sp_ahead; repeat (first | rw [if_pos (by omega)] | rw [if_neg (by omega)])) hP hD (by decide) rfl hS rfl dX11_ahead_142
              · refine lv_aload_n hx hb dX11_ahead_88 rfl (lv_at hl 2 rfl) ?_
                refine kJv (wr := [(yf, .inl (cI, 6, .inl ff)), (ys, .inl (cI, 1201, .inl sI))]) (va_runV (As := []) (rest := []) ⟨hx, hb, hml, hown, hT⟩ (c_X11_oneDay l D cI h yt yk yt yf yb yz yn yc yp yw ye yx H.size m3 m9 m12 m13 m14 m15 m16 m17 m18 m19 m20 m22 m23 q (q 0) rfl i82_3 i82_4 (by first | omega | decide | assumption | rfl) (by first | omega | decide | assumption | rfl)) (cwV 0 hT (gV_in mw_1535 mw_1532 mw_1534 mw_p5_15 mw_12) rfl rfl rfl (by decide +kernel) ⟨Nat.le_of_ble_eq_true rfl, Nat.le_of_ble_eq_true rfl⟩) (kRecv (own := "") (q0 := 0) (ci := 11) hK hP hD hN rfl rfl [0, 3] rfl (by decide)) rfl rfl hl.1 rfl (lv_room (Nat.le_of_ble_eq_true rfl)) dX11_ahead_89 ⟨Nat.le_of_ble_eq_true rfl, Nat.le_of_ble_eq_true rfl⟩) hP hD hS hA [0, 3] [1, 2] rfl rfl (by decide) (by decide) (fun u_31 H locs w_28 hP hD hS => ?_)
                obtain ⟨g_29, d2_30⟩ := u_31
                have hP : va_P D vwCl [(yf, .inl (cI, 6, .inl ff)), (ys, .inl (cI, 1201, .inl sI)), (h, .inr (11, [.ref yt, .ref yk, .ref yt, .int m3, .ref yf, .ref yb, .ref yz, .ref yn, .ref yc, .int m9, .ref yp, .ref yw, .int m12, .int m13, .int m14, .int m15, .int m16, .int m17, .int m18, .int m19, .int m20, .ref ye, .int m22, .int m23, .ref yx])), (yt, .inl (cI, 1201, .inl g_29))] H := hP
                have hD : va_D A [(yf, .inl (cI, 6, .inl ff)), (ys, .inl (cI, 1201, .inl sI)), (h, .inr (11, [.ref yt, .ref yk, .ref yt, .int m3, .ref yf, .ref yb, .ref yz, .ref yn, .ref yc, .int m9, .ref yp, .ref yw, .int m12, .int m13, .int m14, .int m15, .int m16, .int m17, .int m18, .int m19, .int m20, .ref ye, .int m22, .int m23, .ref yx])), (yt, .inl (cI, 1201, .inl g_29))] := hD
                have lo_d2_30 := k_lo d2_30
                have hi_d2_30 := k_hi d2_30
                obtain ⟨h_32, h_33, h_34, h_35⟩ := w_28
                have h_32 : g_29 0 = d2_30 := h_32
                have h_33 : g_29 1 = 0 := h_33
                have h_34 : g_29 2 = 0 := h_34
                have h_35 : d2_30.toInt = (q 0).toInt + 1 := h_35
                obtain ⟨v_36, ev_36⟩ : ∃ y : Int32, y = i + 1 := ⟨_, rfl⟩
                have tv_36 : v_36.toInt = i.toInt + 1 := by rw [ev_36]; exact k_addv rfl zl_1 (by omega) (by omega)
                refine lv_iinc (v := v_36) (lv' := [(5, .int v_36), (4, .ref ys), (0, .ref h), (1, .int a), (2, .int b), (3, .int d)]) hx hb dX11_ahead_92 hl (k := 0) rfl (by rw [ev_36]; rfl) (by decide) rfl (fun ls hl => ?_)
                refine lv_goto (tgt := 82) hx hb dX11_ahead_95 (by decide) ?_
                exact ih82 v_36 g_29 (by first | omega | decide | assumption | rfl) (by first | omega | decide | assumption | rfl) (by rw [show g_29 0 = d2_30 from h_32] <;> first | omega) h_33 h_34 (by omega) ls _ _ (lv_sub hl [0, 1, 2, 3, 4, 5] rfl) (hP.sub [2, 0, 1, 3] rfl) (hD.sub [2, 0, 1, 3] (by decide) rfl) hS
        exact hloop_82 _ 0 sI (by first | omega | (simp only [zl_0] <;> omega) | decide | assumption | rfl) (by first | omega | (simp only [zl_0] <;> omega) | decide | assumption | rfl) (by rw [show sI 0 = 0 from (by decide +kernel)] <;> first | omega | (simp only [zl_0] <;> omega) | (simp [zl_0]; done)) (by decide +kernel) (by decide +kernel) (Nat.lt_succ_self _) ls _ _ (lv_sub hl [0, 1, 2, 3, 4, 5] rfl) hP hD hS
      · refine lv_aload_n hx hb dX11_ahead_41 rfl (lv_at hl 0 rfl) ?_
        refine lv_iload_n hx hb dX11_ahead_42 rfl (lv_at hl 3 rfl) ?_
        refine kJi (wr := [(yt, .inl (cI, 1201, .inl ft)), (yf, .inl (cI, 6, .inl ff))]) (va_runV (As := [.int d]) (rest := []) ⟨hx, hb, hml, hown, hT⟩ (c_X11_isParty l D cI h ys yk yt yf yb yz yn yc yp yw ye yx H.size m3 m9 m12 m13 m14 m15 m16 m17 m18 m19 m20 m22 m23 sI d (by decide +kernel)) (cwV 1 hT (gV_in mw_1412 mw_1409 mw_1411 mw_p5_4 mw_12) rfl rfl rfl (by decide +kernel) ⟨Nat.le_of_ble_eq_true rfl, Nat.le_of_ble_eq_true rfl⟩) (kRecv (own := "") (q0 := 0) (ci := 11) hK hP hD hN rfl rfl [0, 1] rfl (by decide)) rfl rfl hl.1 rfl (lv_room (Nat.le_of_ble_eq_true rfl)) dX11_ahead_43 ⟨Nat.le_of_ble_eq_true rfl, Nat.le_of_ble_eq_true rfl⟩) hP hD hS hA [0, 1] [2, 3] rfl rfl (by decide) (by decide) (fun r_37 u_39 H locs w_38 hP hD hS => ?_)
        have hP : va_P D vwCl [(yt, .inl (cI, 1201, .inl ft)), (yf, .inl (cI, 6, .inl ff)), (h, .inr (11, [.ref ys, .ref yk, .ref yt, .int m3, .ref yf, .ref yb, .ref yz, .ref yn, .ref yc, .int m9, .ref yp, .ref yw, .int m12, .int m13, .int m14, .int m15, .int m16, .int m17, .int m18, .int m19, .int m20, .ref ye, .int m22, .int m23, .ref yx])), (ys, .inl (cI, 1201, .inl sI))] H := hP
        have hD : va_D A [(yt, .inl (cI, 1201, .inl ft)), (yf, .inl (cI, 6, .inl ff)), (h, .inr (11, [.ref ys, .ref yk, .ref yt, .int m3, .ref yf, .ref yb, .ref yz, .ref yn, .ref yc, .int m9, .ref yp, .ref yw, .int m12, .int m13, .int m14, .int m15, .int m16, .int m17, .int m18, .int m19, .int m20, .ref ye, .int m22, .int m23, .ref yx])), (ys, .inl (cI, 1201, .inl sI))] := hD
        have hr_37 := w_38
        obtain rfl : r_37 = 0 := hr_37.trans (by decide)
        refine b_if_ne hx hb zl_0 (tgt := 56) dX11_ahead_46 (by decide) (fun c_40 => by exfalso; omega) (fun c_40 => ?_)
        refine lv_aload_n hx hb dX11_ahead_49 rfl (lv_at hl 0 rfl) ?_
        refine lv_ldc (v := (-1000001)) hx hb hown (hT _ mw_1239) dX11_ahead_50 ?_
        refine kJi (wr := [(yt, .inl (cI, 1201, .inl ft)), (ys, .inl (cI, 1201, .inl sI))]) (va_runV (As := [.int (-1000001)]) (rest := []) ⟨hx, hb, hml, hown, hT⟩ (c_X11_finding l D cI h ys yk yt yf yb yz yn yc yp yw ye yx H.size m3 m9 m12 m13 m14 m15 m16 m17 m18 m19 m20 m22 m23 ff (-1000001) (by first | omega | (simp only [zl_m1000001] <;> omega) | decide | assumption | rfl) (by first | omega | (simp only [zl_m1000001] <;> omega) | decide | assumption | rfl)) (cwV 1 hT (gV_in mw_1243 mw_1240 mw_1242 mw_p3_8 mw_12) rfl rfl rfl (by decide +kernel) ⟨Nat.le_of_ble_eq_true rfl, Nat.le_of_ble_eq_true rfl⟩) (kRecv (own := "") (q0 := 2) (ci := 11) hK hP hD hN rfl rfl [2, 1] rfl (by decide)) rfl rfl hl.1 rfl (lv_room (Nat.le_of_ble_eq_true rfl)) dX11_ahead_52 ⟨Nat.le_of_ble_eq_true rfl, Nat.le_of_ble_eq_true rfl⟩) hP hD hS hA [2, 1] [0, 3] rfl rfl (by decide) (by decide) (fun r_41 u_43 H locs w_42 hP hD hS => ?_)
        have hP : va_P D vwCl [(yt, .inl (cI, 1201, .inl ft)), (ys, .inl (cI, 1201, .inl sI))] H := hP
        have hD : va_D A [(yt, .inl (cI, 1201, .inl ft)), (ys, .inl (cI, 1201, .inl sI))] := hD
        have hr_41 := w_42
        obtain rfl : r_41 = (-1000001) := hr_41.trans (by decide)
        exact hRet () [] (by unfold sp_ahead; repeat (first | rw [if_pos (by omega)] | rw [if_neg (by omega)])) hP hD (by decide) rfl hS rfl dX11_ahead_55
    · try simp only [zl_0, zl_10] at h_15
      have h_15 : b.toInt < 0 ∨ 10 < b.toInt := h_15
      obtain rfl : r_10 = 0 := hr_10.trans (by decide)
      refine b_if_eq hx hb zl_0 (tgt := 49) dX11_ahead_32 (by decide) (fun c_44 => ?_) (fun c_44 => by exfalso; omega)
      refine lv_aload_n hx hb dX11_ahead_49 rfl (lv_at hl 0 rfl) ?_
      refine lv_ldc (v := (-1000001)) hx hb hown (hT _ mw_1239) dX11_ahead_50 ?_
      refine kJi (wr := [(ys, .inl (cI, 1201, .inl sI)), (yt, .inl (cI, 1201, .inl ft))]) (va_runV (As := [.int (-1000001)]) (rest := []) ⟨hx, hb, hml, hown, hT⟩ (c_X11_finding l D cI h ys yk yt yf yb yz yn yc yp yw ye yx H.size m3 m9 m12 m13 m14 m15 m16 m17 m18 m19 m20 m22 m23 ff (-1000001) (by first | omega | (simp only [zl_m1000001] <;> omega) | decide | assumption | rfl) (by first | omega | (simp only [zl_m1000001] <;> omega) | decide | assumption | rfl)) (cwV 1 hT (gV_in mw_1243 mw_1240 mw_1242 mw_p3_8 mw_12) rfl rfl rfl (by decide +kernel) ⟨Nat.le_of_ble_eq_true rfl, Nat.le_of_ble_eq_true rfl⟩) (kRecv (own := "") (q0 := 0) (ci := 11) hK hP hD hN rfl rfl [0, 3] rfl (by decide)) rfl rfl hl.1 rfl (lv_room (Nat.le_of_ble_eq_true rfl)) dX11_ahead_52 ⟨Nat.le_of_ble_eq_true rfl, Nat.le_of_ble_eq_true rfl⟩) hP hD hS hA [0, 3] [1, 2] rfl rfl (by decide) (by decide) (fun r_45 u_47 H locs w_46 hP hD hS => ?_)
      have hP : va_P D vwCl [(ys, .inl (cI, 1201, .inl sI)), (yt, .inl (cI, 1201, .inl ft))] H := hP
      have hD : va_D A [(ys, .inl (cI, 1201, .inl sI)), (yt, .inl (cI, 1201, .inl ft))] := hD
      have hr_45 := w_46
      obtain rfl : r_45 = (-1000001) := hr_45.trans (by decide)
      exact hRet () [] (by unfold sp_ahead; repeat (first | rw [if_pos (by omega)] | rw [if_neg (by omega)])) hP hD (by decide) rfl hS rfl dX11_ahead_55
  · try simp only [zl_0, zl_200] at h_6
    have h_6 : a.toInt < 0 ∨ 200 < a.toInt := h_6
    obtain rfl : r_1 = 0 := hr_1.trans (by decide)
    refine b_if_eq hx hb zl_0 (tgt := 49) dX11_ahead_8 (by decide) (fun c_48 => ?_) (fun c_48 => by exfalso; omega)
    refine lv_aload_n hx hb dX11_ahead_49 rfl (lv_at hl 0 rfl) ?_
    refine lv_ldc (v := (-1000001)) hx hb hown (hT _ mw_1239) dX11_ahead_50 ?_
    refine kJi (wr := [(ys, .inl (cI, 1201, .inl sI)), (yt, .inl (cI, 1201, .inl ft))]) (va_runV (As := [.int (-1000001)]) (rest := []) ⟨hx, hb, hml, hown, hT⟩ (c_X11_finding l D cI h ys yk yt yf yb yz yn yc yp yw ye yx H.size m3 m9 m12 m13 m14 m15 m16 m17 m18 m19 m20 m22 m23 ff (-1000001) (by first | omega | (simp only [zl_m1000001] <;> omega) | decide | assumption | rfl) (by first | omega | (simp only [zl_m1000001] <;> omega) | decide | assumption | rfl)) (cwV 1 hT (gV_in mw_1243 mw_1240 mw_1242 mw_p3_8 mw_12) rfl rfl rfl (by decide +kernel) ⟨Nat.le_of_ble_eq_true rfl, Nat.le_of_ble_eq_true rfl⟩) (kRecv (own := "") (q0 := 0) (ci := 11) hK hP hD hN rfl rfl [0, 3] rfl (by decide)) rfl rfl hl.1 rfl (lv_room (Nat.le_of_ble_eq_true rfl)) dX11_ahead_52 ⟨Nat.le_of_ble_eq_true rfl, Nat.le_of_ble_eq_true rfl⟩) hP hD hS hA [0, 3] [1, 2] rfl rfl (by decide) (by decide) (fun r_49 u_51 H locs w_50 hP hD hS => ?_)
    have hP : va_P D vwCl [(ys, .inl (cI, 1201, .inl sI)), (yt, .inl (cI, 1201, .inl ft))] H := hP
    have hD : va_D A [(ys, .inl (cI, 1201, .inl sI)), (yt, .inl (cI, 1201, .inl ft))] := hD
    have hr_49 := w_50
    obtain rfl : r_49 = (-1000001) := hr_49.trans (by decide)
    exact hRet () [] (by unfold sp_ahead; repeat (first | rw [if_pos (by omega)] | rw [if_neg (by omega)])) hP hD (by decide) rfl hS rfl dX11_ahead_55
set_option maxHeartbeats 4000000 in
set_option maxRecDepth 100000 in
theorem c_X11_joined (l : Launch) (D : va_G) (cI : ClassId) (h ys yk yt yf yb yz yn yc yp yw ye yx : Nat) (sz : Nat) (m3 : Int32) (m9 : Int32) (m12 : Int32) (m13 : Int32) (m14 : Int32) (m15 : Int32) (m16 : Int32) (m17 : Int32) (m18 : Int32) (m19 : Int32) (m20 : Int32) (m22 : Int32) (m23 : Int32) (ff : Nat → Int32) (ft : Nat → Int32) (a : Int32) (b : Int32) : Met l yX11_joined (gW yX11_joined cX11_joined 6 (some .int)) ({ frames := 2, cells := 0, slots := 0, locals := 47 } : Room) (kPre D cI [.ref h, .int a, .int b] [(h, .inr (11, [.ref ys, .ref yk, .ref yt, .int m3, .ref yf, .ref yb, .ref yz, .ref yn, .ref yc, .int m9, .ref yp, .ref yw, .int m12, .int m13, .int m14, .int m15, .int m16, .int m17, .int m18, .int m19, .int m20, .ref ye, .int m22, .int m23, .ref yx])), (ys, .inl (cI, 1201, .inl sI)), (yt, .inl (cI, 1201, .inl ft)), (yf, .inl (cI, 6, .inl ff))] sz) (va_Qi (fun (r : Int32) (u : Unit) => r = sp_joined a b) (fun u t => kWd D cI (va_A [(h, .inr (11, [.ref ys, .ref yk, .ref yt, .int m3, .ref yf, .ref yb, .ref yz, .ref yn, .ref yc, .int m9, .ref yp, .ref yw, .int m12, .int m13, .int m14, .int m15, .int m16, .int m17, .int m18, .int m19, .int m20, .ref ye, .int m22, .int m23, .ref yx])), (ys, .inl (cI, 1201, .inl sI)), (yt, .inl (cI, 1201, .inl ft)), (yf, .inl (cI, 6, .inl ff))] sz) [] t) (va_A [(h, .inr (11, [.ref ys, .ref yk, .ref yt, .int m3, .ref yf, .ref yb, .ref yz, .ref yn, .ref yc, .int m9, .ref yp, .ref yw, .int m12, .int m13, .int m14, .int m15, .int m16, .int m17, .int m18, .int m19, .int m20, .ref ye, .int m22, .int m23, .ref yx])), (ys, .inl (cI, 1201, .inl sI)), (yt, .inl (cI, 1201, .inl ft)), (yf, .inl (cI, 6, .inl ff))] sz)) 0 0 (va_A [(h, .inr (11, [.ref ys, .ref yk, .ref yt, .int m3, .ref yf, .ref yb, .ref yz, .ref yn, .ref yc, .int m9, .ref yp, .ref yw, .int m12, .int m13, .int m14, .int m15, .int m16, .int m17, .int m18, .int m19, .int m20, .ref ye, .int m22, .int m23, .ref yx])), (ys, .inl (cI, 1201, .inl sI)), (yt, .inl (cI, 1201, .inl ft)), (yf, .inl (cI, 6, .inl ff))] sz) := by
  refine kMetI (own := RX11) (by decide) rfl (Nat.le_of_ble_eq_true rfl) ?_
  intro p e s m args below meth c hx hb hT hown hname hml A Q hK hP hD hS hA hN hRet ls hl
  have hl : lv_has ls 6 [(0, .ref h), (1, .int a), (2, .int b)] := hl
  have lo_a := k_lo a
  have hi_a := k_hi a
  have lo_b := k_lo b
  have hi_b := k_hi b
  have lo_m3 := k_lo m3
  have hi_m3 := k_hi m3
  have lo_m9 := k_lo m9
  have hi_m9 := k_hi m9
  have lo_m12 := k_lo m12
  have hi_m12 := k_hi m12
  have lo_m13 := k_lo m13
  have hi_m13 := k_hi m13
  have lo_m14 := k_lo m14
  have hi_m14 := k_hi m14
  have lo_m15 := k_lo m15
  have hi_m15 := k_hi m15
  have lo_m16 := k_lo m16
  have hi_m16 := k_hi m16
  have lo_m17 := k_lo m17
  have hi_m17 := k_hi m17
  have lo_m18 := k_lo m18
  have hi_m18 := k_hi m18
  have lo_m19 := k_lo m19
  have hi_m19 := k_hi m19
  have lo_m20 := k_lo m20
  have hi_m20 := k_hi m20
  have lo_m22 := k_lo m22
  have hi_m22 := k_hi m22
  have lo_m23 := k_lo m23
  have hi_m23 := k_hi m23
  refine lv_iload_n hx hb dX11_joined_0 rfl (lv_at hl 1 rfl) ?_
  refine kJi (wr := [(h, .inr (11, [.ref ys, .ref yk, .ref yt, .int m3, .ref yf, .ref yb, .ref yz, .ref yn, .ref yc, .int m9, .ref yp, .ref yw, .int m12, .int m13, .int m14, .int m15, .int m16, .int m17, .int m18, .int m19, .int m20, .ref ye, .int m22, .int m23, .ref yx])), (ys, .inl (cI, 1201, .inl sI)), (yt, .inl (cI, 1201, .inl ft)), (yf, .inl (cI, 6, .inl ff))]) (va_runS (As := [.int a]) (rest := []) ⟨hx, hb, hml, hown, hT⟩ (c_X11_isMile l D cI s.heap.size a) (cwS 1 hT (gS_in mw_1251 mw_1249 mw_1250 mw_12) rfl rfl rfl (by decide +kernel) ⟨Nat.le_of_ble_eq_true rfl, Nat.le_of_ble_eq_true rfl⟩) (kStat hK hP hD hN [] rfl (by decide)) rfl rfl hl.1 rfl (lv_room (Nat.le_of_ble_eq_true rfl)) dX11_joined_1 ⟨Nat.le_of_ble_eq_true rfl, Nat.le_of_ble_eq_true rfl⟩) hP hD hS hA [] [0, 1, 2, 3] rfl rfl (by decide) (by decide) (fun r_1 u_3 H locs w_2 hP hD hS => ?_)
  have hP : va_P D vwCl [(h, .inr (11, [.ref ys, .ref yk, .ref yt, .int m3, .ref yf, .ref yb, .ref yz, .ref yn, .ref yc, .int m9, .ref yp, .ref yw, .int m12, .int m13, .int m14, .int m15, .int m16, .int m17, .int m18, .int m19, .int m20, .ref ye, .int m22, .int m23, .ref yx])), (ys, .inl (cI, 1201, .inl sI)), (yt, .inl (cI, 1201, .inl ft)), (yf, .inl (cI, 6, .inl ff))] H := hP
  have hD : va_D A [(h, .inr (11, [.ref ys, .ref yk, .ref yt, .int m3, .ref yf, .ref yb, .ref yz, .ref yn, .ref yc, .int m9, .ref yp, .ref yw, .int m12, .int m13, .int m14, .int m15, .int m16, .int m17, .int m18, .int m19, .int m20, .ref ye, .int m22, .int m23, .ref yx])), (ys, .inl (cI, 1201, .inl sI)), (yt, .inl (cI, 1201, .inl ft)), (yf, .inl (cI, 6, .inl ff))] := hD
  rcases w_2 with ⟨hr_1, h_4, h_5⟩ | ⟨hr_1, h_6⟩
  · have h_4 : 0 ≤ a.toInt := h_4
    have h_5 : a.toInt ≤ 39 := h_5
    obtain rfl : r_1 = 1 := hr_1.trans (by decide)
    refine b_if_eq hx hb zl_1 (tgt := 19) dX11_joined_4 (by decide) (fun c_7 => by exfalso; omega) (fun c_7 => ?_)
    refine lv_iload_n hx hb dX11_joined_7 rfl (lv_at hl 2 rfl) ?_
    refine kJi (wr := [(h, .inr (11, [.ref ys, .ref yk, .ref yt, .int m3, .ref yf, .ref yb, .ref yz, .ref yn, .ref yc, .int m9, .ref yp, .ref yw, .int m12, .int m13, .int m14, .int m15, .int m16, .int m17, .int m18, .int m19, .int m20, .ref ye, .int m22, .int m23, .ref yx])), (ys, .inl (cI, 1201, .inl sI)), (yt, .inl (cI, 1201, .inl ft)), (yf, .inl (cI, 6, .inl ff))]) (va_runS (As := [.int b]) (rest := []) ⟨hx, hb, hml, hown, hT⟩ (c_X11_isMile l D cI H.size b) (cwS 1 hT (gS_in mw_1251 mw_1249 mw_1250 mw_12) rfl rfl rfl (by decide +kernel) ⟨Nat.le_of_ble_eq_true rfl, Nat.le_of_ble_eq_true rfl⟩) (kStat hK hP hD hN [] rfl (by decide)) rfl rfl hl.1 rfl (lv_room (Nat.le_of_ble_eq_true rfl)) dX11_joined_8 ⟨Nat.le_of_ble_eq_true rfl, Nat.le_of_ble_eq_true rfl⟩) hP hD hS hA [] [0, 1, 2, 3] rfl rfl (by decide) (by decide) (fun r_8 u_10 H locs w_9 hP hD hS => ?_)
    have hP : va_P D vwCl [(h, .inr (11, [.ref ys, .ref yk, .ref yt, .int m3, .ref yf, .ref yb, .ref yz, .ref yn, .ref yc, .int m9, .ref yp, .ref yw, .int m12, .int m13, .int m14, .int m15, .int m16, .int m17, .int m18, .int m19, .int m20, .ref ye, .int m22, .int m23, .ref yx])), (ys, .inl (cI, 1201, .inl sI)), (yt, .inl (cI, 1201, .inl ft)), (yf, .inl (cI, 6, .inl ff))] H := hP
    have hD : va_D A [(h, .inr (11, [.ref ys, .ref yk, .ref yt, .int m3, .ref yf, .ref yb, .ref yz, .ref yn, .ref yc, .int m9, .ref yp, .ref yw, .int m12, .int m13, .int m14, .int m15, .int m16, .int m17, .int m18, .int m19, .int m20, .ref ye, .int m22, .int m23, .ref yx])), (ys, .inl (cI, 1201, .inl sI)), (yt, .inl (cI, 1201, .inl ft)), (yf, .inl (cI, 6, .inl ff))] := hD
    rcases w_9 with ⟨hr_8, h_11, h_12⟩ | ⟨hr_8, h_13⟩
    · have h_11 : 0 ≤ b.toInt := h_11
      have h_12 : b.toInt ≤ 39 := h_12
      obtain rfl : r_8 = 1 := hr_8.trans (by decide)
      refine b_if_eq hx hb zl_1 (tgt := 19) dX11_joined_11 (by decide) (fun c_14 => by exfalso; omega) (fun c_14 => ?_)
      refine lv_iload_n hx hb dX11_joined_14 rfl (lv_at hl 1 rfl) ?_
      refine lv_iload_n hx hb dX11_joined_15 rfl (lv_at hl 2 rfl) ?_
      refine b_icmp_le hx hb rfl rfl (tgt := 26) dX11_joined_16 (by decide) (fun c_15 => ?_) (fun c_15 => ?_)
      · refine lv_aload_n hx hb dX11_joined_26 rfl (lv_at hl 0 rfl) ?_
        refine va_get (D := D) (ci := 11) (v := .ref ys) (C := RX11) (T := TX11) (N := 25) hx hb hT giX11 hown hK hP 0 rfl rfl 0 (by decide) (hT (Cond.fieldLink RX11 9 "DesertWireModel" "s" "[I") mw_1156) (fun _ h9 => h9) rfl dX11_joined_27 ?_
        refine lv_astore_n (lv' := [(3, .ref ys), (0, .ref h), (1, .int a), (2, .int b)]) hx hb dX11_joined_30 rfl hl (by decide) rfl (fun ls hl => ?_)
        refine lv_aload_n hx hb dX11_joined_31 rfl (lv_at hl 0 rfl) ?_
        refine lv_aload_n hx hb dX11_joined_32 rfl (lv_at hl 1 rfl) ?_
        refine va_get (D := D) (ci := 11) (v := .ref yt) (C := RX11) (T := TX11) (N := 25) hx hb hT giX11 hown hK hP 0 rfl rfl 2 (by decide) (hT (Cond.fieldLink RX11 16 "DesertWireModel" "trial" "[I") mw_1158) (fun _ h9 => h9) rfl dX11_joined_33 ?_
        refine kJv (wr := [(h, .inr (11, [.ref ys, .ref yk, .ref yt, .int m3, .ref yf, .ref yb, .ref yz, .ref yn, .ref yc, .int m9, .ref yp, .ref yw, .int m12, .int m13, .int m14, .int m15, .int m16, .int m17, .int m18, .int m19, .int m20, .ref ye, .int m22, .int m23, .ref yx])), (yf, .inl (cI, 6, .inl ff))]) (va_runS (As := [.ref ys, .ref yt]) (rest := []) ⟨hx, hb, hml, hown, hT⟩ (c_X11_copy l D cI ys yt H.size sI ft) (cwS 2 hT (gS_in mw_1558 mw_1556 mw_1557 mw_12) rfl rfl rfl (by decide +kernel) ⟨Nat.le_of_ble_eq_true rfl, Nat.le_of_ble_eq_true rfl⟩) (kStat hK hP hD hN [1, 2] rfl (by decide)) rfl rfl hl.1 rfl (lv_room (Nat.le_of_ble_eq_true rfl)) dX11_joined_36 ⟨Nat.le_of_ble_eq_true rfl, Nat.le_of_ble_eq_true rfl⟩) hP hD hS hA [1, 2] [0, 3] rfl rfl (by decide) (by decide) (fun u_18 H locs w_17 hP hD hS => ?_)
        have hP : va_P D vwCl [(h, .inr (11, [.ref ys, .ref yk, .ref yt, .int m3, .ref yf, .ref yb, .ref yz, .ref yn, .ref yc, .int m9, .ref yp, .ref yw, .int m12, .int m13, .int m14, .int m15, .int m16, .int m17, .int m18, .int m19, .int m20, .ref ye, .int m22, .int m23, .ref yx])), (yf, .inl (cI, 6, .inl ff)), (ys, .inl (cI, 1201, .inl sI)), (yt, .inl (cI, 1201, .inl sI))] H := hP
        have hD : va_D A [(h, .inr (11, [.ref ys, .ref yk, .ref yt, .int m3, .ref yf, .ref yb, .ref yz, .ref yn, .ref yc, .int m9, .ref yp, .ref yw, .int m12, .int m13, .int m14, .int m15, .int m16, .int m17, .int m18, .int m19, .int m20, .ref ye, .int m22, .int m23, .ref yx])), (yf, .inl (cI, 6, .inl ff)), (ys, .inl (cI, 1201, .inl sI)), (yt, .inl (cI, 1201, .inl sI))] := hD
        refine lv_aload_n hx hb dX11_joined_39 rfl (lv_at hl 1 rfl) ?_
        refine lv_aload_n hx hb dX11_joined_40 rfl (lv_at hl 1 rfl) ?_
        refine va_get (D := D) (ci := 11) (v := .ref yt) (C := RX11) (T := TX11) (N := 25) hx hb hT giX11 hown hK hP 0 rfl rfl 2 (by decide) (hT (Cond.fieldLink RX11 16 "DesertWireModel" "trial" "[I") mw_1158) (fun _ h9 => h9) rfl dX11_joined_41 ?_
        refine va_put (D := D) (ci := 11) (v := .ref yt) (ty := .array .int) (C := RX11) (T := TX11) (N := 25) hx hb hT giX11 tyX11 tyX11_ok nmX11 hown hK hP hD hS 0 rfl rfl 0 (by decide) (hT (Cond.fieldLink RX11 9 "DesertWireModel" "s" "[I") mw_1156) (fun _ h9 => h9) rfl (by decide +kernel) rfl rfl (Nat.le_of_ble_eq_true rfl) dX11_joined_44 (fun H locs hP hD hS => ?_)
        have hP : va_P D vwCl [(h, .inr (11, [.ref yt, .ref yk, .ref yt, .int m3, .ref yf, .ref yb, .ref yz, .ref yn, .ref yc, .int m9, .ref yp, .ref yw, .int m12, .int m13, .int m14, .int m15, .int m16, .int m17, .int m18, .int m19, .int m20, .ref ye, .int m22, .int m23, .ref yx])), (yf, .inl (cI, 6, .inl ff)), (ys, .inl (cI, 1201, .inl sI)), (yt, .inl (cI, 1201, .inl sI))] H := hP
        have hD : va_D A [(h, .inr (11, [.ref yt, .ref yk, .ref yt, .int m3, .ref yf, .ref yb, .ref yz, .ref yn, .ref yc, .int m9, .ref yp, .ref yw, .int m12, .int m13, .int m14, .int m15, .int m16, .int m17, .int m18, .int m19, .int m20, .ref ye, .int m22, .int m23, .ref yx])), (yf, .inl (cI, 6, .inl ff)), (ys, .inl (cI, 1201, .inl sI)), (yt, .inl (cI, 1201, .inl sI))] := hD
        refine lv_aload_n hx hb dX11_joined_47 rfl (lv_at hl 1 rfl) ?_
        refine va_get (D := D) (ci := 11) (v := .ref yt) (C := RX11) (T := TX11) (N := 25) hx hb hT giX11 hown hK hP 0 rfl rfl 0 (by decide) (hT (Cond.fieldLink RX11 9 "DesertWireModel" "s" "[I") mw_1156) (fun _ h9 => h9) rfl dX11_joined_48 ?_
        refine lv_iconst (v := 0) hx hb dX11_joined_51 (by decide) ?_
        refine k_iald (v := 0) hx hb hK hP 3 0 rfl rfl (k_inl (by decide)) (by decide +kernel) dX11_joined_52 ?_
        refine lv_sipush (v := 200) hx hb dX11_joined_53 (by decide) ?_
        refine k_iadd (v := 200) hx hb dX11_joined_56 (by decide) ?_
        refine lv_sipush (v := 2000) hx hb dX11_joined_57 (by decide) ?_
        refine b_icmp_le hx hb zl_200 zl_2000 (tgt := 69) dX11_joined_60 (by decide) (fun c_19 => ?_) (fun c_19 => by exfalso; omega)
        refine lv_aload_n hx hb dX11_joined_69 rfl (lv_at hl 1 rfl) ?_
        refine va_get (D := D) (ci := 11) (v := .ref yt) (C := RX11) (T := TX11) (N := 25) hx hb hT giX11 hown hK hP 0 rfl rfl 0 (by decide) (hT (Cond.fieldLink RX11 9 "DesertWireModel" "s" "[I") mw_1156) (fun _ h9 => h9) rfl dX11_joined_70 ?_
        refine lv_iconst (v := 0) hx hb dX11_joined_73 (by decide) ?_
        refine k_iald (v := 0) hx hb hK hP 3 0 rfl rfl (k_inl (by decide)) (by decide +kernel) dX11_joined_74 ?_
        refine lv_sipush (v := 200) hx hb dX11_joined_75 (by decide) ?_
        refine k_iadd (v := 200) hx hb dX11_joined_78 (by decide) ?_
        refine lv_istore (lv' := [(4, .int 200), (3, .ref ys), (0, .ref h), (1, .int a), (2, .int b)]) hx hb dX11_joined_79 hl (by decide) rfl (fun ls hl => ?_)
        have hloop_81 : ∀ (fu_ : Nat) (q : Nat → Int32), 0 ≤ (q 0).toInt → (q 0).toInt ≤ 200 → q 1 = 0 → q 2 = 0 → (200 - (q 0).toInt).toNat < fu_ → ∀ (ls : Array Slot) (H : Heap) (locs : List Loc), lv_has ls 6 [(4, .int 200), (3, .ref ys), (0, .ref h), (1, .int a), (2, .int b)] → va_P D vwCl [(h, .inr (11, [.ref yt, .ref yk, .ref yt, .int m3, .ref yf, .ref yb, .ref yz, .ref yn, .ref yc, .int m9, .ref yp, .ref yw, .int m12, .int m13, .int m14, .int m15, .int m16, .int m17, .int m18, .int m19, .int m20, .ref ye, .int m22, .int m23, .ref yx])), (yf, .inl (cI, 6, .inl ff)), (ys, .inl (cI, 1201, .inl sI)), (yt, .inl (cI, 1201, .inl q))] H → va_D A [(h, .inr (11, [.ref yt, .ref yk, .ref yt, .int m3, .ref yf, .ref yb, .ref yz, .ref yn, .ref yc, .int m9, .ref yp, .ref yw, .int m12, .int m13, .int m14, .int m15, .int m16, .int m17, .int m18, .int m19, .int m20, .ref ye, .int m22, .int m23, .ref yx])), (yf, .inl (cI, 6, .inl ff)), (ys, .inl (cI, 1201, .inl sI)), (yt, .inl (cI, 1201, .inl q))] → va_S A s.heap H locs → W p l e ({ frames := 2, cells := 0, slots := 0, locals := 47 } : Room) s m args below meth c H locs 0 0 Q (F0 m 81 ls []) := by
          intro fu_; induction fu_ with
          | zero => intro q i81_0 i81_1 i81_2 i81_3 hm; exact absurd hm (by omega)
          | succ fu_ ih81 =>
              intro q i81_0 i81_1 i81_2 i81_3 hm ls H locs hl hP hD hS
              refine lv_aload_n hx hb dX11_joined_81 rfl (lv_at hl 2 rfl) ?_
              refine va_get (D := D) (ci := 11) (v := .ref yt) (C := RX11) (T := TX11) (N := 25) hx hb hT giX11 hown hK hP 0 rfl rfl 0 (by decide) (hT (Cond.fieldLink RX11 9 "DesertWireModel" "s" "[I") mw_1156) (fun _ h9 => h9) rfl dX11_joined_82 ?_
              refine lv_iconst (v := 0) hx hb dX11_joined_85 (by decide) ?_
              refine k_iald (v := (q 0)) hx hb hK hP 3 0 rfl rfl (k_inl (by decide)) rfl dX11_joined_86 ?_
              refine lv_topi (fun v_20 ev_20 => ?_)
              have lo_v_20 := k_lo v_20
              have hi_v_20 := k_hi v_20
              have tv_20 : v_20.toInt = (q 0).toInt := by rw [ev_20]
              refine lv_iload hx hb dX11_joined_87 (lv_at hl 0 rfl) ?_
              refine b_icmp_ge hx hb rfl zl_200 (tgt := 108) dX11_joined_89 (by decide) (fun c_21 => ?_) (fun c_21 => ?_)
              · refine lv_aload_n hx hb dX11_joined_108 rfl (lv_at hl 2 rfl) ?_
                refine lv_iload_n hx hb dX11_joined_109 rfl (lv_at hl 3 rfl) ?_
                refine lv_iload_n hx hb dX11_joined_110 rfl (lv_at hl 4 rfl) ?_
                refine kJi (wr := [(yf, .inl (cI, 6, .inl ff)), (ys, .inl (cI, 1201, .inl sI))]) (va_runV (As := [.int a, .int b]) (rest := []) ⟨hx, hb, hml, hown, hT⟩ (c_X11_areWired l D cI h yt yk yt yf yb yz yn yc yp yw ye yx H.size m3 m9 m12 m13 m14 m15 m16 m17 m18 m19 m20 m22 m23 q a b i81_2 (by first | omega | decide | assumption | rfl) (by first | omega | decide | assumption | rfl) (by first | omega | decide | assumption | rfl)) (cwV 2 hT (gV_in mw_1570 mw_1567 mw_1569 mw_p6_5 mw_12) rfl rfl rfl (by decide +kernel) ⟨Nat.le_of_ble_eq_true rfl, Nat.le_of_ble_eq_true rfl⟩) (kRecv (own := "") (q0 := 0) (ci := 11) hK hP hD hN rfl rfl [0, 3] rfl (by decide)) rfl rfl hl.1 rfl (lv_room (Nat.le_of_ble_eq_true rfl)) dX11_joined_111 ⟨Nat.le_of_ble_eq_true rfl, Nat.le_of_ble_eq_true rfl⟩) hP hD hS hA [0, 3] [1, 2] rfl rfl (by decide) (by decide) (fun r_22 u_24 H locs w_23 hP hD hS => ?_)
                have hP : va_P D vwCl [(yf, .inl (cI, 6, .inl ff)), (ys, .inl (cI, 1201, .inl sI)), (h, .inr (11, [.ref yt, .ref yk, .ref yt, .int m3, .ref yf, .ref yb, .ref yz, .ref yn, .ref yc, .int m9, .ref yp, .ref yw, .int m12, .int m13, .int m14, .int m15, .int m16, .int m17, .int m18, .int m19, .int m20, .ref ye, .int m22, .int m23, .ref yx])), (yt, .inl (cI, 1201, .inl q))] H := hP
                have hD : va_D A [(yf, .inl (cI, 6, .inl ff)), (ys, .inl (cI, 1201, .inl sI)), (h, .inr (11, [.ref yt, .ref yk, .ref yt, .int m3, .ref yf, .ref yb, .ref yz, .ref yn, .ref yc, .int m9, .ref yp, .ref yw, .int m12, .int m13, .int m14, .int m15, .int m16, .int m17, .int m18, .int m19, .int m20, .ref ye, .int m22, .int m23, .ref yx])), (yt, .inl (cI, 1201, .inl q))] := hD
                have hr_22 := w_23
                obtain rfl : r_22 = 0 := hr_22.trans (by decide)
                refine b_if_eq hx hb zl_0 (tgt := 126) dX11_joined_114 (by decide) (fun c_25 => ?_) (fun c_25 => by exfalso; omega)
                refine lv_iconst (v := (-1)) hx hb dX11_joined_126 (by decide) ?_
                refine lv_istore (lv' := [(5, .int (-1)), (4, .int 200), (3, .ref ys), (0, .ref h), (1, .int a), (2, .int b)]) hx hb dX11_joined_127 hl (by decide) rfl (fun ls hl => ?_)
                refine lv_aload_n hx hb dX11_joined_129 rfl (lv_at hl 3 rfl) ?_
                refine lv_aload_n hx hb dX11_joined_130 rfl (lv_at hl 2 rfl) ?_
                refine va_put (D := D) (ci := 11) (v := .ref ys) (ty := .array .int) (C := RX11) (T := TX11) (N := 25) hx hb hT giX11 tyX11 tyX11_ok nmX11 hown hK hP hD hS 2 rfl rfl 0 (by decide) (hT (Cond.fieldLink RX11 9 "DesertWireModel" "s" "[I") mw_1156) (fun _ h9 => h9) rfl (by decide +kernel) rfl rfl (Nat.le_of_ble_eq_true rfl) dX11_joined_131 (fun H locs hP hD hS => ?_)
                have hP : va_P D vwCl [(yf, .inl (cI, 6, .inl ff)), (ys, .inl (cI, 1201, .inl sI)), (h, .inr (11, [.ref ys, .ref yk, .ref yt, .int m3, .ref yf, .ref yb, .ref yz, .ref yn, .ref yc, .int m9, .ref yp, .ref yw, .int m12, .int m13, .int m14, .int m15, .int m16, .int m17, .int m18, .int m19, .int m20, .ref ye, .int m22, .int m23, .ref yx])), (yt, .inl (cI, 1201, .inl q))] H := hP
                have hD : va_D A [(yf, .inl (cI, 6, .inl ff)), (ys, .inl (cI, 1201, .inl sI)), (h, .inr (11, [.ref ys, .ref yk, .ref yt, .int m3, .ref yf, .ref yb, .ref yz, .ref yn, .ref yc, .int m9, .ref yp, .ref yw, .int m12, .int m13, .int m14, .int m15, .int m16, .int m17, .int m18, .int m19, .int m20, .ref ye, .int m22, .int m23, .ref yx])), (yt, .inl (cI, 1201, .inl q))] := hD
                refine lv_iload hx hb dX11_joined_134 (lv_at hl 0 rfl) ?_
                refine b_if_ge hx hb zl_m1 (tgt := 148) dX11_joined_136 (by decide) (fun c_26 => by exfalso; omega) (fun c_26 => ?_)
                refine lv_aload_n hx hb dX11_joined_139 rfl (lv_at hl 3 rfl) ?_
                refine lv_ldc (v := (-1000002)) hx hb hown (hT _ mw_1392) dX11_joined_140 ?_
                refine kJi (wr := [(ys, .inl (cI, 1201, .inl sI)), (yt, .inl (cI, 1201, .inl q))]) (va_runV (As := [.int (-1000002)]) (rest := []) ⟨hx, hb, hml, hown, hT⟩ (c_X11_finding l D cI h ys yk yt yf yb yz yn yc yp yw ye yx H.size m3 m9 m12 m13 m14 m15 m16 m17 m18 m19 m20 m22 m23 ff (-1000002) (by first | omega | (simp only [zl_m1000002] <;> omega) | decide | assumption | rfl) (by first | omega | (simp only [zl_m1000002] <;> omega) | decide | assumption | rfl)) (cwV 1 hT (gV_in mw_1243 mw_1240 mw_1242 mw_p3_8 mw_12) rfl rfl rfl (by decide +kernel) ⟨Nat.le_of_ble_eq_true rfl, Nat.le_of_ble_eq_true rfl⟩) (kRecv (own := "") (q0 := 2) (ci := 11) hK hP hD hN rfl rfl [2, 0] rfl (by decide)) rfl rfl hl.1 rfl (lv_room (Nat.le_of_ble_eq_true rfl)) dX11_joined_142 ⟨Nat.le_of_ble_eq_true rfl, Nat.le_of_ble_eq_true rfl⟩) hP hD hS hA [2, 0] [1, 3] rfl rfl (by decide) (by decide) (fun r_27 u_29 H locs w_28 hP hD hS => ?_)
                have hP : va_P D vwCl [(ys, .inl (cI, 1201, .inl sI)), (yt, .inl (cI, 1201, .inl q))] H := hP
                have hD : va_D A [(ys, .inl (cI, 1201, .inl sI)), (yt, .inl (cI, 1201, .inl q))] := hD
                have hr_27 := w_28
                obtain rfl : r_27 = (-1000002) := hr_27.trans (by decide)
                refine lv_goto (tgt := 150) hx hb dX11_joined_145 (by decide) ?_
                exact hRet () [] (by unfold sp_joined; repeat (first | rw [if_pos (by omega)] | rw [if_neg (by omega)])) hP hD (by decide) rfl hS rfl dX11_joined_150
              · refine lv_aload_n hx hb dX11_joined_92 rfl (lv_at hl 2 rfl) ?_
                refine lv_iload_n hx hb dX11_joined_93 rfl (lv_at hl 3 rfl) ?_
                refine lv_iload_n hx hb dX11_joined_94 rfl (lv_at hl 4 rfl) ?_
                refine kJi (wr := [(yf, .inl (cI, 6, .inl ff)), (ys, .inl (cI, 1201, .inl sI))]) (va_runV (As := [.int a, .int b]) (rest := []) ⟨hx, hb, hml, hown, hT⟩ (c_X11_areWired l D cI h yt yk yt yf yb yz yn yc yp yw ye yx H.size m3 m9 m12 m13 m14 m15 m16 m17 m18 m19 m20 m22 m23 q a b i81_2 (by first | omega | decide | assumption | rfl) (by first | omega | decide | assumption | rfl) (by first | omega | decide | assumption | rfl)) (cwV 2 hT (gV_in mw_1570 mw_1567 mw_1569 mw_p6_5 mw_12) rfl rfl rfl (by decide +kernel) ⟨Nat.le_of_ble_eq_true rfl, Nat.le_of_ble_eq_true rfl⟩) (kRecv (own := "") (q0 := 0) (ci := 11) hK hP hD hN rfl rfl [0, 3] rfl (by decide)) rfl rfl hl.1 rfl (lv_room (Nat.le_of_ble_eq_true rfl)) dX11_joined_95 ⟨Nat.le_of_ble_eq_true rfl, Nat.le_of_ble_eq_true rfl⟩) hP hD hS hA [0, 3] [1, 2] rfl rfl (by decide) (by decide) (fun r_30 u_32 H locs w_31 hP hD hS => ?_)
                have hP : va_P D vwCl [(yf, .inl (cI, 6, .inl ff)), (ys, .inl (cI, 1201, .inl sI)), (h, .inr (11, [.ref yt, .ref yk, .ref yt, .int m3, .ref yf, .ref yb, .ref yz, .ref yn, .ref yc, .int m9, .ref yp, .ref yw, .int m12, .int m13, .int m14, .int m15, .int m16, .int m17, .int m18, .int m19, .int m20, .ref ye, .int m22, .int m23, .ref yx])), (yt, .inl (cI, 1201, .inl q))] H := hP
                have hD : va_D A [(yf, .inl (cI, 6, .inl ff)), (ys, .inl (cI, 1201, .inl sI)), (h, .inr (11, [.ref yt, .ref yk, .ref yt, .int m3, .ref yf, .ref yb, .ref yz, .ref yn, .ref yc, .int m9, .ref yp, .ref yw, .int m12, .int m13, .int m14, .int m15, .int m16, .int m17, .int m18, .int m19, .int m20, .ref ye, .int m22, .int m23, .ref yx])), (yt, .inl (cI, 1201, .inl q))] := hD
                have hr_30 := w_31
                obtain rfl : r_30 = 0 := hr_30.trans (by decide)
                refine b_if_ne hx hb zl_0 (tgt := 108) dX11_joined_98 (by decide) (fun c_33 => by exfalso; omega) (fun c_33 => ?_)
                refine lv_aload_n hx hb dX11_joined_101 rfl (lv_at hl 2 rfl) ?_
                refine kJv (wr := [(yf, .inl (cI, 6, .inl ff)), (ys, .inl (cI, 1201, .inl sI))]) (va_runV (As := []) (rest := []) ⟨hx, hb, hml, hown, hT⟩ (c_X11_oneDay l D cI h yt yk yt yf yb yz yn yc yp yw ye yx H.size m3 m9 m12 m13 m14 m15 m16 m17 m18 m19 m20 m22 m23 q (q 0) rfl i81_2 i81_3 (by first | omega | decide | assumption | rfl) (by first | omega | decide | assumption | rfl)) (cwV 0 hT (gV_in mw_1535 mw_1532 mw_1534 mw_p5_15 mw_12) rfl rfl rfl (by decide +kernel) ⟨Nat.le_of_ble_eq_true rfl, Nat.le_of_ble_eq_true rfl⟩) (kRecv (own := "") (q0 := 2) (ci := 11) hK hP hD hN rfl rfl [2, 3] rfl (by decide)) rfl rfl hl.1 rfl (lv_room (Nat.le_of_ble_eq_true rfl)) dX11_joined_102 ⟨Nat.le_of_ble_eq_true rfl, Nat.le_of_ble_eq_true rfl⟩) hP hD hS hA [2, 3] [0, 1] rfl rfl (by decide) (by decide) (fun u_38 H locs w_35 hP hD hS => ?_)
                obtain ⟨g_36, d2_37⟩ := u_38
                have hP : va_P D vwCl [(yf, .inl (cI, 6, .inl ff)), (ys, .inl (cI, 1201, .inl sI)), (h, .inr (11, [.ref yt, .ref yk, .ref yt, .int m3, .ref yf, .ref yb, .ref yz, .ref yn, .ref yc, .int m9, .ref yp, .ref yw, .int m12, .int m13, .int m14, .int m15, .int m16, .int m17, .int m18, .int m19, .int m20, .ref ye, .int m22, .int m23, .ref yx])), (yt, .inl (cI, 1201, .inl g_36))] H := hP
                have hD : va_D A [(yf, .inl (cI, 6, .inl ff)), (ys, .inl (cI, 1201, .inl sI)), (h, .inr (11, [.ref yt, .ref yk, .ref yt, .int m3, .ref yf, .ref yb, .ref yz, .ref yn, .ref yc, .int m9, .ref yp, .ref yw, .int m12, .int m13, .int m14, .int m15, .int m16, .int m17, .int m18, .int m19, .int m20, .ref ye, .int m22, .int m23, .ref yx])), (yt, .inl (cI, 1201, .inl g_36))] := hD
                have lo_d2_37 := k_lo d2_37
                have hi_d2_37 := k_hi d2_37
                obtain ⟨h_39, h_40, h_41, h_42⟩ := w_35
                have h_39 : g_36 0 = d2_37 := h_39
                have h_40 : g_36 1 = 0 := h_40
                have h_41 : g_36 2 = 0 := h_41
                have h_42 : d2_37.toInt = (q 0).toInt + 1 := h_42
                refine lv_goto (tgt := 81) hx hb dX11_joined_105 (by decide) ?_
                exact ih81 g_36 (by rw [show g_36 0 = d2_37 from h_39] <;> first | omega) (by rw [show g_36 0 = d2_37 from h_39] <;> first | omega) h_40 h_41 (by rw [show g_36 0 = d2_37 from h_39] <;> first | omega) ls _ _ (lv_sub hl [0, 1, 2, 3, 4] rfl) (hP.sub [2, 0, 1, 3] rfl) (hD.sub [2, 0, 1, 3] (by decide) rfl) hS
        exact hloop_81 _ sI (by rw [show sI 0 = 0 from (by decide +kernel)] <;> first | omega | (simp only [zl_0] <;> omega) | (simp [zl_0]; done)) (by rw [show sI 0 = 0 from (by decide +kernel)] <;> first | omega | (simp only [zl_0] <;> omega) | (simp [zl_0]; done)) (by decide +kernel) (by decide +kernel) (Nat.lt_succ_self _) ls _ _ (lv_sub hl [0, 1, 2, 3, 4] rfl) hP hD hS
      · refine lv_aload_n hx hb dX11_joined_19 rfl (lv_at hl 0 rfl) ?_
        refine lv_ldc (v := (-1000001)) hx hb hown (hT _ mw_1239) dX11_joined_20 ?_
        refine kJi (wr := [(ys, .inl (cI, 1201, .inl sI)), (yt, .inl (cI, 1201, .inl ft))]) (va_runV (As := [.int (-1000001)]) (rest := []) ⟨hx, hb, hml, hown, hT⟩ (c_X11_finding l D cI h ys yk yt yf yb yz yn yc yp yw ye yx H.size m3 m9 m12 m13 m14 m15 m16 m17 m18 m19 m20 m22 m23 ff (-1000001) (by first | omega | (simp only [zl_m1000001] <;> omega) | decide | assumption | rfl) (by first | omega | (simp only [zl_m1000001] <;> omega) | decide | assumption | rfl)) (cwV 1 hT (gV_in mw_1243 mw_1240 mw_1242 mw_p3_8 mw_12) rfl rfl rfl (by decide +kernel) ⟨Nat.le_of_ble_eq_true rfl, Nat.le_of_ble_eq_true rfl⟩) (kRecv (own := "") (q0 := 0) (ci := 11) hK hP hD hN rfl rfl [0, 3] rfl (by decide)) rfl rfl hl.1 rfl (lv_room (Nat.le_of_ble_eq_true rfl)) dX11_joined_22 ⟨Nat.le_of_ble_eq_true rfl, Nat.le_of_ble_eq_true rfl⟩) hP hD hS hA [0, 3] [1, 2] rfl rfl (by decide) (by decide) (fun r_43 u_45 H locs w_44 hP hD hS => ?_)
        have hP : va_P D vwCl [(ys, .inl (cI, 1201, .inl sI)), (yt, .inl (cI, 1201, .inl ft))] H := hP
        have hD : va_D A [(ys, .inl (cI, 1201, .inl sI)), (yt, .inl (cI, 1201, .inl ft))] := hD
        have hr_43 := w_44
        obtain rfl : r_43 = (-1000001) := hr_43.trans (by decide)
        exact hRet () [] (by unfold sp_joined; repeat (first | rw [if_pos (by omega)] | rw [if_neg (by omega)])) hP hD (by decide) rfl hS rfl dX11_joined_25
    · have h_13 : b.toInt < 0 ∨ 39 < b.toInt := h_13
      obtain rfl : r_8 = 0 := hr_8.trans (by decide)
      refine b_if_eq hx hb zl_0 (tgt := 19) dX11_joined_11 (by decide) (fun c_46 => ?_) (fun c_46 => by exfalso; omega)
      refine lv_aload_n hx hb dX11_joined_19 rfl (lv_at hl 0 rfl) ?_
      refine lv_ldc (v := (-1000001)) hx hb hown (hT _ mw_1239) dX11_joined_20 ?_
      refine kJi (wr := [(ys, .inl (cI, 1201, .inl sI)), (yt, .inl (cI, 1201, .inl ft))]) (va_runV (As := [.int (-1000001)]) (rest := []) ⟨hx, hb, hml, hown, hT⟩ (c_X11_finding l D cI h ys yk yt yf yb yz yn yc yp yw ye yx H.size m3 m9 m12 m13 m14 m15 m16 m17 m18 m19 m20 m22 m23 ff (-1000001) (by first | omega | (simp only [zl_m1000001] <;> omega) | decide | assumption | rfl) (by first | omega | (simp only [zl_m1000001] <;> omega) | decide | assumption | rfl)) (cwV 1 hT (gV_in mw_1243 mw_1240 mw_1242 mw_p3_8 mw_12) rfl rfl rfl (by decide +kernel) ⟨Nat.le_of_ble_eq_true rfl, Nat.le_of_ble_eq_true rfl⟩) (kRecv (own := "") (q0 := 0) (ci := 11) hK hP hD hN rfl rfl [0, 3] rfl (by decide)) rfl rfl hl.1 rfl (lv_room (Nat.le_of_ble_eq_true rfl)) dX11_joined_22 ⟨Nat.le_of_ble_eq_true rfl, Nat.le_of_ble_eq_true rfl⟩) hP hD hS hA [0, 3] [1, 2] rfl rfl (by decide) (by decide) (fun r_47 u_49 H locs w_48 hP hD hS => ?_)
      have hP : va_P D vwCl [(ys, .inl (cI, 1201, .inl sI)), (yt, .inl (cI, 1201, .inl ft))] H := hP
      have hD : va_D A [(ys, .inl (cI, 1201, .inl sI)), (yt, .inl (cI, 1201, .inl ft))] := hD
      have hr_47 := w_48
      obtain rfl : r_47 = (-1000001) := hr_47.trans (by decide)
      exact hRet () [] (by unfold sp_joined; repeat (first | rw [if_pos (by omega)] | rw [if_neg (by omega)])) hP hD (by decide) rfl hS rfl dX11_joined_25
  · have h_6 : a.toInt < 0 ∨ 39 < a.toInt := h_6
    obtain rfl : r_1 = 0 := hr_1.trans (by decide)
    refine b_if_eq hx hb zl_0 (tgt := 19) dX11_joined_4 (by decide) (fun c_50 => ?_) (fun c_50 => by exfalso; omega)
    refine lv_aload_n hx hb dX11_joined_19 rfl (lv_at hl 0 rfl) ?_
    refine lv_ldc (v := (-1000001)) hx hb hown (hT _ mw_1239) dX11_joined_20 ?_
    refine kJi (wr := [(ys, .inl (cI, 1201, .inl sI)), (yt, .inl (cI, 1201, .inl ft))]) (va_runV (As := [.int (-1000001)]) (rest := []) ⟨hx, hb, hml, hown, hT⟩ (c_X11_finding l D cI h ys yk yt yf yb yz yn yc yp yw ye yx H.size m3 m9 m12 m13 m14 m15 m16 m17 m18 m19 m20 m22 m23 ff (-1000001) (by first | omega | (simp only [zl_m1000001] <;> omega) | decide | assumption | rfl) (by first | omega | (simp only [zl_m1000001] <;> omega) | decide | assumption | rfl)) (cwV 1 hT (gV_in mw_1243 mw_1240 mw_1242 mw_p3_8 mw_12) rfl rfl rfl (by decide +kernel) ⟨Nat.le_of_ble_eq_true rfl, Nat.le_of_ble_eq_true rfl⟩) (kRecv (own := "") (q0 := 0) (ci := 11) hK hP hD hN rfl rfl [0, 3] rfl (by decide)) rfl rfl hl.1 rfl (lv_room (Nat.le_of_ble_eq_true rfl)) dX11_joined_22 ⟨Nat.le_of_ble_eq_true rfl, Nat.le_of_ble_eq_true rfl⟩) hP hD hS hA [0, 3] [1, 2] rfl rfl (by decide) (by decide) (fun r_51 u_53 H locs w_52 hP hD hS => ?_)
    have hP : va_P D vwCl [(ys, .inl (cI, 1201, .inl sI)), (yt, .inl (cI, 1201, .inl ft))] H := hP
    have hD : va_D A [(ys, .inl (cI, 1201, .inl sI)), (yt, .inl (cI, 1201, .inl ft))] := hD
    have hr_51 := w_52
    obtain rfl : r_51 = (-1000001) := hr_51.trans (by decide)
    exact hRet () [] (by unfold sp_joined; repeat (first | rw [if_pos (by omega)] | rw [if_neg (by omega)])) hP hD (by decide) rfl hS rfl dX11_joined_25
set_option maxHeartbeats 4000000 in
set_option maxRecDepth 100000 in
theorem c_X11_image (l : Launch) (D : va_G) (cI : ClassId) (h ys yk yt yf yb yz yn yc yp yw ye yx : Nat) (sz : Nat) (m9 : Int32) (m12 : Int32) (m13 : Int32) (m14 : Int32) (m15 : Int32) (m16 : Int32) (m17 : Int32) (m18 : Int32) (m19 : Int32) (m20 : Int32) (m22 : Int32) (m23 : Int32) (fk : Nat → Int32) : Met l yX11_image (gW yX11_image cX11_image 1 (some .int)) ({ frames := 1, cells := 0, slots := 0, locals := 22 } : Room) (kPre D cI [.ref h] [(h, .inr (11, [.ref ys, .ref yk, .ref yt, .int 0, .ref yf, .ref yb, .ref yz, .ref yn, .ref yc, .int m9, .ref yp, .ref yw, .int m12, .int m13, .int m14, .int m15, .int m16, .int m17, .int m18, .int m19, .int m20, .ref ye, .int m22, .int m23, .ref yx])), (ys, .inl (cI, 1201, .inl sI)), (yk, .inl (cI, 1201, .inl fk))] sz) (va_Qi (fun (r : Int32) (u : Unit) => r = 1) (fun u t => kWd D cI (va_A [(h, .inr (11, [.ref ys, .ref yk, .ref yt, .int 0, .ref yf, .ref yb, .ref yz, .ref yn, .ref yc, .int m9, .ref yp, .ref yw, .int m12, .int m13, .int m14, .int m15, .int m16, .int m17, .int m18, .int m19, .int m20, .ref ye, .int m22, .int m23, .ref yx])), (ys, .inl (cI, 1201, .inl sI)), (yk, .inl (cI, 1201, .inl fk))] sz) [] t) (va_A [(h, .inr (11, [.ref ys, .ref yk, .ref yt, .int 0, .ref yf, .ref yb, .ref yz, .ref yn, .ref yc, .int m9, .ref yp, .ref yw, .int m12, .int m13, .int m14, .int m15, .int m16, .int m17, .int m18, .int m19, .int m20, .ref ye, .int m22, .int m23, .ref yx])), (ys, .inl (cI, 1201, .inl sI)), (yk, .inl (cI, 1201, .inl fk))] sz)) 0 0 (va_A [(h, .inr (11, [.ref ys, .ref yk, .ref yt, .int 0, .ref yf, .ref yb, .ref yz, .ref yn, .ref yc, .int m9, .ref yp, .ref yw, .int m12, .int m13, .int m14, .int m15, .int m16, .int m17, .int m18, .int m19, .int m20, .ref ye, .int m22, .int m23, .ref yx])), (ys, .inl (cI, 1201, .inl sI)), (yk, .inl (cI, 1201, .inl fk))] sz) := by
  refine kMetI (own := RX11) (by decide) rfl (Nat.le_of_ble_eq_true rfl) ?_
  intro p e s m args below meth c hx hb hT hown hname hml A Q hK hP hD hS hA hN hRet ls hl
  have hl : lv_has ls 1 [(0, .ref h)] := hl
  have lo_m9 := k_lo m9
  have hi_m9 := k_hi m9
  have lo_m12 := k_lo m12
  have hi_m12 := k_hi m12
  have lo_m13 := k_lo m13
  have hi_m13 := k_hi m13
  have lo_m14 := k_lo m14
  have hi_m14 := k_hi m14
  have lo_m15 := k_lo m15
  have hi_m15 := k_hi m15
  have lo_m16 := k_lo m16
  have hi_m16 := k_hi m16
  have lo_m17 := k_lo m17
  have hi_m17 := k_hi m17
  have lo_m18 := k_lo m18
  have hi_m18 := k_hi m18
  have lo_m19 := k_lo m19
  have hi_m19 := k_hi m19
  have lo_m20 := k_lo m20
  have hi_m20 := k_hi m20
  have lo_m22 := k_lo m22
  have hi_m22 := k_hi m22
  have lo_m23 := k_lo m23
  have hi_m23 := k_hi m23
  refine lv_aload_n hx hb dX11_image_0 rfl (lv_at hl 0 rfl) ?_
  refine va_get (D := D) (ci := 11) (v := .ref ys) (C := RX11) (T := TX11) (N := 25) hx hb hT giX11 hown hK hP 0 rfl rfl 0 (by decide) (hT (Cond.fieldLink RX11 9 "DesertWireModel" "s" "[I") mw_1156) (fun _ h9 => h9) rfl dX11_image_1 ?_
  refine lv_aload_n hx hb dX11_image_4 rfl (lv_at hl 0 rfl) ?_
  refine va_get (D := D) (ci := 11) (v := .ref yk) (C := RX11) (T := TX11) (N := 25) hx hb hT giX11 hown hK hP 0 rfl rfl 1 (by decide) (hT (Cond.fieldLink RX11 13 "DesertWireModel" "kept" "[I") mw_1157) (fun _ h9 => h9) rfl dX11_image_5 ?_
  refine kJv (wr := [(h, .inr (11, [.ref ys, .ref yk, .ref yt, .int 0, .ref yf, .ref yb, .ref yz, .ref yn, .ref yc, .int m9, .ref yp, .ref yw, .int m12, .int m13, .int m14, .int m15, .int m16, .int m17, .int m18, .int m19, .int m20, .ref ye, .int m22, .int m23, .ref yx]))]) (va_runS (As := [.ref ys, .ref yk]) (rest := []) ⟨hx, hb, hml, hown, hT⟩ (c_X11_copy l D cI ys yk s.heap.size sI fk) (cwS 2 hT (gS_in mw_1558 mw_1556 mw_1557 mw_12) rfl rfl rfl (by decide +kernel) ⟨Nat.le_of_ble_eq_true rfl, Nat.le_of_ble_eq_true rfl⟩) (kStat hK hP hD hN [1, 2] rfl (by decide)) rfl rfl hl.1 rfl (lv_room (Nat.le_of_ble_eq_true rfl)) dX11_image_8 ⟨Nat.le_of_ble_eq_true rfl, Nat.le_of_ble_eq_true rfl⟩) hP hD hS hA [1, 2] [0] rfl rfl (by decide) (by decide) (fun u_3 H locs w_2 hP hD hS => ?_)
  have hP : va_P D vwCl [(h, .inr (11, [.ref ys, .ref yk, .ref yt, .int 0, .ref yf, .ref yb, .ref yz, .ref yn, .ref yc, .int m9, .ref yp, .ref yw, .int m12, .int m13, .int m14, .int m15, .int m16, .int m17, .int m18, .int m19, .int m20, .ref ye, .int m22, .int m23, .ref yx])), (ys, .inl (cI, 1201, .inl sI)), (yk, .inl (cI, 1201, .inl sI))] H := hP
  have hD : va_D A [(h, .inr (11, [.ref ys, .ref yk, .ref yt, .int 0, .ref yf, .ref yb, .ref yz, .ref yn, .ref yc, .int m9, .ref yp, .ref yw, .int m12, .int m13, .int m14, .int m15, .int m16, .int m17, .int m18, .int m19, .int m20, .ref ye, .int m22, .int m23, .ref yx])), (ys, .inl (cI, 1201, .inl sI)), (yk, .inl (cI, 1201, .inl sI))] := hD
  refine lv_aload_n hx hb dX11_image_11 rfl (lv_at hl 0 rfl) ?_
  refine lv_dup hx hb dX11_image_12 rfl ?_
  refine va_get (D := D) (ci := 11) (v := .int 0) (C := RX11) (T := TX11) (N := 25) hx hb hT giX11 hown hK hP 0 rfl rfl 3 (by decide) (hT (Cond.fieldLink RX11 279 "DesertWireModel" "images" "I") mw_1159) (fun _ h9 => h9) rfl dX11_image_13 ?_
  refine lv_iconst (v := 1) hx hb dX11_image_16 (by decide) ?_
  refine k_iadd (v := 1) hx hb dX11_image_17 (by decide) ?_
  refine va_put (D := D) (ci := 11) (v := .int 1) (ty := .int) (C := RX11) (T := TX11) (N := 25) hx hb hT giX11 tyX11 tyX11_ok nmX11 hown hK hP hD hS 0 rfl rfl 3 (by decide) (hT (Cond.fieldLink RX11 279 "DesertWireModel" "images" "I") mw_1159) (fun _ h9 => h9) rfl (by decide +kernel) rfl rfl (Nat.le_of_ble_eq_true rfl) dX11_image_18 (fun H locs hP hD hS => ?_)
  have hP : va_P D vwCl [(h, .inr (11, [.ref ys, .ref yk, .ref yt, .int 1, .ref yf, .ref yb, .ref yz, .ref yn, .ref yc, .int m9, .ref yp, .ref yw, .int m12, .int m13, .int m14, .int m15, .int m16, .int m17, .int m18, .int m19, .int m20, .ref ye, .int m22, .int m23, .ref yx])), (ys, .inl (cI, 1201, .inl sI)), (yk, .inl (cI, 1201, .inl sI))] H := hP
  have hD : va_D A [(h, .inr (11, [.ref ys, .ref yk, .ref yt, .int 1, .ref yf, .ref yb, .ref yz, .ref yn, .ref yc, .int m9, .ref yp, .ref yw, .int m12, .int m13, .int m14, .int m15, .int m16, .int m17, .int m18, .int m19, .int m20, .ref ye, .int m22, .int m23, .ref yx])), (ys, .inl (cI, 1201, .inl sI)), (yk, .inl (cI, 1201, .inl sI))] := hD
  refine lv_aload_n hx hb dX11_image_21 rfl (lv_at hl 0 rfl) ?_
  refine va_get (D := D) (ci := 11) (v := .int 1) (C := RX11) (T := TX11) (N := 25) hx hb hT giX11 hown hK hP 0 rfl rfl 3 (by decide) (hT (Cond.fieldLink RX11 279 "DesertWireModel" "images" "I") mw_1159) (fun _ h9 => h9) rfl dX11_image_22 ?_
  exact hRet () [] rfl hP hD (by decide) rfl hS rfl dX11_image_25
set_option maxHeartbeats 4000000 in
set_option maxRecDepth 100000 in
theorem c_X11_broke (l : Launch) (D : va_G) (cI : ClassId) (h ys yk yt yf yb yz yn yc yp yw ye yx : Nat) (sz : Nat) (m3 : Int32) (m9 : Int32) (m12 : Int32) (m13 : Int32) (m14 : Int32) (m15 : Int32) (m16 : Int32) (m17 : Int32) (m18 : Int32) (m19 : Int32) (m20 : Int32) (m22 : Int32) (m23 : Int32) (ff : Nat → Int32) (a : Int32) (b : Int32) (d : Int32) (g : Int32) (i0 : Int32) (j0 : Int32) : Met l yX11_broke (gW yX11_broke cX11_broke 10 (some .int)) ({ frames := 2, cells := 0, slots := 0, locals := 42 } : Room) (kPre D cI [.ref h, .int a, .int b, .int d, .int g, .int i0, .int j0] [(h, .inr (11, [.ref ys, .ref yk, .ref yt, .int m3, .ref yf, .ref yb, .ref yz, .ref yn, .ref yc, .int m9, .ref yp, .ref yw, .int m12, .int m13, .int m14, .int m15, .int m16, .int m17, .int m18, .int m19, .int m20, .ref ye, .int m22, .int m23, .ref yx])), (yf, .inl (cI, 6, .inl ff))] sz) (va_Qi (fun (r : Int32) (u : Unit) => r.toInt = sp_broke a.toInt b.toInt d.toInt g.toInt i0.toInt j0.toInt) (fun u t => kWd D cI (va_A [(h, .inr (11, [.ref ys, .ref yk, .ref yt, .int m3, .ref yf, .ref yb, .ref yz, .ref yn, .ref yc, .int m9, .ref yp, .ref yw, .int m12, .int m13, .int m14, .int m15, .int m16, .int m17, .int m18, .int m19, .int m20, .ref ye, .int m22, .int m23, .ref yx])), (yf, .inl (cI, 6, .inl ff))] sz) [] t) (va_A [(h, .inr (11, [.ref ys, .ref yk, .ref yt, .int m3, .ref yf, .ref yb, .ref yz, .ref yn, .ref yc, .int m9, .ref yp, .ref yw, .int m12, .int m13, .int m14, .int m15, .int m16, .int m17, .int m18, .int m19, .int m20, .ref ye, .int m22, .int m23, .ref yx])), (yf, .inl (cI, 6, .inl ff))] sz)) 0 0 (va_A [(h, .inr (11, [.ref ys, .ref yk, .ref yt, .int m3, .ref yf, .ref yb, .ref yz, .ref yn, .ref yc, .int m9, .ref yp, .ref yw, .int m12, .int m13, .int m14, .int m15, .int m16, .int m17, .int m18, .int m19, .int m20, .ref ye, .int m22, .int m23, .ref yx])), (yf, .inl (cI, 6, .inl ff))] sz) := by
  refine kMetI (own := RX11) (by decide) rfl (Nat.le_of_ble_eq_true rfl) ?_
  intro p e s m args below meth c hx hb hT hown hname hml A Q hK hP hD hS hA hN hRet ls hl
  have hl : lv_has ls 10 [(0, .ref h), (1, .int a), (2, .int b), (3, .int d), (4, .int g), (5, .int i0), (6, .int j0)] := hl
  have lo_a := k_lo a
  have hi_a := k_hi a
  have lo_b := k_lo b
  have hi_b := k_hi b
  have lo_d := k_lo d
  have hi_d := k_hi d
  have lo_g := k_lo g
  have hi_g := k_hi g
  have lo_i0 := k_lo i0
  have hi_i0 := k_hi i0
  have lo_j0 := k_lo j0
  have hi_j0 := k_hi j0
  have lo_m3 := k_lo m3
  have hi_m3 := k_hi m3
  have lo_m9 := k_lo m9
  have hi_m9 := k_hi m9
  have lo_m12 := k_lo m12
  have hi_m12 := k_hi m12
  have lo_m13 := k_lo m13
  have hi_m13 := k_hi m13
  have lo_m14 := k_lo m14
  have hi_m14 := k_hi m14
  have lo_m15 := k_lo m15
  have hi_m15 := k_hi m15
  have lo_m16 := k_lo m16
  have hi_m16 := k_hi m16
  have lo_m17 := k_lo m17
  have hi_m17 := k_hi m17
  have lo_m18 := k_lo m18
  have hi_m18 := k_hi m18
  have lo_m19 := k_lo m19
  have hi_m19 := k_hi m19
  have lo_m20 := k_lo m20
  have hi_m20 := k_hi m20
  have lo_m22 := k_lo m22
  have hi_m22 := k_hi m22
  have lo_m23 := k_lo m23
  have hi_m23 := k_hi m23
  have hmx := k_max_spec (a.toInt + b.toInt) (g.toInt - j0.toInt)
  have hmn := k_min_spec (a.toInt + d.toInt) (g.toInt - i0.toInt)
  refine lv_iload_n hx hb dX11_broke_0 rfl (lv_at hl 1 rfl) ?_
  refine kJi (wr := [(h, .inr (11, [.ref ys, .ref yk, .ref yt, .int m3, .ref yf, .ref yb, .ref yz, .ref yn, .ref yc, .int m9, .ref yp, .ref yw, .int m12, .int m13, .int m14, .int m15, .int m16, .int m17, .int m18, .int m19, .int m20, .ref ye, .int m22, .int m23, .ref yx])), (yf, .inl (cI, 6, .inl ff))]) (va_runS (As := [.int a]) (rest := []) ⟨hx, hb, hml, hown, hT⟩ (c_X11_isMile l D cI s.heap.size a) (cwS 1 hT (gS_in mw_1251 mw_1249 mw_1250 mw_12) rfl rfl rfl (by decide +kernel) ⟨Nat.le_of_ble_eq_true rfl, Nat.le_of_ble_eq_true rfl⟩) (kStat hK hP hD hN [] rfl (by decide)) rfl rfl hl.1 rfl (lv_room (Nat.le_of_ble_eq_true rfl)) dX11_broke_1 ⟨Nat.le_of_ble_eq_true rfl, Nat.le_of_ble_eq_true rfl⟩) hP hD hS hA [] [0, 1] rfl rfl (by decide) (by decide) (fun r_1 u_3 H locs w_2 hP hD hS => ?_)
  have hP : va_P D vwCl [(h, .inr (11, [.ref ys, .ref yk, .ref yt, .int m3, .ref yf, .ref yb, .ref yz, .ref yn, .ref yc, .int m9, .ref yp, .ref yw, .int m12, .int m13, .int m14, .int m15, .int m16, .int m17, .int m18, .int m19, .int m20, .ref ye, .int m22, .int m23, .ref yx])), (yf, .inl (cI, 6, .inl ff))] H := hP
  have hD : va_D A [(h, .inr (11, [.ref ys, .ref yk, .ref yt, .int m3, .ref yf, .ref yb, .ref yz, .ref yn, .ref yc, .int m9, .ref yp, .ref yw, .int m12, .int m13, .int m14, .int m15, .int m16, .int m17, .int m18, .int m19, .int m20, .ref ye, .int m22, .int m23, .ref yx])), (yf, .inl (cI, 6, .inl ff))] := hD
  rcases w_2 with ⟨hr_1, h_4, h_5⟩ | ⟨hr_1, h_6⟩
  · have h_4 : 0 ≤ a.toInt := h_4
    have h_5 : a.toInt ≤ 39 := h_5
    obtain rfl : r_1 = 1 := hr_1.trans (by decide)
    refine b_if_eq hx hb zl_1 (tgt := 58) dX11_broke_4 (by decide) (fun c_7 => by exfalso; omega) (fun c_7 => ?_)
    refine lv_iload hx hb dX11_broke_7 (lv_at hl 4 rfl) ?_
    refine kJi (wr := [(h, .inr (11, [.ref ys, .ref yk, .ref yt, .int m3, .ref yf, .ref yb, .ref yz, .ref yn, .ref yc, .int m9, .ref yp, .ref yw, .int m12, .int m13, .int m14, .int m15, .int m16, .int m17, .int m18, .int m19, .int m20, .ref ye, .int m22, .int m23, .ref yx])), (yf, .inl (cI, 6, .inl ff))]) (va_runS (As := [.int g]) (rest := []) ⟨hx, hb, hml, hown, hT⟩ (c_X11_isMile l D cI H.size g) (cwS 1 hT (gS_in mw_1251 mw_1249 mw_1250 mw_12) rfl rfl rfl (by decide +kernel) ⟨Nat.le_of_ble_eq_true rfl, Nat.le_of_ble_eq_true rfl⟩) (kStat hK hP hD hN [] rfl (by decide)) rfl rfl hl.1 rfl (lv_room (Nat.le_of_ble_eq_true rfl)) dX11_broke_9 ⟨Nat.le_of_ble_eq_true rfl, Nat.le_of_ble_eq_true rfl⟩) hP hD hS hA [] [0, 1] rfl rfl (by decide) (by decide) (fun r_8 u_10 H locs w_9 hP hD hS => ?_)
    have hP : va_P D vwCl [(h, .inr (11, [.ref ys, .ref yk, .ref yt, .int m3, .ref yf, .ref yb, .ref yz, .ref yn, .ref yc, .int m9, .ref yp, .ref yw, .int m12, .int m13, .int m14, .int m15, .int m16, .int m17, .int m18, .int m19, .int m20, .ref ye, .int m22, .int m23, .ref yx])), (yf, .inl (cI, 6, .inl ff))] H := hP
    have hD : va_D A [(h, .inr (11, [.ref ys, .ref yk, .ref yt, .int m3, .ref yf, .ref yb, .ref yz, .ref yn, .ref yc, .int m9, .ref yp, .ref yw, .int m12, .int m13, .int m14, .int m15, .int m16, .int m17, .int m18, .int m19, .int m20, .ref ye, .int m22, .int m23, .ref yx])), (yf, .inl (cI, 6, .inl ff))] := hD
    rcases w_9 with ⟨hr_8, h_11, h_12⟩ | ⟨hr_8, h_13⟩
    · have h_11 : 0 ≤ g.toInt := h_11
      have h_12 : g.toInt ≤ 39 := h_12
      obtain rfl : r_8 = 1 := hr_8.trans (by decide)
      refine b_if_eq hx hb zl_1 (tgt := 58) dX11_broke_12 (by decide) (fun c_14 => by exfalso; omega) (fun c_14 => ?_)
      refine lv_iload_n hx hb dX11_broke_15 rfl (lv_at hl 1 rfl) ?_
      refine lv_iload hx hb dX11_broke_16 (lv_at hl 4 rfl) ?_
      refine b_icmp_ge hx hb rfl rfl (tgt := 58) dX11_broke_18 (by decide) (fun c_15 => ?_) (fun c_15 => ?_)
      · refine lv_aload_n hx hb dX11_broke_58 rfl (lv_at hl 0 rfl) ?_
        refine lv_ldc (v := (-1000001)) hx hb hown (hT _ mw_1239) dX11_broke_59 ?_
        refine kJi (wr := []) (va_runV (As := [.int (-1000001)]) (rest := []) ⟨hx, hb, hml, hown, hT⟩ (c_X11_finding l D cI h ys yk yt yf yb yz yn yc yp yw ye yx H.size m3 m9 m12 m13 m14 m15 m16 m17 m18 m19 m20 m22 m23 ff (-1000001) (by first | omega | (simp only [zl_m1000001] <;> omega) | decide | assumption | rfl) (by first | omega | (simp only [zl_m1000001] <;> omega) | decide | assumption | rfl)) (cwV 1 hT (gV_in mw_1243 mw_1240 mw_1242 mw_p3_8 mw_12) rfl rfl rfl (by decide +kernel) ⟨Nat.le_of_ble_eq_true rfl, Nat.le_of_ble_eq_true rfl⟩) (kRecv (own := "") (q0 := 0) (ci := 11) hK hP hD hN rfl rfl [0, 1] rfl (by decide)) rfl rfl hl.1 rfl (lv_room (Nat.le_of_ble_eq_true rfl)) dX11_broke_61 ⟨Nat.le_of_ble_eq_true rfl, Nat.le_of_ble_eq_true rfl⟩) hP hD hS hA [0, 1] [] rfl rfl (by decide) (by decide) (fun r_16 u_18 H locs w_17 hP hD hS => ?_)
        have hP : va_P D vwCl [] H := hP
        have hD : va_D A [] := hD
        have hr_16 := w_17
        obtain rfl : r_16 = (-1000001) := hr_16.trans (by decide)
        exact hRet () [] (by unfold sp_broke; first | (rw [if_neg (by omega)]; first | decide | omega) | (rw [if_pos (by omega), if_neg (by omega)]; first | decide | omega) | (rw [if_pos (by omega), if_pos (by omega)]; omega)) hP hD (by decide) rfl hS rfl dX11_broke_64
      · refine lv_iload_n hx hb dX11_broke_21 rfl (lv_at hl 2 rfl) ?_
        refine kJi (wr := [(h, .inr (11, [.ref ys, .ref yk, .ref yt, .int m3, .ref yf, .ref yb, .ref yz, .ref yn, .ref yc, .int m9, .ref yp, .ref yw, .int m12, .int m13, .int m14, .int m15, .int m16, .int m17, .int m18, .int m19, .int m20, .ref ye, .int m22, .int m23, .ref yx])), (yf, .inl (cI, 6, .inl ff))]) (va_runS (As := [.int b]) (rest := []) ⟨hx, hb, hml, hown, hT⟩ (c_X11_isMile l D cI H.size b) (cwS 1 hT (gS_in mw_1251 mw_1249 mw_1250 mw_12) rfl rfl rfl (by decide +kernel) ⟨Nat.le_of_ble_eq_true rfl, Nat.le_of_ble_eq_true rfl⟩) (kStat hK hP hD hN [] rfl (by decide)) rfl rfl hl.1 rfl (lv_room (Nat.le_of_ble_eq_true rfl)) dX11_broke_22 ⟨Nat.le_of_ble_eq_true rfl, Nat.le_of_ble_eq_true rfl⟩) hP hD hS hA [] [0, 1] rfl rfl (by decide) (by decide) (fun r_19 u_21 H locs w_20 hP hD hS => ?_)
        have hP : va_P D vwCl [(h, .inr (11, [.ref ys, .ref yk, .ref yt, .int m3, .ref yf, .ref yb, .ref yz, .ref yn, .ref yc, .int m9, .ref yp, .ref yw, .int m12, .int m13, .int m14, .int m15, .int m16, .int m17, .int m18, .int m19, .int m20, .ref ye, .int m22, .int m23, .ref yx])), (yf, .inl (cI, 6, .inl ff))] H := hP
        have hD : va_D A [(h, .inr (11, [.ref ys, .ref yk, .ref yt, .int m3, .ref yf, .ref yb, .ref yz, .ref yn, .ref yc, .int m9, .ref yp, .ref yw, .int m12, .int m13, .int m14, .int m15, .int m16, .int m17, .int m18, .int m19, .int m20, .ref ye, .int m22, .int m23, .ref yx])), (yf, .inl (cI, 6, .inl ff))] := hD
        rcases w_20 with ⟨hr_19, h_22, h_23⟩ | ⟨hr_19, h_24⟩
        · have h_22 : 0 ≤ b.toInt := h_22
          have h_23 : b.toInt ≤ 39 := h_23
          obtain rfl : r_19 = 1 := hr_19.trans (by decide)
          refine b_if_eq hx hb zl_1 (tgt := 58) dX11_broke_25 (by decide) (fun c_25 => by exfalso; omega) (fun c_25 => ?_)
          refine lv_iload_n hx hb dX11_broke_28 rfl (lv_at hl 3 rfl) ?_
          refine lv_iload_n hx hb dX11_broke_29 rfl (lv_at hl 2 rfl) ?_
          refine lv_bipush (v := 39) hx hb dX11_broke_30 (by decide) ?_
          refine kJi (wr := [(h, .inr (11, [.ref ys, .ref yk, .ref yt, .int m3, .ref yf, .ref yb, .ref yz, .ref yn, .ref yc, .int m9, .ref yp, .ref yw, .int m12, .int m13, .int m14, .int m15, .int m16, .int m17, .int m18, .int m19, .int m20, .ref ye, .int m22, .int m23, .ref yx])), (yf, .inl (cI, 6, .inl ff))]) (va_runS (As := [.int d, .int b, .int 39]) (rest := []) ⟨hx, hb, hml, hown, hT⟩ (c_X11_in l D cI H.size d b 39) (cwS 3 hT (gS_in mw_1238 mw_1236 mw_1237 mw_12) rfl rfl rfl (by decide +kernel) ⟨Nat.le_of_ble_eq_true rfl, Nat.le_of_ble_eq_true rfl⟩) (kStat hK hP hD hN [] rfl (by decide)) rfl rfl hl.1 rfl (lv_room (Nat.le_of_ble_eq_true rfl)) dX11_broke_32 ⟨Nat.le_of_ble_eq_true rfl, Nat.le_of_ble_eq_true rfl⟩) hP hD hS hA [] [0, 1] rfl rfl (by decide) (by decide) (fun r_26 u_28 H locs w_27 hP hD hS => ?_)
          have hP : va_P D vwCl [(h, .inr (11, [.ref ys, .ref yk, .ref yt, .int m3, .ref yf, .ref yb, .ref yz, .ref yn, .ref yc, .int m9, .ref yp, .ref yw, .int m12, .int m13, .int m14, .int m15, .int m16, .int m17, .int m18, .int m19, .int m20, .ref ye, .int m22, .int m23, .ref yx])), (yf, .inl (cI, 6, .inl ff))] H := hP
          have hD : va_D A [(h, .inr (11, [.ref ys, .ref yk, .ref yt, .int m3, .ref yf, .ref yb, .ref yz, .ref yn, .ref yc, .int m9, .ref yp, .ref yw, .int m12, .int m13, .int m14, .int m15, .int m16, .int m17, .int m18, .int m19, .int m20, .ref ye, .int m22, .int m23, .ref yx])), (yf, .inl (cI, 6, .inl ff))] := hD
          rcases w_27 with ⟨hr_26, h_29, h_30⟩ | ⟨hr_26, h_31⟩
          · try simp only [zl_39] at h_29
            have h_29 : b.toInt ≤ d.toInt := h_29
            try simp only [zl_39] at h_30
            have h_30 : d.toInt ≤ 39 := h_30
            obtain rfl : r_26 = 1 := hr_26.trans (by decide)
            refine b_if_eq hx hb zl_1 (tgt := 58) dX11_broke_35 (by decide) (fun c_32 => by exfalso; omega) (fun c_32 => ?_)
            refine lv_iload hx hb dX11_broke_38 (lv_at hl 5 rfl) ?_
            refine kJi (wr := [(h, .inr (11, [.ref ys, .ref yk, .ref yt, .int m3, .ref yf, .ref yb, .ref yz, .ref yn, .ref yc, .int m9, .ref yp, .ref yw, .int m12, .int m13, .int m14, .int m15, .int m16, .int m17, .int m18, .int m19, .int m20, .ref ye, .int m22, .int m23, .ref yx])), (yf, .inl (cI, 6, .inl ff))]) (va_runS (As := [.int i0]) (rest := []) ⟨hx, hb, hml, hown, hT⟩ (c_X11_isMile l D cI H.size i0) (cwS 1 hT (gS_in mw_1251 mw_1249 mw_1250 mw_12) rfl rfl rfl (by decide +kernel) ⟨Nat.le_of_ble_eq_true rfl, Nat.le_of_ble_eq_true rfl⟩) (kStat hK hP hD hN [] rfl (by decide)) rfl rfl hl.1 rfl (lv_room (Nat.le_of_ble_eq_true rfl)) dX11_broke_40 ⟨Nat.le_of_ble_eq_true rfl, Nat.le_of_ble_eq_true rfl⟩) hP hD hS hA [] [0, 1] rfl rfl (by decide) (by decide) (fun r_33 u_35 H locs w_34 hP hD hS => ?_)
            have hP : va_P D vwCl [(h, .inr (11, [.ref ys, .ref yk, .ref yt, .int m3, .ref yf, .ref yb, .ref yz, .ref yn, .ref yc, .int m9, .ref yp, .ref yw, .int m12, .int m13, .int m14, .int m15, .int m16, .int m17, .int m18, .int m19, .int m20, .ref ye, .int m22, .int m23, .ref yx])), (yf, .inl (cI, 6, .inl ff))] H := hP
            have hD : va_D A [(h, .inr (11, [.ref ys, .ref yk, .ref yt, .int m3, .ref yf, .ref yb, .ref yz, .ref yn, .ref yc, .int m9, .ref yp, .ref yw, .int m12, .int m13, .int m14, .int m15, .int m16, .int m17, .int m18, .int m19, .int m20, .ref ye, .int m22, .int m23, .ref yx])), (yf, .inl (cI, 6, .inl ff))] := hD
            rcases w_34 with ⟨hr_33, h_36, h_37⟩ | ⟨hr_33, h_38⟩
            · have h_36 : 0 ≤ i0.toInt := h_36
              have h_37 : i0.toInt ≤ 39 := h_37
              obtain rfl : r_33 = 1 := hr_33.trans (by decide)
              refine b_if_eq hx hb zl_1 (tgt := 58) dX11_broke_43 (by decide) (fun c_39 => by exfalso; omega) (fun c_39 => ?_)
              refine lv_iload hx hb dX11_broke_46 (lv_at hl 6 rfl) ?_
              refine lv_iload hx hb dX11_broke_48 (lv_at hl 5 rfl) ?_
              refine lv_bipush (v := 39) hx hb dX11_broke_50 (by decide) ?_
              refine kJi (wr := [(h, .inr (11, [.ref ys, .ref yk, .ref yt, .int m3, .ref yf, .ref yb, .ref yz, .ref yn, .ref yc, .int m9, .ref yp, .ref yw, .int m12, .int m13, .int m14, .int m15, .int m16, .int m17, .int m18, .int m19, .int m20, .ref ye, .int m22, .int m23, .ref yx])), (yf, .inl (cI, 6, .inl ff))]) (va_runS (As := [.int j0, .int i0, .int 39]) (rest := []) ⟨hx, hb, hml, hown, hT⟩ (c_X11_in l D cI H.size j0 i0 39) (cwS 3 hT (gS_in mw_1238 mw_1236 mw_1237 mw_12) rfl rfl rfl (by decide +kernel) ⟨Nat.le_of_ble_eq_true rfl, Nat.le_of_ble_eq_true rfl⟩) (kStat hK hP hD hN [] rfl (by decide)) rfl rfl hl.1 rfl (lv_room (Nat.le_of_ble_eq_true rfl)) dX11_broke_52 ⟨Nat.le_of_ble_eq_true rfl, Nat.le_of_ble_eq_true rfl⟩) hP hD hS hA [] [0, 1] rfl rfl (by decide) (by decide) (fun r_40 u_42 H locs w_41 hP hD hS => ?_)
              have hP : va_P D vwCl [(h, .inr (11, [.ref ys, .ref yk, .ref yt, .int m3, .ref yf, .ref yb, .ref yz, .ref yn, .ref yc, .int m9, .ref yp, .ref yw, .int m12, .int m13, .int m14, .int m15, .int m16, .int m17, .int m18, .int m19, .int m20, .ref ye, .int m22, .int m23, .ref yx])), (yf, .inl (cI, 6, .inl ff))] H := hP
              have hD : va_D A [(h, .inr (11, [.ref ys, .ref yk, .ref yt, .int m3, .ref yf, .ref yb, .ref yz, .ref yn, .ref yc, .int m9, .ref yp, .ref yw, .int m12, .int m13, .int m14, .int m15, .int m16, .int m17, .int m18, .int m19, .int m20, .ref ye, .int m22, .int m23, .ref yx])), (yf, .inl (cI, 6, .inl ff))] := hD
              rcases w_41 with ⟨hr_40, h_43, h_44⟩ | ⟨hr_40, h_45⟩
              · try simp only [zl_39] at h_43
                have h_43 : i0.toInt ≤ j0.toInt := h_43
                try simp only [zl_39] at h_44
                have h_44 : j0.toInt ≤ 39 := h_44
                obtain rfl : r_40 = 1 := hr_40.trans (by decide)
                refine b_if_ne hx hb zl_1 (tgt := 65) dX11_broke_55 (by decide) (fun c_46 => ?_) (fun c_46 => by exfalso; omega)
                refine lv_iconst (v := (-1)) hx hb dX11_broke_65 (by decide) ?_
                refine lv_istore (lv' := [(7, .int (-1)), (0, .ref h), (1, .int a), (2, .int b), (3, .int d), (4, .int g), (5, .int i0), (6, .int j0)]) hx hb dX11_broke_66 hl (by decide) rfl (fun ls hl => ?_)
                refine lv_iconst (v := (-1)) hx hb dX11_broke_68 (by decide) ?_
                refine lv_istore (lv' := [(8, .int (-1)), (7, .int (-1)), (0, .ref h), (1, .int a), (2, .int b), (3, .int d), (4, .int g), (5, .int i0), (6, .int j0)]) hx hb dX11_broke_69 hl (by decide) rfl (fun ls hl => ?_)
                refine lv_iload_n hx hb dX11_broke_71 rfl (lv_at hl 3 rfl) ?_
                refine lv_istore (lv' := [(9, .int a), (8, .int (-1)), (7, .int (-1)), (0, .ref h), (1, .int a), (2, .int b), (3, .int d), (4, .int g), (5, .int i0), (6, .int j0)]) hx hb dX11_broke_72 hl (by decide) rfl (fun ls hl => ?_)
                have hloop_74 : ∀ (fu_ : Nat) (q : Int32) (z : Int32) (mm : Int32), a.toInt ≤ mm.toInt → mm.toInt ≤ g.toInt + 1 → -1 ≤ q.toInt → q.toInt ≤ 39 → -1 ≤ z.toInt → z.toInt ≤ 39 → ((q.toInt = -1 ∧ z.toInt = -1 ∧ (mm.toInt ≤ k_max (a.toInt + b.toInt) (g.toInt - j0.toInt) ∨ k_min (a.toInt + d.toInt) (g.toInt - i0.toInt) < k_max (a.toInt + b.toInt) (g.toInt - j0.toInt))) ∨ (q.toInt = k_max (a.toInt + b.toInt) (g.toInt - j0.toInt) ∧ k_max (a.toInt + b.toInt) (g.toInt - j0.toInt) ≤ k_min (a.toInt + d.toInt) (g.toInt - i0.toInt) ∧ k_max (a.toInt + b.toInt) (g.toInt - j0.toInt) < mm.toInt ∧ ((z.toInt = mm.toInt - 1 ∧ mm.toInt - 1 ≤ k_min (a.toInt + d.toInt) (g.toInt - i0.toInt)) ∨ (z.toInt = k_min (a.toInt + d.toInt) (g.toInt - i0.toInt) ∧ k_min (a.toInt + d.toInt) (g.toInt - i0.toInt) < mm.toInt)))) → (41 - mm.toInt).toNat < fu_ → ∀ (ls : Array Slot) (H : Heap) (locs : List Loc), lv_has ls 10 [(9, .int mm), (8, .int z), (7, .int q), (0, .ref h), (1, .int a), (2, .int b), (3, .int d), (4, .int g), (5, .int i0), (6, .int j0)] → va_P D vwCl [(h, .inr (11, [.ref ys, .ref yk, .ref yt, .int m3, .ref yf, .ref yb, .ref yz, .ref yn, .ref yc, .int m9, .ref yp, .ref yw, .int m12, .int m13, .int m14, .int m15, .int m16, .int m17, .int m18, .int m19, .int m20, .ref ye, .int m22, .int m23, .ref yx])), (yf, .inl (cI, 6, .inl ff))] H → va_D A [(h, .inr (11, [.ref ys, .ref yk, .ref yt, .int m3, .ref yf, .ref yb, .ref yz, .ref yn, .ref yc, .int m9, .ref yp, .ref yw, .int m12, .int m13, .int m14, .int m15, .int m16, .int m17, .int m18, .int m19, .int m20, .ref ye, .int m22, .int m23, .ref yx])), (yf, .inl (cI, 6, .inl ff))] → va_S A s.heap H locs → W p l e ({ frames := 2, cells := 0, slots := 0, locals := 42 } : Room) s m args below meth c H locs 0 0 Q (F0 m 74 ls []) := by
                  intro fu_; induction fu_ with
                  | zero => intro q z mm i74_0 i74_1 i74_2 i74_3 i74_4 i74_5 i74_6 hm; exact absurd hm (by omega)
                  | succ fu_ ih74 =>
                      intro q z mm i74_0 i74_1 i74_2 i74_3 i74_4 i74_5 i74_6 hm ls H locs hl hP hD hS
                      have lo_q := k_lo q
                      have hi_q := k_hi q
                      have lo_z := k_lo z
                      have hi_z := k_hi z
                      have lo_mm := k_lo mm
                      have hi_mm := k_hi mm
                      refine lv_iload hx hb dX11_broke_74 (lv_at hl 0 rfl) ?_
                      refine lv_iload hx hb dX11_broke_76 (lv_at hl 7 rfl) ?_
                      refine b_icmp_gt hx hb rfl rfl (tgt := 132) dX11_broke_78 (by decide) (fun c_47 => ?_) (fun c_47 => ?_)
                      · refine lv_iload hx hb dX11_broke_132 (lv_at hl 2 rfl) ?_
                        refine b_if_ge hx hb rfl (tgt := 146) dX11_broke_134 (by decide) (fun c_48 => ?_) (fun c_48 => ?_)
                        · refine lv_bipush (v := 100) hx hb dX11_broke_146 (by decide) ?_
                          refine lv_iload hx hb dX11_broke_148 (lv_at hl 2 rfl) ?_
                          refine lv_imul hx hb dX11_broke_150 ?_
                          refine lv_topi (fun v_49 ev_49 => ?_)
                          have tv_49 : v_49.toInt = 100 * q.toInt := by rw [ev_49]; exact k_mulv zl_100 rfl (by omega) (by omega)
                          refine lv_iload hx hb dX11_broke_151 (lv_at hl 1 rfl) ?_
                          refine lv_iadd hx hb dX11_broke_153 ?_
                          refine lv_topi (fun v_50 ev_50 => ?_)
                          have tv_50 : v_50.toInt = v_49.toInt + z.toInt := by rw [ev_50]; exact k_addv rfl rfl (by omega) (by omega)
                          exact hRet () [] (by unfold sp_broke; first | (rw [if_neg (by omega)]; first | decide | omega) | (rw [if_pos (by omega), if_neg (by omega)]; first | decide | omega) | (rw [if_pos (by omega), if_pos (by omega)]; omega)) hP hD (by decide) rfl hS rfl dX11_broke_154
                        · refine lv_aload_n hx hb dX11_broke_137 rfl (lv_at hl 3 rfl) ?_
                          refine lv_ldc (v := (-1000002)) hx hb hown (hT _ mw_1392) dX11_broke_138 ?_
                          refine kJi (wr := []) (va_runV (As := [.int (-1000002)]) (rest := []) ⟨hx, hb, hml, hown, hT⟩ (c_X11_finding l D cI h ys yk yt yf yb yz yn yc yp yw ye yx H.size m3 m9 m12 m13 m14 m15 m16 m17 m18 m19 m20 m22 m23 ff (-1000002) (by first | omega | (simp only [zl_m1000002] <;> omega) | decide | assumption | rfl) (by first | omega | (simp only [zl_m1000002] <;> omega) | decide | assumption | rfl)) (cwV 1 hT (gV_in mw_1243 mw_1240 mw_1242 mw_p3_8 mw_12) rfl rfl rfl (by decide +kernel) ⟨Nat.le_of_ble_eq_true rfl, Nat.le_of_ble_eq_true rfl⟩) (kRecv (own := "") (q0 := 0) (ci := 11) hK hP hD hN rfl rfl [0, 1] rfl (by decide)) rfl rfl hl.1 rfl (lv_room (Nat.le_of_ble_eq_true rfl)) dX11_broke_140 ⟨Nat.le_of_ble_eq_true rfl, Nat.le_of_ble_eq_true rfl⟩) hP hD hS hA [0, 1] [] rfl rfl (by decide) (by decide) (fun r_51 u_53 H locs w_52 hP hD hS => ?_)
                          have hP : va_P D vwCl [] H := hP
                          have hD : va_D A [] := hD
                          have hr_51 := w_52
                          obtain rfl : r_51 = (-1000002) := hr_51.trans (by decide)
                          refine lv_goto (tgt := 154) hx hb dX11_broke_143 (by decide) ?_
                          exact hRet () [] (by unfold sp_broke; first | (rw [if_neg (by omega)]; first | decide | omega) | (rw [if_pos (by omega), if_neg (by omega)]; first | decide | omega) | (rw [if_pos (by omega), if_pos (by omega)]; omega)) hP hD (by decide) rfl hS rfl dX11_broke_154
                      · refine lv_iload hx hb dX11_broke_81 (lv_at hl 0 rfl) ?_
                        refine lv_iload_n hx hb dX11_broke_83 rfl (lv_at hl 4 rfl) ?_
                        refine lv_isub hx hb dX11_broke_84 ?_
                        refine lv_topi (fun v_54 ev_54 => ?_)
                        have tv_54 : v_54.toInt = mm.toInt - a.toInt := by rw [ev_54]; exact k_subv rfl rfl (by omega) (by omega)
                        refine lv_iload_n hx hb dX11_broke_85 rfl (lv_at hl 5 rfl) ?_
                        refine lv_iload_n hx hb dX11_broke_86 rfl (lv_at hl 6 rfl) ?_
                        refine kJi (wr := [(h, .inr (11, [.ref ys, .ref yk, .ref yt, .int m3, .ref yf, .ref yb, .ref yz, .ref yn, .ref yc, .int m9, .ref yp, .ref yw, .int m12, .int m13, .int m14, .int m15, .int m16, .int m17, .int m18, .int m19, .int m20, .ref ye, .int m22, .int m23, .ref yx])), (yf, .inl (cI, 6, .inl ff))]) (va_runS (As := [.int v_54, .int b, .int d]) (rest := []) ⟨hx, hb, hml, hown, hT⟩ (c_X11_in l D cI H.size v_54 b d) (cwS 3 hT (gS_in mw_1238 mw_1236 mw_1237 mw_12) rfl rfl rfl (by decide +kernel) ⟨Nat.le_of_ble_eq_true rfl, Nat.le_of_ble_eq_true rfl⟩) (kStat hK hP hD hN [] rfl (by decide)) rfl rfl hl.1 rfl (lv_room (Nat.le_of_ble_eq_true rfl)) dX11_broke_87 ⟨Nat.le_of_ble_eq_true rfl, Nat.le_of_ble_eq_true rfl⟩) hP hD hS hA [] [0, 1] rfl rfl (by decide) (by decide) (fun r_55 u_57 H locs w_56 hP hD hS => ?_)
                        have hP : va_P D vwCl [(h, .inr (11, [.ref ys, .ref yk, .ref yt, .int m3, .ref yf, .ref yb, .ref yz, .ref yn, .ref yc, .int m9, .ref yp, .ref yw, .int m12, .int m13, .int m14, .int m15, .int m16, .int m17, .int m18, .int m19, .int m20, .ref ye, .int m22, .int m23, .ref yx])), (yf, .inl (cI, 6, .inl ff))] H := hP
                        have hD : va_D A [(h, .inr (11, [.ref ys, .ref yk, .ref yt, .int m3, .ref yf, .ref yb, .ref yz, .ref yn, .ref yc, .int m9, .ref yp, .ref yw, .int m12, .int m13, .int m14, .int m15, .int m16, .int m17, .int m18, .int m19, .int m20, .ref ye, .int m22, .int m23, .ref yx])), (yf, .inl (cI, 6, .inl ff))] := hD
                        rcases w_56 with ⟨hr_55, h_58, h_59⟩ | ⟨hr_55, h_60⟩
                        · have h_58 : b.toInt ≤ v_54.toInt := h_58
                          have h_59 : v_54.toInt ≤ d.toInt := h_59
                          obtain rfl : r_55 = 1 := hr_55.trans (by decide)
                          refine b_if_eq hx hb zl_1 (tgt := 126) dX11_broke_90 (by decide) (fun c_61 => by exfalso; omega) (fun c_61 => ?_)
                          refine lv_iload hx hb dX11_broke_93 (lv_at hl 7 rfl) ?_
                          refine lv_iload hx hb dX11_broke_95 (lv_at hl 0 rfl) ?_
                          refine lv_isub hx hb dX11_broke_97 ?_
                          refine lv_topi (fun v_62 ev_62 => ?_)
                          have tv_62 : v_62.toInt = g.toInt - mm.toInt := by rw [ev_62]; exact k_subv rfl rfl (by omega) (by omega)
                          refine lv_iload hx hb dX11_broke_98 (lv_at hl 8 rfl) ?_
                          refine lv_iload hx hb dX11_broke_100 (lv_at hl 9 rfl) ?_
                          refine kJi (wr := [(h, .inr (11, [.ref ys, .ref yk, .ref yt, .int m3, .ref yf, .ref yb, .ref yz, .ref yn, .ref yc, .int m9, .ref yp, .ref yw, .int m12, .int m13, .int m14, .int m15, .int m16, .int m17, .int m18, .int m19, .int m20, .ref ye, .int m22, .int m23, .ref yx])), (yf, .inl (cI, 6, .inl ff))]) (va_runS (As := [.int v_62, .int i0, .int j0]) (rest := []) ⟨hx, hb, hml, hown, hT⟩ (c_X11_in l D cI H.size v_62 i0 j0) (cwS 3 hT (gS_in mw_1238 mw_1236 mw_1237 mw_12) rfl rfl rfl (by decide +kernel) ⟨Nat.le_of_ble_eq_true rfl, Nat.le_of_ble_eq_true rfl⟩) (kStat hK hP hD hN [] rfl (by decide)) rfl rfl hl.1 rfl (lv_room (Nat.le_of_ble_eq_true rfl)) dX11_broke_102 ⟨Nat.le_of_ble_eq_true rfl, Nat.le_of_ble_eq_true rfl⟩) hP hD hS hA [] [0, 1] rfl rfl (by decide) (by decide) (fun r_63 u_65 H locs w_64 hP hD hS => ?_)
                          have hP : va_P D vwCl [(h, .inr (11, [.ref ys, .ref yk, .ref yt, .int m3, .ref yf, .ref yb, .ref yz, .ref yn, .ref yc, .int m9, .ref yp, .ref yw, .int m12, .int m13, .int m14, .int m15, .int m16, .int m17, .int m18, .int m19, .int m20, .ref ye, .int m22, .int m23, .ref yx])), (yf, .inl (cI, 6, .inl ff))] H := hP
                          have hD : va_D A [(h, .inr (11, [.ref ys, .ref yk, .ref yt, .int m3, .ref yf, .ref yb, .ref yz, .ref yn, .ref yc, .int m9, .ref yp, .ref yw, .int m12, .int m13, .int m14, .int m15, .int m16, .int m17, .int m18, .int m19, .int m20, .ref ye, .int m22, .int m23, .ref yx])), (yf, .inl (cI, 6, .inl ff))] := hD
                          rcases w_64 with ⟨hr_63, h_66, h_67⟩ | ⟨hr_63, h_68⟩
                          · have h_66 : i0.toInt ≤ v_62.toInt := h_66
                            have h_67 : v_62.toInt ≤ j0.toInt := h_67
                            obtain rfl : r_63 = 1 := hr_63.trans (by decide)
                            refine b_if_eq hx hb zl_1 (tgt := 126) dX11_broke_105 (by decide) (fun c_69 => by exfalso; omega) (fun c_69 => ?_)
                            refine lv_iload hx hb dX11_broke_108 (lv_at hl 2 rfl) ?_
                            refine b_if_ge hx hb rfl (tgt := 118) dX11_broke_110 (by decide) (fun c_70 => ?_) (fun c_70 => ?_)
                            · refine lv_iload hx hb dX11_broke_118 (lv_at hl 2 rfl) ?_
                              refine lv_istore (lv' := [(7, .int q), (9, .int mm), (8, .int z), (0, .ref h), (1, .int a), (2, .int b), (3, .int d), (4, .int g), (5, .int i0), (6, .int j0)]) hx hb dX11_broke_120 hl (by decide) rfl (fun ls hl => ?_)
                              refine lv_iload hx hb dX11_broke_122 (lv_at hl 1 rfl) ?_
                              refine lv_istore (lv' := [(8, .int mm), (7, .int q), (9, .int mm), (0, .ref h), (1, .int a), (2, .int b), (3, .int d), (4, .int g), (5, .int i0), (6, .int j0)]) hx hb dX11_broke_124 hl (by decide) rfl (fun ls hl => ?_)
                              obtain ⟨v_71, ev_71⟩ : ∃ y : Int32, y = mm + 1 := ⟨_, rfl⟩
                              have tv_71 : v_71.toInt = mm.toInt + 1 := by rw [ev_71]; exact k_addv rfl zl_1 (by omega) (by omega)
                              refine lv_iinc (v := v_71) (lv' := [(9, .int v_71), (8, .int mm), (7, .int q), (0, .ref h), (1, .int a), (2, .int b), (3, .int d), (4, .int g), (5, .int i0), (6, .int j0)]) hx hb dX11_broke_126 hl (k := 2) rfl (by rw [ev_71]; rfl) (by decide) rfl (fun ls hl => ?_)
                              refine lv_goto (tgt := 74) hx hb dX11_broke_129 (by decide) ?_
                              exact ih74 q mm v_71 (by first | omega | decide | assumption | rfl) (by first | omega | decide | assumption | rfl) (by first | omega | decide | assumption | rfl) (by first | omega | decide | assumption | rfl) (by first | omega | decide | assumption | rfl) (by first | omega | decide | assumption | rfl) (by omega) (by omega) ls _ _ (lv_sub hl [0, 1, 2, 3, 4, 5, 6, 7, 8, 9] rfl) (hP.sub [0, 1] rfl) (hD.sub [0, 1] (by decide) rfl) hS
                            · refine lv_iload hx hb dX11_broke_113 (lv_at hl 0 rfl) ?_
                              refine lv_goto (tgt := 120) hx hb dX11_broke_115 (by decide) ?_
                              refine lv_istore (lv' := [(7, .int mm), (9, .int mm), (8, .int z), (0, .ref h), (1, .int a), (2, .int b), (3, .int d), (4, .int g), (5, .int i0), (6, .int j0)]) hx hb dX11_broke_120 hl (by decide) rfl (fun ls hl => ?_)
                              refine lv_iload hx hb dX11_broke_122 (lv_at hl 1 rfl) ?_
                              refine lv_istore (lv' := [(8, .int mm), (7, .int mm), (9, .int mm), (0, .ref h), (1, .int a), (2, .int b), (3, .int d), (4, .int g), (5, .int i0), (6, .int j0)]) hx hb dX11_broke_124 hl (by decide) rfl (fun ls hl => ?_)
                              obtain ⟨v_72, ev_72⟩ : ∃ y : Int32, y = mm + 1 := ⟨_, rfl⟩
                              have tv_72 : v_72.toInt = mm.toInt + 1 := by rw [ev_72]; exact k_addv rfl zl_1 (by omega) (by omega)
                              refine lv_iinc (v := v_72) (lv' := [(9, .int v_72), (8, .int mm), (7, .int mm), (0, .ref h), (1, .int a), (2, .int b), (3, .int d), (4, .int g), (5, .int i0), (6, .int j0)]) hx hb dX11_broke_126 hl (k := 2) rfl (by rw [ev_72]; rfl) (by decide) rfl (fun ls hl => ?_)
                              refine lv_goto (tgt := 74) hx hb dX11_broke_129 (by decide) ?_
                              exact ih74 mm mm v_72 (by first | omega | decide | assumption | rfl) (by first | omega | decide | assumption | rfl) (by first | omega | decide | assumption | rfl) (by first | omega | decide | assumption | rfl) (by first | omega | decide | assumption | rfl) (by first | omega | decide | assumption | rfl) (by omega) (by omega) ls _ _ (lv_sub hl [0, 1, 2, 3, 4, 5, 6, 7, 8, 9] rfl) (hP.sub [0, 1] rfl) (hD.sub [0, 1] (by decide) rfl) hS
                          · have h_68 : v_62.toInt < i0.toInt ∨ j0.toInt < v_62.toInt := h_68
                            obtain rfl : r_63 = 0 := hr_63.trans (by decide)
                            refine b_if_eq hx hb zl_0 (tgt := 126) dX11_broke_105 (by decide) (fun c_73 => ?_) (fun c_73 => by exfalso; omega)
                            obtain ⟨v_74, ev_74⟩ : ∃ y : Int32, y = mm + 1 := ⟨_, rfl⟩
                            have tv_74 : v_74.toInt = mm.toInt + 1 := by rw [ev_74]; exact k_addv rfl zl_1 (by omega) (by omega)
                            refine lv_iinc (v := v_74) (lv' := [(9, .int v_74), (8, .int z), (7, .int q), (0, .ref h), (1, .int a), (2, .int b), (3, .int d), (4, .int g), (5, .int i0), (6, .int j0)]) hx hb dX11_broke_126 hl (k := 0) rfl (by rw [ev_74]; rfl) (by decide) rfl (fun ls hl => ?_)
                            refine lv_goto (tgt := 74) hx hb dX11_broke_129 (by decide) ?_
                            exact ih74 q z v_74 (by first | omega | decide | assumption | rfl) (by first | omega | decide | assumption | rfl) (by first | omega | decide | assumption | rfl) (by first | omega | decide | assumption | rfl) (by first | omega | decide | assumption | rfl) (by first | omega | decide | assumption | rfl) (by omega) (by omega) ls _ _ (lv_sub hl [0, 1, 2, 3, 4, 5, 6, 7, 8, 9] rfl) (hP.sub [0, 1] rfl) (hD.sub [0, 1] (by decide) rfl) hS
                        · have h_60 : v_54.toInt < b.toInt ∨ d.toInt < v_54.toInt := h_60
                          obtain rfl : r_55 = 0 := hr_55.trans (by decide)
                          refine b_if_eq hx hb zl_0 (tgt := 126) dX11_broke_90 (by decide) (fun c_75 => ?_) (fun c_75 => by exfalso; omega)
                          obtain ⟨v_76, ev_76⟩ : ∃ y : Int32, y = mm + 1 := ⟨_, rfl⟩
                          have tv_76 : v_76.toInt = mm.toInt + 1 := by rw [ev_76]; exact k_addv rfl zl_1 (by omega) (by omega)
                          refine lv_iinc (v := v_76) (lv' := [(9, .int v_76), (8, .int z), (7, .int q), (0, .ref h), (1, .int a), (2, .int b), (3, .int d), (4, .int g), (5, .int i0), (6, .int j0)]) hx hb dX11_broke_126 hl (k := 0) rfl (by rw [ev_76]; rfl) (by decide) rfl (fun ls hl => ?_)
                          refine lv_goto (tgt := 74) hx hb dX11_broke_129 (by decide) ?_
                          exact ih74 q z v_76 (by first | omega | decide | assumption | rfl) (by first | omega | decide | assumption | rfl) (by first | omega | decide | assumption | rfl) (by first | omega | decide | assumption | rfl) (by first | omega | decide | assumption | rfl) (by first | omega | decide | assumption | rfl) (by omega) (by omega) ls _ _ (lv_sub hl [0, 1, 2, 3, 4, 5, 6, 7, 8, 9] rfl) (hP.sub [0, 1] rfl) (hD.sub [0, 1] (by decide) rfl) hS
                exact hloop_74 _ (-1) (-1) a (by first | omega | (simp only [zl_m1] <;> omega) | decide | assumption | rfl) (by first | omega | (simp only [zl_m1] <;> omega) | decide | assumption | rfl) (by first | omega | (simp only [zl_m1] <;> omega) | decide | assumption | rfl) (by first | omega | (simp only [zl_m1] <;> omega) | decide | assumption | rfl) (by first | omega | (simp only [zl_m1] <;> omega) | decide | assumption | rfl) (by first | omega | (simp only [zl_m1] <;> omega) | decide | assumption | rfl) (by rw [zl_m1]; omega) (Nat.lt_succ_self _) ls _ _ (lv_sub hl [0, 1, 2, 3, 4, 5, 6, 7, 8, 9] rfl) hP hD hS
              · try simp only [zl_39] at h_45
                have h_45 : j0.toInt < i0.toInt ∨ 39 < j0.toInt := h_45
                obtain rfl : r_40 = 0 := hr_40.trans (by decide)
                refine b_if_ne hx hb zl_0 (tgt := 65) dX11_broke_55 (by decide) (fun c_77 => by exfalso; omega) (fun c_77 => ?_)
                refine lv_aload_n hx hb dX11_broke_58 rfl (lv_at hl 0 rfl) ?_
                refine lv_ldc (v := (-1000001)) hx hb hown (hT _ mw_1239) dX11_broke_59 ?_
                refine kJi (wr := []) (va_runV (As := [.int (-1000001)]) (rest := []) ⟨hx, hb, hml, hown, hT⟩ (c_X11_finding l D cI h ys yk yt yf yb yz yn yc yp yw ye yx H.size m3 m9 m12 m13 m14 m15 m16 m17 m18 m19 m20 m22 m23 ff (-1000001) (by first | omega | (simp only [zl_m1000001] <;> omega) | decide | assumption | rfl) (by first | omega | (simp only [zl_m1000001] <;> omega) | decide | assumption | rfl)) (cwV 1 hT (gV_in mw_1243 mw_1240 mw_1242 mw_p3_8 mw_12) rfl rfl rfl (by decide +kernel) ⟨Nat.le_of_ble_eq_true rfl, Nat.le_of_ble_eq_true rfl⟩) (kRecv (own := "") (q0 := 0) (ci := 11) hK hP hD hN rfl rfl [0, 1] rfl (by decide)) rfl rfl hl.1 rfl (lv_room (Nat.le_of_ble_eq_true rfl)) dX11_broke_61 ⟨Nat.le_of_ble_eq_true rfl, Nat.le_of_ble_eq_true rfl⟩) hP hD hS hA [0, 1] [] rfl rfl (by decide) (by decide) (fun r_78 u_80 H locs w_79 hP hD hS => ?_)
                have hP : va_P D vwCl [] H := hP
                have hD : va_D A [] := hD
                have hr_78 := w_79
                obtain rfl : r_78 = (-1000001) := hr_78.trans (by decide)
                exact hRet () [] (by unfold sp_broke; first | (rw [if_neg (by omega)]; first | decide | omega) | (rw [if_pos (by omega), if_neg (by omega)]; first | decide | omega) | (rw [if_pos (by omega), if_pos (by omega)]; omega)) hP hD (by decide) rfl hS rfl dX11_broke_64
            · have h_38 : i0.toInt < 0 ∨ 39 < i0.toInt := h_38
              obtain rfl : r_33 = 0 := hr_33.trans (by decide)
              refine b_if_eq hx hb zl_0 (tgt := 58) dX11_broke_43 (by decide) (fun c_81 => ?_) (fun c_81 => by exfalso; omega)
              refine lv_aload_n hx hb dX11_broke_58 rfl (lv_at hl 0 rfl) ?_
              refine lv_ldc (v := (-1000001)) hx hb hown (hT _ mw_1239) dX11_broke_59 ?_
              refine kJi (wr := []) (va_runV (As := [.int (-1000001)]) (rest := []) ⟨hx, hb, hml, hown, hT⟩ (c_X11_finding l D cI h ys yk yt yf yb yz yn yc yp yw ye yx H.size m3 m9 m12 m13 m14 m15 m16 m17 m18 m19 m20 m22 m23 ff (-1000001) (by first | omega | (simp only [zl_m1000001] <;> omega) | decide | assumption | rfl) (by first | omega | (simp only [zl_m1000001] <;> omega) | decide | assumption | rfl)) (cwV 1 hT (gV_in mw_1243 mw_1240 mw_1242 mw_p3_8 mw_12) rfl rfl rfl (by decide +kernel) ⟨Nat.le_of_ble_eq_true rfl, Nat.le_of_ble_eq_true rfl⟩) (kRecv (own := "") (q0 := 0) (ci := 11) hK hP hD hN rfl rfl [0, 1] rfl (by decide)) rfl rfl hl.1 rfl (lv_room (Nat.le_of_ble_eq_true rfl)) dX11_broke_61 ⟨Nat.le_of_ble_eq_true rfl, Nat.le_of_ble_eq_true rfl⟩) hP hD hS hA [0, 1] [] rfl rfl (by decide) (by decide) (fun r_82 u_84 H locs w_83 hP hD hS => ?_)
              have hP : va_P D vwCl [] H := hP
              have hD : va_D A [] := hD
              have hr_82 := w_83
              obtain rfl : r_82 = (-1000001) := hr_82.trans (by decide)
              exact hRet () [] (by unfold sp_broke; first | (rw [if_neg (by omega)]; first | decide | omega) | (rw [if_pos (by omega), if_neg (by omega)]; first | decide | omega) | (rw [if_pos (by omega), if_pos (by omega)]; omega)) hP hD (by decide) rfl hS rfl dX11_broke_64
          · try simp only [zl_39] at h_31
            have h_31 : d.toInt < b.toInt ∨ 39 < d.toInt := h_31
            obtain rfl : r_26 = 0 := hr_26.trans (by decide)
            refine b_if_eq hx hb zl_0 (tgt := 58) dX11_broke_35 (by decide) (fun c_85 => ?_) (fun c_85 => by exfalso; omega)
            refine lv_aload_n hx hb dX11_broke_58 rfl (lv_at hl 0 rfl) ?_
            refine lv_ldc (v := (-1000001)) hx hb hown (hT _ mw_1239) dX11_broke_59 ?_
            refine kJi (wr := []) (va_runV (As := [.int (-1000001)]) (rest := []) ⟨hx, hb, hml, hown, hT⟩ (c_X11_finding l D cI h ys yk yt yf yb yz yn yc yp yw ye yx H.size m3 m9 m12 m13 m14 m15 m16 m17 m18 m19 m20 m22 m23 ff (-1000001) (by first | omega | (simp only [zl_m1000001] <;> omega) | decide | assumption | rfl) (by first | omega | (simp only [zl_m1000001] <;> omega) | decide | assumption | rfl)) (cwV 1 hT (gV_in mw_1243 mw_1240 mw_1242 mw_p3_8 mw_12) rfl rfl rfl (by decide +kernel) ⟨Nat.le_of_ble_eq_true rfl, Nat.le_of_ble_eq_true rfl⟩) (kRecv (own := "") (q0 := 0) (ci := 11) hK hP hD hN rfl rfl [0, 1] rfl (by decide)) rfl rfl hl.1 rfl (lv_room (Nat.le_of_ble_eq_true rfl)) dX11_broke_61 ⟨Nat.le_of_ble_eq_true rfl, Nat.le_of_ble_eq_true rfl⟩) hP hD hS hA [0, 1] [] rfl rfl (by decide) (by decide) (fun r_86 u_88 H locs w_87 hP hD hS => ?_)
            have hP : va_P D vwCl [] H := hP
            have hD : va_D A [] := hD
            have hr_86 := w_87
            obtain rfl : r_86 = (-1000001) := hr_86.trans (by decide)
            exact hRet () [] (by unfold sp_broke; first | (rw [if_neg (by omega)]; first | decide | omega) | (rw [if_pos (by omega), if_neg (by omega)]; first | decide | omega) | (rw [if_pos (by omega), if_pos (by omega)]; omega)) hP hD (by decide) rfl hS rfl dX11_broke_64
        · have h_24 : b.toInt < 0 ∨ 39 < b.toInt := h_24
          obtain rfl : r_19 = 0 := hr_19.trans (by decide)
          refine b_if_eq hx hb zl_0 (tgt := 58) dX11_broke_25 (by decide) (fun c_89 => ?_) (fun c_89 => by exfalso; omega)
          refine lv_aload_n hx hb dX11_broke_58 rfl (lv_at hl 0 rfl) ?_
          refine lv_ldc (v := (-1000001)) hx hb hown (hT _ mw_1239) dX11_broke_59 ?_
          refine kJi (wr := []) (va_runV (As := [.int (-1000001)]) (rest := []) ⟨hx, hb, hml, hown, hT⟩ (c_X11_finding l D cI h ys yk yt yf yb yz yn yc yp yw ye yx H.size m3 m9 m12 m13 m14 m15 m16 m17 m18 m19 m20 m22 m23 ff (-1000001) (by first | omega | (simp only [zl_m1000001] <;> omega) | decide | assumption | rfl) (by first | omega | (simp only [zl_m1000001] <;> omega) | decide | assumption | rfl)) (cwV 1 hT (gV_in mw_1243 mw_1240 mw_1242 mw_p3_8 mw_12) rfl rfl rfl (by decide +kernel) ⟨Nat.le_of_ble_eq_true rfl, Nat.le_of_ble_eq_true rfl⟩) (kRecv (own := "") (q0 := 0) (ci := 11) hK hP hD hN rfl rfl [0, 1] rfl (by decide)) rfl rfl hl.1 rfl (lv_room (Nat.le_of_ble_eq_true rfl)) dX11_broke_61 ⟨Nat.le_of_ble_eq_true rfl, Nat.le_of_ble_eq_true rfl⟩) hP hD hS hA [0, 1] [] rfl rfl (by decide) (by decide) (fun r_90 u_92 H locs w_91 hP hD hS => ?_)
          have hP : va_P D vwCl [] H := hP
          have hD : va_D A [] := hD
          have hr_90 := w_91
          obtain rfl : r_90 = (-1000001) := hr_90.trans (by decide)
          exact hRet () [] (by unfold sp_broke; first | (rw [if_neg (by omega)]; first | decide | omega) | (rw [if_pos (by omega), if_neg (by omega)]; first | decide | omega) | (rw [if_pos (by omega), if_pos (by omega)]; omega)) hP hD (by decide) rfl hS rfl dX11_broke_64
    · have h_13 : g.toInt < 0 ∨ 39 < g.toInt := h_13
      obtain rfl : r_8 = 0 := hr_8.trans (by decide)
      refine b_if_eq hx hb zl_0 (tgt := 58) dX11_broke_12 (by decide) (fun c_93 => ?_) (fun c_93 => by exfalso; omega)
      refine lv_aload_n hx hb dX11_broke_58 rfl (lv_at hl 0 rfl) ?_
      refine lv_ldc (v := (-1000001)) hx hb hown (hT _ mw_1239) dX11_broke_59 ?_
      refine kJi (wr := []) (va_runV (As := [.int (-1000001)]) (rest := []) ⟨hx, hb, hml, hown, hT⟩ (c_X11_finding l D cI h ys yk yt yf yb yz yn yc yp yw ye yx H.size m3 m9 m12 m13 m14 m15 m16 m17 m18 m19 m20 m22 m23 ff (-1000001) (by first | omega | (simp only [zl_m1000001] <;> omega) | decide | assumption | rfl) (by first | omega | (simp only [zl_m1000001] <;> omega) | decide | assumption | rfl)) (cwV 1 hT (gV_in mw_1243 mw_1240 mw_1242 mw_p3_8 mw_12) rfl rfl rfl (by decide +kernel) ⟨Nat.le_of_ble_eq_true rfl, Nat.le_of_ble_eq_true rfl⟩) (kRecv (own := "") (q0 := 0) (ci := 11) hK hP hD hN rfl rfl [0, 1] rfl (by decide)) rfl rfl hl.1 rfl (lv_room (Nat.le_of_ble_eq_true rfl)) dX11_broke_61 ⟨Nat.le_of_ble_eq_true rfl, Nat.le_of_ble_eq_true rfl⟩) hP hD hS hA [0, 1] [] rfl rfl (by decide) (by decide) (fun r_94 u_96 H locs w_95 hP hD hS => ?_)
      have hP : va_P D vwCl [] H := hP
      have hD : va_D A [] := hD
      have hr_94 := w_95
      obtain rfl : r_94 = (-1000001) := hr_94.trans (by decide)
      exact hRet () [] (by unfold sp_broke; first | (rw [if_neg (by omega)]; first | decide | omega) | (rw [if_pos (by omega), if_neg (by omega)]; first | decide | omega) | (rw [if_pos (by omega), if_pos (by omega)]; omega)) hP hD (by decide) rfl hS rfl dX11_broke_64
  · have h_6 : a.toInt < 0 ∨ 39 < a.toInt := h_6
    obtain rfl : r_1 = 0 := hr_1.trans (by decide)
    refine b_if_eq hx hb zl_0 (tgt := 58) dX11_broke_4 (by decide) (fun c_97 => ?_) (fun c_97 => by exfalso; omega)
    refine lv_aload_n hx hb dX11_broke_58 rfl (lv_at hl 0 rfl) ?_
    refine lv_ldc (v := (-1000001)) hx hb hown (hT _ mw_1239) dX11_broke_59 ?_
    refine kJi (wr := []) (va_runV (As := [.int (-1000001)]) (rest := []) ⟨hx, hb, hml, hown, hT⟩ (c_X11_finding l D cI h ys yk yt yf yb yz yn yc yp yw ye yx H.size m3 m9 m12 m13 m14 m15 m16 m17 m18 m19 m20 m22 m23 ff (-1000001) (by first | omega | (simp only [zl_m1000001] <;> omega) | decide | assumption | rfl) (by first | omega | (simp only [zl_m1000001] <;> omega) | decide | assumption | rfl)) (cwV 1 hT (gV_in mw_1243 mw_1240 mw_1242 mw_p3_8 mw_12) rfl rfl rfl (by decide +kernel) ⟨Nat.le_of_ble_eq_true rfl, Nat.le_of_ble_eq_true rfl⟩) (kRecv (own := "") (q0 := 0) (ci := 11) hK hP hD hN rfl rfl [0, 1] rfl (by decide)) rfl rfl hl.1 rfl (lv_room (Nat.le_of_ble_eq_true rfl)) dX11_broke_61 ⟨Nat.le_of_ble_eq_true rfl, Nat.le_of_ble_eq_true rfl⟩) hP hD hS hA [0, 1] [] rfl rfl (by decide) (by decide) (fun r_98 u_100 H locs w_99 hP hD hS => ?_)
    have hP : va_P D vwCl [] H := hP
    have hD : va_D A [] := hD
    have hr_98 := w_99
    obtain rfl : r_98 = (-1000001) := hr_98.trans (by decide)
    exact hRet () [] (by unfold sp_broke; first | (rw [if_neg (by omega)]; first | decide | omega) | (rw [if_pos (by omega), if_neg (by omega)]; first | decide | omega) | (rw [if_pos (by omega), if_pos (by omega)]; omega)) hP hD (by decide) rfl hS rfl dX11_broke_64
