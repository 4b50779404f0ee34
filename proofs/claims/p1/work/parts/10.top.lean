theorem dX10_ahead_0 : decode cX10_ahead 0 = .ok (.iload_n 1, 1) := by decide +kernel
theorem dX10_ahead_1 : decode cX10_ahead 1 = .ok (.ifCond .lt 35, 3) := by decide +kernel
theorem dX10_ahead_4 : decode cX10_ahead 4 = .ok (.iload_n 1, 1) := by decide +kernel
theorem dX10_ahead_5 : decode cX10_ahead 5 = .ok (.sipush 200, 3) := by decide +kernel
theorem dX10_ahead_8 : decode cX10_ahead 8 = .ok (.if_icmp .gt 28, 3) := by decide +kernel
theorem dX10_ahead_11 : decode cX10_ahead 11 = .ok (.aload_n 0, 1) := by decide +kernel
theorem dX10_ahead_12 : decode cX10_ahead 12 = .ok (.getfield 12, 3) := by decide +kernel
theorem dX10_ahead_15 : decode cX10_ahead 15 = .ok (.getfield 109, 3) := by decide +kernel
theorem dX10_ahead_18 : decode cX10_ahead 18 = .ok (.iload_n 1, 1) := by decide +kernel
theorem dX10_ahead_19 : decode cX10_ahead 19 = .ok (.iadd, 1) := by decide +kernel
theorem dX10_ahead_20 : decode cX10_ahead 20 = .ok (.sipush 2000, 3) := by decide +kernel
theorem dX10_ahead_23 : decode cX10_ahead 23 = .ok (.if_icmp .gt 13, 3) := by decide +kernel
theorem dX10_ahead_26 : decode cX10_ahead 26 = .ok (.iload_n 2, 1) := by decide +kernel
theorem dX10_ahead_27 : decode cX10_ahead 27 = .ok (.ifCond .lt 9, 3) := by decide +kernel
theorem dX10_ahead_30 : decode cX10_ahead 30 = .ok (.iload_n 2, 1) := by decide +kernel
theorem dX10_ahead_31 : decode cX10_ahead 31 = .ok (.bipush 10, 2) := by decide +kernel
theorem dX10_ahead_33 : decode cX10_ahead 33 = .ok (.if_icmp .le 9, 3) := by decide +kernel
theorem dX10_ahead_36 : decode cX10_ahead 36 = .ok (.aload_n 0, 1) := by decide +kernel
theorem dX10_ahead_37 : decode cX10_ahead 37 = .ok (.iconst 1, 1) := by decide +kernel
theorem dX10_ahead_38 : decode cX10_ahead 38 = .ok (.invokevirtual 82, 3) := by decide +kernel
theorem dX10_ahead_41 : decode cX10_ahead 41 = .ok (.ireturn, 1) := by decide +kernel
theorem dX10_ahead_42 : decode cX10_ahead 42 = .ok (.iload_n 2, 1) := by decide +kernel
theorem dX10_ahead_43 : decode cX10_ahead 43 = .ok (.bipush 9, 2) := by decide +kernel
theorem dX10_ahead_45 : decode cX10_ahead 45 = .ok (.if_icmp .ge 23, 3) := by decide +kernel
theorem dX10_ahead_48 : decode cX10_ahead 48 = .ok (.aload_n 0, 1) := by decide +kernel
theorem dX10_ahead_49 : decode cX10_ahead 49 = .ok (.getfield 12, 3) := by decide +kernel
theorem dX10_ahead_52 : decode cX10_ahead 52 = .ok (.getfield 193, 3) := by decide +kernel
theorem dX10_ahead_55 : decode cX10_ahead 55 = .ok (.iload_n 3, 1) := by decide +kernel
theorem dX10_ahead_56 : decode cX10_ahead 56 = .ok (.invokevirtual 207, 3) := by decide +kernel
theorem dX10_ahead_59 : decode cX10_ahead 59 = .ok (.ifCond .ne 9, 3) := by decide +kernel
theorem dX10_ahead_62 : decode cX10_ahead 62 = .ok (.aload_n 0, 1) := by decide +kernel
theorem dX10_ahead_63 : decode cX10_ahead 63 = .ok (.iconst 1, 1) := by decide +kernel
theorem dX10_ahead_64 : decode cX10_ahead 64 = .ok (.invokevirtual 82, 3) := by decide +kernel
theorem dX10_ahead_67 : decode cX10_ahead 67 = .ok (.ireturn, 1) := by decide +kernel
theorem dX10_ahead_68 : decode cX10_ahead 68 = .ok (.aload_n 0, 1) := by decide +kernel
theorem dX10_ahead_69 : decode cX10_ahead 69 = .ok (.getfield 19, 3) := by decide +kernel
theorem dX10_ahead_72 : decode cX10_ahead 72 = .ok (.aload_n 0, 1) := by decide +kernel
theorem dX10_ahead_73 : decode cX10_ahead 73 = .ok (.getfield 12, 3) := by decide +kernel
theorem dX10_ahead_76 : decode cX10_ahead 76 = .ok (.invokevirtual 337, 3) := by decide +kernel
theorem dX10_ahead_79 : decode cX10_ahead 79 = .ok (.iconst 0, 1) := by decide +kernel
theorem dX10_ahead_80 : decode cX10_ahead 80 = .ok (.istore 4, 2) := by decide +kernel
theorem dX10_ahead_82 : decode cX10_ahead 82 = .ok (.iload 4, 2) := by decide +kernel
theorem dX10_ahead_84 : decode cX10_ahead 84 = .ok (.iload_n 1, 1) := by decide +kernel
theorem dX10_ahead_85 : decode cX10_ahead 85 = .ok (.if_icmp .ge 16, 3) := by decide +kernel
theorem dX10_ahead_88 : decode cX10_ahead 88 = .ok (.aload_n 0, 1) := by decide +kernel
theorem dX10_ahead_89 : decode cX10_ahead 89 = .ok (.getfield 19, 3) := by decide +kernel
theorem dX10_ahead_92 : decode cX10_ahead 92 = .ok (.invokevirtual 334, 3) := by decide +kernel
theorem dX10_ahead_95 : decode cX10_ahead 95 = .ok (.iinc 4 1, 3) := by decide +kernel
theorem dX10_ahead_98 : decode cX10_ahead 98 = .ok (.goto (-16), 3) := by decide +kernel
theorem dX10_ahead_101 : decode cX10_ahead 101 = .ok (.iload_n 2, 1) := by decide +kernel
theorem dX10_ahead_102 : decode cX10_ahead 102 = .ok (.bipush 9, 2) := by decide +kernel
theorem dX10_ahead_104 : decode cX10_ahead 104 = .ok (.if_icmp .ne 14, 3) := by decide +kernel
theorem dX10_ahead_107 : decode cX10_ahead 107 = .ok (.aload_n 0, 1) := by decide +kernel
theorem dX10_ahead_108 : decode cX10_ahead 108 = .ok (.getfield 19, 3) := by decide +kernel
theorem dX10_ahead_111 : decode cX10_ahead 111 = .ok (.getfield 99, 3) := by decide +kernel
theorem dX10_ahead_114 : decode cX10_ahead 114 = .ok (.invokevirtual 340, 3) := by decide +kernel
theorem dX10_ahead_117 : decode cX10_ahead 117 = .ok (.ireturn, 1) := by decide +kernel
theorem dX10_ahead_118 : decode cX10_ahead 118 = .ok (.iload_n 2, 1) := by decide +kernel
theorem dX10_ahead_119 : decode cX10_ahead 119 = .ok (.bipush 9, 2) := by decide +kernel
theorem dX10_ahead_121 : decode cX10_ahead 121 = .ok (.if_icmp .ge 18, 3) := by decide +kernel
theorem dX10_ahead_139 : decode cX10_ahead 139 = .ok (.aload_n 0, 1) := by decide +kernel
theorem dX10_ahead_140 : decode cX10_ahead 140 = .ok (.getfield 19, 3) := by decide +kernel
theorem dX10_ahead_143 : decode cX10_ahead 143 = .ok (.getfield 99, 3) := by decide +kernel
theorem dX10_ahead_146 : decode cX10_ahead 146 = .ok (.getfield 343, 3) := by decide +kernel
theorem dX10_ahead_149 : decode cX10_ahead 149 = .ok (.ireturn, 1) := by decide +kernel
theorem dX10_areParties_0 : decode cX10_areParties 0 = .ok (.aload_n 0, 1) := by decide +kernel
theorem dX10_areParties_1 : decode cX10_areParties 1 = .ok (.getfield 12, 3) := by decide +kernel
theorem dX10_areParties_4 : decode cX10_areParties 4 = .ok (.getfield 193, 3) := by decide +kernel
theorem dX10_areParties_7 : decode cX10_areParties 7 = .ok (.iload_n 1, 1) := by decide +kernel
theorem dX10_areParties_8 : decode cX10_areParties 8 = .ok (.invokevirtual 207, 3) := by decide +kernel
theorem dX10_areParties_11 : decode cX10_areParties 11 = .ok (.ifCond .eq 21, 3) := by decide +kernel
theorem dX10_areParties_32 : decode cX10_areParties 32 = .ok (.iconst 0, 1) := by decide +kernel
theorem dX10_areParties_33 : decode cX10_areParties 33 = .ok (.ireturn, 1) := by decide +kernel
theorem dX10_areTwoWorks_0 : decode cX10_areTwoWorks 0 = .ok (.aload_n 0, 1) := by decide +kernel
theorem dX10_areTwoWorks_1 : decode cX10_areTwoWorks 1 = .ok (.getfield 12, 3) := by decide +kernel
theorem dX10_areTwoWorks_4 : decode cX10_areTwoWorks 4 = .ok (.getfield 99, 3) := by decide +kernel
theorem dX10_areTwoWorks_7 : decode cX10_areTwoWorks 7 = .ok (.iload_n 1, 1) := by decide +kernel
theorem dX10_areTwoWorks_8 : decode cX10_areTwoWorks 8 = .ok (.invokevirtual 116, 3) := by decide +kernel
theorem dX10_areTwoWorks_11 : decode cX10_areTwoWorks 11 = .ok (.ifCond .eq 26, 3) := by decide +kernel
theorem dX10_areTwoWorks_37 : decode cX10_areTwoWorks 37 = .ok (.iconst 0, 1) := by decide +kernel
theorem dX10_areTwoWorks_38 : decode cX10_areTwoWorks 38 = .ok (.ireturn, 1) := by decide +kernel
theorem dX10_as_0 : decode cX10_as 0 = .ok (.aload_n 0, 1) := by decide +kernel
theorem dX10_as_1 : decode cX10_as 1 = .ok (.getfield 12, 3) := by decide +kernel
theorem dX10_as_4 : decode cX10_as 4 = .ok (.getfield 99, 3) := by decide +kernel
theorem dX10_as_7 : decode cX10_as 7 = .ok (.iload_n 1, 1) := by decide +kernel
theorem dX10_as_8 : decode cX10_as 8 = .ok (.invokevirtual 116, 3) := by decide +kernel
theorem dX10_as_11 : decode cX10_as 11 = .ok (.ifCond .eq 13, 3) := by decide +kernel
theorem dX10_as_24 : decode cX10_as 24 = .ok (.aload_n 0, 1) := by decide +kernel
theorem dX10_as_25 : decode cX10_as 25 = .ok (.iconst 1, 1) := by decide +kernel
theorem dX10_as_26 : decode cX10_as 26 = .ok (.invokevirtual 82, 3) := by decide +kernel
theorem dX10_as_29 : decode cX10_as 29 = .ok (.ireturn, 1) := by decide +kernel
theorem dX10_broke_0 : decode cX10_broke 0 = .ok (.iload_n 1, 1) := by decide +kernel
theorem dX10_broke_1 : decode cX10_broke 1 = .ok (.invokestatic 89, 3) := by decide +kernel
theorem dX10_broke_4 : decode cX10_broke 4 = .ok (.ifCond .eq 21, 3) := by decide +kernel
theorem dX10_broke_7 : decode cX10_broke 7 = .ok (.iload 4, 2) := by decide +kernel
theorem dX10_broke_9 : decode cX10_broke 9 = .ok (.invokestatic 89, 3) := by decide +kernel
theorem dX10_broke_12 : decode cX10_broke 12 = .ok (.ifCond .eq 13, 3) := by decide +kernel
theorem dX10_broke_15 : decode cX10_broke 15 = .ok (.iload_n 1, 1) := by decide +kernel
theorem dX10_broke_16 : decode cX10_broke 16 = .ok (.iload 4, 2) := by decide +kernel
theorem dX10_broke_18 : decode cX10_broke 18 = .ok (.if_icmp .ge 7, 3) := by decide +kernel
theorem dX10_broke_21 : decode cX10_broke 21 = .ok (.iconst 1, 1) := by decide +kernel
theorem dX10_broke_22 : decode cX10_broke 22 = .ok (.goto 4, 3) := by decide +kernel
theorem dX10_broke_25 : decode cX10_broke 25 = .ok (.iconst 0, 1) := by decide +kernel
theorem dX10_broke_26 : decode cX10_broke 26 = .ok (.istore 7, 2) := by decide +kernel
theorem dX10_broke_28 : decode cX10_broke 28 = .ok (.iload 7, 2) := by decide +kernel
theorem dX10_broke_30 : decode cX10_broke 30 = .ok (.ifCond .eq 21, 3) := by decide +kernel
theorem dX10_broke_33 : decode cX10_broke 33 = .ok (.iload_n 2, 1) := by decide +kernel
theorem dX10_broke_34 : decode cX10_broke 34 = .ok (.iload_n 3, 1) := by decide +kernel
theorem dX10_broke_35 : decode cX10_broke 35 = .ok (.invokestatic 244, 3) := by decide +kernel
theorem dX10_broke_38 : decode cX10_broke 38 = .ok (.ifCond .eq 13, 3) := by decide +kernel
theorem dX10_broke_41 : decode cX10_broke 41 = .ok (.iload 5, 2) := by decide +kernel
theorem dX10_broke_43 : decode cX10_broke 43 = .ok (.iload 6, 2) := by decide +kernel
theorem dX10_broke_45 : decode cX10_broke 45 = .ok (.invokestatic 244, 3) := by decide +kernel
theorem dX10_broke_48 : decode cX10_broke 48 = .ok (.ifCond .ne 9, 3) := by decide +kernel
theorem dX10_broke_51 : decode cX10_broke 51 = .ok (.aload_n 0, 1) := by decide +kernel
theorem dX10_broke_52 : decode cX10_broke 52 = .ok (.iconst 1, 1) := by decide +kernel
theorem dX10_broke_53 : decode cX10_broke 53 = .ok (.invokevirtual 82, 3) := by decide +kernel
theorem dX10_broke_56 : decode cX10_broke 56 = .ok (.ireturn, 1) := by decide +kernel
theorem dX10_broke_57 : decode cX10_broke 57 = .ok (.iload_n 1, 1) := by decide +kernel
theorem dX10_broke_58 : decode cX10_broke 58 = .ok (.iload_n 2, 1) := by decide +kernel
theorem dX10_broke_59 : decode cX10_broke 59 = .ok (.iadd, 1) := by decide +kernel
theorem dX10_broke_60 : decode cX10_broke 60 = .ok (.iload 4, 2) := by decide +kernel
theorem dX10_broke_62 : decode cX10_broke 62 = .ok (.iload 6, 2) := by decide +kernel
theorem dX10_broke_64 : decode cX10_broke 64 = .ok (.isub, 1) := by decide +kernel
theorem dX10_broke_65 : decode cX10_broke 65 = .ok (.invokestatic 247, 3) := by decide +kernel
theorem dX10_broke_68 : decode cX10_broke 68 = .ok (.istore 8, 2) := by decide +kernel
theorem dX10_broke_70 : decode cX10_broke 70 = .ok (.iload_n 1, 1) := by decide +kernel
theorem dX10_broke_71 : decode cX10_broke 71 = .ok (.iload_n 3, 1) := by decide +kernel
theorem dX10_broke_72 : decode cX10_broke 72 = .ok (.iadd, 1) := by decide +kernel
theorem dX10_broke_73 : decode cX10_broke 73 = .ok (.iload 4, 2) := by decide +kernel
theorem dX10_broke_75 : decode cX10_broke 75 = .ok (.iload 5, 2) := by decide +kernel
theorem dX10_broke_77 : decode cX10_broke 77 = .ok (.isub, 1) := by decide +kernel
theorem dX10_broke_78 : decode cX10_broke 78 = .ok (.invokestatic 252, 3) := by decide +kernel
theorem dX10_broke_81 : decode cX10_broke 81 = .ok (.istore 9, 2) := by decide +kernel
theorem dX10_broke_83 : decode cX10_broke 83 = .ok (.iload 8, 2) := by decide +kernel
theorem dX10_broke_85 : decode cX10_broke 85 = .ok (.iload 9, 2) := by decide +kernel
theorem dX10_broke_87 : decode cX10_broke 87 = .ok (.if_icmp .le 9, 3) := by decide +kernel
theorem dX10_broke_90 : decode cX10_broke 90 = .ok (.aload_n 0, 1) := by decide +kernel
theorem dX10_broke_91 : decode cX10_broke 91 = .ok (.iconst 2, 1) := by decide +kernel
theorem dX10_broke_92 : decode cX10_broke 92 = .ok (.invokevirtual 82, 3) := by decide +kernel
theorem dX10_broke_95 : decode cX10_broke 95 = .ok (.ireturn, 1) := by decide +kernel
theorem dX10_broke_96 : decode cX10_broke 96 = .ok (.bipush 100, 2) := by decide +kernel
theorem dX10_broke_98 : decode cX10_broke 98 = .ok (.iload 8, 2) := by decide +kernel
theorem dX10_broke_100 : decode cX10_broke 100 = .ok (.imul, 1) := by decide +kernel
theorem dX10_broke_101 : decode cX10_broke 101 = .ok (.iload 9, 2) := by decide +kernel
theorem dX10_broke_103 : decode cX10_broke 103 = .ok (.iadd, 1) := by decide +kernel
theorem dX10_broke_104 : decode cX10_broke 104 = .ok (.ireturn, 1) := by decide +kernel
theorem dX10_check_0 : decode cX10_check 0 = .ok (.iconst 0, 1) := by decide +kernel
theorem dX10_check_1 : decode cX10_check 1 = .ok (.istore_n 1, 1) := by decide +kernel
theorem dX10_check_2 : decode cX10_check 2 = .ok (.iconst 0, 1) := by decide +kernel
theorem dX10_check_3 : decode cX10_check 3 = .ok (.istore_n 2, 1) := by decide +kernel
theorem dX10_check_4 : decode cX10_check 4 = .ok (.iload_n 1, 1) := by decide +kernel
theorem dX10_check_5 : decode cX10_check 5 = .ok (.ifCond .ne 50, 3) := by decide +kernel
theorem dX10_check_8 : decode cX10_check 8 = .ok (.iload_n 2, 1) := by decide +kernel
theorem dX10_check_9 : decode cX10_check 9 = .ok (.aload_n 0, 1) := by decide +kernel
theorem dX10_check_10 : decode cX10_check 10 = .ok (.getfield 12, 3) := by decide +kernel
theorem dX10_check_13 : decode cX10_check 13 = .ok (.getfield 381, 3) := by decide +kernel
theorem dX10_check_16 : decode cX10_check 16 = .ok (.if_icmp .ge 39, 3) := by decide +kernel
theorem dX10_check_55 : decode cX10_check 55 = .ok (.aload_n 0, 1) := by decide +kernel
theorem dX10_check_56 : decode cX10_check 56 = .ok (.getfield 12, 3) := by decide +kernel
theorem dX10_check_59 : decode cX10_check 59 = .ok (.iconst 0, 1) := by decide +kernel
theorem dX10_check_60 : decode cX10_check 60 = .ok (.putfield 381, 3) := by decide +kernel
theorem dX10_check_63 : decode cX10_check 63 = .ok (.iload_n 1, 1) := by decide +kernel
theorem dX10_check_64 : decode cX10_check 64 = .ok (.ireturn, 1) := by decide +kernel
theorem dX10_count_0 : decode cX10_count 0 = .ok (.iload_n 1, 1) := by decide +kernel
theorem dX10_count_1 : decode cX10_count 1 = .ok (.tableswitch 195 0 12 #[67, 78, 89, 100, 111, 119, 127, 135, 143, 151, 162, 173, 184], 67) := by decide +kernel
theorem dX10_count_68 : decode cX10_count 68 = .ok (.aload_n 0, 1) := by decide +kernel
theorem dX10_count_69 : decode cX10_count 69 = .ok (.getfield 12, 3) := by decide +kernel
theorem dX10_count_72 : decode cX10_count 72 = .ok (.getfield 99, 3) := by decide +kernel
theorem dX10_count_75 : decode cX10_count 75 = .ok (.getfield 343, 3) := by decide +kernel
theorem dX10_count_78 : decode cX10_count 78 = .ok (.ireturn, 1) := by decide +kernel
theorem dX10_count_79 : decode cX10_count 79 = .ok (.aload_n 0, 1) := by decide +kernel
theorem dX10_count_80 : decode cX10_count 80 = .ok (.getfield 12, 3) := by decide +kernel
theorem dX10_count_83 : decode cX10_count 83 = .ok (.getfield 99, 3) := by decide +kernel
theorem dX10_count_86 : decode cX10_count 86 = .ok (.invokevirtual 387, 3) := by decide +kernel
theorem dX10_count_89 : decode cX10_count 89 = .ok (.ireturn, 1) := by decide +kernel
theorem dX10_count_90 : decode cX10_count 90 = .ok (.aload_n 0, 1) := by decide +kernel
theorem dX10_count_91 : decode cX10_count 91 = .ok (.getfield 12, 3) := by decide +kernel
theorem dX10_count_94 : decode cX10_count 94 = .ok (.getfield 193, 3) := by decide +kernel
theorem dX10_count_97 : decode cX10_count 97 = .ok (.getfield 390, 3) := by decide +kernel
theorem dX10_count_100 : decode cX10_count 100 = .ok (.ireturn, 1) := by decide +kernel
theorem dX10_count_101 : decode cX10_count 101 = .ok (.aload_n 0, 1) := by decide +kernel
theorem dX10_count_102 : decode cX10_count 102 = .ok (.getfield 12, 3) := by decide +kernel
theorem dX10_count_105 : decode cX10_count 105 = .ok (.getfield 193, 3) := by decide +kernel
theorem dX10_count_108 : decode cX10_count 108 = .ok (.invokevirtual 391, 3) := by decide +kernel
theorem dX10_count_111 : decode cX10_count 111 = .ok (.ireturn, 1) := by decide +kernel
theorem dX10_count_112 : decode cX10_count 112 = .ok (.aload_n 0, 1) := by decide +kernel
theorem dX10_count_113 : decode cX10_count 113 = .ok (.getfield 25, 3) := by decide +kernel
theorem dX10_count_116 : decode cX10_count 116 = .ok (.getfield 394, 3) := by decide +kernel
theorem dX10_count_119 : decode cX10_count 119 = .ok (.ireturn, 1) := by decide +kernel
theorem dX10_count_120 : decode cX10_count 120 = .ok (.aload_n 0, 1) := by decide +kernel
theorem dX10_count_121 : decode cX10_count 121 = .ok (.getfield 12, 3) := by decide +kernel
theorem dX10_count_124 : decode cX10_count 124 = .ok (.getfield 109, 3) := by decide +kernel
theorem dX10_count_127 : decode cX10_count 127 = .ok (.ireturn, 1) := by decide +kernel
theorem dX10_count_128 : decode cX10_count 128 = .ok (.aload_n 0, 1) := by decide +kernel
theorem dX10_count_129 : decode cX10_count 129 = .ok (.getfield 25, 3) := by decide +kernel
theorem dX10_count_132 : decode cX10_count 132 = .ok (.getfield 255, 3) := by decide +kernel
theorem dX10_count_135 : decode cX10_count 135 = .ok (.ireturn, 1) := by decide +kernel
theorem dX10_count_136 : decode cX10_count 136 = .ok (.aload_n 0, 1) := by decide +kernel
theorem dX10_count_137 : decode cX10_count 137 = .ok (.getfield 63, 3) := by decide +kernel
theorem dX10_count_140 : decode cX10_count 140 = .ok (.getfield 353, 3) := by decide +kernel
theorem dX10_count_143 : decode cX10_count 143 = .ok (.ireturn, 1) := by decide +kernel
theorem dX10_count_144 : decode cX10_count 144 = .ok (.aload_n 0, 1) := by decide +kernel
theorem dX10_count_145 : decode cX10_count 145 = .ok (.getfield 12, 3) := by decide +kernel
theorem dX10_count_148 : decode cX10_count 148 = .ok (.getfield 381, 3) := by decide +kernel
theorem dX10_count_151 : decode cX10_count 151 = .ok (.ireturn, 1) := by decide +kernel
theorem dX10_count_152 : decode cX10_count 152 = .ok (.aload_n 0, 1) := by decide +kernel
theorem dX10_count_153 : decode cX10_count 153 = .ok (.getfield 12, 3) := by decide +kernel
theorem dX10_count_156 : decode cX10_count 156 = .ok (.getfield 99, 3) := by decide +kernel
theorem dX10_count_159 : decode cX10_count 159 = .ok (.invokevirtual 340, 3) := by decide +kernel
theorem dX10_count_162 : decode cX10_count 162 = .ok (.ireturn, 1) := by decide +kernel
theorem dX10_count_163 : decode cX10_count 163 = .ok (.aload_n 0, 1) := by decide +kernel
theorem dX10_count_164 : decode cX10_count 164 = .ok (.getfield 12, 3) := by decide +kernel
theorem dX10_count_167 : decode cX10_count 167 = .ok (.getfield 99, 3) := by decide +kernel
theorem dX10_count_170 : decode cX10_count 170 = .ok (.invokevirtual 395, 3) := by decide +kernel
theorem dX10_count_173 : decode cX10_count 173 = .ok (.ireturn, 1) := by decide +kernel
theorem dX10_count_174 : decode cX10_count 174 = .ok (.aload_n 0, 1) := by decide +kernel
theorem dX10_count_175 : decode cX10_count 175 = .ok (.getfield 12, 3) := by decide +kernel
theorem dX10_count_178 : decode cX10_count 178 = .ok (.getfield 193, 3) := by decide +kernel
theorem dX10_count_181 : decode cX10_count 181 = .ok (.invokevirtual 398, 3) := by decide +kernel
theorem dX10_count_184 : decode cX10_count 184 = .ok (.ireturn, 1) := by decide +kernel
theorem dX10_count_185 : decode cX10_count 185 = .ok (.aload_n 0, 1) := by decide +kernel
theorem dX10_count_186 : decode cX10_count 186 = .ok (.getfield 12, 3) := by decide +kernel
theorem dX10_count_189 : decode cX10_count 189 = .ok (.getfield 99, 3) := by decide +kernel
theorem dX10_count_192 : decode cX10_count 192 = .ok (.invokevirtual 401, 3) := by decide +kernel
theorem dX10_count_195 : decode cX10_count 195 = .ok (.ireturn, 1) := by decide +kernel
theorem dX10_count_196 : decode cX10_count 196 = .ok (.aload_n 0, 1) := by decide +kernel
theorem dX10_count_197 : decode cX10_count 197 = .ok (.iconst 1, 1) := by decide +kernel
theorem dX10_count_198 : decode cX10_count 198 = .ok (.invokevirtual 82, 3) := by decide +kernel
theorem dX10_count_201 : decode cX10_count 201 = .ok (.ireturn, 1) := by decide +kernel
theorem dX10_days_0 : decode cX10_days 0 = .ok (.iload_n 1, 1) := by decide +kernel
theorem dX10_days_1 : decode cX10_days 1 = .ok (.iconst 1, 1) := by decide +kernel
theorem dX10_days_2 : decode cX10_days 2 = .ok (.if_icmp .lt 25, 3) := by decide +kernel
theorem dX10_days_5 : decode cX10_days 5 = .ok (.iload_n 1, 1) := by decide +kernel
theorem dX10_days_6 : decode cX10_days 6 = .ok (.sipush 200, 3) := by decide +kernel
theorem dX10_days_9 : decode cX10_days 9 = .ok (.if_icmp .gt 18, 3) := by decide +kernel
theorem dX10_days_12 : decode cX10_days 12 = .ok (.aload_n 0, 1) := by decide +kernel
theorem dX10_days_13 : decode cX10_days 13 = .ok (.getfield 12, 3) := by decide +kernel
theorem dX10_days_16 : decode cX10_days 16 = .ok (.getfield 109, 3) := by decide +kernel
theorem dX10_days_19 : decode cX10_days 19 = .ok (.iload_n 1, 1) := by decide +kernel
theorem dX10_days_20 : decode cX10_days 20 = .ok (.iadd, 1) := by decide +kernel
theorem dX10_days_21 : decode cX10_days 21 = .ok (.sipush 2000, 3) := by decide +kernel
theorem dX10_days_24 : decode cX10_days 24 = .ok (.if_icmp .le 9, 3) := by decide +kernel
theorem dX10_days_27 : decode cX10_days 27 = .ok (.aload_n 0, 1) := by decide +kernel
theorem dX10_days_28 : decode cX10_days 28 = .ok (.iconst 1, 1) := by decide +kernel
theorem dX10_days_29 : decode cX10_days 29 = .ok (.invokevirtual 82, 3) := by decide +kernel
theorem dX10_days_32 : decode cX10_days 32 = .ok (.ireturn, 1) := by decide +kernel
theorem dX10_days_33 : decode cX10_days 33 = .ok (.iconst 0, 1) := by decide +kernel
theorem dX10_days_34 : decode cX10_days 34 = .ok (.istore_n 2, 1) := by decide +kernel
theorem dX10_days_35 : decode cX10_days 35 = .ok (.iload_n 2, 1) := by decide +kernel
theorem dX10_days_36 : decode cX10_days 36 = .ok (.iload_n 1, 1) := by decide +kernel
theorem dX10_days_37 : decode cX10_days 37 = .ok (.if_icmp .ge 16, 3) := by decide +kernel
theorem dX10_days_40 : decode cX10_days 40 = .ok (.aload_n 0, 1) := by decide +kernel
theorem dX10_days_41 : decode cX10_days 41 = .ok (.getfield 12, 3) := by decide +kernel
theorem dX10_days_44 : decode cX10_days 44 = .ok (.invokevirtual 334, 3) := by decide +kernel
theorem dX10_days_47 : decode cX10_days 47 = .ok (.iinc 2 1, 3) := by decide +kernel
theorem dX10_days_50 : decode cX10_days 50 = .ok (.goto (-15), 3) := by decide +kernel
theorem dX10_days_53 : decode cX10_days 53 = .ok (.aload_n 0, 1) := by decide +kernel
theorem dX10_days_54 : decode cX10_days 54 = .ok (.getfield 12, 3) := by decide +kernel
theorem dX10_days_57 : decode cX10_days 57 = .ok (.getfield 109, 3) := by decide +kernel
theorem dX10_days_60 : decode cX10_days 60 = .ok (.ireturn, 1) := by decide +kernel
theorem dX10_feed_0 : decode cX10_feed 0 = .ok (.iload_n 3, 1) := by decide +kernel
theorem dX10_feed_1 : decode cX10_feed 1 = .ok (.iconst 1, 1) := by decide +kernel
theorem dX10_feed_2 : decode cX10_feed 2 = .ok (.if_icmp .lt 9, 3) := by decide +kernel
theorem dX10_feed_5 : decode cX10_feed 5 = .ok (.iload_n 3, 1) := by decide +kernel
theorem dX10_feed_6 : decode cX10_feed 6 = .ok (.bipush 8, 2) := by decide +kernel
theorem dX10_feed_8 : decode cX10_feed 8 = .ok (.if_icmp .le 9, 3) := by decide +kernel
theorem dX10_feed_11 : decode cX10_feed 11 = .ok (.aload_n 0, 1) := by decide +kernel
theorem dX10_feed_12 : decode cX10_feed 12 = .ok (.iconst 1, 1) := by decide +kernel
theorem dX10_feed_13 : decode cX10_feed 13 = .ok (.invokevirtual 82, 3) := by decide +kernel
theorem dX10_feed_16 : decode cX10_feed 16 = .ok (.ireturn, 1) := by decide +kernel
theorem dX10_feed_17 : decode cX10_feed 17 = .ok (.aload_n 0, 1) := by decide +kernel
theorem dX10_feed_18 : decode cX10_feed 18 = .ok (.getfield 25, 3) := by decide +kernel
theorem dX10_feed_21 : decode cX10_feed 21 = .ok (.getfield 255, 3) := by decide +kernel
theorem dX10_feed_24 : decode cX10_feed 24 = .ok (.iload_n 3, 1) := by decide +kernel
theorem dX10_feed_25 : decode cX10_feed 25 = .ok (.iadd, 1) := by decide +kernel
theorem dX10_feed_26 : decode cX10_feed 26 = .ok (.bipush 50, 2) := by decide +kernel
theorem dX10_feed_28 : decode cX10_feed 28 = .ok (.if_icmp .le 9, 3) := by decide +kernel
theorem dX10_feed_37 : decode cX10_feed 37 = .ok (.aload_n 0, 1) := by decide +kernel
theorem dX10_feed_38 : decode cX10_feed 38 = .ok (.getfield 25, 3) := by decide +kernel
theorem dX10_feed_41 : decode cX10_feed 41 = .ok (.lload_n 1, 1) := by decide +kernel
theorem dX10_feed_42 : decode cX10_feed 42 = .ok (.iload_n 3, 1) := by decide +kernel
theorem dX10_feed_43 : decode cX10_feed 43 = .ok (.invokevirtual 258, 3) := by decide +kernel
theorem dX10_feed_46 : decode cX10_feed 46 = .ok (.aload_n 0, 1) := by decide +kernel
theorem dX10_feed_47 : decode cX10_feed 47 = .ok (.getfield 25, 3) := by decide +kernel
theorem dX10_feed_50 : decode cX10_feed 50 = .ok (.getfield 255, 3) := by decide +kernel
theorem dX10_feed_53 : decode cX10_feed 53 = .ok (.ireturn, 1) := by decide +kernel
theorem dX10_fell_0 : decode cX10_fell 0 = .ok (.aload_n 0, 1) := by decide +kernel
theorem dX10_fell_1 : decode cX10_fell 1 = .ok (.getfield 12, 3) := by decide +kernel
theorem dX10_fell_4 : decode cX10_fell 4 = .ok (.getfield 99, 3) := by decide +kernel
theorem dX10_fell_7 : decode cX10_fell 7 = .ok (.iload_n 1, 1) := by decide +kernel
theorem dX10_fell_8 : decode cX10_fell 8 = .ok (.invokevirtual 116, 3) := by decide +kernel
theorem dX10_fell_11 : decode cX10_fell 11 = .ok (.ifCond .ne 9, 3) := by decide +kernel
theorem dX10_fell_14 : decode cX10_fell 14 = .ok (.aload_n 0, 1) := by decide +kernel
theorem dX10_fell_15 : decode cX10_fell 15 = .ok (.iconst 1, 1) := by decide +kernel
theorem dX10_fell_16 : decode cX10_fell 16 = .ok (.invokevirtual 82, 3) := by decide +kernel
theorem dX10_fell_19 : decode cX10_fell 19 = .ok (.ireturn, 1) := by decide +kernel
theorem dX10_force_0 : decode cX10_force 0 = .ok (.iload_n 1, 1) := by decide +kernel
theorem dX10_force_1 : decode cX10_force 1 = .ok (.invokestatic 262, 3) := by decide +kernel
theorem dX10_force_4 : decode cX10_force 4 = .ok (.ifCond .eq 10, 3) := by decide +kernel
theorem dX10_force_7 : decode cX10_force 7 = .ok (.iload_n 2, 1) := by decide +kernel
theorem dX10_force_8 : decode cX10_force 8 = .ok (.invokestatic 265, 3) := by decide +kernel
theorem dX10_force_11 : decode cX10_force 11 = .ok (.ifCond .ne 9, 3) := by decide +kernel
theorem dX10_force_14 : decode cX10_force 14 = .ok (.aload_n 0, 1) := by decide +kernel
theorem dX10_force_15 : decode cX10_force 15 = .ok (.iconst 1, 1) := by decide +kernel
theorem dX10_force_16 : decode cX10_force 16 = .ok (.invokevirtual 82, 3) := by decide +kernel
theorem dX10_force_19 : decode cX10_force 19 = .ok (.ireturn, 1) := by decide +kernel
theorem dX10_force_20 : decode cX10_force 20 = .ok (.aload_n 0, 1) := by decide +kernel
theorem dX10_force_21 : decode cX10_force 21 = .ok (.getfield 25, 3) := by decide +kernel
theorem dX10_force_24 : decode cX10_force 24 = .ok (.iload_n 1, 1) := by decide +kernel
theorem dX10_force_25 : decode cX10_force 25 = .ok (.iload_n 2, 1) := by decide +kernel
theorem dX10_force_26 : decode cX10_force 26 = .ok (.invokevirtual 285, 3) := by decide +kernel
theorem dX10_force_29 : decode cX10_force 29 = .ok (.istore_n 3, 1) := by decide +kernel
theorem dX10_force_30 : decode cX10_force 30 = .ok (.iload_n 3, 1) := by decide +kernel
theorem dX10_force_31 : decode cX10_force 31 = .ok (.ifCond .ge 11, 3) := by decide +kernel
theorem dX10_force_34 : decode cX10_force 34 = .ok (.aload_n 0, 1) := by decide +kernel
theorem dX10_force_35 : decode cX10_force 35 = .ok (.iconst 2, 1) := by decide +kernel
theorem dX10_force_36 : decode cX10_force 36 = .ok (.invokevirtual 82, 3) := by decide +kernel
theorem dX10_force_39 : decode cX10_force 39 = .ok (.goto 4, 3) := by decide +kernel
theorem dX10_force_43 : decode cX10_force 43 = .ok (.ireturn, 1) := by decide +kernel
theorem dX10_found_0 : decode cX10_found 0 = .ok (.iload_n 1, 1) := by decide +kernel
theorem dX10_found_1 : decode cX10_found 1 = .ok (.iconst 1, 1) := by decide +kernel
theorem dX10_found_2 : decode cX10_found 2 = .ok (.if_icmp .lt 8, 3) := by decide +kernel
theorem dX10_found_5 : decode cX10_found 5 = .ok (.iload_n 1, 1) := by decide +kernel
theorem dX10_found_6 : decode cX10_found 6 = .ok (.iconst 5, 1) := by decide +kernel
theorem dX10_found_7 : decode cX10_found 7 = .ok (.if_icmp .le 9, 3) := by decide +kernel
theorem dX10_found_10 : decode cX10_found 10 = .ok (.aload_n 0, 1) := by decide +kernel
theorem dX10_found_11 : decode cX10_found 11 = .ok (.iconst 1, 1) := by decide +kernel
theorem dX10_found_12 : decode cX10_found 12 = .ok (.invokevirtual 82, 3) := by decide +kernel
theorem dX10_found_15 : decode cX10_found 15 = .ok (.ireturn, 1) := by decide +kernel
theorem dX10_found_16 : decode cX10_found 16 = .ok (.aload_n 0, 1) := by decide +kernel
theorem dX10_found_17 : decode cX10_found 17 = .ok (.getfield 74, 3) := by decide +kernel
theorem dX10_found_20 : decode cX10_found 20 = .ok (.iload_n 1, 1) := by decide +kernel
theorem dX10_found_21 : decode cX10_found 21 = .ok (.iaload, 1) := by decide +kernel
theorem dX10_found_22 : decode cX10_found 22 = .ok (.ireturn, 1) := by decide +kernel
theorem dX10_give_0 : decode cX10_give 0 = .ok (.aload_n 0, 1) := by decide +kernel
theorem dX10_give_1 : decode cX10_give 1 = .ok (.getfield 12, 3) := by decide +kernel
theorem dX10_give_4 : decode cX10_give 4 = .ok (.getfield 193, 3) := by decide +kernel
theorem dX10_give_7 : decode cX10_give 7 = .ok (.iload_n 1, 1) := by decide +kernel
theorem dX10_give_8 : decode cX10_give 8 = .ok (.invokevirtual 207, 3) := by decide +kernel
theorem dX10_give_11 : decode cX10_give 11 = .ok (.ifCond .eq 12, 3) := by decide +kernel
theorem dX10_give_23 : decode cX10_give 23 = .ok (.aload_n 0, 1) := by decide +kernel
theorem dX10_give_24 : decode cX10_give 24 = .ok (.iconst 1, 1) := by decide +kernel
theorem dX10_give_25 : decode cX10_give 25 = .ok (.invokevirtual 82, 3) := by decide +kernel
theorem dX10_give_28 : decode cX10_give 28 = .ok (.ireturn, 1) := by decide +kernel
theorem dX10_hand_0 : decode cX10_hand 0 = .ok (.aload_n 0, 1) := by decide +kernel
theorem dX10_hand_1 : decode cX10_hand 1 = .ok (.getfield 12, 3) := by decide +kernel
theorem dX10_hand_4 : decode cX10_hand 4 = .ok (.getfield 193, 3) := by decide +kernel
theorem dX10_hand_7 : decode cX10_hand 7 = .ok (.astore 4, 2) := by decide +kernel
theorem dX10_hand_9 : decode cX10_hand 9 = .ok (.aload 4, 2) := by decide +kernel
theorem dX10_hand_11 : decode cX10_hand 11 = .ok (.iload_n 1, 1) := by decide +kernel
theorem dX10_hand_12 : decode cX10_hand 12 = .ok (.invokevirtual 207, 3) := by decide +kernel
theorem dX10_hand_15 : decode cX10_hand 15 = .ok (.ifCond .eq 28, 3) := by decide +kernel
theorem dX10_hand_43 : decode cX10_hand 43 = .ok (.aload_n 0, 1) := by decide +kernel
theorem dX10_hand_44 : decode cX10_hand 44 = .ok (.iconst 1, 1) := by decide +kernel
theorem dX10_hand_45 : decode cX10_hand 45 = .ok (.invokevirtual 82, 3) := by decide +kernel
theorem dX10_hand_48 : decode cX10_hand 48 = .ok (.ireturn, 1) := by decide +kernel
theorem dX10_hands_0 : decode cX10_hands 0 = .ok (.aload_n 0, 1) := by decide +kernel
theorem dX10_hands_1 : decode cX10_hands 1 = .ok (.iload_n 1, 1) := by decide +kernel
theorem dX10_hands_2 : decode cX10_hands 2 = .ok (.iload_n 2, 1) := by decide +kernel
theorem dX10_hands_3 : decode cX10_hands 3 = .ok (.invokevirtual 220, 3) := by decide +kernel
theorem dX10_hands_6 : decode cX10_hands 6 = .ok (.ifCond .eq 8, 3) := by decide +kernel
theorem dX10_hands_14 : decode cX10_hands 14 = .ok (.aload_n 0, 1) := by decide +kernel
theorem dX10_hands_15 : decode cX10_hands 15 = .ok (.iconst 1, 1) := by decide +kernel
theorem dX10_hands_16 : decode cX10_hands 16 = .ok (.invokevirtual 82, 3) := by decide +kernel
theorem dX10_hands_19 : decode cX10_hands 19 = .ok (.ireturn, 1) := by decide +kernel
theorem dX10_image_0 : decode cX10_image 0 = .ok (.aload_n 0, 1) := by decide +kernel
theorem dX10_image_1 : decode cX10_image 1 = .ok (.getfield 16, 3) := by decide +kernel
theorem dX10_image_4 : decode cX10_image 4 = .ok (.aload_n 0, 1) := by decide +kernel
theorem dX10_image_5 : decode cX10_image 5 = .ok (.getfield 12, 3) := by decide +kernel
theorem dX10_image_8 : decode cX10_image 8 = .ok (.invokevirtual 337, 3) := by decide +kernel
theorem dX10_image_11 : decode cX10_image 11 = .ok (.aload_n 0, 1) := by decide +kernel
theorem dX10_image_12 : decode cX10_image 12 = .ok (.getfield 29, 3) := by decide +kernel
theorem dX10_image_15 : decode cX10_image 15 = .ok (.aload_n 0, 1) := by decide +kernel
theorem dX10_image_16 : decode cX10_image 16 = .ok (.getfield 25, 3) := by decide +kernel
theorem dX10_image_19 : decode cX10_image 19 = .ok (.invokevirtual 378, 3) := by decide +kernel
theorem dX10_image_22 : decode cX10_image 22 = .ok (.aload_n 0, 1) := by decide +kernel
theorem dX10_image_23 : decode cX10_image 23 = .ok (.dup, 1) := by decide +kernel
theorem dX10_image_24 : decode cX10_image 24 = .ok (.getfield 78, 3) := by decide +kernel
theorem dX10_image_27 : decode cX10_image 27 = .ok (.iconst 1, 1) := by decide +kernel
theorem dX10_image_28 : decode cX10_image 28 = .ok (.iadd, 1) := by decide +kernel
theorem dX10_image_29 : decode cX10_image 29 = .ok (.putfield 78, 3) := by decide +kernel
theorem dX10_image_32 : decode cX10_image 32 = .ok (.aload_n 0, 1) := by decide +kernel
theorem dX10_image_33 : decode cX10_image 33 = .ok (.getfield 78, 3) := by decide +kernel
theorem dX10_image_36 : decode cX10_image 36 = .ok (.ireturn, 1) := by decide +kernel
theorem dX10_joined_0 : decode cX10_joined 0 = .ok (.iload_n 1, 1) := by decide +kernel
theorem dX10_joined_1 : decode cX10_joined 1 = .ok (.invokestatic 89, 3) := by decide +kernel
theorem dX10_joined_4 : decode cX10_joined 4 = .ok (.ifCond .eq 15, 3) := by decide +kernel
theorem dX10_joined_7 : decode cX10_joined 7 = .ok (.iload_n 2, 1) := by decide +kernel
theorem dX10_joined_8 : decode cX10_joined 8 = .ok (.invokestatic 89, 3) := by decide +kernel
theorem dX10_joined_11 : decode cX10_joined 11 = .ok (.ifCond .eq 8, 3) := by decide +kernel
theorem dX10_joined_14 : decode cX10_joined 14 = .ok (.iload_n 1, 1) := by decide +kernel
theorem dX10_joined_15 : decode cX10_joined 15 = .ok (.iload_n 2, 1) := by decide +kernel
theorem dX10_joined_16 : decode cX10_joined 16 = .ok (.if_icmp .le 9, 3) := by decide +kernel
theorem dX10_joined_19 : decode cX10_joined 19 = .ok (.aload_n 0, 1) := by decide +kernel
theorem dX10_joined_20 : decode cX10_joined 20 = .ok (.iconst 1, 1) := by decide +kernel
theorem dX10_joined_21 : decode cX10_joined 21 = .ok (.invokevirtual 82, 3) := by decide +kernel
theorem dX10_joined_24 : decode cX10_joined 24 = .ok (.ireturn, 1) := by decide +kernel
theorem dX10_joined_25 : decode cX10_joined 25 = .ok (.aload_n 0, 1) := by decide +kernel
theorem dX10_joined_26 : decode cX10_joined 26 = .ok (.getfield 19, 3) := by decide +kernel
theorem dX10_joined_29 : decode cX10_joined 29 = .ok (.aload_n 0, 1) := by decide +kernel
theorem dX10_joined_30 : decode cX10_joined 30 = .ok (.getfield 12, 3) := by decide +kernel
theorem dX10_joined_33 : decode cX10_joined 33 = .ok (.invokevirtual 337, 3) := by decide +kernel
theorem dX10_joined_36 : decode cX10_joined 36 = .ok (.aload_n 0, 1) := by decide +kernel
theorem dX10_joined_37 : decode cX10_joined 37 = .ok (.getfield 12, 3) := by decide +kernel
theorem dX10_joined_40 : decode cX10_joined 40 = .ok (.getfield 109, 3) := by decide +kernel
theorem dX10_joined_43 : decode cX10_joined 43 = .ok (.sipush 200, 3) := by decide +kernel
theorem dX10_joined_46 : decode cX10_joined 46 = .ok (.iadd, 1) := by decide +kernel
theorem dX10_joined_47 : decode cX10_joined 47 = .ok (.sipush 2000, 3) := by decide +kernel
theorem dX10_joined_50 : decode cX10_joined 50 = .ok (.invokestatic 252, 3) := by decide +kernel
theorem dX10_joined_53 : decode cX10_joined 53 = .ok (.istore_n 3, 1) := by decide +kernel
theorem dX10_joined_54 : decode cX10_joined 54 = .ok (.aload_n 0, 1) := by decide +kernel
theorem dX10_joined_55 : decode cX10_joined 55 = .ok (.getfield 12, 3) := by decide +kernel
theorem dX10_joined_58 : decode cX10_joined 58 = .ok (.getfield 109, 3) := by decide +kernel
theorem dX10_joined_61 : decode cX10_joined 61 = .ok (.istore 4, 2) := by decide +kernel
theorem dX10_joined_63 : decode cX10_joined 63 = .ok (.iload 4, 2) := by decide +kernel
theorem dX10_joined_65 : decode cX10_joined 65 = .ok (.iload_n 3, 1) := by decide +kernel
theorem dX10_joined_66 : decode cX10_joined 66 = .ok (.if_icmp .gt 34, 3) := by decide +kernel
theorem dX10_joined_69 : decode cX10_joined 69 = .ok (.aload_n 0, 1) := by decide +kernel
theorem dX10_joined_70 : decode cX10_joined 70 = .ok (.getfield 19, 3) := by decide +kernel
theorem dX10_joined_73 : decode cX10_joined 73 = .ok (.getfield 99, 3) := by decide +kernel
theorem dX10_joined_76 : decode cX10_joined 76 = .ok (.iload_n 1, 1) := by decide +kernel
theorem dX10_joined_77 : decode cX10_joined 77 = .ok (.iload_n 2, 1) := by decide +kernel
theorem dX10_joined_78 : decode cX10_joined 78 = .ok (.invokevirtual 346, 3) := by decide +kernel
theorem dX10_joined_81 : decode cX10_joined 81 = .ok (.ifCond .eq 6, 3) := by decide +kernel
theorem dX10_joined_87 : decode cX10_joined 87 = .ok (.aload_n 0, 1) := by decide +kernel
theorem dX10_joined_88 : decode cX10_joined 88 = .ok (.getfield 19, 3) := by decide +kernel
theorem dX10_joined_91 : decode cX10_joined 91 = .ok (.invokevirtual 334, 3) := by decide +kernel
theorem dX10_joined_94 : decode cX10_joined 94 = .ok (.iinc 4 1, 3) := by decide +kernel
theorem dX10_joined_97 : decode cX10_joined 97 = .ok (.goto (-34), 3) := by decide +kernel
theorem dX10_joined_100 : decode cX10_joined 100 = .ok (.aload_n 0, 1) := by decide +kernel
theorem dX10_joined_101 : decode cX10_joined 101 = .ok (.iconst 2, 1) := by decide +kernel
theorem dX10_joined_102 : decode cX10_joined 102 = .ok (.invokevirtual 82, 3) := by decide +kernel
theorem dX10_joined_105 : decode cX10_joined 105 = .ok (.ireturn, 1) := by decide +kernel
theorem dX10_judge_0 : decode cX10_judge 0 = .ok (.aload_n 0, 1) := by decide +kernel
theorem dX10_judge_1 : decode cX10_judge 1 = .ok (.iload_n 1, 1) := by decide +kernel
theorem dX10_judge_2 : decode cX10_judge 2 = .ok (.iload_n 2, 1) := by decide +kernel
theorem dX10_judge_3 : decode cX10_judge 3 = .ok (.invokevirtual 317, 3) := by decide +kernel
theorem dX10_judge_6 : decode cX10_judge 6 = .ok (.ifCond .eq 23, 3) := by decide +kernel
theorem dX10_judge_29 : decode cX10_judge 29 = .ok (.aload_n 0, 1) := by decide +kernel
theorem dX10_judge_30 : decode cX10_judge 30 = .ok (.iconst 1, 1) := by decide +kernel
theorem dX10_judge_31 : decode cX10_judge 31 = .ok (.invokevirtual 82, 3) := by decide +kernel
theorem dX10_judge_34 : decode cX10_judge 34 = .ok (.ireturn, 1) := by decide +kernel
theorem dX10_land_0 : decode cX10_land 0 = .ok (.iload_n 1, 1) := by decide +kernel
theorem dX10_land_1 : decode cX10_land 1 = .ok (.invokestatic 89, 3) := by decide +kernel
theorem dX10_land_4 : decode cX10_land 4 = .ok (.ifCond .eq 22, 3) := by decide +kernel
theorem dX10_land_7 : decode cX10_land 7 = .ok (.iload_n 2, 1) := by decide +kernel
theorem dX10_land_8 : decode cX10_land 8 = .ok (.ifCond .lt 18, 3) := by decide +kernel
theorem dX10_land_11 : decode cX10_land 11 = .ok (.iload_n 2, 1) := by decide +kernel
theorem dX10_land_12 : decode cX10_land 12 = .ok (.iconst 2, 1) := by decide +kernel
theorem dX10_land_13 : decode cX10_land 13 = .ok (.if_icmp .gt 13, 3) := by decide +kernel
theorem dX10_land_16 : decode cX10_land 16 = .ok (.iload_n 3, 1) := by decide +kernel
theorem dX10_land_17 : decode cX10_land 17 = .ok (.ifCond .lt 9, 3) := by decide +kernel
theorem dX10_land_20 : decode cX10_land 20 = .ok (.iload_n 3, 1) := by decide +kernel
theorem dX10_land_21 : decode cX10_land 21 = .ok (.bipush 99, 2) := by decide +kernel
theorem dX10_land_23 : decode cX10_land 23 = .ok (.if_icmp .le 9, 3) := by decide +kernel
theorem dX10_land_26 : decode cX10_land 26 = .ok (.aload_n 0, 1) := by decide +kernel
theorem dX10_land_27 : decode cX10_land 27 = .ok (.iconst 1, 1) := by decide +kernel
theorem dX10_land_28 : decode cX10_land 28 = .ok (.invokevirtual 82, 3) := by decide +kernel
theorem dX10_land_31 : decode cX10_land 31 = .ok (.ireturn, 1) := by decide +kernel
theorem dX10_land_32 : decode cX10_land 32 = .ok (.bipush 100, 2) := by decide +kernel
theorem dX10_land_34 : decode cX10_land 34 = .ok (.aload_n 0, 1) := by decide +kernel
theorem dX10_land_35 : decode cX10_land 35 = .ok (.getfield 12, 3) := by decide +kernel
theorem dX10_land_38 : decode cX10_land 38 = .ok (.getfield 93, 3) := by decide +kernel
theorem dX10_land_41 : decode cX10_land 41 = .ok (.iload_n 1, 1) := by decide +kernel
theorem dX10_land_42 : decode cX10_land 42 = .ok (.iaload, 1) := by decide +kernel
theorem dX10_land_43 : decode cX10_land 43 = .ok (.imul, 1) := by decide +kernel
theorem dX10_land_44 : decode cX10_land 44 = .ok (.aload_n 0, 1) := by decide +kernel
theorem dX10_land_45 : decode cX10_land 45 = .ok (.getfield 12, 3) := by decide +kernel
theorem dX10_land_48 : decode cX10_land 48 = .ok (.getfield 96, 3) := by decide +kernel
theorem dX10_land_51 : decode cX10_land 51 = .ok (.iload_n 1, 1) := by decide +kernel
theorem dX10_land_52 : decode cX10_land 52 = .ok (.iaload, 1) := by decide +kernel
theorem dX10_land_53 : decode cX10_land 53 = .ok (.iadd, 1) := by decide +kernel
theorem dX10_land_54 : decode cX10_land 54 = .ok (.istore 4, 2) := by decide +kernel
theorem dX10_land_56 : decode cX10_land 56 = .ok (.aload_n 0, 1) := by decide +kernel
theorem dX10_land_57 : decode cX10_land 57 = .ok (.getfield 12, 3) := by decide +kernel
theorem dX10_land_60 : decode cX10_land 60 = .ok (.getfield 93, 3) := by decide +kernel
theorem dX10_land_63 : decode cX10_land 63 = .ok (.iload_n 1, 1) := by decide +kernel
theorem dX10_land_64 : decode cX10_land 64 = .ok (.iload_n 2, 1) := by decide +kernel
theorem dX10_land_65 : decode cX10_land 65 = .ok (.iastore, 1) := by decide +kernel
theorem dX10_land_66 : decode cX10_land 66 = .ok (.aload_n 0, 1) := by decide +kernel
theorem dX10_land_67 : decode cX10_land 67 = .ok (.getfield 12, 3) := by decide +kernel
theorem dX10_land_70 : decode cX10_land 70 = .ok (.getfield 96, 3) := by decide +kernel
theorem dX10_land_73 : decode cX10_land 73 = .ok (.iload_n 1, 1) := by decide +kernel
theorem dX10_land_74 : decode cX10_land 74 = .ok (.iload_n 3, 1) := by decide +kernel
theorem dX10_land_75 : decode cX10_land 75 = .ok (.iastore, 1) := by decide +kernel
theorem dX10_land_76 : decode cX10_land 76 = .ok (.iload 4, 2) := by decide +kernel
theorem dX10_land_78 : decode cX10_land 78 = .ok (.ireturn, 1) := by decide +kernel
theorem dX10_lay_0 : decode cX10_lay 0 = .ok (.aload_n 0, 1) := by decide +kernel
theorem dX10_lay_1 : decode cX10_lay 1 = .ok (.getfield 12, 3) := by decide +kernel
theorem dX10_lay_4 : decode cX10_lay 4 = .ok (.getfield 99, 3) := by decide +kernel
theorem dX10_lay_7 : decode cX10_lay 7 = .ok (.iload_n 1, 1) := by decide +kernel
theorem dX10_lay_8 : decode cX10_lay 8 = .ok (.invokevirtual 116, 3) := by decide +kernel
theorem dX10_lay_11 : decode cX10_lay 11 = .ok (.ifCond .eq 15, 3) := by decide +kernel
theorem dX10_lay_26 : decode cX10_lay 26 = .ok (.aload_n 0, 1) := by decide +kernel
theorem dX10_lay_27 : decode cX10_lay 27 = .ok (.iconst 1, 1) := by decide +kernel
theorem dX10_lay_28 : decode cX10_lay 28 = .ok (.invokevirtual 82, 3) := by decide +kernel
theorem dX10_lay_31 : decode cX10_lay 31 = .ok (.ireturn, 1) := by decide +kernel
theorem dX10_load_0 : decode cX10_load 0 = .ok (.aload_n 0, 1) := by decide +kernel
theorem dX10_load_1 : decode cX10_load 1 = .ok (.getfield 12, 3) := by decide +kernel
theorem dX10_load_4 : decode cX10_load 4 = .ok (.getfield 193, 3) := by decide +kernel
theorem dX10_load_7 : decode cX10_load 7 = .ok (.iload_n 1, 1) := by decide +kernel
theorem dX10_load_8 : decode cX10_load 8 = .ok (.invokevirtual 207, 3) := by decide +kernel
theorem dX10_load_11 : decode cX10_load 11 = .ok (.ifCond .eq 16, 3) := by decide +kernel
theorem dX10_load_27 : decode cX10_load 27 = .ok (.aload_n 0, 1) := by decide +kernel
theorem dX10_load_28 : decode cX10_load 28 = .ok (.iconst 1, 1) := by decide +kernel
theorem dX10_load_29 : decode cX10_load 29 = .ok (.invokevirtual 82, 3) := by decide +kernel
theorem dX10_load_32 : decode cX10_load 32 = .ok (.ireturn, 1) := by decide +kernel
theorem dX10_meeting_0 : decode cX10_meeting 0 = .ok (.aload_n 0, 1) := by decide +kernel
theorem dX10_meeting_1 : decode cX10_meeting 1 = .ok (.iload_n 1, 1) := by decide +kernel
theorem dX10_meeting_2 : decode cX10_meeting 2 = .ok (.iload_n 2, 1) := by decide +kernel
theorem dX10_meeting_3 : decode cX10_meeting 3 = .ok (.invokevirtual 317, 3) := by decide +kernel
theorem dX10_meeting_6 : decode cX10_meeting 6 = .ok (.ifCond .eq 21, 3) := by decide +kernel
theorem dX10_meeting_27 : decode cX10_meeting 27 = .ok (.aload_n 0, 1) := by decide +kernel
theorem dX10_meeting_28 : decode cX10_meeting 28 = .ok (.iconst 1, 1) := by decide +kernel
theorem dX10_meeting_29 : decode cX10_meeting 29 = .ok (.invokevirtual 82, 3) := by decide +kernel
theorem dX10_meeting_32 : decode cX10_meeting 32 = .ok (.ireturn, 1) := by decide +kernel
theorem dX10_mileIs_0 : decode cX10_mileIs 0 = .ok (.iload_n 1, 1) := by decide +kernel
theorem dX10_mileIs_1 : decode cX10_mileIs 1 = .ok (.invokestatic 89, 3) := by decide +kernel
theorem dX10_mileIs_4 : decode cX10_mileIs 4 = .ok (.ifCond .ne 9, 3) := by decide +kernel
theorem dX10_mileIs_7 : decode cX10_mileIs 7 = .ok (.aload_n 0, 1) := by decide +kernel
theorem dX10_mileIs_8 : decode cX10_mileIs 8 = .ok (.iconst 1, 1) := by decide +kernel
theorem dX10_mileIs_9 : decode cX10_mileIs 9 = .ok (.invokevirtual 82, 3) := by decide +kernel
theorem dX10_mileIs_12 : decode cX10_mileIs 12 = .ok (.ireturn, 1) := by decide +kernel
theorem dX10_mileIs_13 : decode cX10_mileIs 13 = .ok (.iload_n 2, 1) := by decide +kernel
theorem dX10_mileIs_14 : decode cX10_mileIs 14 = .ok (.tableswitch 106 0 5 #[38, 47, 56, 76, 85, 94], 38) := by decide +kernel
theorem dX10_mileIs_52 : decode cX10_mileIs 52 = .ok (.aload_n 0, 1) := by decide +kernel
theorem dX10_mileIs_53 : decode cX10_mileIs 53 = .ok (.getfield 12, 3) := by decide +kernel
theorem dX10_mileIs_56 : decode cX10_mileIs 56 = .ok (.iload_n 1, 1) := by decide +kernel
theorem dX10_mileIs_57 : decode cX10_mileIs 57 = .ok (.invokevirtual 155, 3) := by decide +kernel
theorem dX10_mileIs_60 : decode cX10_mileIs 60 = .ok (.ireturn, 1) := by decide +kernel
theorem dX10_mileIs_61 : decode cX10_mileIs 61 = .ok (.aload_n 0, 1) := by decide +kernel
theorem dX10_mileIs_62 : decode cX10_mileIs 62 = .ok (.getfield 12, 3) := by decide +kernel
theorem dX10_mileIs_65 : decode cX10_mileIs 65 = .ok (.iload_n 1, 1) := by decide +kernel
theorem dX10_mileIs_66 : decode cX10_mileIs 66 = .ok (.invokevirtual 158, 3) := by decide +kernel
theorem dX10_mileIs_69 : decode cX10_mileIs 69 = .ok (.ireturn, 1) := by decide +kernel
theorem dX10_mileIs_70 : decode cX10_mileIs 70 = .ok (.aload_n 0, 1) := by decide +kernel
theorem dX10_mileIs_71 : decode cX10_mileIs 71 = .ok (.getfield 12, 3) := by decide +kernel
theorem dX10_mileIs_74 : decode cX10_mileIs 74 = .ok (.getfield 99, 3) := by decide +kernel
theorem dX10_mileIs_77 : decode cX10_mileIs 77 = .ok (.iload_n 1, 1) := by decide +kernel
theorem dX10_mileIs_78 : decode cX10_mileIs 78 = .ok (.invokevirtual 161, 3) := by decide +kernel
theorem dX10_mileIs_81 : decode cX10_mileIs 81 = .ok (.ifCond .eq 7, 3) := by decide +kernel
theorem dX10_mileIs_88 : decode cX10_mileIs 88 = .ok (.iconst 0, 1) := by decide +kernel
theorem dX10_mileIs_89 : decode cX10_mileIs 89 = .ok (.ireturn, 1) := by decide +kernel
theorem dX10_mileIs_90 : decode cX10_mileIs 90 = .ok (.aload_n 0, 1) := by decide +kernel
theorem dX10_mileIs_91 : decode cX10_mileIs 91 = .ok (.getfield 12, 3) := by decide +kernel
theorem dX10_mileIs_94 : decode cX10_mileIs 94 = .ok (.iload_n 1, 1) := by decide +kernel
theorem dX10_mileIs_95 : decode cX10_mileIs 95 = .ok (.invokevirtual 164, 3) := by decide +kernel
theorem dX10_mileIs_98 : decode cX10_mileIs 98 = .ok (.ireturn, 1) := by decide +kernel
theorem dX10_mileIs_99 : decode cX10_mileIs 99 = .ok (.aload_n 0, 1) := by decide +kernel
theorem dX10_mileIs_100 : decode cX10_mileIs 100 = .ok (.getfield 12, 3) := by decide +kernel
theorem dX10_mileIs_103 : decode cX10_mileIs 103 = .ok (.iload_n 1, 1) := by decide +kernel
theorem dX10_mileIs_104 : decode cX10_mileIs 104 = .ok (.invokevirtual 167, 3) := by decide +kernel
theorem dX10_mileIs_107 : decode cX10_mileIs 107 = .ok (.ireturn, 1) := by decide +kernel
theorem dX10_mileIs_108 : decode cX10_mileIs 108 = .ok (.aload_n 0, 1) := by decide +kernel
theorem dX10_mileIs_109 : decode cX10_mileIs 109 = .ok (.getfield 12, 3) := by decide +kernel
theorem dX10_mileIs_112 : decode cX10_mileIs 112 = .ok (.getfield 99, 3) := by decide +kernel
theorem dX10_mileIs_115 : decode cX10_mileIs 115 = .ok (.iload_n 1, 1) := by decide +kernel
theorem dX10_mileIs_116 : decode cX10_mileIs 116 = .ok (.invokevirtual 170, 3) := by decide +kernel
theorem dX10_mileIs_119 : decode cX10_mileIs 119 = .ok (.ireturn, 1) := by decide +kernel
theorem dX10_mileIs_120 : decode cX10_mileIs 120 = .ok (.aload_n 0, 1) := by decide +kernel
theorem dX10_mileIs_121 : decode cX10_mileIs 121 = .ok (.iconst 1, 1) := by decide +kernel
theorem dX10_mileIs_122 : decode cX10_mileIs 122 = .ok (.invokevirtual 82, 3) := by decide +kernel
theorem dX10_mileIs_125 : decode cX10_mileIs 125 = .ok (.ireturn, 1) := by decide +kernel
theorem dX10_move_0 : decode cX10_move 0 = .ok (.iload_n 1, 1) := by decide +kernel
theorem dX10_move_1 : decode cX10_move 1 = .ok (.invokestatic 173, 3) := by decide +kernel
theorem dX10_move_4 : decode cX10_move 4 = .ok (.ifCond .eq 10, 3) := by decide +kernel
theorem dX10_move_7 : decode cX10_move 7 = .ok (.iload_n 3, 1) := by decide +kernel
theorem dX10_move_8 : decode cX10_move 8 = .ok (.invokestatic 173, 3) := by decide +kernel
theorem dX10_move_11 : decode cX10_move 11 = .ok (.ifCond .ne 9, 3) := by decide +kernel
theorem dX10_move_14 : decode cX10_move 14 = .ok (.aload_n 0, 1) := by decide +kernel
theorem dX10_move_15 : decode cX10_move 15 = .ok (.iconst 1, 1) := by decide +kernel
theorem dX10_move_16 : decode cX10_move 16 = .ok (.invokevirtual 82, 3) := by decide +kernel
theorem dX10_move_19 : decode cX10_move 19 = .ok (.ireturn, 1) := by decide +kernel
theorem dX10_move_20 : decode cX10_move 20 = .ok (.aload_n 0, 1) := by decide +kernel
theorem dX10_move_21 : decode cX10_move 21 = .ok (.getfield 70, 3) := by decide +kernel
theorem dX10_move_24 : decode cX10_move 24 = .ok (.iload_n 1, 1) := by decide +kernel
theorem dX10_move_25 : decode cX10_move 25 = .ok (.invokevirtual 176, 3) := by decide +kernel
theorem dX10_move_28 : decode cX10_move 28 = .ok (.ifCond .ne 14, 3) := by decide +kernel
theorem dX10_move_42 : decode cX10_move 42 = .ok (.aload_n 0, 1) := by decide +kernel
theorem dX10_move_43 : decode cX10_move 43 = .ok (.iconst 2, 1) := by decide +kernel
theorem dX10_move_44 : decode cX10_move 44 = .ok (.invokevirtual 82, 3) := by decide +kernel
theorem dX10_move_47 : decode cX10_move 47 = .ok (.ireturn, 1) := by decide +kernel
theorem dX10_owed_0 : decode cX10_owed 0 = .ok (.iload_n 1, 1) := by decide +kernel
theorem dX10_owed_1 : decode cX10_owed 1 = .ok (.invokestatic 265, 3) := by decide +kernel
theorem dX10_owed_4 : decode cX10_owed 4 = .ok (.ifCond .ne 9, 3) := by decide +kernel
theorem dX10_owed_7 : decode cX10_owed 7 = .ok (.aload_n 0, 1) := by decide +kernel
theorem dX10_owed_8 : decode cX10_owed 8 = .ok (.iconst 1, 1) := by decide +kernel
theorem dX10_owed_9 : decode cX10_owed 9 = .ok (.invokevirtual 82, 3) := by decide +kernel
theorem dX10_owed_12 : decode cX10_owed 12 = .ok (.ireturn, 1) := by decide +kernel
theorem dX10_owed_13 : decode cX10_owed 13 = .ok (.aload_n 0, 1) := by decide +kernel
theorem dX10_owed_14 : decode cX10_owed 14 = .ok (.getfield 12, 3) := by decide +kernel
theorem dX10_owed_17 : decode cX10_owed 17 = .ok (.getfield 109, 3) := by decide +kernel
theorem dX10_owed_20 : decode cX10_owed 20 = .ok (.iload_n 1, 1) := by decide +kernel
theorem dX10_owed_21 : decode cX10_owed 21 = .ok (.if_icmp .le 28, 3) := by decide +kernel
theorem dX10_owed_49 : decode cX10_owed 49 = .ok (.iconst 0, 1) := by decide +kernel
theorem dX10_owed_50 : decode cX10_owed 50 = .ok (.ireturn, 1) := by decide +kernel
theorem dX10_party_0 : decode cX10_party 0 = .ok (.iload_n 1, 1) := by decide +kernel
theorem dX10_party_1 : decode cX10_party 1 = .ok (.invokestatic 89, 3) := by decide +kernel
theorem dX10_party_4 : decode cX10_party 4 = .ok (.ifCond .eq 29, 3) := by decide +kernel
theorem dX10_party_7 : decode cX10_party 7 = .ok (.iload_n 2, 1) := by decide +kernel
theorem dX10_party_8 : decode cX10_party 8 = .ok (.iconst 1, 1) := by decide +kernel
theorem dX10_party_9 : decode cX10_party 9 = .ok (.if_icmp .eq 8, 3) := by decide +kernel
theorem dX10_party_12 : decode cX10_party 12 = .ok (.iload_n 2, 1) := by decide +kernel
theorem dX10_party_13 : decode cX10_party 13 = .ok (.iconst (-1), 1) := by decide +kernel
theorem dX10_party_14 : decode cX10_party 14 = .ok (.if_icmp .ne 19, 3) := by decide +kernel
theorem dX10_party_17 : decode cX10_party 17 = .ok (.iload 4, 2) := by decide +kernel
theorem dX10_party_19 : decode cX10_party 19 = .ok (.ifCond .lt 14, 3) := by decide +kernel
theorem dX10_party_22 : decode cX10_party 22 = .ok (.iload 4, 2) := by decide +kernel
theorem dX10_party_24 : decode cX10_party 24 = .ok (.bipush 99, 2) := by decide +kernel
theorem dX10_party_26 : decode cX10_party 26 = .ok (.if_icmp .gt 7, 3) := by decide +kernel
theorem dX10_party_29 : decode cX10_party 29 = .ok (.iconst 1, 1) := by decide +kernel
theorem dX10_party_30 : decode cX10_party 30 = .ok (.goto 4, 3) := by decide +kernel
theorem dX10_party_33 : decode cX10_party 33 = .ok (.iconst 0, 1) := by decide +kernel
theorem dX10_party_34 : decode cX10_party 34 = .ok (.istore 5, 2) := by decide +kernel
theorem dX10_party_36 : decode cX10_party 36 = .ok (.iload 5, 2) := by decide +kernel
theorem dX10_party_38 : decode cX10_party 38 = .ok (.ifCond .eq 27, 3) := by decide +kernel
theorem dX10_party_41 : decode cX10_party 41 = .ok (.iload_n 3, 1) := by decide +kernel
theorem dX10_party_42 : decode cX10_party 42 = .ok (.bipush 100, 2) := by decide +kernel
theorem dX10_party_44 : decode cX10_party 44 = .ok (.if_icmp .lt 21, 3) := by decide +kernel
theorem dX10_party_47 : decode cX10_party 47 = .ok (.iload_n 3, 1) := by decide +kernel
theorem dX10_party_48 : decode cX10_party 48 = .ok (.bipush 100, 2) := by decide +kernel
theorem dX10_party_50 : decode cX10_party 50 = .ok (.idiv, 1) := by decide +kernel
theorem dX10_party_51 : decode cX10_party 51 = .ok (.bipush 50, 2) := by decide +kernel
theorem dX10_party_53 : decode cX10_party 53 = .ok (.if_icmp .gt 12, 3) := by decide +kernel
theorem dX10_party_56 : decode cX10_party 56 = .ok (.iload_n 3, 1) := by decide +kernel
theorem dX10_party_57 : decode cX10_party 57 = .ok (.bipush 100, 2) := by decide +kernel
theorem dX10_party_59 : decode cX10_party 59 = .ok (.irem, 1) := by decide +kernel
theorem dX10_party_60 : decode cX10_party 60 = .ok (.bipush 50, 2) := by decide +kernel
theorem dX10_party_62 : decode cX10_party 62 = .ok (.if_icmp .le 9, 3) := by decide +kernel
theorem dX10_party_65 : decode cX10_party 65 = .ok (.aload_n 0, 1) := by decide +kernel
theorem dX10_party_66 : decode cX10_party 66 = .ok (.iconst 1, 1) := by decide +kernel
theorem dX10_party_67 : decode cX10_party 67 = .ok (.invokevirtual 82, 3) := by decide +kernel
theorem dX10_party_70 : decode cX10_party 70 = .ok (.ireturn, 1) := by decide +kernel
theorem dX10_party_71 : decode cX10_party 71 = .ok (.aload_n 0, 1) := by decide +kernel
theorem dX10_party_72 : decode cX10_party 72 = .ok (.getfield 12, 3) := by decide +kernel
theorem dX10_party_75 : decode cX10_party 75 = .ok (.getfield 193, 3) := by decide +kernel
theorem dX10_party_78 : decode cX10_party 78 = .ok (.invokevirtual 197, 3) := by decide +kernel
theorem dX10_party_81 : decode cX10_party 81 = .ok (.ifCond .ne 9, 3) := by decide +kernel
theorem dX10_party_90 : decode cX10_party 90 = .ok (.aload_n 0, 1) := by decide +kernel
theorem dX10_party_91 : decode cX10_party 91 = .ok (.getfield 12, 3) := by decide +kernel
theorem dX10_party_94 : decode cX10_party 94 = .ok (.getfield 193, 3) := by decide +kernel
theorem dX10_party_97 : decode cX10_party 97 = .ok (.invokevirtual 200, 3) := by decide +kernel
theorem dX10_party_100 : decode cX10_party 100 = .ok (.istore 6, 2) := by decide +kernel
theorem dX10_party_102 : decode cX10_party 102 = .ok (.aload_n 0, 1) := by decide +kernel
theorem dX10_party_103 : decode cX10_party 103 = .ok (.getfield 12, 3) := by decide +kernel
theorem dX10_party_106 : decode cX10_party 106 = .ok (.getfield 193, 3) := by decide +kernel
theorem dX10_party_109 : decode cX10_party 109 = .ok (.iload 6, 2) := by decide +kernel
theorem dX10_party_111 : decode cX10_party 111 = .ok (.iconst 0, 1) := by decide +kernel
theorem dX10_party_112 : decode cX10_party 112 = .ok (.iload_n 1, 1) := by decide +kernel
theorem dX10_party_113 : decode cX10_party 113 = .ok (.invokevirtual 203, 3) := by decide +kernel
theorem dX10_party_116 : decode cX10_party 116 = .ok (.aload_n 0, 1) := by decide +kernel
theorem dX10_party_117 : decode cX10_party 117 = .ok (.getfield 12, 3) := by decide +kernel
theorem dX10_party_120 : decode cX10_party 120 = .ok (.getfield 193, 3) := by decide +kernel
theorem dX10_party_123 : decode cX10_party 123 = .ok (.iload 6, 2) := by decide +kernel
theorem dX10_party_125 : decode cX10_party 125 = .ok (.iconst 1, 1) := by decide +kernel
theorem dX10_party_126 : decode cX10_party 126 = .ok (.iload_n 2, 1) := by decide +kernel
theorem dX10_party_127 : decode cX10_party 127 = .ok (.invokevirtual 203, 3) := by decide +kernel
theorem dX10_party_130 : decode cX10_party 130 = .ok (.aload_n 0, 1) := by decide +kernel
theorem dX10_party_131 : decode cX10_party 131 = .ok (.getfield 12, 3) := by decide +kernel
theorem dX10_party_134 : decode cX10_party 134 = .ok (.getfield 193, 3) := by decide +kernel
theorem dX10_party_137 : decode cX10_party 137 = .ok (.iload 6, 2) := by decide +kernel
theorem dX10_party_139 : decode cX10_party 139 = .ok (.iconst 2, 1) := by decide +kernel
theorem dX10_party_140 : decode cX10_party 140 = .ok (.iload_n 3, 1) := by decide +kernel
theorem dX10_party_141 : decode cX10_party 141 = .ok (.bipush 100, 2) := by decide +kernel
theorem dX10_party_143 : decode cX10_party 143 = .ok (.idiv, 1) := by decide +kernel
theorem dX10_party_144 : decode cX10_party 144 = .ok (.invokevirtual 203, 3) := by decide +kernel
theorem dX10_party_147 : decode cX10_party 147 = .ok (.aload_n 0, 1) := by decide +kernel
theorem dX10_party_148 : decode cX10_party 148 = .ok (.getfield 12, 3) := by decide +kernel
theorem dX10_party_151 : decode cX10_party 151 = .ok (.getfield 193, 3) := by decide +kernel
theorem dX10_party_154 : decode cX10_party 154 = .ok (.iload 6, 2) := by decide +kernel
theorem dX10_party_156 : decode cX10_party 156 = .ok (.iconst 3, 1) := by decide +kernel
theorem dX10_party_157 : decode cX10_party 157 = .ok (.iload_n 3, 1) := by decide +kernel
theorem dX10_party_158 : decode cX10_party 158 = .ok (.bipush 100, 2) := by decide +kernel
theorem dX10_party_160 : decode cX10_party 160 = .ok (.irem, 1) := by decide +kernel
theorem dX10_party_161 : decode cX10_party 161 = .ok (.invokevirtual 203, 3) := by decide +kernel
theorem dX10_party_164 : decode cX10_party 164 = .ok (.aload_n 0, 1) := by decide +kernel
theorem dX10_party_165 : decode cX10_party 165 = .ok (.getfield 12, 3) := by decide +kernel
theorem dX10_party_168 : decode cX10_party 168 = .ok (.getfield 193, 3) := by decide +kernel
theorem dX10_party_171 : decode cX10_party 171 = .ok (.iload 6, 2) := by decide +kernel
theorem dX10_party_173 : decode cX10_party 173 = .ok (.iconst 4, 1) := by decide +kernel
theorem dX10_party_174 : decode cX10_party 174 = .ok (.iload 4, 2) := by decide +kernel
theorem dX10_party_176 : decode cX10_party 176 = .ok (.invokevirtual 203, 3) := by decide +kernel
theorem dX10_party_179 : decode cX10_party 179 = .ok (.iload 6, 2) := by decide +kernel
theorem dX10_party_181 : decode cX10_party 181 = .ok (.ireturn, 1) := by decide +kernel
theorem dX10_partyIs_0 : decode cX10_partyIs 0 = .ok (.aload_n 0, 1) := by decide +kernel
theorem dX10_partyIs_1 : decode cX10_partyIs 1 = .ok (.getfield 12, 3) := by decide +kernel
theorem dX10_partyIs_4 : decode cX10_partyIs 4 = .ok (.getfield 193, 3) := by decide +kernel
theorem dX10_partyIs_7 : decode cX10_partyIs 7 = .ok (.iload_n 1, 1) := by decide +kernel
theorem dX10_partyIs_8 : decode cX10_partyIs 8 = .ok (.invokevirtual 207, 3) := by decide +kernel
theorem dX10_partyIs_11 : decode cX10_partyIs 11 = .ok (.ifCond .eq 13, 3) := by decide +kernel
theorem dX10_partyIs_24 : decode cX10_partyIs 24 = .ok (.aload_n 0, 1) := by decide +kernel
theorem dX10_partyIs_25 : decode cX10_partyIs 25 = .ok (.iconst 1, 1) := by decide +kernel
theorem dX10_partyIs_26 : decode cX10_partyIs 26 = .ok (.invokevirtual 82, 3) := by decide +kernel
theorem dX10_partyIs_29 : decode cX10_partyIs 29 = .ok (.ireturn, 1) := by decide +kernel
theorem dX10_price_0 : decode cX10_price 0 = .ok (.iload_n 1, 1) := by decide +kernel
theorem dX10_price_1 : decode cX10_price 1 = .ok (.invokestatic 262, 3) := by decide +kernel
theorem dX10_price_4 : decode cX10_price 4 = .ok (.ifCond .ne 9, 3) := by decide +kernel
theorem dX10_price_7 : decode cX10_price 7 = .ok (.aload_n 0, 1) := by decide +kernel
theorem dX10_price_8 : decode cX10_price 8 = .ok (.iconst 1, 1) := by decide +kernel
theorem dX10_price_9 : decode cX10_price 9 = .ok (.invokevirtual 82, 3) := by decide +kernel
theorem dX10_price_12 : decode cX10_price 12 = .ok (.ireturn, 1) := by decide +kernel
theorem dX10_price_13 : decode cX10_price 13 = .ok (.aload_n 0, 1) := by decide +kernel
theorem dX10_price_14 : decode cX10_price 14 = .ok (.iload_n 1, 1) := by decide +kernel
theorem dX10_price_15 : decode cX10_price 15 = .ok (.iload_n 2, 1) := by decide +kernel
theorem dX10_price_16 : decode cX10_price 16 = .ok (.iload_n 3, 1) := by decide +kernel
theorem dX10_price_17 : decode cX10_price 17 = .ok (.iload 4, 2) := by decide +kernel
theorem dX10_price_19 : decode cX10_price 19 = .ok (.invokevirtual 288, 3) := by decide +kernel
theorem dX10_price_22 : decode cX10_price 22 = .ok (.ireturn, 1) := by decide +kernel
theorem dX10_put_0 : decode cX10_put 0 = .ok (.iload_n 1, 1) := by decide +kernel
theorem dX10_put_1 : decode cX10_put 1 = .ok (.invokestatic 173, 3) := by decide +kernel
theorem dX10_put_4 : decode cX10_put 4 = .ok (.ifCond .ne 9, 3) := by decide +kernel
theorem dX10_put_7 : decode cX10_put 7 = .ok (.aload_n 0, 1) := by decide +kernel
theorem dX10_put_8 : decode cX10_put 8 = .ok (.iconst 1, 1) := by decide +kernel
theorem dX10_put_9 : decode cX10_put 9 = .ok (.invokevirtual 82, 3) := by decide +kernel
theorem dX10_put_12 : decode cX10_put 12 = .ok (.ireturn, 1) := by decide +kernel
theorem dX10_put_13 : decode cX10_put 13 = .ok (.aload_n 0, 1) := by decide +kernel
theorem dX10_put_14 : decode cX10_put 14 = .ok (.getfield 70, 3) := by decide +kernel
theorem dX10_put_17 : decode cX10_put 17 = .ok (.iload_n 1, 1) := by decide +kernel
theorem dX10_put_18 : decode cX10_put 18 = .ok (.invokevirtual 176, 3) := by decide +kernel
theorem dX10_put_21 : decode cX10_put 21 = .ok (.ifCond .eq 9, 3) := by decide +kernel
theorem dX10_put_24 : decode cX10_put 24 = .ok (.aload_n 0, 1) := by decide +kernel
theorem dX10_put_25 : decode cX10_put 25 = .ok (.iconst 2, 1) := by decide +kernel
theorem dX10_put_26 : decode cX10_put 26 = .ok (.invokevirtual 82, 3) := by decide +kernel
theorem dX10_put_29 : decode cX10_put 29 = .ok (.ireturn, 1) := by decide +kernel
theorem dX10_rain_0 : decode cX10_rain 0 = .ok (.iload_n 1, 1) := by decide +kernel
theorem dX10_rain_1 : decode cX10_rain 1 = .ok (.ifCond .lt 19, 3) := by decide +kernel
theorem dX10_rain_4 : decode cX10_rain 4 = .ok (.iload_n 1, 1) := by decide +kernel
theorem dX10_rain_5 : decode cX10_rain 5 = .ok (.bipush 12, 2) := by decide +kernel
theorem dX10_rain_7 : decode cX10_rain 7 = .ok (.if_icmp .ge 13, 3) := by decide +kernel
theorem dX10_rain_10 : decode cX10_rain 10 = .ok (.iload_n 2, 1) := by decide +kernel
theorem dX10_rain_11 : decode cX10_rain 11 = .ok (.ifCond .lt 9, 3) := by decide +kernel
theorem dX10_rain_14 : decode cX10_rain 14 = .ok (.iload_n 2, 1) := by decide +kernel
theorem dX10_rain_15 : decode cX10_rain 15 = .ok (.bipush 9, 2) := by decide +kernel
theorem dX10_rain_17 : decode cX10_rain 17 = .ok (.if_icmp .le 9, 3) := by decide +kernel
theorem dX10_rain_20 : decode cX10_rain 20 = .ok (.aload_n 0, 1) := by decide +kernel
theorem dX10_rain_21 : decode cX10_rain 21 = .ok (.iconst 1, 1) := by decide +kernel
theorem dX10_rain_22 : decode cX10_rain 22 = .ok (.invokevirtual 82, 3) := by decide +kernel
theorem dX10_rain_25 : decode cX10_rain 25 = .ok (.ireturn, 1) := by decide +kernel
theorem dX10_rain_26 : decode cX10_rain 26 = .ok (.aload_n 0, 1) := by decide +kernel
theorem dX10_rain_27 : decode cX10_rain 27 = .ok (.getfield 12, 3) := by decide +kernel
theorem dX10_rain_30 : decode cX10_rain 30 = .ok (.getfield 86, 3) := by decide +kernel
theorem dX10_rain_33 : decode cX10_rain 33 = .ok (.iload_n 1, 1) := by decide +kernel
theorem dX10_rain_34 : decode cX10_rain 34 = .ok (.iaload, 1) := by decide +kernel
theorem dX10_rain_35 : decode cX10_rain 35 = .ok (.istore_n 3, 1) := by decide +kernel
theorem dX10_rain_36 : decode cX10_rain 36 = .ok (.aload_n 0, 1) := by decide +kernel
theorem dX10_rain_37 : decode cX10_rain 37 = .ok (.getfield 12, 3) := by decide +kernel
theorem dX10_rain_40 : decode cX10_rain 40 = .ok (.getfield 86, 3) := by decide +kernel
theorem dX10_rain_43 : decode cX10_rain 43 = .ok (.iload_n 1, 1) := by decide +kernel
theorem dX10_rain_44 : decode cX10_rain 44 = .ok (.iload_n 2, 1) := by decide +kernel
theorem dX10_rain_45 : decode cX10_rain 45 = .ok (.iastore, 1) := by decide +kernel
theorem dX10_rain_46 : decode cX10_rain 46 = .ok (.iload_n 3, 1) := by decide +kernel
theorem dX10_rain_47 : decode cX10_rain 47 = .ok (.ireturn, 1) := by decide +kernel
theorem dX10_rate_0 : decode cX10_rate 0 = .ok (.iload_n 1, 1) := by decide +kernel
theorem dX10_rate_1 : decode cX10_rate 1 = .ok (.invokestatic 262, 3) := by decide +kernel
theorem dX10_rate_4 : decode cX10_rate 4 = .ok (.ifCond .eq 10, 3) := by decide +kernel
theorem dX10_rate_7 : decode cX10_rate 7 = .ok (.iload_n 2, 1) := by decide +kernel
theorem dX10_rate_8 : decode cX10_rate 8 = .ok (.invokestatic 265, 3) := by decide +kernel
theorem dX10_rate_11 : decode cX10_rate 11 = .ok (.ifCond .ne 9, 3) := by decide +kernel
theorem dX10_rate_14 : decode cX10_rate 14 = .ok (.aload_n 0, 1) := by decide +kernel
theorem dX10_rate_15 : decode cX10_rate 15 = .ok (.iconst 1, 1) := by decide +kernel
theorem dX10_rate_16 : decode cX10_rate 16 = .ok (.invokevirtual 82, 3) := by decide +kernel
theorem dX10_rate_19 : decode cX10_rate 19 = .ok (.ireturn, 1) := by decide +kernel
theorem dX10_rate_20 : decode cX10_rate 20 = .ok (.aload_n 0, 1) := by decide +kernel
theorem dX10_rate_21 : decode cX10_rate 21 = .ok (.getfield 25, 3) := by decide +kernel
theorem dX10_rate_24 : decode cX10_rate 24 = .ok (.invokevirtual 268, 3) := by decide +kernel
theorem dX10_rate_27 : decode cX10_rate 27 = .ok (.ifCond .ne 9, 3) := by decide +kernel
theorem dX10_rate_36 : decode cX10_rate 36 = .ok (.aload_n 0, 1) := by decide +kernel
theorem dX10_rate_37 : decode cX10_rate 37 = .ok (.getfield 35, 3) := by decide +kernel
theorem dX10_rate_40 : decode cX10_rate 40 = .ok (.aload_n 0, 1) := by decide +kernel
theorem dX10_rate_41 : decode cX10_rate 41 = .ok (.getfield 25, 3) := by decide +kernel
theorem dX10_rate_44 : decode cX10_rate 44 = .ok (.getfield 269, 3) := by decide +kernel
theorem dX10_rate_47 : decode cX10_rate 47 = .ok (.iconst 0, 1) := by decide +kernel
theorem dX10_rate_48 : decode cX10_rate 48 = .ok (.aload_n 0, 1) := by decide +kernel
theorem dX10_rate_49 : decode cX10_rate 49 = .ok (.getfield 25, 3) := by decide +kernel
theorem dX10_rate_52 : decode cX10_rate 52 = .ok (.getfield 255, 3) := by decide +kernel
theorem dX10_rate_55 : decode cX10_rate 55 = .ok (.invokevirtual 272, 3) := by decide +kernel
theorem dX10_rate_58 : decode cX10_rate 58 = .ok (.aload_n 0, 1) := by decide +kernel
theorem dX10_rate_59 : decode cX10_rate 59 = .ok (.getfield 35, 3) := by decide +kernel
theorem dX10_rate_62 : decode cX10_rate 62 = .ok (.iload_n 1, 1) := by decide +kernel
theorem dX10_rate_63 : decode cX10_rate 63 = .ok (.iconst 0, 1) := by decide +kernel
theorem dX10_rate_64 : decode cX10_rate 64 = .ok (.iconst 0, 1) := by decide +kernel
theorem dX10_rate_65 : decode cX10_rate 65 = .ok (.iconst 0, 1) := by decide +kernel
theorem dX10_rate_66 : decode cX10_rate 66 = .ok (.invokevirtual 276, 3) := by decide +kernel
theorem dX10_rate_69 : decode cX10_rate 69 = .ok (.pop, 1) := by decide +kernel
theorem dX10_rate_70 : decode cX10_rate 70 = .ok (.aload_n 0, 1) := by decide +kernel
theorem dX10_rate_71 : decode cX10_rate 71 = .ok (.getfield 35, 3) := by decide +kernel
theorem dX10_rate_74 : decode cX10_rate 74 = .ok (.invokevirtual 279, 3) := by decide +kernel
theorem dX10_rate_77 : decode cX10_rate 77 = .ok (.istore_n 3, 1) := by decide +kernel
theorem dX10_rate_78 : decode cX10_rate 78 = .ok (.iload_n 3, 1) := by decide +kernel
theorem dX10_rate_79 : decode cX10_rate 79 = .ok (.ifCond .lt 16, 3) := by decide +kernel
theorem dX10_rate_82 : decode cX10_rate 82 = .ok (.aload_n 0, 1) := by decide +kernel
theorem dX10_rate_83 : decode cX10_rate 83 = .ok (.getfield 25, 3) := by decide +kernel
theorem dX10_rate_86 : decode cX10_rate 86 = .ok (.iconst 0, 1) := by decide +kernel
theorem dX10_rate_87 : decode cX10_rate 87 = .ok (.putfield 255, 3) := by decide +kernel
theorem dX10_rate_90 : decode cX10_rate 90 = .ok (.bipush (-10), 2) := by decide +kernel
theorem dX10_rate_92 : decode cX10_rate 92 = .ok (.iload_n 3, 1) := by decide +kernel
theorem dX10_rate_93 : decode cX10_rate 93 = .ok (.isub, 1) := by decide +kernel
theorem dX10_rate_94 : decode cX10_rate 94 = .ok (.ireturn, 1) := by decide +kernel
theorem dX10_reach_0 : decode cX10_reach 0 = .ok (.iload_n 1, 1) := by decide +kernel
theorem dX10_reach_1 : decode cX10_reach 1 = .ok (.iconst 1, 1) := by decide +kernel
theorem dX10_reach_2 : decode cX10_reach 2 = .ok (.if_icmp .lt 10, 3) := by decide +kernel
theorem dX10_reach_5 : decode cX10_reach 5 = .ok (.iload_n 1, 1) := by decide +kernel
theorem dX10_reach_6 : decode cX10_reach 6 = .ok (.sipush 200, 3) := by decide +kernel
theorem dX10_reach_9 : decode cX10_reach 9 = .ok (.if_icmp .le 9, 3) := by decide +kernel
theorem dX10_reach_12 : decode cX10_reach 12 = .ok (.aload_n 0, 1) := by decide +kernel
theorem dX10_reach_13 : decode cX10_reach 13 = .ok (.iconst 1, 1) := by decide +kernel
theorem dX10_reach_14 : decode cX10_reach 14 = .ok (.invokevirtual 82, 3) := by decide +kernel
theorem dX10_reach_17 : decode cX10_reach 17 = .ok (.ireturn, 1) := by decide +kernel
theorem dX10_reach_18 : decode cX10_reach 18 = .ok (.aload_n 0, 1) := by decide +kernel
theorem dX10_reach_19 : decode cX10_reach 19 = .ok (.getfield 12, 3) := by decide +kernel
theorem dX10_reach_22 : decode cX10_reach 22 = .ok (.getfield 217, 3) := by decide +kernel
theorem dX10_reach_25 : decode cX10_reach 25 = .ok (.istore_n 2, 1) := by decide +kernel
theorem dX10_reach_26 : decode cX10_reach 26 = .ok (.aload_n 0, 1) := by decide +kernel
theorem dX10_reach_27 : decode cX10_reach 27 = .ok (.getfield 12, 3) := by decide +kernel
theorem dX10_reach_30 : decode cX10_reach 30 = .ok (.iload_n 1, 1) := by decide +kernel
theorem dX10_reach_31 : decode cX10_reach 31 = .ok (.putfield 217, 3) := by decide +kernel
theorem dX10_reach_34 : decode cX10_reach 34 = .ok (.iload_n 2, 1) := by decide +kernel
theorem dX10_reach_35 : decode cX10_reach 35 = .ok (.ireturn, 1) := by decide +kernel
theorem dX10_reads_0 : decode cX10_reads 0 = .ok (.aload_n 0, 1) := by decide +kernel
theorem dX10_reads_1 : decode cX10_reads 1 = .ok (.iload_n 1, 1) := by decide +kernel
theorem dX10_reads_2 : decode cX10_reads 2 = .ok (.iload_n 2, 1) := by decide +kernel
theorem dX10_reads_3 : decode cX10_reads 3 = .ok (.invokevirtual 220, 3) := by decide +kernel
theorem dX10_reads_6 : decode cX10_reads 6 = .ok (.ifCond .ne 9, 3) := by decide +kernel
theorem dX10_reads_9 : decode cX10_reads 9 = .ok (.aload_n 0, 1) := by decide +kernel
theorem dX10_reads_10 : decode cX10_reads 10 = .ok (.iconst 1, 1) := by decide +kernel
theorem dX10_reads_11 : decode cX10_reads 11 = .ok (.invokevirtual 82, 3) := by decide +kernel
theorem dX10_reads_14 : decode cX10_reads 14 = .ok (.ireturn, 1) := by decide +kernel
theorem dX10_rest_0 : decode cX10_rest 0 = .ok (.aload_n 0, 1) := by decide +kernel
theorem dX10_rest_1 : decode cX10_rest 1 = .ok (.getfield 12, 3) := by decide +kernel
theorem dX10_rest_4 : decode cX10_rest 4 = .ok (.getfield 193, 3) := by decide +kernel
theorem dX10_rest_7 : decode cX10_rest 7 = .ok (.iload_n 1, 1) := by decide +kernel
theorem dX10_rest_8 : decode cX10_rest 8 = .ok (.invokevirtual 207, 3) := by decide +kernel
theorem dX10_rest_11 : decode cX10_rest 11 = .ok (.ifCond .ne 9, 3) := by decide +kernel
theorem dX10_rest_14 : decode cX10_rest 14 = .ok (.aload_n 0, 1) := by decide +kernel
theorem dX10_rest_15 : decode cX10_rest 15 = .ok (.iconst 1, 1) := by decide +kernel
theorem dX10_rest_16 : decode cX10_rest 16 = .ok (.invokevirtual 82, 3) := by decide +kernel
theorem dX10_rest_19 : decode cX10_rest 19 = .ok (.ireturn, 1) := by decide +kernel
theorem dX10_restore_0 : decode cX10_restore 0 = .ok (.aload_n 0, 1) := by decide +kernel
theorem dX10_restore_1 : decode cX10_restore 1 = .ok (.getfield 78, 3) := by decide +kernel
theorem dX10_restore_4 : decode cX10_restore 4 = .ok (.ifCond .ne 9, 3) := by decide +kernel
theorem dX10_restore_7 : decode cX10_restore 7 = .ok (.aload_n 0, 1) := by decide +kernel
theorem dX10_restore_8 : decode cX10_restore 8 = .ok (.iconst 2, 1) := by decide +kernel
theorem dX10_restore_9 : decode cX10_restore 9 = .ok (.invokevirtual 82, 3) := by decide +kernel
theorem dX10_restore_12 : decode cX10_restore 12 = .ok (.ireturn, 1) := by decide +kernel
theorem dX10_sheet_0 : decode cX10_sheet 0 = .ok (.iload_n 1, 1) := by decide +kernel
theorem dX10_sheet_1 : decode cX10_sheet 1 = .ok (.invokestatic 173, 3) := by decide +kernel
theorem dX10_sheet_4 : decode cX10_sheet 4 = .ok (.ifCond .eq 25, 3) := by decide +kernel
theorem dX10_sheet_7 : decode cX10_sheet 7 = .ok (.iload_n 2, 1) := by decide +kernel
theorem dX10_sheet_8 : decode cX10_sheet 8 = .ok (.ifCond .eq 27, 3) := by decide +kernel
theorem dX10_sheet_11 : decode cX10_sheet 11 = .ok (.iload_n 2, 1) := by decide +kernel
theorem dX10_sheet_12 : decode cX10_sheet 12 = .ok (.bipush 8, 2) := by decide +kernel
theorem dX10_sheet_14 : decode cX10_sheet 14 = .ok (.if_icmp .eq 21, 3) := by decide +kernel
theorem dX10_sheet_17 : decode cX10_sheet 17 = .ok (.iload_n 2, 1) := by decide +kernel
theorem dX10_sheet_18 : decode cX10_sheet 18 = .ok (.bipush 16, 2) := by decide +kernel
theorem dX10_sheet_20 : decode cX10_sheet 20 = .ok (.if_icmp .eq 15, 3) := by decide +kernel
theorem dX10_sheet_23 : decode cX10_sheet 23 = .ok (.iload_n 2, 1) := by decide +kernel
theorem dX10_sheet_24 : decode cX10_sheet 24 = .ok (.bipush 32, 2) := by decide +kernel
theorem dX10_sheet_26 : decode cX10_sheet 26 = .ok (.if_icmp .eq 9, 3) := by decide +kernel
theorem dX10_sheet_29 : decode cX10_sheet 29 = .ok (.aload_n 0, 1) := by decide +kernel
theorem dX10_sheet_30 : decode cX10_sheet 30 = .ok (.iconst 1, 1) := by decide +kernel
theorem dX10_sheet_31 : decode cX10_sheet 31 = .ok (.invokevirtual 82, 3) := by decide +kernel
theorem dX10_sheet_34 : decode cX10_sheet 34 = .ok (.ireturn, 1) := by decide +kernel
theorem dX10_sheet_35 : decode cX10_sheet 35 = .ok (.iload_n 2, 1) := by decide +kernel
theorem dX10_sheet_36 : decode cX10_sheet 36 = .ok (.ifCond .eq 13, 3) := by decide +kernel
theorem dX10_sheet_39 : decode cX10_sheet 39 = .ok (.iload_n 3, 1) := by decide +kernel
theorem dX10_sheet_40 : decode cX10_sheet 40 = .ok (.ifCond .ge 9, 3) := by decide +kernel
theorem dX10_sheet_43 : decode cX10_sheet 43 = .ok (.aload_n 0, 1) := by decide +kernel
theorem dX10_sheet_44 : decode cX10_sheet 44 = .ok (.iconst 3, 1) := by decide +kernel
theorem dX10_sheet_45 : decode cX10_sheet 45 = .ok (.invokevirtual 82, 3) := by decide +kernel
theorem dX10_sheet_48 : decode cX10_sheet 48 = .ok (.ireturn, 1) := by decide +kernel
theorem dX10_sheet_49 : decode cX10_sheet 49 = .ok (.iload_n 2, 1) := by decide +kernel
theorem dX10_sheet_50 : decode cX10_sheet 50 = .ok (.ifCond .eq 15, 3) := by decide +kernel
theorem dX10_sheet_53 : decode cX10_sheet 53 = .ok (.iload_n 3, 1) := by decide +kernel
theorem dX10_sheet_54 : decode cX10_sheet 54 = .ok (.bipush 36, 2) := by decide +kernel
theorem dX10_sheet_56 : decode cX10_sheet 56 = .ok (.if_icmp .le 9, 3) := by decide +kernel
theorem dX10_sheet_59 : decode cX10_sheet 59 = .ok (.aload_n 0, 1) := by decide +kernel
theorem dX10_sheet_60 : decode cX10_sheet 60 = .ok (.iconst 1, 1) := by decide +kernel
theorem dX10_sheet_61 : decode cX10_sheet 61 = .ok (.invokevirtual 82, 3) := by decide +kernel
theorem dX10_sheet_64 : decode cX10_sheet 64 = .ok (.ireturn, 1) := by decide +kernel
theorem dX10_sheet_65 : decode cX10_sheet 65 = .ok (.aload_n 0, 1) := by decide +kernel
theorem dX10_sheet_66 : decode cX10_sheet 66 = .ok (.getfield 70, 3) := by decide +kernel
theorem dX10_sheet_69 : decode cX10_sheet 69 = .ok (.iload_n 1, 1) := by decide +kernel
theorem dX10_sheet_70 : decode cX10_sheet 70 = .ok (.iload_n 2, 1) := by decide +kernel
theorem dX10_sheet_71 : decode cX10_sheet 71 = .ok (.iload_n 2, 1) := by decide +kernel
theorem dX10_sheet_72 : decode cX10_sheet 72 = .ok (.ifCond .ne 7, 3) := by decide +kernel
theorem dX10_sheet_75 : decode cX10_sheet 75 = .ok (.iconst 0, 1) := by decide +kernel
theorem dX10_sheet_76 : decode cX10_sheet 76 = .ok (.goto 4, 3) := by decide +kernel
theorem dX10_sheet_79 : decode cX10_sheet 79 = .ok (.iload_n 3, 1) := by decide +kernel
theorem dX10_sheet_80 : decode cX10_sheet 80 = .ok (.invokevirtual 359, 3) := by decide +kernel
theorem dX10_sheet_83 : decode cX10_sheet 83 = .ok (.iconst 1, 1) := by decide +kernel
theorem dX10_sheet_84 : decode cX10_sheet 84 = .ok (.ireturn, 1) := by decide +kernel
theorem dX10_slip_0 : decode cX10_slip 0 = .ok (.iload_n 1, 1) := by decide +kernel
theorem dX10_slip_1 : decode cX10_slip 1 = .ok (.invokestatic 173, 3) := by decide +kernel
theorem dX10_slip_4 : decode cX10_slip 4 = .ok (.ifCond .eq 18, 3) := by decide +kernel
theorem dX10_slip_7 : decode cX10_slip 7 = .ok (.aload_n 0, 1) := by decide +kernel
theorem dX10_slip_8 : decode cX10_slip 8 = .ok (.iload_n 2, 1) := by decide +kernel
theorem dX10_slip_9 : decode cX10_slip 9 = .ok (.iload_n 3, 1) := by decide +kernel
theorem dX10_slip_10 : decode cX10_slip 10 = .ok (.invokevirtual 220, 3) := by decide +kernel
theorem dX10_slip_13 : decode cX10_slip 13 = .ok (.ifCond .eq 9, 3) := by decide +kernel
theorem dX10_slip_22 : decode cX10_slip 22 = .ok (.aload_n 0, 1) := by decide +kernel
theorem dX10_slip_23 : decode cX10_slip 23 = .ok (.iconst 1, 1) := by decide +kernel
theorem dX10_slip_24 : decode cX10_slip 24 = .ok (.invokevirtual 82, 3) := by decide +kernel
theorem dX10_slip_27 : decode cX10_slip 27 = .ok (.ireturn, 1) := by decide +kernel
theorem dX10_soils_0 : decode cX10_soils 0 = .ok (.iload_n 1, 1) := by decide +kernel
theorem dX10_soils_1 : decode cX10_soils 1 = .ok (.invokestatic 173, 3) := by decide +kernel
theorem dX10_soils_4 : decode cX10_soils 4 = .ok (.ifCond .eq 10, 3) := by decide +kernel
theorem dX10_soils_7 : decode cX10_soils 7 = .ok (.iload_n 2, 1) := by decide +kernel
theorem dX10_soils_8 : decode cX10_soils 8 = .ok (.invokestatic 89, 3) := by decide +kernel
theorem dX10_soils_11 : decode cX10_soils 11 = .ok (.ifCond .ne 9, 3) := by decide +kernel
theorem dX10_soils_14 : decode cX10_soils 14 = .ok (.aload_n 0, 1) := by decide +kernel
theorem dX10_soils_15 : decode cX10_soils 15 = .ok (.iconst 1, 1) := by decide +kernel
theorem dX10_soils_16 : decode cX10_soils 16 = .ok (.invokevirtual 82, 3) := by decide +kernel
theorem dX10_soils_19 : decode cX10_soils 19 = .ok (.ireturn, 1) := by decide +kernel
theorem dX10_soils_20 : decode cX10_soils 20 = .ok (.aload_n 0, 1) := by decide +kernel
theorem dX10_soils_21 : decode cX10_soils 21 = .ok (.getfield 70, 3) := by decide +kernel
theorem dX10_soils_24 : decode cX10_soils 24 = .ok (.iload_n 1, 1) := by decide +kernel
theorem dX10_soils_25 : decode cX10_soils 25 = .ok (.invokevirtual 176, 3) := by decide +kernel
theorem dX10_soils_28 : decode cX10_soils 28 = .ok (.ifCond .eq 9, 3) := by decide +kernel
theorem dX10_soils_31 : decode cX10_soils 31 = .ok (.aload_n 0, 1) := by decide +kernel
theorem dX10_soils_32 : decode cX10_soils 32 = .ok (.iconst 2, 1) := by decide +kernel
theorem dX10_soils_33 : decode cX10_soils 33 = .ok (.invokevirtual 82, 3) := by decide +kernel
theorem dX10_soils_36 : decode cX10_soils 36 = .ok (.ireturn, 1) := by decide +kernel
theorem dX10_tell_0 : decode cX10_tell 0 = .ok (.aload_n 0, 1) := by decide +kernel
theorem dX10_tell_1 : decode cX10_tell 1 = .ok (.getfield 12, 3) := by decide +kernel
theorem dX10_tell_4 : decode cX10_tell 4 = .ok (.getfield 381, 3) := by decide +kernel
theorem dX10_tell_7 : decode cX10_tell 7 = .ok (.ifCond .lt 15, 3) := by decide +kernel
theorem dX10_tell_10 : decode cX10_tell 10 = .ok (.aload_n 0, 1) := by decide +kernel
theorem dX10_tell_11 : decode cX10_tell 11 = .ok (.getfield 12, 3) := by decide +kernel
theorem dX10_tell_14 : decode cX10_tell 14 = .ok (.getfield 381, 3) := by decide +kernel
theorem dX10_tell_17 : decode cX10_tell 17 = .ok (.bipush 20, 2) := by decide +kernel
theorem dX10_tell_19 : decode cX10_tell 19 = .ok (.if_icmp .lt 9, 3) := by decide +kernel
theorem dX10_tell_28 : decode cX10_tell 28 = .ok (.aload_n 0, 1) := by decide +kernel
theorem dX10_tell_29 : decode cX10_tell 29 = .ok (.getfield 12, 3) := by decide +kernel
theorem dX10_tell_32 : decode cX10_tell 32 = .ok (.getfield 384, 3) := by decide +kernel
theorem dX10_tell_35 : decode cX10_tell 35 = .ok (.aload_n 0, 1) := by decide +kernel
theorem dX10_tell_36 : decode cX10_tell 36 = .ok (.getfield 12, 3) := by decide +kernel
theorem dX10_tell_39 : decode cX10_tell 39 = .ok (.getfield 381, 3) := by decide +kernel
theorem dX10_tell_42 : decode cX10_tell 42 = .ok (.iload_n 1, 1) := by decide +kernel
theorem dX10_tell_43 : decode cX10_tell 43 = .ok (.iastore, 1) := by decide +kernel
theorem dX10_tell_44 : decode cX10_tell 44 = .ok (.aload_n 0, 1) := by decide +kernel
theorem dX10_tell_45 : decode cX10_tell 45 = .ok (.getfield 12, 3) := by decide +kernel
theorem dX10_tell_48 : decode cX10_tell 48 = .ok (.dup, 1) := by decide +kernel
theorem dX10_tell_49 : decode cX10_tell 49 = .ok (.getfield 381, 3) := by decide +kernel
theorem dX10_tell_52 : decode cX10_tell 52 = .ok (.iconst 1, 1) := by decide +kernel
theorem dX10_tell_53 : decode cX10_tell 53 = .ok (.iadd, 1) := by decide +kernel
theorem dX10_tell_54 : decode cX10_tell 54 = .ok (.putfield 381, 3) := by decide +kernel
theorem dX10_tell_57 : decode cX10_tell 57 = .ok (.aload_n 0, 1) := by decide +kernel
theorem dX10_tell_58 : decode cX10_tell 58 = .ok (.getfield 12, 3) := by decide +kernel
theorem dX10_tell_61 : decode cX10_tell 61 = .ok (.getfield 381, 3) := by decide +kernel
theorem dX10_tell_64 : decode cX10_tell 64 = .ok (.ireturn, 1) := by decide +kernel
theorem dX10_trace_0 : decode cX10_trace 0 = .ok (.iload_n 1, 1) := by decide +kernel
theorem dX10_trace_1 : decode cX10_trace 1 = .ok (.ifCond .lt 14, 3) := by decide +kernel
theorem dX10_trace_4 : decode cX10_trace 4 = .ok (.iload_n 1, 1) := by decide +kernel
theorem dX10_trace_5 : decode cX10_trace 5 = .ok (.aload_n 0, 1) := by decide +kernel
theorem dX10_trace_6 : decode cX10_trace 6 = .ok (.getfield 63, 3) := by decide +kernel
theorem dX10_trace_9 : decode cX10_trace 9 = .ok (.getfield 353, 3) := by decide +kernel
theorem dX10_trace_12 : decode cX10_trace 12 = .ok (.if_icmp .lt 9, 3) := by decide +kernel
theorem dX10_trace_15 : decode cX10_trace 15 = .ok (.aload_n 0, 1) := by decide +kernel
theorem dX10_trace_16 : decode cX10_trace 16 = .ok (.iconst 2, 1) := by decide +kernel
theorem dX10_trace_17 : decode cX10_trace 17 = .ok (.invokevirtual 82, 3) := by decide +kernel
theorem dX10_trace_20 : decode cX10_trace 20 = .ok (.ireturn, 1) := by decide +kernel
theorem dX10_turn_0 : decode cX10_turn 0 = .ok (.aload_n 0, 1) := by decide +kernel
theorem dX10_turn_1 : decode cX10_turn 1 = .ok (.getfield 12, 3) := by decide +kernel
theorem dX10_turn_4 : decode cX10_turn 4 = .ok (.getfield 193, 3) := by decide +kernel
theorem dX10_turn_7 : decode cX10_turn 7 = .ok (.iload_n 1, 1) := by decide +kernel
theorem dX10_turn_8 : decode cX10_turn 8 = .ok (.invokevirtual 207, 3) := by decide +kernel
theorem dX10_turn_11 : decode cX10_turn 11 = .ok (.ifCond .ne 9, 3) := by decide +kernel
theorem dX10_turn_14 : decode cX10_turn 14 = .ok (.aload_n 0, 1) := by decide +kernel
theorem dX10_turn_15 : decode cX10_turn 15 = .ok (.iconst 1, 1) := by decide +kernel
theorem dX10_turn_16 : decode cX10_turn 16 = .ok (.invokevirtual 82, 3) := by decide +kernel
theorem dX10_turn_19 : decode cX10_turn 19 = .ok (.ireturn, 1) := by decide +kernel
theorem dX10_valueOf_0 : decode cX10_valueOf 0 = .ok (.aload_n 0, 1) := by decide +kernel
theorem dX10_valueOf_1 : decode cX10_valueOf 1 = .ok (.getfield 25, 3) := by decide +kernel
theorem dX10_valueOf_4 : decode cX10_valueOf 4 = .ok (.iload_n 1, 1) := by decide +kernel
theorem dX10_valueOf_5 : decode cX10_valueOf 5 = .ok (.aload_n 0, 1) := by decide +kernel
theorem dX10_valueOf_6 : decode cX10_valueOf 6 = .ok (.getfield 12, 3) := by decide +kernel
theorem dX10_valueOf_9 : decode cX10_valueOf 9 = .ok (.getfield 109, 3) := by decide +kernel
theorem dX10_valueOf_12 : decode cX10_valueOf 12 = .ok (.invokevirtual 285, 3) := by decide +kernel
theorem dX10_valueOf_15 : decode cX10_valueOf 15 = .ok (.istore 5, 2) := by decide +kernel
theorem dX10_valueOf_17 : decode cX10_valueOf 17 = .ok (.iload 5, 2) := by decide +kernel
theorem dX10_valueOf_19 : decode cX10_valueOf 19 = .ok (.ifCond .lt 31, 3) := by decide +kernel
theorem dX10_valueOf_50 : decode cX10_valueOf 50 = .ok (.iload_n 1, 1) := by decide +kernel
theorem dX10_valueOf_51 : decode cX10_valueOf 51 = .ok (.lookupswitch 75 #[(0, 25), (1, 50)], 25) := by decide +kernel
theorem dX10_valueOf_76 : decode cX10_valueOf 76 = .ok (.iload 5, 2) := by decide +kernel
theorem dX10_valueOf_78 : decode cX10_valueOf 78 = .ok (.ifCond .ge 10, 3) := by decide +kernel
theorem dX10_valueOf_81 : decode cX10_valueOf 81 = .ok (.iload_n 2, 1) := by decide +kernel
theorem dX10_valueOf_82 : decode cX10_valueOf 82 = .ok (.iload 4, 2) := by decide +kernel
theorem dX10_valueOf_84 : decode cX10_valueOf 84 = .ok (.imul, 1) := by decide +kernel
theorem dX10_valueOf_85 : decode cX10_valueOf 85 = .ok (.goto 15, 3) := by decide +kernel
theorem dX10_valueOf_100 : decode cX10_valueOf 100 = .ok (.ireturn, 1) := by decide +kernel
theorem dX10_valueOf_101 : decode cX10_valueOf 101 = .ok (.iload 5, 2) := by decide +kernel
theorem dX10_valueOf_103 : decode cX10_valueOf 103 = .ok (.ifCond .ge 10, 3) := by decide +kernel
theorem dX10_valueOf_106 : decode cX10_valueOf 106 = .ok (.bipush 70, 2) := by decide +kernel
theorem dX10_valueOf_108 : decode cX10_valueOf 108 = .ok (.iload_n 2, 1) := by decide +kernel
theorem dX10_valueOf_109 : decode cX10_valueOf 109 = .ok (.imul, 1) := by decide +kernel
theorem dX10_valueOf_110 : decode cX10_valueOf 110 = .ok (.goto 15, 3) := by decide +kernel
theorem dX10_valueOf_125 : decode cX10_valueOf 125 = .ok (.ireturn, 1) := by decide +kernel
theorem dX10_valueOf_126 : decode cX10_valueOf 126 = .ok (.iconst 0, 1) := by decide +kernel
theorem dX10_valueOf_127 : decode cX10_valueOf 127 = .ok (.iload 5, 2) := by decide +kernel
theorem dX10_valueOf_129 : decode cX10_valueOf 129 = .ok (.ifCond .ge 10, 3) := by decide +kernel
theorem dX10_valueOf_132 : decode cX10_valueOf 132 = .ok (.iload_n 3, 1) := by decide +kernel
theorem dX10_valueOf_133 : decode cX10_valueOf 133 = .ok (.iload 4, 2) := by decide +kernel
theorem dX10_valueOf_135 : decode cX10_valueOf 135 = .ok (.isub, 1) := by decide +kernel
theorem dX10_valueOf_136 : decode cX10_valueOf 136 = .ok (.goto 15, 3) := by decide +kernel
theorem dX10_valueOf_151 : decode cX10_valueOf 151 = .ok (.invokestatic 247, 3) := by decide +kernel
theorem dX10_valueOf_154 : decode cX10_valueOf 154 = .ok (.ireturn, 1) := by decide +kernel
theorem dX10_voice_0 : decode cX10_voice 0 = .ok (.aload_n 0, 1) := by decide +kernel
theorem dX10_voice_1 : decode cX10_voice 1 = .ok (.getfield 12, 3) := by decide +kernel
theorem dX10_voice_4 : decode cX10_voice 4 = .ok (.getfield 99, 3) := by decide +kernel
theorem dX10_voice_7 : decode cX10_voice 7 = .ok (.iload_n 1, 1) := by decide +kernel
theorem dX10_voice_8 : decode cX10_voice 8 = .ok (.invokevirtual 116, 3) := by decide +kernel
theorem dX10_voice_11 : decode cX10_voice 11 = .ok (.ifCond .eq 12, 3) := by decide +kernel
theorem dX10_voice_23 : decode cX10_voice 23 = .ok (.aload_n 0, 1) := by decide +kernel
theorem dX10_voice_24 : decode cX10_voice 24 = .ok (.iconst 1, 1) := by decide +kernel
theorem dX10_voice_25 : decode cX10_voice 25 = .ok (.invokevirtual 82, 3) := by decide +kernel
theorem dX10_voice_28 : decode cX10_voice 28 = .ok (.ireturn, 1) := by decide +kernel
theorem dX10_work_0 : decode cX10_work 0 = .ok (.iload_n 1, 1) := by decide +kernel
theorem dX10_work_1 : decode cX10_work 1 = .ok (.ifCond .lt 27, 3) := by decide +kernel
theorem dX10_work_4 : decode cX10_work 4 = .ok (.iload_n 1, 1) := by decide +kernel
theorem dX10_work_5 : decode cX10_work 5 = .ok (.bipush 6, 2) := by decide +kernel
theorem dX10_work_7 : decode cX10_work 7 = .ok (.if_icmp .ge 21, 3) := by decide +kernel
theorem dX10_work_10 : decode cX10_work 10 = .ok (.iload_n 2, 1) := by decide +kernel
theorem dX10_work_11 : decode cX10_work 11 = .ok (.invokestatic 89, 3) := by decide +kernel
theorem dX10_work_14 : decode cX10_work 14 = .ok (.ifCond .eq 14, 3) := by decide +kernel
theorem dX10_work_17 : decode cX10_work 17 = .ok (.iload_n 3, 1) := by decide +kernel
theorem dX10_work_18 : decode cX10_work 18 = .ok (.iconst 1, 1) := by decide +kernel
theorem dX10_work_19 : decode cX10_work 19 = .ok (.if_icmp .lt 9, 3) := by decide +kernel
theorem dX10_work_22 : decode cX10_work 22 = .ok (.iload_n 3, 1) := by decide +kernel
theorem dX10_work_23 : decode cX10_work 23 = .ok (.bipush 50, 2) := by decide +kernel
theorem dX10_work_25 : decode cX10_work 25 = .ok (.if_icmp .le 9, 3) := by decide +kernel
theorem dX10_work_28 : decode cX10_work 28 = .ok (.aload_n 0, 1) := by decide +kernel
theorem dX10_work_29 : decode cX10_work 29 = .ok (.iconst 1, 1) := by decide +kernel
theorem dX10_work_30 : decode cX10_work 30 = .ok (.invokevirtual 82, 3) := by decide +kernel
theorem dX10_work_33 : decode cX10_work 33 = .ok (.ireturn, 1) := by decide +kernel
theorem dX10_work_34 : decode cX10_work 34 = .ok (.aload_n 0, 1) := by decide +kernel
theorem dX10_work_35 : decode cX10_work 35 = .ok (.getfield 12, 3) := by decide +kernel
theorem dX10_work_38 : decode cX10_work 38 = .ok (.getfield 99, 3) := by decide +kernel
theorem dX10_work_41 : decode cX10_work 41 = .ok (.invokevirtual 103, 3) := by decide +kernel
theorem dX10_work_44 : decode cX10_work 44 = .ok (.ifCond .ne 9, 3) := by decide +kernel
theorem dX10_work_53 : decode cX10_work 53 = .ok (.aload_n 0, 1) := by decide +kernel
theorem dX10_work_54 : decode cX10_work 54 = .ok (.getfield 12, 3) := by decide +kernel
theorem dX10_work_57 : decode cX10_work 57 = .ok (.getfield 99, 3) := by decide +kernel
theorem dX10_work_60 : decode cX10_work 60 = .ok (.iload_n 1, 1) := by decide +kernel
theorem dX10_work_61 : decode cX10_work 61 = .ok (.iload_n 2, 1) := by decide +kernel
theorem dX10_work_62 : decode cX10_work 62 = .ok (.iload_n 3, 1) := by decide +kernel
theorem dX10_work_63 : decode cX10_work 63 = .ok (.aload_n 0, 1) := by decide +kernel
theorem dX10_work_64 : decode cX10_work 64 = .ok (.getfield 12, 3) := by decide +kernel
theorem dX10_work_67 : decode cX10_work 67 = .ok (.getfield 109, 3) := by decide +kernel
theorem dX10_work_70 : decode cX10_work 70 = .ok (.invokevirtual 112, 3) := by decide +kernel
theorem dX10_work_73 : decode cX10_work 73 = .ok (.ireturn, 1) := by decide +kernel
theorem dX10_workIs_0 : decode cX10_workIs 0 = .ok (.aload_n 0, 1) := by decide +kernel
theorem dX10_workIs_1 : decode cX10_workIs 1 = .ok (.getfield 12, 3) := by decide +kernel
theorem dX10_workIs_4 : decode cX10_workIs 4 = .ok (.getfield 99, 3) := by decide +kernel
theorem dX10_workIs_7 : decode cX10_workIs 7 = .ok (.iload_n 1, 1) := by decide +kernel
theorem dX10_workIs_8 : decode cX10_workIs 8 = .ok (.invokevirtual 116, 3) := by decide +kernel
theorem dX10_workIs_11 : decode cX10_workIs 11 = .ok (.ifCond .ne 9, 3) := by decide +kernel
theorem dX10_workIs_14 : decode cX10_workIs 14 = .ok (.aload_n 0, 1) := by decide +kernel
theorem dX10_workIs_15 : decode cX10_workIs 15 = .ok (.iconst 1, 1) := by decide +kernel
theorem dX10_workIs_16 : decode cX10_workIs 16 = .ok (.invokevirtual 82, 3) := by decide +kernel
theorem dX10_workIs_19 : decode cX10_workIs 19 = .ok (.ireturn, 1) := by decide +kernel
def sp_rain (a b : Int32) : Int32 := if 0 ≤ a.toInt ∧ a.toInt ≤ 11 ∧ 0 ≤ b.toInt ∧ b.toInt ≤ 9 then 2 else (-1000001)
def sp_land (a b d : Int32) : Int32 := if 0 ≤ a.toInt ∧ a.toInt ≤ 39 ∧ 0 ≤ b.toInt ∧ b.toInt ≤ 2 ∧ 0 ≤ d.toInt ∧ d.toInt ≤ 99 then 0 else (-1000001)
def sp_work (a b d : Int32) : Int32 := if 0 ≤ a.toInt ∧ a.toInt ≤ 5 ∧ 0 ≤ b.toInt ∧ b.toInt ≤ 39 ∧ 1 ≤ d.toInt ∧ d.toInt ≤ 50 then 0 else (-1000001)
def sp_mileIs (a b : Int32) : Int32 := if 0 ≤ a.toInt ∧ a.toInt ≤ 39 then (if 0 ≤ b.toInt ∧ b.toInt ≤ 5 then (if b.toInt = 3 then (-1) else if b.toInt = 4 then 10 else 0) else (-1000001)) else (-1000001)
def sp_soils (a b : Int32) : Int32 := if 0 ≤ a.toInt ∧ a.toInt ≤ 3 ∧ 0 ≤ b.toInt ∧ b.toInt ≤ 39 then (-1000002) else (-1000001)
def sp_party (a b d g : Int32) : Int32 := if 0 ≤ a.toInt ∧ a.toInt ≤ 39 ∧ (b.toInt = 1 ∨ b.toInt = -1) ∧ 0 ≤ g.toInt ∧ g.toInt ≤ 99 ∧ 100 ≤ d.toInt ∧ d.toInt / 100 ≤ 50 ∧ d.toInt % 100 ≤ 50 then 0 else (-1000001)
def sp_reach (a : Int32) : Int32 := if 1 ≤ a.toInt ∧ a.toInt ≤ 200 then 40 else (-1000001)
def sp_feed (a : Int32) : Int32 := if 1 ≤ a.toInt ∧ a.toInt ≤ 8 then a else (-1000001)
def sp_rate (a b : Int32) : Int32 := if 0 ≤ a.toInt ∧ a.toInt ≤ 2 ∧ 0 ≤ b.toInt ∧ b.toInt ≤ 2000 then (-10) else (-1000001)
def sp_force (a b : Int32) : Int32 := if 0 ≤ a.toInt ∧ a.toInt ≤ 2 ∧ 0 ≤ b.toInt ∧ b.toInt ≤ 2000 then (-1000002) else (-1000001)
def sp_val (a b d g : Int32) : Int32 := if a.toInt = 0 then b * g else if a.toInt = 1 then 70 * b else if (0 : Int32) < d - g then d - g else 0
def sp_price (a b d g : Int32) : Int32 := if 0 ≤ a.toInt ∧ a.toInt ≤ 2 then sp_val a b d g else (-1000001)
def sp_owed (a : Int32) : Int32 := if 0 ≤ a.toInt ∧ a.toInt ≤ 2000 then 0 else (-1000001)
def sp_days (a : Int32) : Int32 := if 1 ≤ a.toInt ∧ a.toInt ≤ 200 then a else (-1000001)
def sp_ahead (a b : Int32) : Int32 := if 0 ≤ a.toInt ∧ a.toInt ≤ 200 ∧ 9 ≤ b.toInt ∧ b.toInt ≤ 10 then 0 else (-1000001)
def sp_joined (a b : Int32) : Int32 := if 0 ≤ a.toInt ∧ a.toInt ≤ 39 ∧ 0 ≤ b.toInt ∧ b.toInt ≤ 39 ∧ a.toInt ≤ b.toInt then (-1000002) else (-1000001)
def sp_sheet (a b d : Int32) : Int32 := if 0 ≤ a.toInt ∧ a.toInt ≤ 3 ∧ (b.toInt = 0 ∨ b.toInt = 8 ∨ b.toInt = 16 ∨ b.toInt = 32) then (if b.toInt = 0 then 1 else if d.toInt < 0 then (-1000003) else if 36 < d.toInt then (-1000001) else 1) else (-1000001)
def sp_put (a : Int32) : Int32 := if 0 ≤ a.toInt ∧ a.toInt ≤ 3 then (-1000002) else (-1000001)
def sp_move (a b : Int32) : Int32 := if 0 ≤ a.toInt ∧ a.toInt ≤ 3 ∧ 0 ≤ b.toInt ∧ b.toInt ≤ 3 then (-1000002) else (-1000001)
def sp_count (a : Int32) : Int32 := if 0 ≤ a.toInt ∧ a.toInt ≤ 12 then 0 else (-1000001)
def sp_found (a : Int32) : Int32 := if 1 ≤ a.toInt ∧ a.toInt ≤ 5 then 0 else (-1000001)
/-- where a break can be: 100 times the least and the greatest, told as a whole number -/
def sp_broke (a i j b k q : Int) : Int := if 0 ≤ a ∧ b ≤ 39 ∧ a < b ∧ 0 ≤ i ∧ i ≤ j ∧ j ≤ 39 ∧ 0 ≤ k ∧ k ≤ q ∧ q ≤ 39 then (if k_max (a + i) (b - q) ≤ k_min (a + j) (b - k) then 100 * k_max (a + i) (b - q) + k_min (a + j) (b - k) else -1000002) else -1000001
set_option maxHeartbeats 4000000 in
set_option maxRecDepth 100000 in
theorem c_X10_rain (l : Launch) (D : va_G) (cI : ClassId) (x nw kp fu ra kr rd wd ld mt vo sh fd w0 w1 w2 w3 w4 w5 : Nat) (sz : Nat) (im : Int32) (ff : Nat → Int32) (wt : Int32) (re : Int32) (dy : Int32) (a : Int32) (b : Int32) : Met l yX10_rain (gW yX10_rain cX10_rain 4 (some .int)) ({ frames := 1, cells := 0, slots := 0, locals := 21 } : Room) (kPre D cI [.ref x, .int a, .int b] [(x, .inr (10, [.ref nw, .ref kp, .ref fu, .ref ra, .ref kr, .ref rd, .ref wd, .ref ld, .ref mt, .ref vo, .ref sh, .ref fd, .int im])), (nw, .inr (9, [.ref w0, .ref w1, .ref w2, .ref w3, .ref w4, .ref w5, .int wt, .int re, .int dy])), (w0, .inl (cI, 12, .inl (fun _ => (2 : Int32)))), (fd, .inl (cI, 6, .inl ff))] sz) (va_Qi (fun (r : Int32) (u : Unit) => r = sp_rain a b) (fun u t => kWd D cI (va_A [(x, .inr (10, [.ref nw, .ref kp, .ref fu, .ref ra, .ref kr, .ref rd, .ref wd, .ref ld, .ref mt, .ref vo, .ref sh, .ref fd, .int im])), (nw, .inr (9, [.ref w0, .ref w1, .ref w2, .ref w3, .ref w4, .ref w5, .int wt, .int re, .int dy])), (w0, .inl (cI, 12, .inl (fun _ => (2 : Int32)))), (fd, .inl (cI, 6, .inl ff))] sz) [] t) (va_A [(x, .inr (10, [.ref nw, .ref kp, .ref fu, .ref ra, .ref kr, .ref rd, .ref wd, .ref ld, .ref mt, .ref vo, .ref sh, .ref fd, .int im])), (nw, .inr (9, [.ref w0, .ref w1, .ref w2, .ref w3, .ref w4, .ref w5, .int wt, .int re, .int dy])), (w0, .inl (cI, 12, .inl (fun _ => (2 : Int32)))), (fd, .inl (cI, 6, .inl ff))] sz)) 0 0 (va_A [(x, .inr (10, [.ref nw, .ref kp, .ref fu, .ref ra, .ref kr, .ref rd, .ref wd, .ref ld, .ref mt, .ref vo, .ref sh, .ref fd, .int im])), (nw, .inr (9, [.ref w0, .ref w1, .ref w2, .ref w3, .ref w4, .ref w5, .int wt, .int re, .int dy])), (w0, .inl (cI, 12, .inl (fun _ => (2 : Int32)))), (fd, .inl (cI, 6, .inl ff))] sz) := by
  refine kMetI (own := RX10) (by decide) rfl (Nat.le_of_ble_eq_true rfl) ?_
  intro p e s m args below meth c hx hb hT hown hname hml A Q hK hP hD hS hA hN hRet ls hl
  have hl : lv_has ls 4 [(0, .ref x), (1, .int a), (2, .int b)] := hl
  have lo_a := k_lo a
  have hi_a := k_hi a
  have lo_b := k_lo b
  have hi_b := k_hi b
  have lo_im := k_lo im
  have hi_im := k_hi im
  have lo_wt := k_lo wt
  have hi_wt := k_hi wt
  have lo_re := k_lo re
  have hi_re := k_hi re
  have lo_dy := k_lo dy
  have hi_dy := k_hi dy
  refine lv_iload_n hx hb dX10_rain_0 rfl (lv_at hl 1 rfl) ?_
  refine b_if_lt hx hb rfl (tgt := 20) dX10_rain_1 (by decide) (fun c_1 => ?_) (fun c_1 => ?_)
  · refine lv_aload_n hx hb dX10_rain_20 rfl (lv_at hl 0 rfl) ?_
    refine lv_iconst (v := 1) hx hb dX10_rain_21 (by decide) ?_
    refine kJi (wr := [(nw, .inr (9, [.ref w0, .ref w1, .ref w2, .ref w3, .ref w4, .ref w5, .int wt, .int re, .int dy])), (w0, .inl (cI, 12, .inl (fun _ => (2 : Int32))))]) (va_runV (As := [.int 1]) (rest := []) ⟨hx, hb, hml, hown, hT⟩ (c_X10_finding l D cI x nw kp fu ra kr rd wd ld mt vo sh fd s.heap.size im ff 1 (by first | omega | (simp only [zl_1] <;> omega) | decide | assumption | rfl) (by first | omega | (simp only [zl_1] <;> omega) | decide | assumption | rfl)) (cwV 1 hT (gV_in mw_338 mw_335 mw_337 mw_p1_0 mw_1) rfl rfl rfl (by decide +kernel) ⟨Nat.le_of_ble_eq_true rfl, Nat.le_of_ble_eq_true rfl⟩) (kRecv (own := "") (q0 := 0) (ci := 10) hK hP hD hN rfl rfl [0, 3] rfl (by decide)) rfl rfl hl.1 rfl (lv_room (Nat.le_of_ble_eq_true rfl)) dX10_rain_22 ⟨Nat.le_of_ble_eq_true rfl, Nat.le_of_ble_eq_true rfl⟩) hP hD hS hA [0, 3] [1, 2] rfl rfl (by decide) (by decide) (fun r_2 u_4 H locs w_3 hP hD hS => ?_)
    have hP : va_P D vwCl [(nw, .inr (9, [.ref w0, .ref w1, .ref w2, .ref w3, .ref w4, .ref w5, .int wt, .int re, .int dy])), (w0, .inl (cI, 12, .inl (fun _ => (2 : Int32))))] H := hP
    have hD : va_D A [(nw, .inr (9, [.ref w0, .ref w1, .ref w2, .ref w3, .ref w4, .ref w5, .int wt, .int re, .int dy])), (w0, .inl (cI, 12, .inl (fun _ => (2 : Int32))))] := hD
    have hr_2 := w_3
    obtain rfl : r_2 = (-1000001) := hr_2.trans (by decide)
    exact hRet () [] (by unfold sp_rain; repeat (first | rw [if_pos (by omega)] | rw [if_neg (by omega)])) hP hD (by decide) rfl hS rfl dX10_rain_25
  · refine lv_iload_n hx hb dX10_rain_4 rfl (lv_at hl 1 rfl) ?_
    refine lv_bipush (v := 12) hx hb dX10_rain_5 (by decide) ?_
    refine b_icmp_ge hx hb rfl zl_12 (tgt := 20) dX10_rain_7 (by decide) (fun c_5 => ?_) (fun c_5 => ?_)
    · refine lv_aload_n hx hb dX10_rain_20 rfl (lv_at hl 0 rfl) ?_
      refine lv_iconst (v := 1) hx hb dX10_rain_21 (by decide) ?_
      refine kJi (wr := [(nw, .inr (9, [.ref w0, .ref w1, .ref w2, .ref w3, .ref w4, .ref w5, .int wt, .int re, .int dy])), (w0, .inl (cI, 12, .inl (fun _ => (2 : Int32))))]) (va_runV (As := [.int 1]) (rest := []) ⟨hx, hb, hml, hown, hT⟩ (c_X10_finding l D cI x nw kp fu ra kr rd wd ld mt vo sh fd s.heap.size im ff 1 (by first | omega | (simp only [zl_1] <;> omega) | decide | assumption | rfl) (by first | omega | (simp only [zl_1] <;> omega) | decide | assumption | rfl)) (cwV 1 hT (gV_in mw_338 mw_335 mw_337 mw_p1_0 mw_1) rfl rfl rfl (by decide +kernel) ⟨Nat.le_of_ble_eq_true rfl, Nat.le_of_ble_eq_true rfl⟩) (kRecv (own := "") (q0 := 0) (ci := 10) hK hP hD hN rfl rfl [0, 3] rfl (by decide)) rfl rfl hl.1 rfl (lv_room (Nat.le_of_ble_eq_true rfl)) dX10_rain_22 ⟨Nat.le_of_ble_eq_true rfl, Nat.le_of_ble_eq_true rfl⟩) hP hD hS hA [0, 3] [1, 2] rfl rfl (by decide) (by decide) (fun r_6 u_8 H locs w_7 hP hD hS => ?_)
      have hP : va_P D vwCl [(nw, .inr (9, [.ref w0, .ref w1, .ref w2, .ref w3, .ref w4, .ref w5, .int wt, .int re, .int dy])), (w0, .inl (cI, 12, .inl (fun _ => (2 : Int32))))] H := hP
      have hD : va_D A [(nw, .inr (9, [.ref w0, .ref w1, .ref w2, .ref w3, .ref w4, .ref w5, .int wt, .int re, .int dy])), (w0, .inl (cI, 12, .inl (fun _ => (2 : Int32))))] := hD
      have hr_6 := w_7
      obtain rfl : r_6 = (-1000001) := hr_6.trans (by decide)
      exact hRet () [] (by unfold sp_rain; repeat (first | rw [if_pos (by omega)] | rw [if_neg (by omega)])) hP hD (by decide) rfl hS rfl dX10_rain_25
    · refine lv_iload_n hx hb dX10_rain_10 rfl (lv_at hl 2 rfl) ?_
      refine b_if_lt hx hb rfl (tgt := 20) dX10_rain_11 (by decide) (fun c_9 => ?_) (fun c_9 => ?_)
      · refine lv_aload_n hx hb dX10_rain_20 rfl (lv_at hl 0 rfl) ?_
        refine lv_iconst (v := 1) hx hb dX10_rain_21 (by decide) ?_
        refine kJi (wr := [(nw, .inr (9, [.ref w0, .ref w1, .ref w2, .ref w3, .ref w4, .ref w5, .int wt, .int re, .int dy])), (w0, .inl (cI, 12, .inl (fun _ => (2 : Int32))))]) (va_runV (As := [.int 1]) (rest := []) ⟨hx, hb, hml, hown, hT⟩ (c_X10_finding l D cI x nw kp fu ra kr rd wd ld mt vo sh fd s.heap.size im ff 1 (by first | omega | (simp only [zl_1] <;> omega) | decide | assumption | rfl) (by first | omega | (simp only [zl_1] <;> omega) | decide | assumption | rfl)) (cwV 1 hT (gV_in mw_338 mw_335 mw_337 mw_p1_0 mw_1) rfl rfl rfl (by decide +kernel) ⟨Nat.le_of_ble_eq_true rfl, Nat.le_of_ble_eq_true rfl⟩) (kRecv (own := "") (q0 := 0) (ci := 10) hK hP hD hN rfl rfl [0, 3] rfl (by decide)) rfl rfl hl.1 rfl (lv_room (Nat.le_of_ble_eq_true rfl)) dX10_rain_22 ⟨Nat.le_of_ble_eq_true rfl, Nat.le_of_ble_eq_true rfl⟩) hP hD hS hA [0, 3] [1, 2] rfl rfl (by decide) (by decide) (fun r_10 u_12 H locs w_11 hP hD hS => ?_)
        have hP : va_P D vwCl [(nw, .inr (9, [.ref w0, .ref w1, .ref w2, .ref w3, .ref w4, .ref w5, .int wt, .int re, .int dy])), (w0, .inl (cI, 12, .inl (fun _ => (2 : Int32))))] H := hP
        have hD : va_D A [(nw, .inr (9, [.ref w0, .ref w1, .ref w2, .ref w3, .ref w4, .ref w5, .int wt, .int re, .int dy])), (w0, .inl (cI, 12, .inl (fun _ => (2 : Int32))))] := hD
        have hr_10 := w_11
        obtain rfl : r_10 = (-1000001) := hr_10.trans (by decide)
        exact hRet () [] (by unfold sp_rain; repeat (first | rw [if_pos (by omega)] | rw [if_neg (by omega)])) hP hD (by decide) rfl hS rfl dX10_rain_25
      · refine lv_iload_n hx hb dX10_rain_14 rfl (lv_at hl 2 rfl) ?_
        refine lv_bipush (v := 9) hx hb dX10_rain_15 (by decide) ?_
        refine b_icmp_le hx hb rfl zl_9 (tgt := 26) dX10_rain_17 (by decide) (fun c_13 => ?_) (fun c_13 => ?_)
        · refine lv_aload_n hx hb dX10_rain_26 rfl (lv_at hl 0 rfl) ?_
          refine va_get (D := D) (ci := 10) (v := .ref nw) (C := RX10) (T := TX10) (N := 13) hx hb hT giX10 hown hK hP 0 rfl rfl 0 (by decide) (hT (Cond.fieldLink RX10 12 "DesertWire" "now" "LDesertWire$World;") mw_291) (fun _ h9 => h9) rfl dX10_rain_27 ?_
          refine va_get (D := D) (ci := 9) (v := .ref w0) (C := RX9) (T := TX9) (N := 9) hx hb hT giX9 hown hK hP 1 rfl rfl 0 (by decide) (hT (Cond.fieldLink RX10 86 "DesertWire$World" "rains" "[I") mw_90) (fun _ h9 => h9) rfl dX10_rain_30 ?_
          refine lv_iload_n hx hb dX10_rain_33 rfl (lv_at hl 1 rfl) ?_
          refine k_iald (v := 2) hx hb hK hP 2 0 rfl rfl (k_in (by omega) (by omega)) rfl dX10_rain_34 ?_
          refine lv_istore_n (lv' := [(3, .int 2), (0, .ref x), (1, .int a), (2, .int b)]) hx hb dX10_rain_35 rfl hl (by decide) rfl (fun ls hl => ?_)
          refine lv_aload_n hx hb dX10_rain_36 rfl (lv_at hl 1 rfl) ?_
          refine va_get (D := D) (ci := 10) (v := .ref nw) (C := RX10) (T := TX10) (N := 13) hx hb hT giX10 hown hK hP 0 rfl rfl 0 (by decide) (hT (Cond.fieldLink RX10 12 "DesertWire" "now" "LDesertWire$World;") mw_291) (fun _ h9 => h9) rfl dX10_rain_37 ?_
          refine va_get (D := D) (ci := 9) (v := .ref w0) (C := RX9) (T := TX9) (N := 9) hx hb hT giX9 hown hK hP 1 rfl rfl 0 (by decide) (hT (Cond.fieldLink RX10 86 "DesertWire$World" "rains" "[I") mw_90) (fun _ h9 => h9) rfl dX10_rain_40 ?_
          refine lv_iload_n hx hb dX10_rain_43 rfl (lv_at hl 2 rfl) ?_
          refine lv_iload_n hx hb dX10_rain_44 rfl (lv_at hl 3 rfl) ?_
          refine va_iast hx hb hK hP hD hS 2 0 rfl rfl (k_in (by omega) (by omega)) dX10_rain_45 (fun H locs hP hD hS => ?_)
          have hP : va_P D vwCl [(x, .inr (10, [.ref nw, .ref kp, .ref fu, .ref ra, .ref kr, .ref rd, .ref wd, .ref ld, .ref mt, .ref vo, .ref sh, .ref fd, .int im])), (nw, .inr (9, [.ref w0, .ref w1, .ref w2, .ref w3, .ref w4, .ref w5, .int wt, .int re, .int dy])), (w0, .inl (cI, 12, .inl (upd (fun _ => (2 : Int32)) a.toNatClampNeg b))), (fd, .inl (cI, 6, .inl ff))] H := hP
          have hD : va_D A [(x, .inr (10, [.ref nw, .ref kp, .ref fu, .ref ra, .ref kr, .ref rd, .ref wd, .ref ld, .ref mt, .ref vo, .ref sh, .ref fd, .int im])), (nw, .inr (9, [.ref w0, .ref w1, .ref w2, .ref w3, .ref w4, .ref w5, .int wt, .int re, .int dy])), (w0, .inl (cI, 12, .inl (upd (fun _ => (2 : Int32)) a.toNatClampNeg b))), (fd, .inl (cI, 6, .inl ff))] := hD
          obtain ⟨f_14, ef_14⟩ : ∃ g : Nat → Int32, g = upd (fun _ => (2 : Int32)) a.toNatClampNeg b := ⟨_, rfl⟩
          rw [← ef_14] at hP hD
          refine lv_iload_n hx hb dX10_rain_46 rfl (lv_at hl 0 rfl) ?_
          exact hRet () [] (by unfold sp_rain; repeat (first | rw [if_pos (by omega)] | rw [if_neg (by omega)])) hP hD (by decide) rfl hS rfl dX10_rain_47
        · refine lv_aload_n hx hb dX10_rain_20 rfl (lv_at hl 0 rfl) ?_
          refine lv_iconst (v := 1) hx hb dX10_rain_21 (by decide) ?_
          refine kJi (wr := [(nw, .inr (9, [.ref w0, .ref w1, .ref w2, .ref w3, .ref w4, .ref w5, .int wt, .int re, .int dy])), (w0, .inl (cI, 12, .inl (fun _ => (2 : Int32))))]) (va_runV (As := [.int 1]) (rest := []) ⟨hx, hb, hml, hown, hT⟩ (c_X10_finding l D cI x nw kp fu ra kr rd wd ld mt vo sh fd s.heap.size im ff 1 (by first | omega | (simp only [zl_1] <;> omega) | decide | assumption | rfl) (by first | omega | (simp only [zl_1] <;> omega) | decide | assumption | rfl)) (cwV 1 hT (gV_in mw_338 mw_335 mw_337 mw_p1_0 mw_1) rfl rfl rfl (by decide +kernel) ⟨Nat.le_of_ble_eq_true rfl, Nat.le_of_ble_eq_true rfl⟩) (kRecv (own := "") (q0 := 0) (ci := 10) hK hP hD hN rfl rfl [0, 3] rfl (by decide)) rfl rfl hl.1 rfl (lv_room (Nat.le_of_ble_eq_true rfl)) dX10_rain_22 ⟨Nat.le_of_ble_eq_true rfl, Nat.le_of_ble_eq_true rfl⟩) hP hD hS hA [0, 3] [1, 2] rfl rfl (by decide) (by decide) (fun r_15 u_17 H locs w_16 hP hD hS => ?_)
          have hP : va_P D vwCl [(nw, .inr (9, [.ref w0, .ref w1, .ref w2, .ref w3, .ref w4, .ref w5, .int wt, .int re, .int dy])), (w0, .inl (cI, 12, .inl (fun _ => (2 : Int32))))] H := hP
          have hD : va_D A [(nw, .inr (9, [.ref w0, .ref w1, .ref w2, .ref w3, .ref w4, .ref w5, .int wt, .int re, .int dy])), (w0, .inl (cI, 12, .inl (fun _ => (2 : Int32))))] := hD
          have hr_15 := w_16
          obtain rfl : r_15 = (-1000001) := hr_15.trans (by decide)
          exact hRet () [] (by unfold sp_rain; repeat (first | rw [if_pos (by omega)] | rw [if_neg (by omega)])) hP hD (by decide) rfl hS rfl dX10_rain_25
set_option maxHeartbeats 4000000 in
set_option maxRecDepth 100000 in
theorem c_X10_land (l : Launch) (D : va_G) (cI : ClassId) (x nw kp fu ra kr rd wd ld mt vo sh fd w0 w1 w2 w3 w4 w5 : Nat) (sz : Nat) (im : Int32) (ff : Nat → Int32) (wt : Int32) (re : Int32) (dy : Int32) (a : Int32) (b : Int32) (d : Int32) : Met l yX10_land (gW yX10_land cX10_land 5 (some .int)) ({ frames := 1, cells := 0, slots := 0, locals := 21 } : Room) (kPre D cI [.ref x, .int a, .int b, .int d] [(x, .inr (10, [.ref nw, .ref kp, .ref fu, .ref ra, .ref kr, .ref rd, .ref wd, .ref ld, .ref mt, .ref vo, .ref sh, .ref fd, .int im])), (nw, .inr (9, [.ref w0, .ref w1, .ref w2, .ref w3, .ref w4, .ref w5, .int wt, .int re, .int dy])), (w1, .inl (cI, 40, .inl (fun _ => (0 : Int32)))), (w2, .inl (cI, 40, .inl (fun _ => (0 : Int32)))), (fd, .inl (cI, 6, .inl ff))] sz) (va_Qi (fun (r : Int32) (u : Unit) => r = sp_land a b d) (fun u t => kWd D cI (va_A [(x, .inr (10, [.ref nw, .ref kp, .ref fu, .ref ra, .ref kr, .ref rd, .ref wd, .ref ld, .ref mt, .ref vo, .ref sh, .ref fd, .int im])), (nw, .inr (9, [.ref w0, .ref w1, .ref w2, .ref w3, .ref w4, .ref w5, .int wt, .int re, .int dy])), (w1, .inl (cI, 40, .inl (fun _ => (0 : Int32)))), (w2, .inl (cI, 40, .inl (fun _ => (0 : Int32)))), (fd, .inl (cI, 6, .inl ff))] sz) [] t) (va_A [(x, .inr (10, [.ref nw, .ref kp, .ref fu, .ref ra, .ref kr, .ref rd, .ref wd, .ref ld, .ref mt, .ref vo, .ref sh, .ref fd, .int im])), (nw, .inr (9, [.ref w0, .ref w1, .ref w2, .ref w3, .ref w4, .ref w5, .int wt, .int re, .int dy])), (w1, .inl (cI, 40, .inl (fun _ => (0 : Int32)))), (w2, .inl (cI, 40, .inl (fun _ => (0 : Int32)))), (fd, .inl (cI, 6, .inl ff))] sz)) 0 0 (va_A [(x, .inr (10, [.ref nw, .ref kp, .ref fu, .ref ra, .ref kr, .ref rd, .ref wd, .ref ld, .ref mt, .ref vo, .ref sh, .ref fd, .int im])), (nw, .inr (9, [.ref w0, .ref w1, .ref w2, .ref w3, .ref w4, .ref w5, .int wt, .int re, .int dy])), (w1, .inl (cI, 40, .inl (fun _ => (0 : Int32)))), (w2, .inl (cI, 40, .inl (fun _ => (0 : Int32)))), (fd, .inl (cI, 6, .inl ff))] sz) := by
  refine kMetI (own := RX10) (by decide) rfl (Nat.le_of_ble_eq_true rfl) ?_
  intro p e s m args below meth c hx hb hT hown hname hml A Q hK hP hD hS hA hN hRet ls hl
  have hl : lv_has ls 5 [(0, .ref x), (1, .int a), (2, .int b), (3, .int d)] := hl
  have lo_a := k_lo a
  have hi_a := k_hi a
  have lo_b := k_lo b
  have hi_b := k_hi b
  have lo_d := k_lo d
  have hi_d := k_hi d
  have lo_im := k_lo im
  have hi_im := k_hi im
  have lo_wt := k_lo wt
  have hi_wt := k_hi wt
  have lo_re := k_lo re
  have hi_re := k_hi re
  have lo_dy := k_lo dy
  have hi_dy := k_hi dy
  refine lv_iload_n hx hb dX10_land_0 rfl (lv_at hl 1 rfl) ?_
  refine kJi (wr := [(x, .inr (10, [.ref nw, .ref kp, .ref fu, .ref ra, .ref kr, .ref rd, .ref wd, .ref ld, .ref mt, .ref vo, .ref sh, .ref fd, .int im])), (nw, .inr (9, [.ref w0, .ref w1, .ref w2, .ref w3, .ref w4, .ref w5, .int wt, .int re, .int dy])), (w1, .inl (cI, 40, .inl (fun _ => (0 : Int32)))), (w2, .inl (cI, 40, .inl (fun _ => (0 : Int32)))), (fd, .inl (cI, 6, .inl ff))]) (va_runS (As := [.int a]) (rest := []) ⟨hx, hb, hml, hown, hT⟩ (c_X10_isMile l D cI s.heap.size a) (cwS 1 hT (gS_in mw_346 mw_344 mw_345 mw_1) rfl rfl rfl (by decide +kernel) ⟨Nat.le_of_ble_eq_true rfl, Nat.le_of_ble_eq_true rfl⟩) (kStat hK hP hD hN [] rfl (by decide)) rfl rfl hl.1 rfl (lv_room (Nat.le_of_ble_eq_true rfl)) dX10_land_1 ⟨Nat.le_of_ble_eq_true rfl, Nat.le_of_ble_eq_true rfl⟩) hP hD hS hA [] [0, 1, 2, 3, 4] rfl rfl (by decide) (by decide) (fun r_1 u_3 H locs w_2 hP hD hS => ?_)
  have hP : va_P D vwCl [(x, .inr (10, [.ref nw, .ref kp, .ref fu, .ref ra, .ref kr, .ref rd, .ref wd, .ref ld, .ref mt, .ref vo, .ref sh, .ref fd, .int im])), (nw, .inr (9, [.ref w0, .ref w1, .ref w2, .ref w3, .ref w4, .ref w5, .int wt, .int re, .int dy])), (w1, .inl (cI, 40, .inl (fun _ => (0 : Int32)))), (w2, .inl (cI, 40, .inl (fun _ => (0 : Int32)))), (fd, .inl (cI, 6, .inl ff))] H := hP
  have hD : va_D A [(x, .inr (10, [.ref nw, .ref kp, .ref fu, .ref ra, .ref kr, .ref rd, .ref wd, .ref ld, .ref mt, .ref vo, .ref sh, .ref fd, .int im])), (nw, .inr (9, [.ref w0, .ref w1, .ref w2, .ref w3, .ref w4, .ref w5, .int wt, .int re, .int dy])), (w1, .inl (cI, 40, .inl (fun _ => (0 : Int32)))), (w2, .inl (cI, 40, .inl (fun _ => (0 : Int32)))), (fd, .inl (cI, 6, .inl ff))] := hD
  rcases w_2 with ⟨hr_1, h_4, h_5⟩ | ⟨hr_1, h_6⟩
  · have h_4 : 0 ≤ a.toInt := h_4
    have h_5 : a.toInt ≤ 39 := h_5
    obtain rfl : r_1 = 1 := hr_1.trans (by decide)
    refine b_if_eq hx hb zl_1 (tgt := 26) dX10_land_4 (by decide) (fun c_7 => by exfalso; omega) (fun c_7 => ?_)
    refine lv_iload_n hx hb dX10_land_7 rfl (lv_at hl 2 rfl) ?_
    refine b_if_lt hx hb rfl (tgt := 26) dX10_land_8 (by decide) (fun c_8 => ?_) (fun c_8 => ?_)
    · refine lv_aload_n hx hb dX10_land_26 rfl (lv_at hl 0 rfl) ?_
      refine lv_iconst (v := 1) hx hb dX10_land_27 (by decide) ?_
      refine kJi (wr := [(nw, .inr (9, [.ref w0, .ref w1, .ref w2, .ref w3, .ref w4, .ref w5, .int wt, .int re, .int dy])), (w1, .inl (cI, 40, .inl (fun _ => (0 : Int32)))), (w2, .inl (cI, 40, .inl (fun _ => (0 : Int32))))]) (va_runV (As := [.int 1]) (rest := []) ⟨hx, hb, hml, hown, hT⟩ (c_X10_finding l D cI x nw kp fu ra kr rd wd ld mt vo sh fd H.size im ff 1 (by first | omega | (simp only [zl_1] <;> omega) | decide | assumption | rfl) (by first | omega | (simp only [zl_1] <;> omega) | decide | assumption | rfl)) (cwV 1 hT (gV_in mw_338 mw_335 mw_337 mw_p1_0 mw_1) rfl rfl rfl (by decide +kernel) ⟨Nat.le_of_ble_eq_true rfl, Nat.le_of_ble_eq_true rfl⟩) (kRecv (own := "") (q0 := 0) (ci := 10) hK hP hD hN rfl rfl [0, 4] rfl (by decide)) rfl rfl hl.1 rfl (lv_room (Nat.le_of_ble_eq_true rfl)) dX10_land_28 ⟨Nat.le_of_ble_eq_true rfl, Nat.le_of_ble_eq_true rfl⟩) hP hD hS hA [0, 4] [1, 2, 3] rfl rfl (by decide) (by decide) (fun r_9 u_11 H locs w_10 hP hD hS => ?_)
      have hP : va_P D vwCl [(nw, .inr (9, [.ref w0, .ref w1, .ref w2, .ref w3, .ref w4, .ref w5, .int wt, .int re, .int dy])), (w1, .inl (cI, 40, .inl (fun _ => (0 : Int32)))), (w2, .inl (cI, 40, .inl (fun _ => (0 : Int32))))] H := hP
      have hD : va_D A [(nw, .inr (9, [.ref w0, .ref w1, .ref w2, .ref w3, .ref w4, .ref w5, .int wt, .int re, .int dy])), (w1, .inl (cI, 40, .inl (fun _ => (0 : Int32)))), (w2, .inl (cI, 40, .inl (fun _ => (0 : Int32))))] := hD
      have hr_9 := w_10
      obtain rfl : r_9 = (-1000001) := hr_9.trans (by decide)
      exact hRet () [] (by unfold sp_land; repeat (first | rw [if_pos (by omega)] | rw [if_neg (by omega)])) hP hD (by decide) rfl hS rfl dX10_land_31
    · refine lv_iload_n hx hb dX10_land_11 rfl (lv_at hl 2 rfl) ?_
      refine lv_iconst (v := 2) hx hb dX10_land_12 (by decide) ?_
      refine b_icmp_gt hx hb rfl zl_2 (tgt := 26) dX10_land_13 (by decide) (fun c_12 => ?_) (fun c_12 => ?_)
      · refine lv_aload_n hx hb dX10_land_26 rfl (lv_at hl 0 rfl) ?_
        refine lv_iconst (v := 1) hx hb dX10_land_27 (by decide) ?_
        refine kJi (wr := [(nw, .inr (9, [.ref w0, .ref w1, .ref w2, .ref w3, .ref w4, .ref w5, .int wt, .int re, .int dy])), (w1, .inl (cI, 40, .inl (fun _ => (0 : Int32)))), (w2, .inl (cI, 40, .inl (fun _ => (0 : Int32))))]) (va_runV (As := [.int 1]) (rest := []) ⟨hx, hb, hml, hown, hT⟩ (c_X10_finding l D cI x nw kp fu ra kr rd wd ld mt vo sh fd H.size im ff 1 (by first | omega | (simp only [zl_1] <;> omega) | decide | assumption | rfl) (by first | omega | (simp only [zl_1] <;> omega) | decide | assumption | rfl)) (cwV 1 hT (gV_in mw_338 mw_335 mw_337 mw_p1_0 mw_1) rfl rfl rfl (by decide +kernel) ⟨Nat.le_of_ble_eq_true rfl, Nat.le_of_ble_eq_true rfl⟩) (kRecv (own := "") (q0 := 0) (ci := 10) hK hP hD hN rfl rfl [0, 4] rfl (by decide)) rfl rfl hl.1 rfl (lv_room (Nat.le_of_ble_eq_true rfl)) dX10_land_28 ⟨Nat.le_of_ble_eq_true rfl, Nat.le_of_ble_eq_true rfl⟩) hP hD hS hA [0, 4] [1, 2, 3] rfl rfl (by decide) (by decide) (fun r_13 u_15 H locs w_14 hP hD hS => ?_)
        have hP : va_P D vwCl [(nw, .inr (9, [.ref w0, .ref w1, .ref w2, .ref w3, .ref w4, .ref w5, .int wt, .int re, .int dy])), (w1, .inl (cI, 40, .inl (fun _ => (0 : Int32)))), (w2, .inl (cI, 40, .inl (fun _ => (0 : Int32))))] H := hP
        have hD : va_D A [(nw, .inr (9, [.ref w0, .ref w1, .ref w2, .ref w3, .ref w4, .ref w5, .int wt, .int re, .int dy])), (w1, .inl (cI, 40, .inl (fun _ => (0 : Int32)))), (w2, .inl (cI, 40, .inl (fun _ => (0 : Int32))))] := hD
        have hr_13 := w_14
        obtain rfl : r_13 = (-1000001) := hr_13.trans (by decide)
        exact hRet () [] (by unfold sp_land; repeat (first | rw [if_pos (by omega)] | rw [if_neg (by omega)])) hP hD (by decide) rfl hS rfl dX10_land_31
      · refine lv_iload_n hx hb dX10_land_16 rfl (lv_at hl 3 rfl) ?_
        refine b_if_lt hx hb rfl (tgt := 26) dX10_land_17 (by decide) (fun c_16 => ?_) (fun c_16 => ?_)
        · refine lv_aload_n hx hb dX10_land_26 rfl (lv_at hl 0 rfl) ?_
          refine lv_iconst (v := 1) hx hb dX10_land_27 (by decide) ?_
          refine kJi (wr := [(nw, .inr (9, [.ref w0, .ref w1, .ref w2, .ref w3, .ref w4, .ref w5, .int wt, .int re, .int dy])), (w1, .inl (cI, 40, .inl (fun _ => (0 : Int32)))), (w2, .inl (cI, 40, .inl (fun _ => (0 : Int32))))]) (va_runV (As := [.int 1]) (rest := []) ⟨hx, hb, hml, hown, hT⟩ (c_X10_finding l D cI x nw kp fu ra kr rd wd ld mt vo sh fd H.size im ff 1 (by first | omega | (simp only [zl_1] <;> omega) | decide | assumption | rfl) (by first | omega | (simp only [zl_1] <;> omega) | decide | assumption | rfl)) (cwV 1 hT (gV_in mw_338 mw_335 mw_337 mw_p1_0 mw_1) rfl rfl rfl (by decide +kernel) ⟨Nat.le_of_ble_eq_true rfl, Nat.le_of_ble_eq_true rfl⟩) (kRecv (own := "") (q0 := 0) (ci := 10) hK hP hD hN rfl rfl [0, 4] rfl (by decide)) rfl rfl hl.1 rfl (lv_room (Nat.le_of_ble_eq_true rfl)) dX10_land_28 ⟨Nat.le_of_ble_eq_true rfl, Nat.le_of_ble_eq_true rfl⟩) hP hD hS hA [0, 4] [1, 2, 3] rfl rfl (by decide) (by decide) (fun r_17 u_19 H locs w_18 hP hD hS => ?_)
          have hP : va_P D vwCl [(nw, .inr (9, [.ref w0, .ref w1, .ref w2, .ref w3, .ref w4, .ref w5, .int wt, .int re, .int dy])), (w1, .inl (cI, 40, .inl (fun _ => (0 : Int32)))), (w2, .inl (cI, 40, .inl (fun _ => (0 : Int32))))] H := hP
          have hD : va_D A [(nw, .inr (9, [.ref w0, .ref w1, .ref w2, .ref w3, .ref w4, .ref w5, .int wt, .int re, .int dy])), (w1, .inl (cI, 40, .inl (fun _ => (0 : Int32)))), (w2, .inl (cI, 40, .inl (fun _ => (0 : Int32))))] := hD
          have hr_17 := w_18
          obtain rfl : r_17 = (-1000001) := hr_17.trans (by decide)
          exact hRet () [] (by unfold sp_land; repeat (first | rw [if_pos (by omega)] | rw [if_neg (by omega)])) hP hD (by decide) rfl hS rfl dX10_land_31
        · refine lv_iload_n hx hb dX10_land_20 rfl (lv_at hl 3 rfl) ?_
          refine lv_bipush (v := 99) hx hb dX10_land_21 (by decide) ?_
          refine b_icmp_le hx hb rfl zl_99 (tgt := 32) dX10_land_23 (by decide) (fun c_20 => ?_) (fun c_20 => ?_)
          · refine lv_bipush (v := 100) hx hb dX10_land_32 (by decide) ?_
            refine lv_aload_n hx hb dX10_land_34 rfl (lv_at hl 0 rfl) ?_
            refine va_get (D := D) (ci := 10) (v := .ref nw) (C := RX10) (T := TX10) (N := 13) hx hb hT giX10 hown hK hP 0 rfl rfl 0 (by decide) (hT (Cond.fieldLink RX10 12 "DesertWire" "now" "LDesertWire$World;") mw_291) (fun _ h9 => h9) rfl dX10_land_35 ?_
            refine va_get (D := D) (ci := 9) (v := .ref w1) (C := RX9) (T := TX9) (N := 9) hx hb hT giX9 hown hK hP 1 rfl rfl 1 (by decide) (hT (Cond.fieldLink RX10 93 "DesertWire$World" "soils" "[I") mw_92) (fun _ h9 => h9) rfl dX10_land_38 ?_
            refine lv_iload_n hx hb dX10_land_41 rfl (lv_at hl 1 rfl) ?_
            refine k_iald (v := 0) hx hb hK hP 2 0 rfl rfl (k_in (by omega) (by omega)) rfl dX10_land_42 ?_
            refine k_imul (v := 0) hx hb dX10_land_43 (by decide) ?_
            refine lv_aload_n hx hb dX10_land_44 rfl (lv_at hl 0 rfl) ?_
            refine va_get (D := D) (ci := 10) (v := .ref nw) (C := RX10) (T := TX10) (N := 13) hx hb hT giX10 hown hK hP 0 rfl rfl 0 (by decide) (hT (Cond.fieldLink RX10 12 "DesertWire" "now" "LDesertWire$World;") mw_291) (fun _ h9 => h9) rfl dX10_land_45 ?_
            refine va_get (D := D) (ci := 9) (v := .ref w2) (C := RX9) (T := TX9) (N := 9) hx hb hT giX9 hown hK hP 1 rfl rfl 2 (by decide) (hT (Cond.fieldLink RX10 96 "DesertWire$World" "springs" "[I") mw_94) (fun _ h9 => h9) rfl dX10_land_48 ?_
            refine lv_iload_n hx hb dX10_land_51 rfl (lv_at hl 1 rfl) ?_
            refine k_iald (v := 0) hx hb hK hP 3 0 rfl rfl (k_in (by omega) (by omega)) rfl dX10_land_52 ?_
            refine k_iadd (v := 0) hx hb dX10_land_53 (by decide) ?_
            refine lv_istore (lv' := [(4, .int 0), (0, .ref x), (1, .int a), (2, .int b), (3, .int d)]) hx hb dX10_land_54 hl (by decide) rfl (fun ls hl => ?_)
            refine lv_aload_n hx hb dX10_land_56 rfl (lv_at hl 1 rfl) ?_
            refine va_get (D := D) (ci := 10) (v := .ref nw) (C := RX10) (T := TX10) (N := 13) hx hb hT giX10 hown hK hP 0 rfl rfl 0 (by decide) (hT (Cond.fieldLink RX10 12 "DesertWire" "now" "LDesertWire$World;") mw_291) (fun _ h9 => h9) rfl dX10_land_57 ?_
            refine va_get (D := D) (ci := 9) (v := .ref w1) (C := RX9) (T := TX9) (N := 9) hx hb hT giX9 hown hK hP 1 rfl rfl 1 (by decide) (hT (Cond.fieldLink RX10 93 "DesertWire$World" "soils" "[I") mw_92) (fun _ h9 => h9) rfl dX10_land_60 ?_
            refine lv_iload_n hx hb dX10_land_63 rfl (lv_at hl 2 rfl) ?_
            refine lv_iload_n hx hb dX10_land_64 rfl (lv_at hl 3 rfl) ?_
            refine va_iast hx hb hK hP hD hS 2 0 rfl rfl (k_in (by omega) (by omega)) dX10_land_65 (fun H locs hP hD hS => ?_)
            have hP : va_P D vwCl [(x, .inr (10, [.ref nw, .ref kp, .ref fu, .ref ra, .ref kr, .ref rd, .ref wd, .ref ld, .ref mt, .ref vo, .ref sh, .ref fd, .int im])), (nw, .inr (9, [.ref w0, .ref w1, .ref w2, .ref w3, .ref w4, .ref w5, .int wt, .int re, .int dy])), (w1, .inl (cI, 40, .inl (upd (fun _ => (0 : Int32)) a.toNatClampNeg b))), (w2, .inl (cI, 40, .inl (fun _ => (0 : Int32)))), (fd, .inl (cI, 6, .inl ff))] H := hP
            have hD : va_D A [(x, .inr (10, [.ref nw, .ref kp, .ref fu, .ref ra, .ref kr, .ref rd, .ref wd, .ref ld, .ref mt, .ref vo, .ref sh, .ref fd, .int im])), (nw, .inr (9, [.ref w0, .ref w1, .ref w2, .ref w3, .ref w4, .ref w5, .int wt, .int re, .int dy])), (w1, .inl (cI, 40, .inl (upd (fun _ => (0 : Int32)) a.toNatClampNeg b))), (w2, .inl (cI, 40, .inl (fun _ => (0 : Int32)))), (fd, .inl (cI, 6, .inl ff))] := hD
            obtain ⟨f_21, ef_21⟩ : ∃ g : Nat → Int32, g = upd (fun _ => (0 : Int32)) a.toNatClampNeg b := ⟨_, rfl⟩
            rw [← ef_21] at hP hD
            refine lv_aload_n hx hb dX10_land_66 rfl (lv_at hl 1 rfl) ?_
            refine va_get (D := D) (ci := 10) (v := .ref nw) (C := RX10) (T := TX10) (N := 13) hx hb hT giX10 hown hK hP 0 rfl rfl 0 (by decide) (hT (Cond.fieldLink RX10 12 "DesertWire" "now" "LDesertWire$World;") mw_291) (fun _ h9 => h9) rfl dX10_land_67 ?_
            refine va_get (D := D) (ci := 9) (v := .ref w2) (C := RX9) (T := TX9) (N := 9) hx hb hT giX9 hown hK hP 1 rfl rfl 2 (by decide) (hT (Cond.fieldLink RX10 96 "DesertWire$World" "springs" "[I") mw_94) (fun _ h9 => h9) rfl dX10_land_70 ?_
            refine lv_iload_n hx hb dX10_land_73 rfl (lv_at hl 2 rfl) ?_
            refine lv_iload_n hx hb dX10_land_74 rfl (lv_at hl 4 rfl) ?_
            refine va_iast hx hb hK hP hD hS 3 0 rfl rfl (k_in (by omega) (by omega)) dX10_land_75 (fun H locs hP hD hS => ?_)
            have hP : va_P D vwCl [(x, .inr (10, [.ref nw, .ref kp, .ref fu, .ref ra, .ref kr, .ref rd, .ref wd, .ref ld, .ref mt, .ref vo, .ref sh, .ref fd, .int im])), (nw, .inr (9, [.ref w0, .ref w1, .ref w2, .ref w3, .ref w4, .ref w5, .int wt, .int re, .int dy])), (w1, .inl (cI, 40, .inl f_21)), (w2, .inl (cI, 40, .inl (upd (fun _ => (0 : Int32)) a.toNatClampNeg d))), (fd, .inl (cI, 6, .inl ff))] H := hP
            have hD : va_D A [(x, .inr (10, [.ref nw, .ref kp, .ref fu, .ref ra, .ref kr, .ref rd, .ref wd, .ref ld, .ref mt, .ref vo, .ref sh, .ref fd, .int im])), (nw, .inr (9, [.ref w0, .ref w1, .ref w2, .ref w3, .ref w4, .ref w5, .int wt, .int re, .int dy])), (w1, .inl (cI, 40, .inl f_21)), (w2, .inl (cI, 40, .inl (upd (fun _ => (0 : Int32)) a.toNatClampNeg d))), (fd, .inl (cI, 6, .inl ff))] := hD
            obtain ⟨f_22, ef_22⟩ : ∃ g : Nat → Int32, g = upd (fun _ => (0 : Int32)) a.toNatClampNeg d := ⟨_, rfl⟩
            rw [← ef_22] at hP hD
            refine lv_iload hx hb dX10_land_76 (lv_at hl 0 rfl) ?_
            exact hRet () [] (by unfold sp_land; repeat (first | rw [if_pos (by omega)] | rw [if_neg (by omega)])) hP hD (by decide) rfl hS rfl dX10_land_78
          · refine lv_aload_n hx hb dX10_land_26 rfl (lv_at hl 0 rfl) ?_
            refine lv_iconst (v := 1) hx hb dX10_land_27 (by decide) ?_
            refine kJi (wr := [(nw, .inr (9, [.ref w0, .ref w1, .ref w2, .ref w3, .ref w4, .ref w5, .int wt, .int re, .int dy])), (w1, .inl (cI, 40, .inl (fun _ => (0 : Int32)))), (w2, .inl (cI, 40, .inl (fun _ => (0 : Int32))))]) (va_runV (As := [.int 1]) (rest := []) ⟨hx, hb, hml, hown, hT⟩ (c_X10_finding l D cI x nw kp fu ra kr rd wd ld mt vo sh fd H.size im ff 1 (by first | omega | (simp only [zl_1] <;> omega) | decide | assumption | rfl) (by first | omega | (simp only [zl_1] <;> omega) | decide | assumption | rfl)) (cwV 1 hT (gV_in mw_338 mw_335 mw_337 mw_p1_0 mw_1) rfl rfl rfl (by decide +kernel) ⟨Nat.le_of_ble_eq_true rfl, Nat.le_of_ble_eq_true rfl⟩) (kRecv (own := "") (q0 := 0) (ci := 10) hK hP hD hN rfl rfl [0, 4] rfl (by decide)) rfl rfl hl.1 rfl (lv_room (Nat.le_of_ble_eq_true rfl)) dX10_land_28 ⟨Nat.le_of_ble_eq_true rfl, Nat.le_of_ble_eq_true rfl⟩) hP hD hS hA [0, 4] [1, 2, 3] rfl rfl (by decide) (by decide) (fun r_23 u_25 H locs w_24 hP hD hS => ?_)
            have hP : va_P D vwCl [(nw, .inr (9, [.ref w0, .ref w1, .ref w2, .ref w3, .ref w4, .ref w5, .int wt, .int re, .int dy])), (w1, .inl (cI, 40, .inl (fun _ => (0 : Int32)))), (w2, .inl (cI, 40, .inl (fun _ => (0 : Int32))))] H := hP
            have hD : va_D A [(nw, .inr (9, [.ref w0, .ref w1, .ref w2, .ref w3, .ref w4, .ref w5, .int wt, .int re, .int dy])), (w1, .inl (cI, 40, .inl (fun _ => (0 : Int32)))), (w2, .inl (cI, 40, .inl (fun _ => (0 : Int32))))] := hD
            have hr_23 := w_24
            obtain rfl : r_23 = (-1000001) := hr_23.trans (by decide)
            exact hRet () [] (by unfold sp_land; repeat (first | rw [if_pos (by omega)] | rw [if_neg (by omega)])) hP hD (by decide) rfl hS rfl dX10_land_31
  · have h_6 : a.toInt < 0 ∨ 39 < a.toInt := h_6
    obtain rfl : r_1 = 0 := hr_1.trans (by decide)
    refine b_if_eq hx hb zl_0 (tgt := 26) dX10_land_4 (by decide) (fun c_26 => ?_) (fun c_26 => by exfalso; omega)
    refine lv_aload_n hx hb dX10_land_26 rfl (lv_at hl 0 rfl) ?_
    refine lv_iconst (v := 1) hx hb dX10_land_27 (by decide) ?_
    refine kJi (wr := [(nw, .inr (9, [.ref w0, .ref w1, .ref w2, .ref w3, .ref w4, .ref w5, .int wt, .int re, .int dy])), (w1, .inl (cI, 40, .inl (fun _ => (0 : Int32)))), (w2, .inl (cI, 40, .inl (fun _ => (0 : Int32))))]) (va_runV (As := [.int 1]) (rest := []) ⟨hx, hb, hml, hown, hT⟩ (c_X10_finding l D cI x nw kp fu ra kr rd wd ld mt vo sh fd H.size im ff 1 (by first | omega | (simp only [zl_1] <;> omega) | decide | assumption | rfl) (by first | omega | (simp only [zl_1] <;> omega) | decide | assumption | rfl)) (cwV 1 hT (gV_in mw_338 mw_335 mw_337 mw_p1_0 mw_1) rfl rfl rfl (by decide +kernel) ⟨Nat.le_of_ble_eq_true rfl, Nat.le_of_ble_eq_true rfl⟩) (kRecv (own := "") (q0 := 0) (ci := 10) hK hP hD hN rfl rfl [0, 4] rfl (by decide)) rfl rfl hl.1 rfl (lv_room (Nat.le_of_ble_eq_true rfl)) dX10_land_28 ⟨Nat.le_of_ble_eq_true rfl, Nat.le_of_ble_eq_true rfl⟩) hP hD hS hA [0, 4] [1, 2, 3] rfl rfl (by decide) (by decide) (fun r_27 u_29 H locs w_28 hP hD hS => ?_)
    have hP : va_P D vwCl [(nw, .inr (9, [.ref w0, .ref w1, .ref w2, .ref w3, .ref w4, .ref w5, .int wt, .int re, .int dy])), (w1, .inl (cI, 40, .inl (fun _ => (0 : Int32)))), (w2, .inl (cI, 40, .inl (fun _ => (0 : Int32))))] H := hP
    have hD : va_D A [(nw, .inr (9, [.ref w0, .ref w1, .ref w2, .ref w3, .ref w4, .ref w5, .int wt, .int re, .int dy])), (w1, .inl (cI, 40, .inl (fun _ => (0 : Int32)))), (w2, .inl (cI, 40, .inl (fun _ => (0 : Int32))))] := hD
    have hr_27 := w_28
    obtain rfl : r_27 = (-1000001) := hr_27.trans (by decide)
    exact hRet () [] (by unfold sp_land; repeat (first | rw [if_pos (by omega)] | rw [if_neg (by omega)])) hP hD (by decide) rfl hS rfl dX10_land_31
set_option maxHeartbeats 4000000 in
set_option maxRecDepth 100000 in
theorem c_X10_work (l : Launch) (D : va_G) (cI : ClassId) (x nw kp fu ra kr rd wd ld mt vo sh fd w0 w1 w2 w3 w4 w5 k0 k1 k2 k3 k4 k5 k6 k7 k8 : Nat) (sz : Nat) (im : Int32) (ff : Nat → Int32) (wt : Int32) (re : Int32) (dy : Int32) (a : Int32) (b : Int32) (d : Int32) : Met l yX10_work (gW yX10_work cX10_work 4 (some .int)) ({ frames := 4, cells := 0, slots := 0, locals := 90 } : Room) (kPre D cI [.ref x, .int a, .int b, .int d] [(x, .inr (10, [.ref nw, .ref kp, .ref fu, .ref ra, .ref kr, .ref rd, .ref wd, .ref ld, .ref mt, .ref vo, .ref sh, .ref fd, .int im])), (nw, .inr (9, [.ref w0, .ref w1, .ref w2, .ref w3, .ref w4, .ref w5, .int wt, .int re, .int dy])), (w4, .inr (8, [.ref k0, .ref k1, .ref k2, .ref k3, .ref k4, .ref k5, .ref k6, .ref k7, .ref k8, .int 0])), (k0, .inl (cI, 60, .inl (fun _ => (0 : Int32)))), (k1, .inl (cI, 60, .inl (fun _ => (0 : Int32)))), (k2, .inl (cI, 60, .inl (fun _ => (0 : Int32)))), (k3, .inl (cI, 60, .inl (fun _ => (0 : Int32)))), (k4, .inl (cI, 60, .inl (fun _ => (0 : Int32)))), (k5, .inl (cI, 60, .inl (fun _ => (0 : Int32)))), (k6, .inl (cI, 40, .inl (fun _ => (0 : Int32)))), (k7, .inl (cI, 40, .inl (fun _ => (0 : Int32)))), (k8, .inl (cI, 40, .inl (fun _ => (0 : Int32)))), (fd, .inl (cI, 6, .inl ff))] sz) (va_Qi (fun (r : Int32) (u : Unit) => r = sp_work a b d) (fun u t => kWd D cI (va_A [(x, .inr (10, [.ref nw, .ref kp, .ref fu, .ref ra, .ref kr, .ref rd, .ref wd, .ref ld, .ref mt, .ref vo, .ref sh, .ref fd, .int im])), (nw, .inr (9, [.ref w0, .ref w1, .ref w2, .ref w3, .ref w4, .ref w5, .int wt, .int re, .int dy])), (w4, .inr (8, [.ref k0, .ref k1, .ref k2, .ref k3, .ref k4, .ref k5, .ref k6, .ref k7, .ref k8, .int 0])), (k0, .inl (cI, 60, .inl (fun _ => (0 : Int32)))), (k1, .inl (cI, 60, .inl (fun _ => (0 : Int32)))), (k2, .inl (cI, 60, .inl (fun _ => (0 : Int32)))), (k3, .inl (cI, 60, .inl (fun _ => (0 : Int32)))), (k4, .inl (cI, 60, .inl (fun _ => (0 : Int32)))), (k5, .inl (cI, 60, .inl (fun _ => (0 : Int32)))), (k6, .inl (cI, 40, .inl (fun _ => (0 : Int32)))), (k7, .inl (cI, 40, .inl (fun _ => (0 : Int32)))), (k8, .inl (cI, 40, .inl (fun _ => (0 : Int32)))), (fd, .inl (cI, 6, .inl ff))] sz) [] t) (va_A [(x, .inr (10, [.ref nw, .ref kp, .ref fu, .ref ra, .ref kr, .ref rd, .ref wd, .ref ld, .ref mt, .ref vo, .ref sh, .ref fd, .int im])), (nw, .inr (9, [.ref w0, .ref w1, .ref w2, .ref w3, .ref w4, .ref w5, .int wt, .int re, .int dy])), (w4, .inr (8, [.ref k0, .ref k1, .ref k2, .ref k3, .ref k4, .ref k5, .ref k6, .ref k7, .ref k8, .int 0])), (k0, .inl (cI, 60, .inl (fun _ => (0 : Int32)))), (k1, .inl (cI, 60, .inl (fun _ => (0 : Int32)))), (k2, .inl (cI, 60, .inl (fun _ => (0 : Int32)))), (k3, .inl (cI, 60, .inl (fun _ => (0 : Int32)))), (k4, .inl (cI, 60, .inl (fun _ => (0 : Int32)))), (k5, .inl (cI, 60, .inl (fun _ => (0 : Int32)))), (k6, .inl (cI, 40, .inl (fun _ => (0 : Int32)))), (k7, .inl (cI, 40, .inl (fun _ => (0 : Int32)))), (k8, .inl (cI, 40, .inl (fun _ => (0 : Int32)))), (fd, .inl (cI, 6, .inl ff))] sz)) 0 0 (va_A [(x, .inr (10, [.ref nw, .ref kp, .ref fu, .ref ra, .ref kr, .ref rd, .ref wd, .ref ld, .ref mt, .ref vo, .ref sh, .ref fd, .int im])), (nw, .inr (9, [.ref w0, .ref w1, .ref w2, .ref w3, .ref w4, .ref w5, .int wt, .int re, .int dy])), (w4, .inr (8, [.ref k0, .ref k1, .ref k2, .ref k3, .ref k4, .ref k5, .ref k6, .ref k7, .ref k8, .int 0])), (k0, .inl (cI, 60, .inl (fun _ => (0 : Int32)))), (k1, .inl (cI, 60, .inl (fun _ => (0 : Int32)))), (k2, .inl (cI, 60, .inl (fun _ => (0 : Int32)))), (k3, .inl (cI, 60, .inl (fun _ => (0 : Int32)))), (k4, .inl (cI, 60, .inl (fun _ => (0 : Int32)))), (k5, .inl (cI, 60, .inl (fun _ => (0 : Int32)))), (k6, .inl (cI, 40, .inl (fun _ => (0 : Int32)))), (k7, .inl (cI, 40, .inl (fun _ => (0 : Int32)))), (k8, .inl (cI, 40, .inl (fun _ => (0 : Int32)))), (fd, .inl (cI, 6, .inl ff))] sz) := by
  refine kMetI (own := RX10) (by decide) rfl (Nat.le_of_ble_eq_true rfl) ?_
  intro p e s m args below meth c hx hb hT hown hname hml A Q hK hP hD hS hA hN hRet ls hl
  have hl : lv_has ls 4 [(0, .ref x), (1, .int a), (2, .int b), (3, .int d)] := hl
  have lo_a := k_lo a
  have hi_a := k_hi a
  have lo_b := k_lo b
  have hi_b := k_hi b
  have lo_d := k_lo d
  have hi_d := k_hi d
  have lo_im := k_lo im
  have hi_im := k_hi im
  have lo_wt := k_lo wt
  have hi_wt := k_hi wt
  have lo_re := k_lo re
  have hi_re := k_hi re
  have lo_dy := k_lo dy
  have hi_dy := k_hi dy
  refine lv_iload_n hx hb dX10_work_0 rfl (lv_at hl 1 rfl) ?_
  refine b_if_lt hx hb rfl (tgt := 28) dX10_work_1 (by decide) (fun c_1 => ?_) (fun c_1 => ?_)
  · refine lv_aload_n hx hb dX10_work_28 rfl (lv_at hl 0 rfl) ?_
    refine lv_iconst (v := 1) hx hb dX10_work_29 (by decide) ?_
    refine kJi (wr := [(nw, .inr (9, [.ref w0, .ref w1, .ref w2, .ref w3, .ref w4, .ref w5, .int wt, .int re, .int dy])), (w4, .inr (8, [.ref k0, .ref k1, .ref k2, .ref k3, .ref k4, .ref k5, .ref k6, .ref k7, .ref k8, .int 0])), (k0, .inl (cI, 60, .inl (fun _ => (0 : Int32)))), (k1, .inl (cI, 60, .inl (fun _ => (0 : Int32)))), (k2, .inl (cI, 60, .inl (fun _ => (0 : Int32)))), (k3, .inl (cI, 60, .inl (fun _ => (0 : Int32)))), (k4, .inl (cI, 60, .inl (fun _ => (0 : Int32)))), (k5, .inl (cI, 60, .inl (fun _ => (0 : Int32)))), (k6, .inl (cI, 40, .inl (fun _ => (0 : Int32)))), (k7, .inl (cI, 40, .inl (fun _ => (0 : Int32)))), (k8, .inl (cI, 40, .inl (fun _ => (0 : Int32))))]) (va_runV (As := [.int 1]) (rest := []) ⟨hx, hb, hml, hown, hT⟩ (c_X10_finding l D cI x nw kp fu ra kr rd wd ld mt vo sh fd s.heap.size im ff 1 (by first | omega | (simp only [zl_1] <;> omega) | decide | assumption | rfl) (by first | omega | (simp only [zl_1] <;> omega) | decide | assumption | rfl)) (cwV 1 hT (gV_in mw_338 mw_335 mw_337 mw_p1_0 mw_1) rfl rfl rfl (by decide +kernel) ⟨Nat.le_of_ble_eq_true rfl, Nat.le_of_ble_eq_true rfl⟩) (kRecv (own := "") (q0 := 0) (ci := 10) hK hP hD hN rfl rfl [0, 12] rfl (by decide)) rfl rfl hl.1 rfl (lv_room (Nat.le_of_ble_eq_true rfl)) dX10_work_30 ⟨Nat.le_of_ble_eq_true rfl, Nat.le_of_ble_eq_true rfl⟩) hP hD hS hA [0, 12] [1, 2, 3, 4, 5, 6, 7, 8, 9, 10, 11] rfl rfl (by decide) (by decide) (fun r_2 u_4 H locs w_3 hP hD hS => ?_)
    have hP : va_P D vwCl [(nw, .inr (9, [.ref w0, .ref w1, .ref w2, .ref w3, .ref w4, .ref w5, .int wt, .int re, .int dy])), (w4, .inr (8, [.ref k0, .ref k1, .ref k2, .ref k3, .ref k4, .ref k5, .ref k6, .ref k7, .ref k8, .int 0])), (k0, .inl (cI, 60, .inl (fun _ => (0 : Int32)))), (k1, .inl (cI, 60, .inl (fun _ => (0 : Int32)))), (k2, .inl (cI, 60, .inl (fun _ => (0 : Int32)))), (k3, .inl (cI, 60, .inl (fun _ => (0 : Int32)))), (k4, .inl (cI, 60, .inl (fun _ => (0 : Int32)))), (k5, .inl (cI, 60, .inl (fun _ => (0 : Int32)))), (k6, .inl (cI, 40, .inl (fun _ => (0 : Int32)))), (k7, .inl (cI, 40, .inl (fun _ => (0 : Int32)))), (k8, .inl (cI, 40, .inl (fun _ => (0 : Int32))))] H := hP
    have hD : va_D A [(nw, .inr (9, [.ref w0, .ref w1, .ref w2, .ref w3, .ref w4, .ref w5, .int wt, .int re, .int dy])), (w4, .inr (8, [.ref k0, .ref k1, .ref k2, .ref k3, .ref k4, .ref k5, .ref k6, .ref k7, .ref k8, .int 0])), (k0, .inl (cI, 60, .inl (fun _ => (0 : Int32)))), (k1, .inl (cI, 60, .inl (fun _ => (0 : Int32)))), (k2, .inl (cI, 60, .inl (fun _ => (0 : Int32)))), (k3, .inl (cI, 60, .inl (fun _ => (0 : Int32)))), (k4, .inl (cI, 60, .inl (fun _ => (0 : Int32)))), (k5, .inl (cI, 60, .inl (fun _ => (0 : Int32)))), (k6, .inl (cI, 40, .inl (fun _ => (0 : Int32)))), (k7, .inl (cI, 40, .inl (fun _ => (0 : Int32)))), (k8, .inl (cI, 40, .inl (fun _ => (0 : Int32))))] := hD
    have hr_2 := w_3
    obtain rfl : r_2 = (-1000001) := hr_2.trans (by decide)
    exact hRet () [] (by unfold sp_work; repeat (first | rw [if_pos (by omega)] | rw [if_neg (by omega)])) hP hD (by decide) rfl hS rfl dX10_work_33
  · refine lv_iload_n hx hb dX10_work_4 rfl (lv_at hl 1 rfl) ?_
    refine lv_bipush (v := 6) hx hb dX10_work_5 (by decide) ?_
    refine b_icmp_ge hx hb rfl zl_6 (tgt := 28) dX10_work_7 (by decide) (fun c_5 => ?_) (fun c_5 => ?_)
    · refine lv_aload_n hx hb dX10_work_28 rfl (lv_at hl 0 rfl) ?_
      refine lv_iconst (v := 1) hx hb dX10_work_29 (by decide) ?_
      refine kJi (wr := [(nw, .inr (9, [.ref w0, .ref w1, .ref w2, .ref w3, .ref w4, .ref w5, .int wt, .int re, .int dy])), (w4, .inr (8, [.ref k0, .ref k1, .ref k2, .ref k3, .ref k4, .ref k5, .ref k6, .ref k7, .ref k8, .int 0])), (k0, .inl (cI, 60, .inl (fun _ => (0 : Int32)))), (k1, .inl (cI, 60, .inl (fun _ => (0 : Int32)))), (k2, .inl (cI, 60, .inl (fun _ => (0 : Int32)))), (k3, .inl (cI, 60, .inl (fun _ => (0 : Int32)))), (k4, .inl (cI, 60, .inl (fun _ => (0 : Int32)))), (k5, .inl (cI, 60, .inl (fun _ => (0 : Int32)))), (k6, .inl (cI, 40, .inl (fun _ => (0 : Int32)))), (k7, .inl (cI, 40, .inl (fun _ => (0 : Int32)))), (k8, .inl (cI, 40, .inl (fun _ => (0 : Int32))))]) (va_runV (As := [.int 1]) (rest := []) ⟨hx, hb, hml, hown, hT⟩ (c_X10_finding l D cI x nw kp fu ra kr rd wd ld mt vo sh fd s.heap.size im ff 1 (by first | omega | (simp only [zl_1] <;> omega) | decide | assumption | rfl) (by first | omega | (simp only [zl_1] <;> omega) | decide | assumption | rfl)) (cwV 1 hT (gV_in mw_338 mw_335 mw_337 mw_p1_0 mw_1) rfl rfl rfl (by decide +kernel) ⟨Nat.le_of_ble_eq_true rfl, Nat.le_of_ble_eq_true rfl⟩) (kRecv (own := "") (q0 := 0) (ci := 10) hK hP hD hN rfl rfl [0, 12] rfl (by decide)) rfl rfl hl.1 rfl (lv_room (Nat.le_of_ble_eq_true rfl)) dX10_work_30 ⟨Nat.le_of_ble_eq_true rfl, Nat.le_of_ble_eq_true rfl⟩) hP hD hS hA [0, 12] [1, 2, 3, 4, 5, 6, 7, 8, 9, 10, 11] rfl rfl (by decide) (by decide) (fun r_6 u_8 H locs w_7 hP hD hS => ?_)
      have hP : va_P D vwCl [(nw, .inr (9, [.ref w0, .ref w1, .ref w2, .ref w3, .ref w4, .ref w5, .int wt, .int re, .int dy])), (w4, .inr (8, [.ref k0, .ref k1, .ref k2, .ref k3, .ref k4, .ref k5, .ref k6, .ref k7, .ref k8, .int 0])), (k0, .inl (cI, 60, .inl (fun _ => (0 : Int32)))), (k1, .inl (cI, 60, .inl (fun _ => (0 : Int32)))), (k2, .inl (cI, 60, .inl (fun _ => (0 : Int32)))), (k3, .inl (cI, 60, .inl (fun _ => (0 : Int32)))), (k4, .inl (cI, 60, .inl (fun _ => (0 : Int32)))), (k5, .inl (cI, 60, .inl (fun _ => (0 : Int32)))), (k6, .inl (cI, 40, .inl (fun _ => (0 : Int32)))), (k7, .inl (cI, 40, .inl (fun _ => (0 : Int32)))), (k8, .inl (cI, 40, .inl (fun _ => (0 : Int32))))] H := hP
      have hD : va_D A [(nw, .inr (9, [.ref w0, .ref w1, .ref w2, .ref w3, .ref w4, .ref w5, .int wt, .int re, .int dy])), (w4, .inr (8, [.ref k0, .ref k1, .ref k2, .ref k3, .ref k4, .ref k5, .ref k6, .ref k7, .ref k8, .int 0])), (k0, .inl (cI, 60, .inl (fun _ => (0 : Int32)))), (k1, .inl (cI, 60, .inl (fun _ => (0 : Int32)))), (k2, .inl (cI, 60, .inl (fun _ => (0 : Int32)))), (k3, .inl (cI, 60, .inl (fun _ => (0 : Int32)))), (k4, .inl (cI, 60, .inl (fun _ => (0 : Int32)))), (k5, .inl (cI, 60, .inl (fun _ => (0 : Int32)))), (k6, .inl (cI, 40, .inl (fun _ => (0 : Int32)))), (k7, .inl (cI, 40, .inl (fun _ => (0 : Int32)))), (k8, .inl (cI, 40, .inl (fun _ => (0 : Int32))))] := hD
      have hr_6 := w_7
      obtain rfl : r_6 = (-1000001) := hr_6.trans (by decide)
      exact hRet () [] (by unfold sp_work; repeat (first | rw [if_pos (by omega)] | rw [if_neg (by omega)])) hP hD (by decide) rfl hS rfl dX10_work_33
    · refine lv_iload_n hx hb dX10_work_10 rfl (lv_at hl 2 rfl) ?_
      refine kJi (wr := [(x, .inr (10, [.ref nw, .ref kp, .ref fu, .ref ra, .ref kr, .ref rd, .ref wd, .ref ld, .ref mt, .ref vo, .ref sh, .ref fd, .int im])), (nw, .inr (9, [.ref w0, .ref w1, .ref w2, .ref w3, .ref w4, .ref w5, .int wt, .int re, .int dy])), (w4, .inr (8, [.ref k0, .ref k1, .ref k2, .ref k3, .ref k4, .ref k5, .ref k6, .ref k7, .ref k8, .int 0])), (k0, .inl (cI, 60, .inl (fun _ => (0 : Int32)))), (k1, .inl (cI, 60, .inl (fun _ => (0 : Int32)))), (k2, .inl (cI, 60, .inl (fun _ => (0 : Int32)))), (k3, .inl (cI, 60, .inl (fun _ => (0 : Int32)))), (k4, .inl (cI, 60, .inl (fun _ => (0 : Int32)))), (k5, .inl (cI, 60, .inl (fun _ => (0 : Int32)))), (k6, .inl (cI, 40, .inl (fun _ => (0 : Int32)))), (k7, .inl (cI, 40, .inl (fun _ => (0 : Int32)))), (k8, .inl (cI, 40, .inl (fun _ => (0 : Int32)))), (fd, .inl (cI, 6, .inl ff))]) (va_runS (As := [.int b]) (rest := []) ⟨hx, hb, hml, hown, hT⟩ (c_X10_isMile l D cI s.heap.size b) (cwS 1 hT (gS_in mw_346 mw_344 mw_345 mw_1) rfl rfl rfl (by decide +kernel) ⟨Nat.le_of_ble_eq_true rfl, Nat.le_of_ble_eq_true rfl⟩) (kStat hK hP hD hN [] rfl (by decide)) rfl rfl hl.1 rfl (lv_room (Nat.le_of_ble_eq_true rfl)) dX10_work_11 ⟨Nat.le_of_ble_eq_true rfl, Nat.le_of_ble_eq_true rfl⟩) hP hD hS hA [] [0, 1, 2, 3, 4, 5, 6, 7, 8, 9, 10, 11, 12] rfl rfl (by decide) (by decide) (fun r_9 u_11 H locs w_10 hP hD hS => ?_)
      have hP : va_P D vwCl [(x, .inr (10, [.ref nw, .ref kp, .ref fu, .ref ra, .ref kr, .ref rd, .ref wd, .ref ld, .ref mt, .ref vo, .ref sh, .ref fd, .int im])), (nw, .inr (9, [.ref w0, .ref w1, .ref w2, .ref w3, .ref w4, .ref w5, .int wt, .int re, .int dy])), (w4, .inr (8, [.ref k0, .ref k1, .ref k2, .ref k3, .ref k4, .ref k5, .ref k6, .ref k7, .ref k8, .int 0])), (k0, .inl (cI, 60, .inl (fun _ => (0 : Int32)))), (k1, .inl (cI, 60, .inl (fun _ => (0 : Int32)))), (k2, .inl (cI, 60, .inl (fun _ => (0 : Int32)))), (k3, .inl (cI, 60, .inl (fun _ => (0 : Int32)))), (k4, .inl (cI, 60, .inl (fun _ => (0 : Int32)))), (k5, .inl (cI, 60, .inl (fun _ => (0 : Int32)))), (k6, .inl (cI, 40, .inl (fun _ => (0 : Int32)))), (k7, .inl (cI, 40, .inl (fun _ => (0 : Int32)))), (k8, .inl (cI, 40, .inl (fun _ => (0 : Int32)))), (fd, .inl (cI, 6, .inl ff))] H := hP
      have hD : va_D A [(x, .inr (10, [.ref nw, .ref kp, .ref fu, .ref ra, .ref kr, .ref rd, .ref wd, .ref ld, .ref mt, .ref vo, .ref sh, .ref fd, .int im])), (nw, .inr (9, [.ref w0, .ref w1, .ref w2, .ref w3, .ref w4, .ref w5, .int wt, .int re, .int dy])), (w4, .inr (8, [.ref k0, .ref k1, .ref k2, .ref k3, .ref k4, .ref k5, .ref k6, .ref k7, .ref k8, .int 0])), (k0, .inl (cI, 60, .inl (fun _ => (0 : Int32)))), (k1, .inl (cI, 60, .inl (fun _ => (0 : Int32)))), (k2, .inl (cI, 60, .inl (fun _ => (0 : Int32)))), (k3, .inl (cI, 60, .inl (fun _ => (0 : Int32)))), (k4, .inl (cI, 60, .inl (fun _ => (0 : Int32)))), (k5, .inl (cI, 60, .inl (fun _ => (0 : Int32)))), (k6, .inl (cI, 40, .inl (fun _ => (0 : Int32)))), (k7, .inl (cI, 40, .inl (fun _ => (0 : Int32)))), (k8, .inl (cI, 40, .inl (fun _ => (0 : Int32)))), (fd, .inl (cI, 6, .inl ff))] := hD
      rcases w_10 with ⟨hr_9, h_12, h_13⟩ | ⟨hr_9, h_14⟩
      · have h_12 : 0 ≤ b.toInt := h_12
        have h_13 : b.toInt ≤ 39 := h_13
        obtain rfl : r_9 = 1 := hr_9.trans (by decide)
        refine b_if_eq hx hb zl_1 (tgt := 28) dX10_work_14 (by decide) (fun c_15 => by exfalso; omega) (fun c_15 => ?_)
        refine lv_iload_n hx hb dX10_work_17 rfl (lv_at hl 3 rfl) ?_
        refine lv_iconst (v := 1) hx hb dX10_work_18 (by decide) ?_
        refine b_icmp_lt hx hb rfl zl_1 (tgt := 28) dX10_work_19 (by decide) (fun c_16 => ?_) (fun c_16 => ?_)
        · refine lv_aload_n hx hb dX10_work_28 rfl (lv_at hl 0 rfl) ?_
          refine lv_iconst (v := 1) hx hb dX10_work_29 (by decide) ?_
          refine kJi (wr := [(nw, .inr (9, [.ref w0, .ref w1, .ref w2, .ref w3, .ref w4, .ref w5, .int wt, .int re, .int dy])), (w4, .inr (8, [.ref k0, .ref k1, .ref k2, .ref k3, .ref k4, .ref k5, .ref k6, .ref k7, .ref k8, .int 0])), (k0, .inl (cI, 60, .inl (fun _ => (0 : Int32)))), (k1, .inl (cI, 60, .inl (fun _ => (0 : Int32)))), (k2, .inl (cI, 60, .inl (fun _ => (0 : Int32)))), (k3, .inl (cI, 60, .inl (fun _ => (0 : Int32)))), (k4, .inl (cI, 60, .inl (fun _ => (0 : Int32)))), (k5, .inl (cI, 60, .inl (fun _ => (0 : Int32)))), (k6, .inl (cI, 40, .inl (fun _ => (0 : Int32)))), (k7, .inl (cI, 40, .inl (fun _ => (0 : Int32)))), (k8, .inl (cI, 40, .inl (fun _ => (0 : Int32))))]) (va_runV (As := [.int 1]) (rest := []) ⟨hx, hb, hml, hown, hT⟩ (c_X10_finding l D cI x nw kp fu ra kr rd wd ld mt vo sh fd H.size im ff 1 (by first | omega | (simp only [zl_1] <;> omega) | decide | assumption | rfl) (by first | omega | (simp only [zl_1] <;> omega) | decide | assumption | rfl)) (cwV 1 hT (gV_in mw_338 mw_335 mw_337 mw_p1_0 mw_1) rfl rfl rfl (by decide +kernel) ⟨Nat.le_of_ble_eq_true rfl, Nat.le_of_ble_eq_true rfl⟩) (kRecv (own := "") (q0 := 0) (ci := 10) hK hP hD hN rfl rfl [0, 12] rfl (by decide)) rfl rfl hl.1 rfl (lv_room (Nat.le_of_ble_eq_true rfl)) dX10_work_30 ⟨Nat.le_of_ble_eq_true rfl, Nat.le_of_ble_eq_true rfl⟩) hP hD hS hA [0, 12] [1, 2, 3, 4, 5, 6, 7, 8, 9, 10, 11] rfl rfl (by decide) (by decide) (fun r_17 u_19 H locs w_18 hP hD hS => ?_)
          have hP : va_P D vwCl [(nw, .inr (9, [.ref w0, .ref w1, .ref w2, .ref w3, .ref w4, .ref w5, .int wt, .int re, .int dy])), (w4, .inr (8, [.ref k0, .ref k1, .ref k2, .ref k3, .ref k4, .ref k5, .ref k6, .ref k7, .ref k8, .int 0])), (k0, .inl (cI, 60, .inl (fun _ => (0 : Int32)))), (k1, .inl (cI, 60, .inl (fun _ => (0 : Int32)))), (k2, .inl (cI, 60, .inl (fun _ => (0 : Int32)))), (k3, .inl (cI, 60, .inl (fun _ => (0 : Int32)))), (k4, .inl (cI, 60, .inl (fun _ => (0 : Int32)))), (k5, .inl (cI, 60, .inl (fun _ => (0 : Int32)))), (k6, .inl (cI, 40, .inl (fun _ => (0 : Int32)))), (k7, .inl (cI, 40, .inl (fun _ => (0 : Int32)))), (k8, .inl (cI, 40, .inl (fun _ => (0 : Int32))))] H := hP
          have hD : va_D A [(nw, .inr (9, [.ref w0, .ref w1, .ref w2, .ref w3, .ref w4, .ref w5, .int wt, .int re, .int dy])), (w4, .inr (8, [.ref k0, .ref k1, .ref k2, .ref k3, .ref k4, .ref k5, .ref k6, .ref k7, .ref k8, .int 0])), (k0, .inl (cI, 60, .inl (fun _ => (0 : Int32)))), (k1, .inl (cI, 60, .inl (fun _ => (0 : Int32)))), (k2, .inl (cI, 60, .inl (fun _ => (0 : Int32)))), (k3, .inl (cI, 60, .inl (fun _ => (0 : Int32)))), (k4, .inl (cI, 60, .inl (fun _ => (0 : Int32)))), (k5, .inl (cI, 60, .inl (fun _ => (0 : Int32)))), (k6, .inl (cI, 40, .inl (fun _ => (0 : Int32)))), (k7, .inl (cI, 40, .inl (fun _ => (0 : Int32)))), (k8, .inl (cI, 40, .inl (fun _ => (0 : Int32))))] := hD
          have hr_17 := w_18
          obtain rfl : r_17 = (-1000001) := hr_17.trans (by decide)
          exact hRet () [] (by unfold sp_work; repeat (first | rw [if_pos (by omega)] | rw [if_neg (by omega)])) hP hD (by decide) rfl hS rfl dX10_work_33
        · refine lv_iload_n hx hb dX10_work_22 rfl (lv_at hl 3 rfl) ?_
          refine lv_bipush (v := 50) hx hb dX10_work_23 (by decide) ?_
          refine b_icmp_le hx hb rfl zl_50 (tgt := 34) dX10_work_25 (by decide) (fun c_20 => ?_) (fun c_20 => ?_)
          · refine lv_aload_n hx hb dX10_work_34 rfl (lv_at hl 0 rfl) ?_
            refine va_get (D := D) (ci := 10) (v := .ref nw) (C := RX10) (T := TX10) (N := 13) hx hb hT giX10 hown hK hP 0 rfl rfl 0 (by decide) (hT (Cond.fieldLink RX10 12 "DesertWire" "now" "LDesertWire$World;") mw_291) (fun _ h9 => h9) rfl dX10_work_35 ?_
            refine va_get (D := D) (ci := 9) (v := .ref w4) (C := RX9) (T := TX9) (N := 9) hx hb hT giX9 hown hK hP 1 rfl rfl 4 (by decide) (hT (Cond.fieldLink RX10 99 "DesertWire$World" "works" "LDesertWire$Works;") mw_99) (fun _ h9 => h9) rfl dX10_work_38 ?_
            refine kJi (wr := [(x, .inr (10, [.ref nw, .ref kp, .ref fu, .ref ra, .ref kr, .ref rd, .ref wd, .ref ld, .ref mt, .ref vo, .ref sh, .ref fd, .int im])), (nw, .inr (9, [.ref w0, .ref w1, .ref w2, .ref w3, .ref w4, .ref w5, .int wt, .int re, .int dy])), (k0, .inl (cI, 60, .inl (fun _ => (0 : Int32)))), (k1, .inl (cI, 60, .inl (fun _ => (0 : Int32)))), (k2, .inl (cI, 60, .inl (fun _ => (0 : Int32)))), (k3, .inl (cI, 60, .inl (fun _ => (0 : Int32)))), (k4, .inl (cI, 60, .inl (fun _ => (0 : Int32)))), (k5, .inl (cI, 60, .inl (fun _ => (0 : Int32)))), (k6, .inl (cI, 40, .inl (fun _ => (0 : Int32)))), (k7, .inl (cI, 40, .inl (fun _ => (0 : Int32)))), (k8, .inl (cI, 40, .inl (fun _ => (0 : Int32)))), (fd, .inl (cI, 6, .inl ff))]) (va_runV (As := []) (rest := []) ⟨hx, hb, hml, hown, hT⟩ (c_X8_hasRoom l D cI w4 k0 k1 k2 k3 k4 k5 k6 k7 k8 H.size 0) (cwV 0 hT (gV_in mw_354 mw_351 mw_352 mw_353 mw_3) rfl rfl rfl (by decide +kernel) ⟨Nat.le_of_ble_eq_true rfl, Nat.le_of_ble_eq_true rfl⟩) (kRecv (own := "") (q0 := 2) (ci := 8) hK hP hD hN rfl rfl [2] rfl (by decide)) rfl rfl hl.1 rfl (lv_room (Nat.le_of_ble_eq_true rfl)) dX10_work_41 ⟨Nat.le_of_ble_eq_true rfl, Nat.le_of_ble_eq_true rfl⟩) hP hD hS hA [2] [0, 1, 3, 4, 5, 6, 7, 8, 9, 10, 11, 12] rfl rfl (by decide) (by decide) (fun r_21 u_23 H locs w_22 hP hD hS => ?_)
            have hP : va_P D vwCl [(x, .inr (10, [.ref nw, .ref kp, .ref fu, .ref ra, .ref kr, .ref rd, .ref wd, .ref ld, .ref mt, .ref vo, .ref sh, .ref fd, .int im])), (nw, .inr (9, [.ref w0, .ref w1, .ref w2, .ref w3, .ref w4, .ref w5, .int wt, .int re, .int dy])), (k0, .inl (cI, 60, .inl (fun _ => (0 : Int32)))), (k1, .inl (cI, 60, .inl (fun _ => (0 : Int32)))), (k2, .inl (cI, 60, .inl (fun _ => (0 : Int32)))), (k3, .inl (cI, 60, .inl (fun _ => (0 : Int32)))), (k4, .inl (cI, 60, .inl (fun _ => (0 : Int32)))), (k5, .inl (cI, 60, .inl (fun _ => (0 : Int32)))), (k6, .inl (cI, 40, .inl (fun _ => (0 : Int32)))), (k7, .inl (cI, 40, .inl (fun _ => (0 : Int32)))), (k8, .inl (cI, 40, .inl (fun _ => (0 : Int32)))), (fd, .inl (cI, 6, .inl ff)), (w4, .inr (8, [.ref k0, .ref k1, .ref k2, .ref k3, .ref k4, .ref k5, .ref k6, .ref k7, .ref k8, .int 0]))] H := hP
            have hD : va_D A [(x, .inr (10, [.ref nw, .ref kp, .ref fu, .ref ra, .ref kr, .ref rd, .ref wd, .ref ld, .ref mt, .ref vo, .ref sh, .ref fd, .int im])), (nw, .inr (9, [.ref w0, .ref w1, .ref w2, .ref w3, .ref w4, .ref w5, .int wt, .int re, .int dy])), (k0, .inl (cI, 60, .inl (fun _ => (0 : Int32)))), (k1, .inl (cI, 60, .inl (fun _ => (0 : Int32)))), (k2, .inl (cI, 60, .inl (fun _ => (0 : Int32)))), (k3, .inl (cI, 60, .inl (fun _ => (0 : Int32)))), (k4, .inl (cI, 60, .inl (fun _ => (0 : Int32)))), (k5, .inl (cI, 60, .inl (fun _ => (0 : Int32)))), (k6, .inl (cI, 40, .inl (fun _ => (0 : Int32)))), (k7, .inl (cI, 40, .inl (fun _ => (0 : Int32)))), (k8, .inl (cI, 40, .inl (fun _ => (0 : Int32)))), (fd, .inl (cI, 6, .inl ff)), (w4, .inr (8, [.ref k0, .ref k1, .ref k2, .ref k3, .ref k4, .ref k5, .ref k6, .ref k7, .ref k8, .int 0]))] := hD
            rcases w_22 with ⟨hr_21, h_24, h_25⟩ | ⟨hr_21, h_26⟩
            · try simp only [zl_0] at h_24
              try simp only [zl_0] at h_25
              obtain rfl : r_21 = 1 := hr_21.trans (by decide)
              refine b_if_ne hx hb zl_1 (tgt := 53) dX10_work_44 (by decide) (fun c_27 => ?_) (fun c_27 => by exfalso; omega)
              refine lv_aload_n hx hb dX10_work_53 rfl (lv_at hl 0 rfl) ?_
              refine va_get (D := D) (ci := 10) (v := .ref nw) (C := RX10) (T := TX10) (N := 13) hx hb hT giX10 hown hK hP 0 rfl rfl 0 (by decide) (hT (Cond.fieldLink RX10 12 "DesertWire" "now" "LDesertWire$World;") mw_291) (fun _ h9 => h9) rfl dX10_work_54 ?_
              refine va_get (D := D) (ci := 9) (v := .ref w4) (C := RX9) (T := TX9) (N := 9) hx hb hT giX9 hown hK hP 1 rfl rfl 4 (by decide) (hT (Cond.fieldLink RX10 99 "DesertWire$World" "works" "LDesertWire$Works;") mw_99) (fun _ h9 => h9) rfl dX10_work_57 ?_
              refine lv_iload_n hx hb dX10_work_60 rfl (lv_at hl 1 rfl) ?_
              refine lv_iload_n hx hb dX10_work_61 rfl (lv_at hl 2 rfl) ?_
              refine lv_iload_n hx hb dX10_work_62 rfl (lv_at hl 3 rfl) ?_
              refine lv_aload_n hx hb dX10_work_63 rfl (lv_at hl 0 rfl) ?_
              refine va_get (D := D) (ci := 10) (v := .ref nw) (C := RX10) (T := TX10) (N := 13) hx hb hT giX10 hown hK hP 0 rfl rfl 0 (by decide) (hT (Cond.fieldLink RX10 12 "DesertWire" "now" "LDesertWire$World;") mw_291) (fun _ h9 => h9) rfl dX10_work_64 ?_
              refine va_get (D := D) (ci := 9) (v := .int dy) (C := RX9) (T := TX9) (N := 9) hx hb hT giX9 hown hK hP 1 rfl rfl 8 (by decide) (hT (Cond.fieldLink RX10 109 "DesertWire$World" "day" "I") mw_110) (fun _ h9 => h9) rfl dX10_work_67 ?_
              refine kJi (wr := [(x, .inr (10, [.ref nw, .ref kp, .ref fu, .ref ra, .ref kr, .ref rd, .ref wd, .ref ld, .ref mt, .ref vo, .ref sh, .ref fd, .int im])), (nw, .inr (9, [.ref w0, .ref w1, .ref w2, .ref w3, .ref w4, .ref w5, .int wt, .int re, .int dy])), (fd, .inl (cI, 6, .inl ff))]) (va_runV (As := [.int a, .int b, .int d, .int dy]) (rest := []) ⟨hx, hb, hml, hown, hT⟩ (c_X8_add l D cI w4 k0 k1 k2 k3 k4 k5 k6 k7 k8 H.size (fun _ => (0 : Int32)) (fun _ => (0 : Int32)) (fun _ => (0 : Int32)) (fun _ => (0 : Int32)) (fun _ => (0 : Int32)) (fun _ => (0 : Int32)) (fun _ => (0 : Int32)) (fun _ => (0 : Int32)) (fun _ => (0 : Int32)) a b d dy (by first | omega | decide | assumption | rfl) (by first | omega | decide | assumption | rfl)) (cwV 4 hT (gV_in mw_358 mw_355 mw_356 mw_357 mw_3) rfl rfl rfl (by decide +kernel) ⟨Nat.le_of_ble_eq_true rfl, Nat.le_of_ble_eq_true rfl⟩) (kRecv (own := "") (q0 := 12) (ci := 8) hK hP hD hN rfl rfl [12, 2, 3, 4, 5, 6, 7, 8, 9, 10] rfl (by decide)) rfl rfl hl.1 rfl (lv_room (Nat.le_of_ble_eq_true rfl)) dX10_work_70 ⟨Nat.le_of_ble_eq_true rfl, Nat.le_of_ble_eq_true rfl⟩) hP hD hS hA [12, 2, 3, 4, 5, 6, 7, 8, 9, 10] [0, 1, 11] rfl rfl (by decide) (by decide) (fun r_28 u_30 H locs w_29 hP hD hS => ?_)
              have hP : va_P D vwCl [(x, .inr (10, [.ref nw, .ref kp, .ref fu, .ref ra, .ref kr, .ref rd, .ref wd, .ref ld, .ref mt, .ref vo, .ref sh, .ref fd, .int im])), (nw, .inr (9, [.ref w0, .ref w1, .ref w2, .ref w3, .ref w4, .ref w5, .int wt, .int re, .int dy])), (fd, .inl (cI, 6, .inl ff))] H := hP
              have hD : va_D A [(x, .inr (10, [.ref nw, .ref kp, .ref fu, .ref ra, .ref kr, .ref rd, .ref wd, .ref ld, .ref mt, .ref vo, .ref sh, .ref fd, .int im])), (nw, .inr (9, [.ref w0, .ref w1, .ref w2, .ref w3, .ref w4, .ref w5, .int wt, .int re, .int dy])), (fd, .inl (cI, 6, .inl ff))] := hD
              have hr_28 := w_29
              obtain rfl : r_28 = 0 := hr_28.trans (by decide)
              exact hRet () [] (by unfold sp_work; repeat (first | rw [if_pos (by omega)] | rw [if_neg (by omega)])) hP hD (by decide) rfl hS rfl dX10_work_73
            · (try simp only [zl_0] at h_26); exfalso; omega
          · refine lv_aload_n hx hb dX10_work_28 rfl (lv_at hl 0 rfl) ?_
            refine lv_iconst (v := 1) hx hb dX10_work_29 (by decide) ?_
            refine kJi (wr := [(nw, .inr (9, [.ref w0, .ref w1, .ref w2, .ref w3, .ref w4, .ref w5, .int wt, .int re, .int dy])), (w4, .inr (8, [.ref k0, .ref k1, .ref k2, .ref k3, .ref k4, .ref k5, .ref k6, .ref k7, .ref k8, .int 0])), (k0, .inl (cI, 60, .inl (fun _ => (0 : Int32)))), (k1, .inl (cI, 60, .inl (fun _ => (0 : Int32)))), (k2, .inl (cI, 60, .inl (fun _ => (0 : Int32)))), (k3, .inl (cI, 60, .inl (fun _ => (0 : Int32)))), (k4, .inl (cI, 60, .inl (fun _ => (0 : Int32)))), (k5, .inl (cI, 60, .inl (fun _ => (0 : Int32)))), (k6, .inl (cI, 40, .inl (fun _ => (0 : Int32)))), (k7, .inl (cI, 40, .inl (fun _ => (0 : Int32)))), (k8, .inl (cI, 40, .inl (fun _ => (0 : Int32))))]) (va_runV (As := [.int 1]) (rest := []) ⟨hx, hb, hml, hown, hT⟩ (c_X10_finding l D cI x nw kp fu ra kr rd wd ld mt vo sh fd H.size im ff 1 (by first | omega | (simp only [zl_1] <;> omega) | decide | assumption | rfl) (by first | omega | (simp only [zl_1] <;> omega) | decide | assumption | rfl)) (cwV 1 hT (gV_in mw_338 mw_335 mw_337 mw_p1_0 mw_1) rfl rfl rfl (by decide +kernel) ⟨Nat.le_of_ble_eq_true rfl, Nat.le_of_ble_eq_true rfl⟩) (kRecv (own := "") (q0 := 0) (ci := 10) hK hP hD hN rfl rfl [0, 12] rfl (by decide)) rfl rfl hl.1 rfl (lv_room (Nat.le_of_ble_eq_true rfl)) dX10_work_30 ⟨Nat.le_of_ble_eq_true rfl, Nat.le_of_ble_eq_true rfl⟩) hP hD hS hA [0, 12] [1, 2, 3, 4, 5, 6, 7, 8, 9, 10, 11] rfl rfl (by decide) (by decide) (fun r_31 u_33 H locs w_32 hP hD hS => ?_)
            have hP : va_P D vwCl [(nw, .inr (9, [.ref w0, .ref w1, .ref w2, .ref w3, .ref w4, .ref w5, .int wt, .int re, .int dy])), (w4, .inr (8, [.ref k0, .ref k1, .ref k2, .ref k3, .ref k4, .ref k5, .ref k6, .ref k7, .ref k8, .int 0])), (k0, .inl (cI, 60, .inl (fun _ => (0 : Int32)))), (k1, .inl (cI, 60, .inl (fun _ => (0 : Int32)))), (k2, .inl (cI, 60, .inl (fun _ => (0 : Int32)))), (k3, .inl (cI, 60, .inl (fun _ => (0 : Int32)))), (k4, .inl (cI, 60, .inl (fun _ => (0 : Int32)))), (k5, .inl (cI, 60, .inl (fun _ => (0 : Int32)))), (k6, .inl (cI, 40, .inl (fun _ => (0 : Int32)))), (k7, .inl (cI, 40, .inl (fun _ => (0 : Int32)))), (k8, .inl (cI, 40, .inl (fun _ => (0 : Int32))))] H := hP
            have hD : va_D A [(nw, .inr (9, [.ref w0, .ref w1, .ref w2, .ref w3, .ref w4, .ref w5, .int wt, .int re, .int dy])), (w4, .inr (8, [.ref k0, .ref k1, .ref k2, .ref k3, .ref k4, .ref k5, .ref k6, .ref k7, .ref k8, .int 0])), (k0, .inl (cI, 60, .inl (fun _ => (0 : Int32)))), (k1, .inl (cI, 60, .inl (fun _ => (0 : Int32)))), (k2, .inl (cI, 60, .inl (fun _ => (0 : Int32)))), (k3, .inl (cI, 60, .inl (fun _ => (0 : Int32)))), (k4, .inl (cI, 60, .inl (fun _ => (0 : Int32)))), (k5, .inl (cI, 60, .inl (fun _ => (0 : Int32)))), (k6, .inl (cI, 40, .inl (fun _ => (0 : Int32)))), (k7, .inl (cI, 40, .inl (fun _ => (0 : Int32)))), (k8, .inl (cI, 40, .inl (fun _ => (0 : Int32))))] := hD
            have hr_31 := w_32
            obtain rfl : r_31 = (-1000001) := hr_31.trans (by decide)
            exact hRet () [] (by unfold sp_work; repeat (first | rw [if_pos (by omega)] | rw [if_neg (by omega)])) hP hD (by decide) rfl hS rfl dX10_work_33
      · have h_14 : b.toInt < 0 ∨ 39 < b.toInt := h_14
        obtain rfl : r_9 = 0 := hr_9.trans (by decide)
        refine b_if_eq hx hb zl_0 (tgt := 28) dX10_work_14 (by decide) (fun c_34 => ?_) (fun c_34 => by exfalso; omega)
        refine lv_aload_n hx hb dX10_work_28 rfl (lv_at hl 0 rfl) ?_
        refine lv_iconst (v := 1) hx hb dX10_work_29 (by decide) ?_
        refine kJi (wr := [(nw, .inr (9, [.ref w0, .ref w1, .ref w2, .ref w3, .ref w4, .ref w5, .int wt, .int re, .int dy])), (w4, .inr (8, [.ref k0, .ref k1, .ref k2, .ref k3, .ref k4, .ref k5, .ref k6, .ref k7, .ref k8, .int 0])), (k0, .inl (cI, 60, .inl (fun _ => (0 : Int32)))), (k1, .inl (cI, 60, .inl (fun _ => (0 : Int32)))), (k2, .inl (cI, 60, .inl (fun _ => (0 : Int32)))), (k3, .inl (cI, 60, .inl (fun _ => (0 : Int32)))), (k4, .inl (cI, 60, .inl (fun _ => (0 : Int32)))), (k5, .inl (cI, 60, .inl (fun _ => (0 : Int32)))), (k6, .inl (cI, 40, .inl (fun _ => (0 : Int32)))), (k7, .inl (cI, 40, .inl (fun _ => (0 : Int32)))), (k8, .inl (cI, 40, .inl (fun _ => (0 : Int32))))]) (va_runV (As := [.int 1]) (rest := []) ⟨hx, hb, hml, hown, hT⟩ (c_X10_finding l D cI x nw kp fu ra kr rd wd ld mt vo sh fd H.size im ff 1 (by first | omega | (simp only [zl_1] <;> omega) | decide | assumption | rfl) (by first | omega | (simp only [zl_1] <;> omega) | decide | assumption | rfl)) (cwV 1 hT (gV_in mw_338 mw_335 mw_337 mw_p1_0 mw_1) rfl rfl rfl (by decide +kernel) ⟨Nat.le_of_ble_eq_true rfl, Nat.le_of_ble_eq_true rfl⟩) (kRecv (own := "") (q0 := 0) (ci := 10) hK hP hD hN rfl rfl [0, 12] rfl (by decide)) rfl rfl hl.1 rfl (lv_room (Nat.le_of_ble_eq_true rfl)) dX10_work_30 ⟨Nat.le_of_ble_eq_true rfl, Nat.le_of_ble_eq_true rfl⟩) hP hD hS hA [0, 12] [1, 2, 3, 4, 5, 6, 7, 8, 9, 10, 11] rfl rfl (by decide) (by decide) (fun r_35 u_37 H locs w_36 hP hD hS => ?_)
        have hP : va_P D vwCl [(nw, .inr (9, [.ref w0, .ref w1, .ref w2, .ref w3, .ref w4, .ref w5, .int wt, .int re, .int dy])), (w4, .inr (8, [.ref k0, .ref k1, .ref k2, .ref k3, .ref k4, .ref k5, .ref k6, .ref k7, .ref k8, .int 0])), (k0, .inl (cI, 60, .inl (fun _ => (0 : Int32)))), (k1, .inl (cI, 60, .inl (fun _ => (0 : Int32)))), (k2, .inl (cI, 60, .inl (fun _ => (0 : Int32)))), (k3, .inl (cI, 60, .inl (fun _ => (0 : Int32)))), (k4, .inl (cI, 60, .inl (fun _ => (0 : Int32)))), (k5, .inl (cI, 60, .inl (fun _ => (0 : Int32)))), (k6, .inl (cI, 40, .inl (fun _ => (0 : Int32)))), (k7, .inl (cI, 40, .inl (fun _ => (0 : Int32)))), (k8, .inl (cI, 40, .inl (fun _ => (0 : Int32))))] H := hP
        have hD : va_D A [(nw, .inr (9, [.ref w0, .ref w1, .ref w2, .ref w3, .ref w4, .ref w5, .int wt, .int re, .int dy])), (w4, .inr (8, [.ref k0, .ref k1, .ref k2, .ref k3, .ref k4, .ref k5, .ref k6, .ref k7, .ref k8, .int 0])), (k0, .inl (cI, 60, .inl (fun _ => (0 : Int32)))), (k1, .inl (cI, 60, .inl (fun _ => (0 : Int32)))), (k2, .inl (cI, 60, .inl (fun _ => (0 : Int32)))), (k3, .inl (cI, 60, .inl (fun _ => (0 : Int32)))), (k4, .inl (cI, 60, .inl (fun _ => (0 : Int32)))), (k5, .inl (cI, 60, .inl (fun _ => (0 : Int32)))), (k6, .inl (cI, 40, .inl (fun _ => (0 : Int32)))), (k7, .inl (cI, 40, .inl (fun _ => (0 : Int32)))), (k8, .inl (cI, 40, .inl (fun _ => (0 : Int32))))] := hD
        have hr_35 := w_36
        obtain rfl : r_35 = (-1000001) := hr_35.trans (by decide)
        exact hRet () [] (by unfold sp_work; repeat (first | rw [if_pos (by omega)] | rw [if_neg (by omega)])) hP hD (by decide) rfl hS rfl dX10_work_33
set_option maxHeartbeats 4000000 in
set_option maxRecDepth 100000 in
theorem c_X10_as (l : Launch) (D : va_G) (cI : ClassId) (x nw kp fu ra kr rd wd ld mt vo sh fd w0 w1 w2 w3 w4 w5 k0 k1 k2 k3 k4 k5 k6 k7 k8 : Nat) (sz : Nat) (im : Int32) (ff : Nat → Int32) (wt : Int32) (re : Int32) (dy : Int32) (a : Int32) (b : Int32) : Met l yX10_as (gW yX10_as cX10_as 3 (some .int)) ({ frames := 1, cells := 0, slots := 0, locals := 21 } : Room) (kPre D cI [.ref x, .int a, .int b] [(x, .inr (10, [.ref nw, .ref kp, .ref fu, .ref ra, .ref kr, .ref rd, .ref wd, .ref ld, .ref mt, .ref vo, .ref sh, .ref fd, .int im])), (nw, .inr (9, [.ref w0, .ref w1, .ref w2, .ref w3, .ref w4, .ref w5, .int wt, .int re, .int dy])), (w4, .inr (8, [.ref k0, .ref k1, .ref k2, .ref k3, .ref k4, .ref k5, .ref k6, .ref k7, .ref k8, .int 0])), (fd, .inl (cI, 6, .inl ff))] sz) (va_Qi (fun (r : Int32) (u : Unit) => r = (-1000001)) (fun u t => kWd D cI (va_A [(x, .inr (10, [.ref nw, .ref kp, .ref fu, .ref ra, .ref kr, .ref rd, .ref wd, .ref ld, .ref mt, .ref vo, .ref sh, .ref fd, .int im])), (nw, .inr (9, [.ref w0, .ref w1, .ref w2, .ref w3, .ref w4, .ref w5, .int wt, .int re, .int dy])), (w4, .inr (8, [.ref k0, .ref k1, .ref k2, .ref k3, .ref k4, .ref k5, .ref k6, .ref k7, .ref k8, .int 0])), (fd, .inl (cI, 6, .inl ff))] sz) [] t) (va_A [(x, .inr (10, [.ref nw, .ref kp, .ref fu, .ref ra, .ref kr, .ref rd, .ref wd, .ref ld, .ref mt, .ref vo, .ref sh, .ref fd, .int im])), (nw, .inr (9, [.ref w0, .ref w1, .ref w2, .ref w3, .ref w4, .ref w5, .int wt, .int re, .int dy])), (w4, .inr (8, [.ref k0, .ref k1, .ref k2, .ref k3, .ref k4, .ref k5, .ref k6, .ref k7, .ref k8, .int 0])), (fd, .inl (cI, 6, .inl ff))] sz)) 0 0 (va_A [(x, .inr (10, [.ref nw, .ref kp, .ref fu, .ref ra, .ref kr, .ref rd, .ref wd, .ref ld, .ref mt, .ref vo, .ref sh, .ref fd, .int im])), (nw, .inr (9, [.ref w0, .ref w1, .ref w2, .ref w3, .ref w4, .ref w5, .int wt, .int re, .int dy])), (w4, .inr (8, [.ref k0, .ref k1, .ref k2, .ref k3, .ref k4, .ref k5, .ref k6, .ref k7, .ref k8, .int 0])), (fd, .inl (cI, 6, .inl ff))] sz) := by
  refine kMetI (own := RX10) (by decide) rfl (Nat.le_of_ble_eq_true rfl) ?_
  intro p e s m args below meth c hx hb hT hown hname hml A Q hK hP hD hS hA hN hRet ls hl
  have hl : lv_has ls 3 [(0, .ref x), (1, .int a), (2, .int b)] := hl
  have lo_a := k_lo a
  have hi_a := k_hi a
  have lo_b := k_lo b
  have hi_b := k_hi b
  have lo_im := k_lo im
  have hi_im := k_hi im
  have lo_wt := k_lo wt
  have hi_wt := k_hi wt
  have lo_re := k_lo re
  have hi_re := k_hi re
  have lo_dy := k_lo dy
  have hi_dy := k_hi dy
  refine lv_aload_n hx hb dX10_as_0 rfl (lv_at hl 0 rfl) ?_
  refine va_get (D := D) (ci := 10) (v := .ref nw) (C := RX10) (T := TX10) (N := 13) hx hb hT giX10 hown hK hP 0 rfl rfl 0 (by decide) (hT (Cond.fieldLink RX10 12 "DesertWire" "now" "LDesertWire$World;") mw_291) (fun _ h9 => h9) rfl dX10_as_1 ?_
  refine va_get (D := D) (ci := 9) (v := .ref w4) (C := RX9) (T := TX9) (N := 9) hx hb hT giX9 hown hK hP 1 rfl rfl 4 (by decide) (hT (Cond.fieldLink RX10 99 "DesertWire$World" "works" "LDesertWire$Works;") mw_99) (fun _ h9 => h9) rfl dX10_as_4 ?_
  refine lv_iload_n hx hb dX10_as_7 rfl (lv_at hl 1 rfl) ?_
  refine kJi (wr := [(x, .inr (10, [.ref nw, .ref kp, .ref fu, .ref ra, .ref kr, .ref rd, .ref wd, .ref ld, .ref mt, .ref vo, .ref sh, .ref fd, .int im])), (nw, .inr (9, [.ref w0, .ref w1, .ref w2, .ref w3, .ref w4, .ref w5, .int wt, .int re, .int dy])), (fd, .inl (cI, 6, .inl ff))]) (va_runV (As := [.int a]) (rest := []) ⟨hx, hb, hml, hown, hT⟩ (c_X8_has l D cI w4 k0 k1 k2 k3 k4 k5 k6 k7 k8 s.heap.size 0 a) (cwV 1 hT (gV_in mw_371 mw_380 mw_369 mw_370 mw_3) rfl rfl rfl (by decide +kernel) ⟨Nat.le_of_ble_eq_true rfl, Nat.le_of_ble_eq_true rfl⟩) (kRecv (own := "") (q0 := 2) (ci := 8) hK hP hD hN rfl rfl [2] rfl (by decide)) rfl rfl hl.1 rfl (lv_room (Nat.le_of_ble_eq_true rfl)) dX10_as_8 ⟨Nat.le_of_ble_eq_true rfl, Nat.le_of_ble_eq_true rfl⟩) hP hD hS hA [2] [0, 1, 3] rfl rfl (by decide) (by decide) (fun r_1 u_3 H locs w_2 hP hD hS => ?_)
  have hP : va_P D vwCl [(x, .inr (10, [.ref nw, .ref kp, .ref fu, .ref ra, .ref kr, .ref rd, .ref wd, .ref ld, .ref mt, .ref vo, .ref sh, .ref fd, .int im])), (nw, .inr (9, [.ref w0, .ref w1, .ref w2, .ref w3, .ref w4, .ref w5, .int wt, .int re, .int dy])), (fd, .inl (cI, 6, .inl ff)), (w4, .inr (8, [.ref k0, .ref k1, .ref k2, .ref k3, .ref k4, .ref k5, .ref k6, .ref k7, .ref k8, .int 0]))] H := hP
  have hD : va_D A [(x, .inr (10, [.ref nw, .ref kp, .ref fu, .ref ra, .ref kr, .ref rd, .ref wd, .ref ld, .ref mt, .ref vo, .ref sh, .ref fd, .int im])), (nw, .inr (9, [.ref w0, .ref w1, .ref w2, .ref w3, .ref w4, .ref w5, .int wt, .int re, .int dy])), (fd, .inl (cI, 6, .inl ff)), (w4, .inr (8, [.ref k0, .ref k1, .ref k2, .ref k3, .ref k4, .ref k5, .ref k6, .ref k7, .ref k8, .int 0]))] := hD
  rcases w_2 with ⟨hr_1, h_4, h_5, h_6⟩ | ⟨hr_1, h_7⟩
  · (try simp only [zl_0] at h_4 h_5 h_6); exfalso; omega
  · try simp only [zl_0] at h_7
    have h_7 : a.toInt < 0 ∨ 0 ≤ a.toInt ∨ 60 ≤ a.toInt := h_7
    obtain rfl : r_1 = 0 := hr_1.trans (by decide)
    refine b_if_eq hx hb zl_0 (tgt := 24) dX10_as_11 (by decide) (fun c_8 => ?_) (fun c_8 => by exfalso; omega)
    refine lv_aload_n hx hb dX10_as_24 rfl (lv_at hl 0 rfl) ?_
    refine lv_iconst (v := 1) hx hb dX10_as_25 (by decide) ?_
    refine kJi (wr := [(nw, .inr (9, [.ref w0, .ref w1, .ref w2, .ref w3, .ref w4, .ref w5, .int wt, .int re, .int dy])), (w4, .inr (8, [.ref k0, .ref k1, .ref k2, .ref k3, .ref k4, .ref k5, .ref k6, .ref k7, .ref k8, .int 0]))]) (va_runV (As := [.int 1]) (rest := []) ⟨hx, hb, hml, hown, hT⟩ (c_X10_finding l D cI x nw kp fu ra kr rd wd ld mt vo sh fd H.size im ff 1 (by first | omega | (simp only [zl_1] <;> omega) | decide | assumption | rfl) (by first | omega | (simp only [zl_1] <;> omega) | decide | assumption | rfl)) (cwV 1 hT (gV_in mw_338 mw_335 mw_337 mw_p1_0 mw_1) rfl rfl rfl (by decide +kernel) ⟨Nat.le_of_ble_eq_true rfl, Nat.le_of_ble_eq_true rfl⟩) (kRecv (own := "") (q0 := 0) (ci := 10) hK hP hD hN rfl rfl [0, 2] rfl (by decide)) rfl rfl hl.1 rfl (lv_room (Nat.le_of_ble_eq_true rfl)) dX10_as_26 ⟨Nat.le_of_ble_eq_true rfl, Nat.le_of_ble_eq_true rfl⟩) hP hD hS hA [0, 2] [1, 3] rfl rfl (by decide) (by decide) (fun r_9 u_11 H locs w_10 hP hD hS => ?_)
    have hP : va_P D vwCl [(nw, .inr (9, [.ref w0, .ref w1, .ref w2, .ref w3, .ref w4, .ref w5, .int wt, .int re, .int dy])), (w4, .inr (8, [.ref k0, .ref k1, .ref k2, .ref k3, .ref k4, .ref k5, .ref k6, .ref k7, .ref k8, .int 0]))] H := hP
    have hD : va_D A [(nw, .inr (9, [.ref w0, .ref w1, .ref w2, .ref w3, .ref w4, .ref w5, .int wt, .int re, .int dy])), (w4, .inr (8, [.ref k0, .ref k1, .ref k2, .ref k3, .ref k4, .ref k5, .ref k6, .ref k7, .ref k8, .int 0]))] := hD
    have hr_9 := w_10
    obtain rfl : r_9 = (-1000001) := hr_9.trans (by decide)
    exact hRet () [] rfl hP hD (by decide) rfl hS rfl dX10_as_29
set_option maxHeartbeats 4000000 in
set_option maxRecDepth 100000 in
theorem c_X10_workIs (l : Launch) (D : va_G) (cI : ClassId) (x nw kp fu ra kr rd wd ld mt vo sh fd w0 w1 w2 w3 w4 w5 k0 k1 k2 k3 k4 k5 k6 k7 k8 : Nat) (sz : Nat) (im : Int32) (ff : Nat → Int32) (wt : Int32) (re : Int32) (dy : Int32) (a : Int32) (b : Int32) : Met l yX10_workIs (gW yX10_workIs cX10_workIs 4 (some .int)) ({ frames := 1, cells := 0, slots := 0, locals := 21 } : Room) (kPre D cI [.ref x, .int a, .int b] [(x, .inr (10, [.ref nw, .ref kp, .ref fu, .ref ra, .ref kr, .ref rd, .ref wd, .ref ld, .ref mt, .ref vo, .ref sh, .ref fd, .int im])), (nw, .inr (9, [.ref w0, .ref w1, .ref w2, .ref w3, .ref w4, .ref w5, .int wt, .int re, .int dy])), (w4, .inr (8, [.ref k0, .ref k1, .ref k2, .ref k3, .ref k4, .ref k5, .ref k6, .ref k7, .ref k8, .int 0])), (fd, .inl (cI, 6, .inl ff))] sz) (va_Qi (fun (r : Int32) (u : Unit) => r = (-1000001)) (fun u t => kWd D cI (va_A [(x, .inr (10, [.ref nw, .ref kp, .ref fu, .ref ra, .ref kr, .ref rd, .ref wd, .ref ld, .ref mt, .ref vo, .ref sh, .ref fd, .int im])), (nw, .inr (9, [.ref w0, .ref w1, .ref w2, .ref w3, .ref w4, .ref w5, .int wt, .int re, .int dy])), (w4, .inr (8, [.ref k0, .ref k1, .ref k2, .ref k3, .ref k4, .ref k5, .ref k6, .ref k7, .ref k8, .int 0])), (fd, .inl (cI, 6, .inl ff))] sz) [] t) (va_A [(x, .inr (10, [.ref nw, .ref kp, .ref fu, .ref ra, .ref kr, .ref rd, .ref wd, .ref ld, .ref mt, .ref vo, .ref sh, .ref fd, .int im])), (nw, .inr (9, [.ref w0, .ref w1, .ref w2, .ref w3, .ref w4, .ref w5, .int wt, .int re, .int dy])), (w4, .inr (8, [.ref k0, .ref k1, .ref k2, .ref k3, .ref k4, .ref k5, .ref k6, .ref k7, .ref k8, .int 0])), (fd, .inl (cI, 6, .inl ff))] sz)) 0 0 (va_A [(x, .inr (10, [.ref nw, .ref kp, .ref fu, .ref ra, .ref kr, .ref rd, .ref wd, .ref ld, .ref mt, .ref vo, .ref sh, .ref fd, .int im])), (nw, .inr (9, [.ref w0, .ref w1, .ref w2, .ref w3, .ref w4, .ref w5, .int wt, .int re, .int dy])), (w4, .inr (8, [.ref k0, .ref k1, .ref k2, .ref k3, .ref k4, .ref k5, .ref k6, .ref k7, .ref k8, .int 0])), (fd, .inl (cI, 6, .inl ff))] sz) := by
  refine kMetI (own := RX10) (by decide) rfl (Nat.le_of_ble_eq_true rfl) ?_
  intro p e s m args below meth c hx hb hT hown hname hml A Q hK hP hD hS hA hN hRet ls hl
  have hl : lv_has ls 4 [(0, .ref x), (1, .int a), (2, .int b)] := hl
  have lo_a := k_lo a
  have hi_a := k_hi a
  have lo_b := k_lo b
  have hi_b := k_hi b
  have lo_im := k_lo im
  have hi_im := k_hi im
  have lo_wt := k_lo wt
  have hi_wt := k_hi wt
  have lo_re := k_lo re
  have hi_re := k_hi re
  have lo_dy := k_lo dy
  have hi_dy := k_hi dy
  refine lv_aload_n hx hb dX10_workIs_0 rfl (lv_at hl 0 rfl) ?_
  refine va_get (D := D) (ci := 10) (v := .ref nw) (C := RX10) (T := TX10) (N := 13) hx hb hT giX10 hown hK hP 0 rfl rfl 0 (by decide) (hT (Cond.fieldLink RX10 12 "DesertWire" "now" "LDesertWire$World;") mw_291) (fun _ h9 => h9) rfl dX10_workIs_1 ?_
  refine va_get (D := D) (ci := 9) (v := .ref w4) (C := RX9) (T := TX9) (N := 9) hx hb hT giX9 hown hK hP 1 rfl rfl 4 (by decide) (hT (Cond.fieldLink RX10 99 "DesertWire$World" "works" "LDesertWire$Works;") mw_99) (fun _ h9 => h9) rfl dX10_workIs_4 ?_
  refine lv_iload_n hx hb dX10_workIs_7 rfl (lv_at hl 1 rfl) ?_
  refine kJi (wr := [(x, .inr (10, [.ref nw, .ref kp, .ref fu, .ref ra, .ref kr, .ref rd, .ref wd, .ref ld, .ref mt, .ref vo, .ref sh, .ref fd, .int im])), (nw, .inr (9, [.ref w0, .ref w1, .ref w2, .ref w3, .ref w4, .ref w5, .int wt, .int re, .int dy])), (fd, .inl (cI, 6, .inl ff))]) (va_runV (As := [.int a]) (rest := []) ⟨hx, hb, hml, hown, hT⟩ (c_X8_has l D cI w4 k0 k1 k2 k3 k4 k5 k6 k7 k8 s.heap.size 0 a) (cwV 1 hT (gV_in mw_371 mw_380 mw_369 mw_370 mw_3) rfl rfl rfl (by decide +kernel) ⟨Nat.le_of_ble_eq_true rfl, Nat.le_of_ble_eq_true rfl⟩) (kRecv (own := "") (q0 := 2) (ci := 8) hK hP hD hN rfl rfl [2] rfl (by decide)) rfl rfl hl.1 rfl (lv_room (Nat.le_of_ble_eq_true rfl)) dX10_workIs_8 ⟨Nat.le_of_ble_eq_true rfl, Nat.le_of_ble_eq_true rfl⟩) hP hD hS hA [2] [0, 1, 3] rfl rfl (by decide) (by decide) (fun r_1 u_3 H locs w_2 hP hD hS => ?_)
  have hP : va_P D vwCl [(x, .inr (10, [.ref nw, .ref kp, .ref fu, .ref ra, .ref kr, .ref rd, .ref wd, .ref ld, .ref mt, .ref vo, .ref sh, .ref fd, .int im])), (nw, .inr (9, [.ref w0, .ref w1, .ref w2, .ref w3, .ref w4, .ref w5, .int wt, .int re, .int dy])), (fd, .inl (cI, 6, .inl ff)), (w4, .inr (8, [.ref k0, .ref k1, .ref k2, .ref k3, .ref k4, .ref k5, .ref k6, .ref k7, .ref k8, .int 0]))] H := hP
  have hD : va_D A [(x, .inr (10, [.ref nw, .ref kp, .ref fu, .ref ra, .ref kr, .ref rd, .ref wd, .ref ld, .ref mt, .ref vo, .ref sh, .ref fd, .int im])), (nw, .inr (9, [.ref w0, .ref w1, .ref w2, .ref w3, .ref w4, .ref w5, .int wt, .int re, .int dy])), (fd, .inl (cI, 6, .inl ff)), (w4, .inr (8, [.ref k0, .ref k1, .ref k2, .ref k3, .ref k4, .ref k5, .ref k6, .ref k7, .ref k8, .int 0]))] := hD
  rcases w_2 with ⟨hr_1, h_4, h_5, h_6⟩ | ⟨hr_1, h_7⟩
  · (try simp only [zl_0] at h_4 h_5 h_6); exfalso; omega
  · try simp only [zl_0] at h_7
    have h_7 : a.toInt < 0 ∨ 0 ≤ a.toInt ∨ 60 ≤ a.toInt := h_7
    obtain rfl : r_1 = 0 := hr_1.trans (by decide)
    refine b_if_ne hx hb zl_0 (tgt := 20) dX10_workIs_11 (by decide) (fun c_8 => by exfalso; omega) (fun c_8 => ?_)
    refine lv_aload_n hx hb dX10_workIs_14 rfl (lv_at hl 0 rfl) ?_
    refine lv_iconst (v := 1) hx hb dX10_workIs_15 (by decide) ?_
    refine kJi (wr := [(nw, .inr (9, [.ref w0, .ref w1, .ref w2, .ref w3, .ref w4, .ref w5, .int wt, .int re, .int dy])), (w4, .inr (8, [.ref k0, .ref k1, .ref k2, .ref k3, .ref k4, .ref k5, .ref k6, .ref k7, .ref k8, .int 0]))]) (va_runV (As := [.int 1]) (rest := []) ⟨hx, hb, hml, hown, hT⟩ (c_X10_finding l D cI x nw kp fu ra kr rd wd ld mt vo sh fd H.size im ff 1 (by first | omega | (simp only [zl_1] <;> omega) | decide | assumption | rfl) (by first | omega | (simp only [zl_1] <;> omega) | decide | assumption | rfl)) (cwV 1 hT (gV_in mw_338 mw_335 mw_337 mw_p1_0 mw_1) rfl rfl rfl (by decide +kernel) ⟨Nat.le_of_ble_eq_true rfl, Nat.le_of_ble_eq_true rfl⟩) (kRecv (own := "") (q0 := 0) (ci := 10) hK hP hD hN rfl rfl [0, 2] rfl (by decide)) rfl rfl hl.1 rfl (lv_room (Nat.le_of_ble_eq_true rfl)) dX10_workIs_16 ⟨Nat.le_of_ble_eq_true rfl, Nat.le_of_ble_eq_true rfl⟩) hP hD hS hA [0, 2] [1, 3] rfl rfl (by decide) (by decide) (fun r_9 u_11 H locs w_10 hP hD hS => ?_)
    have hP : va_P D vwCl [(nw, .inr (9, [.ref w0, .ref w1, .ref w2, .ref w3, .ref w4, .ref w5, .int wt, .int re, .int dy])), (w4, .inr (8, [.ref k0, .ref k1, .ref k2, .ref k3, .ref k4, .ref k5, .ref k6, .ref k7, .ref k8, .int 0]))] H := hP
    have hD : va_D A [(nw, .inr (9, [.ref w0, .ref w1, .ref w2, .ref w3, .ref w4, .ref w5, .int wt, .int re, .int dy])), (w4, .inr (8, [.ref k0, .ref k1, .ref k2, .ref k3, .ref k4, .ref k5, .ref k6, .ref k7, .ref k8, .int 0]))] := hD
    have hr_9 := w_10
    obtain rfl : r_9 = (-1000001) := hr_9.trans (by decide)
    exact hRet () [] rfl hP hD (by decide) rfl hS rfl dX10_workIs_19
set_option maxHeartbeats 4000000 in
set_option maxRecDepth 100000 in
theorem c_X10_fell (l : Launch) (D : va_G) (cI : ClassId) (x nw kp fu ra kr rd wd ld mt vo sh fd w0 w1 w2 w3 w4 w5 k0 k1 k2 k3 k4 k5 k6 k7 k8 : Nat) (sz : Nat) (im : Int32) (ff : Nat → Int32) (wt : Int32) (re : Int32) (dy : Int32) (a : Int32) : Met l yX10_fell (gW yX10_fell cX10_fell 2 (some .int)) ({ frames := 1, cells := 0, slots := 0, locals := 21 } : Room) (kPre D cI [.ref x, .int a] [(x, .inr (10, [.ref nw, .ref kp, .ref fu, .ref ra, .ref kr, .ref rd, .ref wd, .ref ld, .ref mt, .ref vo, .ref sh, .ref fd, .int im])), (nw, .inr (9, [.ref w0, .ref w1, .ref w2, .ref w3, .ref w4, .ref w5, .int wt, .int re, .int dy])), (w4, .inr (8, [.ref k0, .ref k1, .ref k2, .ref k3, .ref k4, .ref k5, .ref k6, .ref k7, .ref k8, .int 0])), (fd, .inl (cI, 6, .inl ff))] sz) (va_Qi (fun (r : Int32) (u : Unit) => r = (-1000001)) (fun u t => kWd D cI (va_A [(x, .inr (10, [.ref nw, .ref kp, .ref fu, .ref ra, .ref kr, .ref rd, .ref wd, .ref ld, .ref mt, .ref vo, .ref sh, .ref fd, .int im])), (nw, .inr (9, [.ref w0, .ref w1, .ref w2, .ref w3, .ref w4, .ref w5, .int wt, .int re, .int dy])), (w4, .inr (8, [.ref k0, .ref k1, .ref k2, .ref k3, .ref k4, .ref k5, .ref k6, .ref k7, .ref k8, .int 0])), (fd, .inl (cI, 6, .inl ff))] sz) [] t) (va_A [(x, .inr (10, [.ref nw, .ref kp, .ref fu, .ref ra, .ref kr, .ref rd, .ref wd, .ref ld, .ref mt, .ref vo, .ref sh, .ref fd, .int im])), (nw, .inr (9, [.ref w0, .ref w1, .ref w2, .ref w3, .ref w4, .ref w5, .int wt, .int re, .int dy])), (w4, .inr (8, [.ref k0, .ref k1, .ref k2, .ref k3, .ref k4, .ref k5, .ref k6, .ref k7, .ref k8, .int 0])), (fd, .inl (cI, 6, .inl ff))] sz)) 0 0 (va_A [(x, .inr (10, [.ref nw, .ref kp, .ref fu, .ref ra, .ref kr, .ref rd, .ref wd, .ref ld, .ref mt, .ref vo, .ref sh, .ref fd, .int im])), (nw, .inr (9, [.ref w0, .ref w1, .ref w2, .ref w3, .ref w4, .ref w5, .int wt, .int re, .int dy])), (w4, .inr (8, [.ref k0, .ref k1, .ref k2, .ref k3, .ref k4, .ref k5, .ref k6, .ref k7, .ref k8, .int 0])), (fd, .inl (cI, 6, .inl ff))] sz) := by
  refine kMetI (own := RX10) (by decide) rfl (Nat.le_of_ble_eq_true rfl) ?_
  intro p e s m args below meth c hx hb hT hown hname hml A Q hK hP hD hS hA hN hRet ls hl
  have hl : lv_has ls 2 [(0, .ref x), (1, .int a)] := hl
  have lo_a := k_lo a
  have hi_a := k_hi a
  have lo_im := k_lo im
  have hi_im := k_hi im
  have lo_wt := k_lo wt
  have hi_wt := k_hi wt
  have lo_re := k_lo re
  have hi_re := k_hi re
  have lo_dy := k_lo dy
  have hi_dy := k_hi dy
  refine lv_aload_n hx hb dX10_fell_0 rfl (lv_at hl 0 rfl) ?_
  refine va_get (D := D) (ci := 10) (v := .ref nw) (C := RX10) (T := TX10) (N := 13) hx hb hT giX10 hown hK hP 0 rfl rfl 0 (by decide) (hT (Cond.fieldLink RX10 12 "DesertWire" "now" "LDesertWire$World;") mw_291) (fun _ h9 => h9) rfl dX10_fell_1 ?_
  refine va_get (D := D) (ci := 9) (v := .ref w4) (C := RX9) (T := TX9) (N := 9) hx hb hT giX9 hown hK hP 1 rfl rfl 4 (by decide) (hT (Cond.fieldLink RX10 99 "DesertWire$World" "works" "LDesertWire$Works;") mw_99) (fun _ h9 => h9) rfl dX10_fell_4 ?_
  refine lv_iload_n hx hb dX10_fell_7 rfl (lv_at hl 1 rfl) ?_
  refine kJi (wr := [(x, .inr (10, [.ref nw, .ref kp, .ref fu, .ref ra, .ref kr, .ref rd, .ref wd, .ref ld, .ref mt, .ref vo, .ref sh, .ref fd, .int im])), (nw, .inr (9, [.ref w0, .ref w1, .ref w2, .ref w3, .ref w4, .ref w5, .int wt, .int re, .int dy])), (fd, .inl (cI, 6, .inl ff))]) (va_runV (As := [.int a]) (rest := []) ⟨hx, hb, hml, hown, hT⟩ (c_X8_has l D cI w4 k0 k1 k2 k3 k4 k5 k6 k7 k8 s.heap.size 0 a) (cwV 1 hT (gV_in mw_371 mw_380 mw_369 mw_370 mw_3) rfl rfl rfl (by decide +kernel) ⟨Nat.le_of_ble_eq_true rfl, Nat.le_of_ble_eq_true rfl⟩) (kRecv (own := "") (q0 := 2) (ci := 8) hK hP hD hN rfl rfl [2] rfl (by decide)) rfl rfl hl.1 rfl (lv_room (Nat.le_of_ble_eq_true rfl)) dX10_fell_8 ⟨Nat.le_of_ble_eq_true rfl, Nat.le_of_ble_eq_true rfl⟩) hP hD hS hA [2] [0, 1, 3] rfl rfl (by decide) (by decide) (fun r_1 u_3 H locs w_2 hP hD hS => ?_)
  have hP : va_P D vwCl [(x, .inr (10, [.ref nw, .ref kp, .ref fu, .ref ra, .ref kr, .ref rd, .ref wd, .ref ld, .ref mt, .ref vo, .ref sh, .ref fd, .int im])), (nw, .inr (9, [.ref w0, .ref w1, .ref w2, .ref w3, .ref w4, .ref w5, .int wt, .int re, .int dy])), (fd, .inl (cI, 6, .inl ff)), (w4, .inr (8, [.ref k0, .ref k1, .ref k2, .ref k3, .ref k4, .ref k5, .ref k6, .ref k7, .ref k8, .int 0]))] H := hP
  have hD : va_D A [(x, .inr (10, [.ref nw, .ref kp, .ref fu, .ref ra, .ref kr, .ref rd, .ref wd, .ref ld, .ref mt, .ref vo, .ref sh, .ref fd, .int im])), (nw, .inr (9, [.ref w0, .ref w1, .ref w2, .ref w3, .ref w4, .ref w5, .int wt, .int re, .int dy])), (fd, .inl (cI, 6, .inl ff)), (w4, .inr (8, [.ref k0, .ref k1, .ref k2, .ref k3, .ref k4, .ref k5, .ref k6, .ref k7, .ref k8, .int 0]))] := hD
  rcases w_2 with ⟨hr_1, h_4, h_5, h_6⟩ | ⟨hr_1, h_7⟩
  · (try simp only [zl_0] at h_4 h_5 h_6); exfalso; omega
  · try simp only [zl_0] at h_7
    have h_7 : a.toInt < 0 ∨ 0 ≤ a.toInt ∨ 60 ≤ a.toInt := h_7
    obtain rfl : r_1 = 0 := hr_1.trans (by decide)
    refine b_if_ne hx hb zl_0 (tgt := 20) dX10_fell_11 (by decide) (fun c_8 => by exfalso; omega) (fun c_8 => ?_)
    refine lv_aload_n hx hb dX10_fell_14 rfl (lv_at hl 0 rfl) ?_
    refine lv_iconst (v := 1) hx hb dX10_fell_15 (by decide) ?_
    refine kJi (wr := [(nw, .inr (9, [.ref w0, .ref w1, .ref w2, .ref w3, .ref w4, .ref w5, .int wt, .int re, .int dy])), (w4, .inr (8, [.ref k0, .ref k1, .ref k2, .ref k3, .ref k4, .ref k5, .ref k6, .ref k7, .ref k8, .int 0]))]) (va_runV (As := [.int 1]) (rest := []) ⟨hx, hb, hml, hown, hT⟩ (c_X10_finding l D cI x nw kp fu ra kr rd wd ld mt vo sh fd H.size im ff 1 (by first | omega | (simp only [zl_1] <;> omega) | decide | assumption | rfl) (by first | omega | (simp only [zl_1] <;> omega) | decide | assumption | rfl)) (cwV 1 hT (gV_in mw_338 mw_335 mw_337 mw_p1_0 mw_1) rfl rfl rfl (by decide +kernel) ⟨Nat.le_of_ble_eq_true rfl, Nat.le_of_ble_eq_true rfl⟩) (kRecv (own := "") (q0 := 0) (ci := 10) hK hP hD hN rfl rfl [0, 2] rfl (by decide)) rfl rfl hl.1 rfl (lv_room (Nat.le_of_ble_eq_true rfl)) dX10_fell_16 ⟨Nat.le_of_ble_eq_true rfl, Nat.le_of_ble_eq_true rfl⟩) hP hD hS hA [0, 2] [1, 3] rfl rfl (by decide) (by decide) (fun r_9 u_11 H locs w_10 hP hD hS => ?_)
    have hP : va_P D vwCl [(nw, .inr (9, [.ref w0, .ref w1, .ref w2, .ref w3, .ref w4, .ref w5, .int wt, .int re, .int dy])), (w4, .inr (8, [.ref k0, .ref k1, .ref k2, .ref k3, .ref k4, .ref k5, .ref k6, .ref k7, .ref k8, .int 0]))] H := hP
    have hD : va_D A [(nw, .inr (9, [.ref w0, .ref w1, .ref w2, .ref w3, .ref w4, .ref w5, .int wt, .int re, .int dy])), (w4, .inr (8, [.ref k0, .ref k1, .ref k2, .ref k3, .ref k4, .ref k5, .ref k6, .ref k7, .ref k8, .int 0]))] := hD
    have hr_9 := w_10
    obtain rfl : r_9 = (-1000001) := hr_9.trans (by decide)
    exact hRet () [] rfl hP hD (by decide) rfl hS rfl dX10_fell_19
set_option maxHeartbeats 4000000 in
set_option maxRecDepth 100000 in
theorem c_X10_lay (l : Launch) (D : va_G) (cI : ClassId) (x nw kp fu ra kr rd wd ld mt vo sh fd w0 w1 w2 w3 w4 w5 k0 k1 k2 k3 k4 k5 k6 k7 k8 : Nat) (sz : Nat) (im : Int32) (ff : Nat → Int32) (wt : Int32) (re : Int32) (dy : Int32) (a : Int32) (b : Int32) : Met l yX10_lay (gW yX10_lay cX10_lay 4 (some .int)) ({ frames := 1, cells := 0, slots := 0, locals := 21 } : Room) (kPre D cI [.ref x, .int a, .int b] [(x, .inr (10, [.ref nw, .ref kp, .ref fu, .ref ra, .ref kr, .ref rd, .ref wd, .ref ld, .ref mt, .ref vo, .ref sh, .ref fd, .int im])), (nw, .inr (9, [.ref w0, .ref w1, .ref w2, .ref w3, .ref w4, .ref w5, .int wt, .int re, .int dy])), (w4, .inr (8, [.ref k0, .ref k1, .ref k2, .ref k3, .ref k4, .ref k5, .ref k6, .ref k7, .ref k8, .int 0])), (fd, .inl (cI, 6, .inl ff))] sz) (va_Qi (fun (r : Int32) (u : Unit) => r = (-1000001)) (fun u t => kWd D cI (va_A [(x, .inr (10, [.ref nw, .ref kp, .ref fu, .ref ra, .ref kr, .ref rd, .ref wd, .ref ld, .ref mt, .ref vo, .ref sh, .ref fd, .int im])), (nw, .inr (9, [.ref w0, .ref w1, .ref w2, .ref w3, .ref w4, .ref w5, .int wt, .int re, .int dy])), (w4, .inr (8, [.ref k0, .ref k1, .ref k2, .ref k3, .ref k4, .ref k5, .ref k6, .ref k7, .ref k8, .int 0])), (fd, .inl (cI, 6, .inl ff))] sz) [] t) (va_A [(x, .inr (10, [.ref nw, .ref kp, .ref fu, .ref ra, .ref kr, .ref rd, .ref wd, .ref ld, .ref mt, .ref vo, .ref sh, .ref fd, .int im])), (nw, .inr (9, [.ref w0, .ref w1, .ref w2, .ref w3, .ref w4, .ref w5, .int wt, .int re, .int dy])), (w4, .inr (8, [.ref k0, .ref k1, .ref k2, .ref k3, .ref k4, .ref k5, .ref k6, .ref k7, .ref k8, .int 0])), (fd, .inl (cI, 6, .inl ff))] sz)) 0 0 (va_A [(x, .inr (10, [.ref nw, .ref kp, .ref fu, .ref ra, .ref kr, .ref rd, .ref wd, .ref ld, .ref mt, .ref vo, .ref sh, .ref fd, .int im])), (nw, .inr (9, [.ref w0, .ref w1, .ref w2, .ref w3, .ref w4, .ref w5, .int wt, .int re, .int dy])), (w4, .inr (8, [.ref k0, .ref k1, .ref k2, .ref k3, .ref k4, .ref k5, .ref k6, .ref k7, .ref k8, .int 0])), (fd, .inl (cI, 6, .inl ff))] sz) := by
  refine kMetI (own := RX10) (by decide) rfl (Nat.le_of_ble_eq_true rfl) ?_
  intro p e s m args below meth c hx hb hT hown hname hml A Q hK hP hD hS hA hN hRet ls hl
  have hl : lv_has ls 4 [(0, .ref x), (1, .int a), (2, .int b)] := hl
  have lo_a := k_lo a
  have hi_a := k_hi a
  have lo_b := k_lo b
  have hi_b := k_hi b
  have lo_im := k_lo im
  have hi_im := k_hi im
  have lo_wt := k_lo wt
  have hi_wt := k_hi wt
  have lo_re := k_lo re
  have hi_re := k_hi re
  have lo_dy := k_lo dy
  have hi_dy := k_hi dy
  refine lv_aload_n hx hb dX10_lay_0 rfl (lv_at hl 0 rfl) ?_
  refine va_get (D := D) (ci := 10) (v := .ref nw) (C := RX10) (T := TX10) (N := 13) hx hb hT giX10 hown hK hP 0 rfl rfl 0 (by decide) (hT (Cond.fieldLink RX10 12 "DesertWire" "now" "LDesertWire$World;") mw_291) (fun _ h9 => h9) rfl dX10_lay_1 ?_
  refine va_get (D := D) (ci := 9) (v := .ref w4) (C := RX9) (T := TX9) (N := 9) hx hb hT giX9 hown hK hP 1 rfl rfl 4 (by decide) (hT (Cond.fieldLink RX10 99 "DesertWire$World" "works" "LDesertWire$Works;") mw_99) (fun _ h9 => h9) rfl dX10_lay_4 ?_
  refine lv_iload_n hx hb dX10_lay_7 rfl (lv_at hl 1 rfl) ?_
  refine kJi (wr := [(x, .inr (10, [.ref nw, .ref kp, .ref fu, .ref ra, .ref kr, .ref rd, .ref wd, .ref ld, .ref mt, .ref vo, .ref sh, .ref fd, .int im])), (nw, .inr (9, [.ref w0, .ref w1, .ref w2, .ref w3, .ref w4, .ref w5, .int wt, .int re, .int dy])), (fd, .inl (cI, 6, .inl ff))]) (va_runV (As := [.int a]) (rest := []) ⟨hx, hb, hml, hown, hT⟩ (c_X8_has l D cI w4 k0 k1 k2 k3 k4 k5 k6 k7 k8 s.heap.size 0 a) (cwV 1 hT (gV_in mw_371 mw_380 mw_369 mw_370 mw_3) rfl rfl rfl (by decide +kernel) ⟨Nat.le_of_ble_eq_true rfl, Nat.le_of_ble_eq_true rfl⟩) (kRecv (own := "") (q0 := 2) (ci := 8) hK hP hD hN rfl rfl [2] rfl (by decide)) rfl rfl hl.1 rfl (lv_room (Nat.le_of_ble_eq_true rfl)) dX10_lay_8 ⟨Nat.le_of_ble_eq_true rfl, Nat.le_of_ble_eq_true rfl⟩) hP hD hS hA [2] [0, 1, 3] rfl rfl (by decide) (by decide) (fun r_1 u_3 H locs w_2 hP hD hS => ?_)
  have hP : va_P D vwCl [(x, .inr (10, [.ref nw, .ref kp, .ref fu, .ref ra, .ref kr, .ref rd, .ref wd, .ref ld, .ref mt, .ref vo, .ref sh, .ref fd, .int im])), (nw, .inr (9, [.ref w0, .ref w1, .ref w2, .ref w3, .ref w4, .ref w5, .int wt, .int re, .int dy])), (fd, .inl (cI, 6, .inl ff)), (w4, .inr (8, [.ref k0, .ref k1, .ref k2, .ref k3, .ref k4, .ref k5, .ref k6, .ref k7, .ref k8, .int 0]))] H := hP
  have hD : va_D A [(x, .inr (10, [.ref nw, .ref kp, .ref fu, .ref ra, .ref kr, .ref rd, .ref wd, .ref ld, .ref mt, .ref vo, .ref sh, .ref fd, .int im])), (nw, .inr (9, [.ref w0, .ref w1, .ref w2, .ref w3, .ref w4, .ref w5, .int wt, .int re, .int dy])), (fd, .inl (cI, 6, .inl ff)), (w4, .inr (8, [.ref k0, .ref k1, .ref k2, .ref k3, .ref k4, .ref k5, .ref k6, .ref k7, .ref k8, .int 0]))] := hD
  rcases w_2 with ⟨hr_1, h_4, h_5, h_6⟩ | ⟨hr_1, h_7⟩
  · (try simp only [zl_0] at h_4 h_5 h_6); exfalso; omega
  · try simp only [zl_0] at h_7
    have h_7 : a.toInt < 0 ∨ 0 ≤ a.toInt ∨ 60 ≤ a.toInt := h_7
    obtain rfl : r_1 = 0 := hr_1.trans (by decide)
    refine b_if_eq hx hb zl_0 (tgt := 26) dX10_lay_11 (by decide) (fun c_8 => ?_) (fun c_8 => by exfalso; omega)
    refine lv_aload_n hx hb dX10_lay_26 rfl (lv_at hl 0 rfl) ?_
    refine lv_iconst (v := 1) hx hb dX10_lay_27 (by decide) ?_
    refine kJi (wr := [(nw, .inr (9, [.ref w0, .ref w1, .ref w2, .ref w3, .ref w4, .ref w5, .int wt, .int re, .int dy])), (w4, .inr (8, [.ref k0, .ref k1, .ref k2, .ref k3, .ref k4, .ref k5, .ref k6, .ref k7, .ref k8, .int 0]))]) (va_runV (As := [.int 1]) (rest := []) ⟨hx, hb, hml, hown, hT⟩ (c_X10_finding l D cI x nw kp fu ra kr rd wd ld mt vo sh fd H.size im ff 1 (by first | omega | (simp only [zl_1] <;> omega) | decide | assumption | rfl) (by first | omega | (simp only [zl_1] <;> omega) | decide | assumption | rfl)) (cwV 1 hT (gV_in mw_338 mw_335 mw_337 mw_p1_0 mw_1) rfl rfl rfl (by decide +kernel) ⟨Nat.le_of_ble_eq_true rfl, Nat.le_of_ble_eq_true rfl⟩) (kRecv (own := "") (q0 := 0) (ci := 10) hK hP hD hN rfl rfl [0, 2] rfl (by decide)) rfl rfl hl.1 rfl (lv_room (Nat.le_of_ble_eq_true rfl)) dX10_lay_28 ⟨Nat.le_of_ble_eq_true rfl, Nat.le_of_ble_eq_true rfl⟩) hP hD hS hA [0, 2] [1, 3] rfl rfl (by decide) (by decide) (fun r_9 u_11 H locs w_10 hP hD hS => ?_)
    have hP : va_P D vwCl [(nw, .inr (9, [.ref w0, .ref w1, .ref w2, .ref w3, .ref w4, .ref w5, .int wt, .int re, .int dy])), (w4, .inr (8, [.ref k0, .ref k1, .ref k2, .ref k3, .ref k4, .ref k5, .ref k6, .ref k7, .ref k8, .int 0]))] H := hP
    have hD : va_D A [(nw, .inr (9, [.ref w0, .ref w1, .ref w2, .ref w3, .ref w4, .ref w5, .int wt, .int re, .int dy])), (w4, .inr (8, [.ref k0, .ref k1, .ref k2, .ref k3, .ref k4, .ref k5, .ref k6, .ref k7, .ref k8, .int 0]))] := hD
    have hr_9 := w_10
    obtain rfl : r_9 = (-1000001) := hr_9.trans (by decide)
    exact hRet () [] rfl hP hD (by decide) rfl hS rfl dX10_lay_31
set_option maxHeartbeats 4000000 in
set_option maxRecDepth 100000 in
theorem c_X10_areTwoWorks (l : Launch) (D : va_G) (cI : ClassId) (x nw kp fu ra kr rd wd ld mt vo sh fd w0 w1 w2 w3 w4 w5 k0 k1 k2 k3 k4 k5 k6 k7 k8 : Nat) (sz : Nat) (im : Int32) (wt : Int32) (re : Int32) (dy : Int32) (a : Int32) (b : Int32) : Met l yX10_areTwoWorks (gW yX10_areTwoWorks cX10_areTwoWorks 3 (some .boolean)) ({ frames := 1, cells := 0, slots := 0, locals := 21 } : Room) (kPre D cI [.ref x, .int a, .int b] [(x, .inr (10, [.ref nw, .ref kp, .ref fu, .ref ra, .ref kr, .ref rd, .ref wd, .ref ld, .ref mt, .ref vo, .ref sh, .ref fd, .int im])), (nw, .inr (9, [.ref w0, .ref w1, .ref w2, .ref w3, .ref w4, .ref w5, .int wt, .int re, .int dy])), (w4, .inr (8, [.ref k0, .ref k1, .ref k2, .ref k3, .ref k4, .ref k5, .ref k6, .ref k7, .ref k8, .int 0]))] sz) (va_Qi (fun (r : Int32) (u : Unit) => r = 0) (fun u t => kWd D cI (va_A [(x, .inr (10, [.ref nw, .ref kp, .ref fu, .ref ra, .ref kr, .ref rd, .ref wd, .ref ld, .ref mt, .ref vo, .ref sh, .ref fd, .int im])), (nw, .inr (9, [.ref w0, .ref w1, .ref w2, .ref w3, .ref w4, .ref w5, .int wt, .int re, .int dy])), (w4, .inr (8, [.ref k0, .ref k1, .ref k2, .ref k3, .ref k4, .ref k5, .ref k6, .ref k7, .ref k8, .int 0]))] sz) [(x, .inr (10, [.ref nw, .ref kp, .ref fu, .ref ra, .ref kr, .ref rd, .ref wd, .ref ld, .ref mt, .ref vo, .ref sh, .ref fd, .int im])), (nw, .inr (9, [.ref w0, .ref w1, .ref w2, .ref w3, .ref w4, .ref w5, .int wt, .int re, .int dy])), (w4, .inr (8, [.ref k0, .ref k1, .ref k2, .ref k3, .ref k4, .ref k5, .ref k6, .ref k7, .ref k8, .int 0]))] t) (va_A [(x, .inr (10, [.ref nw, .ref kp, .ref fu, .ref ra, .ref kr, .ref rd, .ref wd, .ref ld, .ref mt, .ref vo, .ref sh, .ref fd, .int im])), (nw, .inr (9, [.ref w0, .ref w1, .ref w2, .ref w3, .ref w4, .ref w5, .int wt, .int re, .int dy])), (w4, .inr (8, [.ref k0, .ref k1, .ref k2, .ref k3, .ref k4, .ref k5, .ref k6, .ref k7, .ref k8, .int 0]))] sz)) 0 0 (va_A [(x, .inr (10, [.ref nw, .ref kp, .ref fu, .ref ra, .ref kr, .ref rd, .ref wd, .ref ld, .ref mt, .ref vo, .ref sh, .ref fd, .int im])), (nw, .inr (9, [.ref w0, .ref w1, .ref w2, .ref w3, .ref w4, .ref w5, .int wt, .int re, .int dy])), (w4, .inr (8, [.ref k0, .ref k1, .ref k2, .ref k3, .ref k4, .ref k5, .ref k6, .ref k7, .ref k8, .int 0]))] sz) := by
  refine kMetI (own := RX10) (by decide) rfl (Nat.le_of_ble_eq_true rfl) ?_
  intro p e s m args below meth c hx hb hT hown hname hml A Q hK hP hD hS hA hN hRet ls hl
  have hl : lv_has ls 3 [(0, .ref x), (1, .int a), (2, .int b)] := hl
  have lo_a := k_lo a
  have hi_a := k_hi a
  have lo_b := k_lo b
  have hi_b := k_hi b
  have lo_im := k_lo im
  have hi_im := k_hi im
  have lo_wt := k_lo wt
  have hi_wt := k_hi wt
  have lo_re := k_lo re
  have hi_re := k_hi re
  have lo_dy := k_lo dy
  have hi_dy := k_hi dy
  refine lv_aload_n hx hb dX10_areTwoWorks_0 rfl (lv_at hl 0 rfl) ?_
  refine va_get (D := D) (ci := 10) (v := .ref nw) (C := RX10) (T := TX10) (N := 13) hx hb hT giX10 hown hK hP 0 rfl rfl 0 (by decide) (hT (Cond.fieldLink RX10 12 "DesertWire" "now" "LDesertWire$World;") mw_291) (fun _ h9 => h9) rfl dX10_areTwoWorks_1 ?_
  refine va_get (D := D) (ci := 9) (v := .ref w4) (C := RX9) (T := TX9) (N := 9) hx hb hT giX9 hown hK hP 1 rfl rfl 4 (by decide) (hT (Cond.fieldLink RX10 99 "DesertWire$World" "works" "LDesertWire$Works;") mw_99) (fun _ h9 => h9) rfl dX10_areTwoWorks_4 ?_
  refine lv_iload_n hx hb dX10_areTwoWorks_7 rfl (lv_at hl 1 rfl) ?_
  refine kJi (wr := [(x, .inr (10, [.ref nw, .ref kp, .ref fu, .ref ra, .ref kr, .ref rd, .ref wd, .ref ld, .ref mt, .ref vo, .ref sh, .ref fd, .int im])), (nw, .inr (9, [.ref w0, .ref w1, .ref w2, .ref w3, .ref w4, .ref w5, .int wt, .int re, .int dy]))]) (va_runV (As := [.int a]) (rest := []) ⟨hx, hb, hml, hown, hT⟩ (c_X8_has l D cI w4 k0 k1 k2 k3 k4 k5 k6 k7 k8 s.heap.size 0 a) (cwV 1 hT (gV_in mw_371 mw_380 mw_369 mw_370 mw_3) rfl rfl rfl (by decide +kernel) ⟨Nat.le_of_ble_eq_true rfl, Nat.le_of_ble_eq_true rfl⟩) (kRecv (own := "") (q0 := 2) (ci := 8) hK hP hD hN rfl rfl [2] rfl (by decide)) rfl rfl hl.1 rfl (lv_room (Nat.le_of_ble_eq_true rfl)) dX10_areTwoWorks_8 ⟨Nat.le_of_ble_eq_true rfl, Nat.le_of_ble_eq_true rfl⟩) hP hD hS hA [2] [0, 1] rfl rfl (by decide) (by decide) (fun r_1 u_3 H locs w_2 hP hD hS => ?_)
  have hP : va_P D vwCl [(x, .inr (10, [.ref nw, .ref kp, .ref fu, .ref ra, .ref kr, .ref rd, .ref wd, .ref ld, .ref mt, .ref vo, .ref sh, .ref fd, .int im])), (nw, .inr (9, [.ref w0, .ref w1, .ref w2, .ref w3, .ref w4, .ref w5, .int wt, .int re, .int dy])), (w4, .inr (8, [.ref k0, .ref k1, .ref k2, .ref k3, .ref k4, .ref k5, .ref k6, .ref k7, .ref k8, .int 0]))] H := hP
  have hD : va_D A [(x, .inr (10, [.ref nw, .ref kp, .ref fu, .ref ra, .ref kr, .ref rd, .ref wd, .ref ld, .ref mt, .ref vo, .ref sh, .ref fd, .int im])), (nw, .inr (9, [.ref w0, .ref w1, .ref w2, .ref w3, .ref w4, .ref w5, .int wt, .int re, .int dy])), (w4, .inr (8, [.ref k0, .ref k1, .ref k2, .ref k3, .ref k4, .ref k5, .ref k6, .ref k7, .ref k8, .int 0]))] := hD
  rcases w_2 with ⟨hr_1, h_4, h_5, h_6⟩ | ⟨hr_1, h_7⟩
  · (try simp only [zl_0] at h_4 h_5 h_6); exfalso; omega
  · try simp only [zl_0] at h_7
    have h_7 : a.toInt < 0 ∨ 0 ≤ a.toInt ∨ 60 ≤ a.toInt := h_7
    obtain rfl : r_1 = 0 := hr_1.trans (by decide)
    refine b_if_eq hx hb zl_0 (tgt := 37) dX10_areTwoWorks_11 (by decide) (fun c_8 => ?_) (fun c_8 => by exfalso; omega)
    refine lv_iconst (v := 0) hx hb dX10_areTwoWorks_37 (by decide) ?_
    exact hRet () [0, 1, 2] rfl hP hD (by decide) rfl hS rfl dX10_areTwoWorks_38
set_option maxHeartbeats 4000000 in
set_option maxRecDepth 100000 in
theorem c_X10_reads (l : Launch) (D : va_G) (cI : ClassId) (x nw kp fu ra kr rd wd ld mt vo sh fd w0 w1 w2 w3 w4 w5 k0 k1 k2 k3 k4 k5 k6 k7 k8 : Nat) (sz : Nat) (im : Int32) (ff : Nat → Int32) (wt : Int32) (re : Int32) (dy : Int32) (a : Int32) (b : Int32) : Met l yX10_reads (gW yX10_reads cX10_reads 3 (some .int)) ({ frames := 2, cells := 0, slots := 0, locals := 43 } : Room) (kPre D cI [.ref x, .int a, .int b] [(x, .inr (10, [.ref nw, .ref kp, .ref fu, .ref ra, .ref kr, .ref rd, .ref wd, .ref ld, .ref mt, .ref vo, .ref sh, .ref fd, .int im])), (nw, .inr (9, [.ref w0, .ref w1, .ref w2, .ref w3, .ref w4, .ref w5, .int wt, .int re, .int dy])), (w4, .inr (8, [.ref k0, .ref k1, .ref k2, .ref k3, .ref k4, .ref k5, .ref k6, .ref k7, .ref k8, .int 0])), (fd, .inl (cI, 6, .inl ff))] sz) (va_Qi (fun (r : Int32) (u : Unit) => r = (-1000001)) (fun u t => kWd D cI (va_A [(x, .inr (10, [.ref nw, .ref kp, .ref fu, .ref ra, .ref kr, .ref rd, .ref wd, .ref ld, .ref mt, .ref vo, .ref sh, .ref fd, .int im])), (nw, .inr (9, [.ref w0, .ref w1, .ref w2, .ref w3, .ref w4, .ref w5, .int wt, .int re, .int dy])), (w4, .inr (8, [.ref k0, .ref k1, .ref k2, .ref k3, .ref k4, .ref k5, .ref k6, .ref k7, .ref k8, .int 0])), (fd, .inl (cI, 6, .inl ff))] sz) [] t) (va_A [(x, .inr (10, [.ref nw, .ref kp, .ref fu, .ref ra, .ref kr, .ref rd, .ref wd, .ref ld, .ref mt, .ref vo, .ref sh, .ref fd, .int im])), (nw, .inr (9, [.ref w0, .ref w1, .ref w2, .ref w3, .ref w4, .ref w5, .int wt, .int re, .int dy])), (w4, .inr (8, [.ref k0, .ref k1, .ref k2, .ref k3, .ref k4, .ref k5, .ref k6, .ref k7, .ref k8, .int 0])), (fd, .inl (cI, 6, .inl ff))] sz)) 0 0 (va_A [(x, .inr (10, [.ref nw, .ref kp, .ref fu, .ref ra, .ref kr, .ref rd, .ref wd, .ref ld, .ref mt, .ref vo, .ref sh, .ref fd, .int im])), (nw, .inr (9, [.ref w0, .ref w1, .ref w2, .ref w3, .ref w4, .ref w5, .int wt, .int re, .int dy])), (w4, .inr (8, [.ref k0, .ref k1, .ref k2, .ref k3, .ref k4, .ref k5, .ref k6, .ref k7, .ref k8, .int 0])), (fd, .inl (cI, 6, .inl ff))] sz) := by
  refine kMetI (own := RX10) (by decide) rfl (Nat.le_of_ble_eq_true rfl) ?_
  intro p e s m args below meth c hx hb hT hown hname hml A Q hK hP hD hS hA hN hRet ls hl
  have hl : lv_has ls 3 [(0, .ref x), (1, .int a), (2, .int b)] := hl
  have lo_a := k_lo a
  have hi_a := k_hi a
  have lo_b := k_lo b
  have hi_b := k_hi b
  have lo_im := k_lo im
  have hi_im := k_hi im
  have lo_wt := k_lo wt
  have hi_wt := k_hi wt
  have lo_re := k_lo re
  have hi_re := k_hi re
  have lo_dy := k_lo dy
  have hi_dy := k_hi dy
  refine lv_aload_n hx hb dX10_reads_0 rfl (lv_at hl 0 rfl) ?_
  refine lv_iload_n hx hb dX10_reads_1 rfl (lv_at hl 1 rfl) ?_
  refine lv_iload_n hx hb dX10_reads_2 rfl (lv_at hl 2 rfl) ?_
  refine kJi (wr := [(fd, .inl (cI, 6, .inl ff))]) (va_runV (As := [.int a, .int b]) (rest := []) ⟨hx, hb, hml, hown, hT⟩ (c_X10_areTwoWorks l D cI x nw kp fu ra kr rd wd ld mt vo sh fd w0 w1 w2 w3 w4 w5 k0 k1 k2 k3 k4 k5 k6 k7 k8 s.heap.size im wt re dy a b) (cwV 2 hT (gV_in mw_764 mw_761 mw_763 mw_p2_1 mw_1) rfl rfl rfl (by decide +kernel) ⟨Nat.le_of_ble_eq_true rfl, Nat.le_of_ble_eq_true rfl⟩) (kRecv (own := "") (q0 := 0) (ci := 10) hK hP hD hN rfl rfl [0, 1, 2] rfl (by decide)) rfl rfl hl.1 rfl (lv_room (Nat.le_of_ble_eq_true rfl)) dX10_reads_3 ⟨Nat.le_of_ble_eq_true rfl, Nat.le_of_ble_eq_true rfl⟩) hP hD hS hA [0, 1, 2] [3] rfl rfl (by decide) (by decide) (fun r_1 u_3 H locs w_2 hP hD hS => ?_)
  have hP : va_P D vwCl [(fd, .inl (cI, 6, .inl ff)), (x, .inr (10, [.ref nw, .ref kp, .ref fu, .ref ra, .ref kr, .ref rd, .ref wd, .ref ld, .ref mt, .ref vo, .ref sh, .ref fd, .int im])), (nw, .inr (9, [.ref w0, .ref w1, .ref w2, .ref w3, .ref w4, .ref w5, .int wt, .int re, .int dy])), (w4, .inr (8, [.ref k0, .ref k1, .ref k2, .ref k3, .ref k4, .ref k5, .ref k6, .ref k7, .ref k8, .int 0]))] H := hP
  have hD : va_D A [(fd, .inl (cI, 6, .inl ff)), (x, .inr (10, [.ref nw, .ref kp, .ref fu, .ref ra, .ref kr, .ref rd, .ref wd, .ref ld, .ref mt, .ref vo, .ref sh, .ref fd, .int im])), (nw, .inr (9, [.ref w0, .ref w1, .ref w2, .ref w3, .ref w4, .ref w5, .int wt, .int re, .int dy])), (w4, .inr (8, [.ref k0, .ref k1, .ref k2, .ref k3, .ref k4, .ref k5, .ref k6, .ref k7, .ref k8, .int 0]))] := hD
  have hr_1 := w_2
  obtain rfl : r_1 = 0 := hr_1.trans (by decide)
  refine b_if_ne hx hb zl_0 (tgt := 15) dX10_reads_6 (by decide) (fun c_4 => by exfalso; omega) (fun c_4 => ?_)
  refine lv_aload_n hx hb dX10_reads_9 rfl (lv_at hl 0 rfl) ?_
  refine lv_iconst (v := 1) hx hb dX10_reads_10 (by decide) ?_
  refine kJi (wr := [(nw, .inr (9, [.ref w0, .ref w1, .ref w2, .ref w3, .ref w4, .ref w5, .int wt, .int re, .int dy])), (w4, .inr (8, [.ref k0, .ref k1, .ref k2, .ref k3, .ref k4, .ref k5, .ref k6, .ref k7, .ref k8, .int 0]))]) (va_runV (As := [.int 1]) (rest := []) ⟨hx, hb, hml, hown, hT⟩ (c_X10_finding l D cI x nw kp fu ra kr rd wd ld mt vo sh fd H.size im ff 1 (by first | omega | (simp only [zl_1] <;> omega) | decide | assumption | rfl) (by first | omega | (simp only [zl_1] <;> omega) | decide | assumption | rfl)) (cwV 1 hT (gV_in mw_338 mw_335 mw_337 mw_p1_0 mw_1) rfl rfl rfl (by decide +kernel) ⟨Nat.le_of_ble_eq_true rfl, Nat.le_of_ble_eq_true rfl⟩) (kRecv (own := "") (q0 := 1) (ci := 10) hK hP hD hN rfl rfl [1, 0] rfl (by decide)) rfl rfl hl.1 rfl (lv_room (Nat.le_of_ble_eq_true rfl)) dX10_reads_11 ⟨Nat.le_of_ble_eq_true rfl, Nat.le_of_ble_eq_true rfl⟩) hP hD hS hA [1, 0] [2, 3] rfl rfl (by decide) (by decide) (fun r_5 u_7 H locs w_6 hP hD hS => ?_)
  have hP : va_P D vwCl [(nw, .inr (9, [.ref w0, .ref w1, .ref w2, .ref w3, .ref w4, .ref w5, .int wt, .int re, .int dy])), (w4, .inr (8, [.ref k0, .ref k1, .ref k2, .ref k3, .ref k4, .ref k5, .ref k6, .ref k7, .ref k8, .int 0]))] H := hP
  have hD : va_D A [(nw, .inr (9, [.ref w0, .ref w1, .ref w2, .ref w3, .ref w4, .ref w5, .int wt, .int re, .int dy])), (w4, .inr (8, [.ref k0, .ref k1, .ref k2, .ref k3, .ref k4, .ref k5, .ref k6, .ref k7, .ref k8, .int 0]))] := hD
  have hr_5 := w_6
  obtain rfl : r_5 = (-1000001) := hr_5.trans (by decide)
  exact hRet () [] rfl hP hD (by decide) rfl hS rfl dX10_reads_14
set_option maxHeartbeats 4000000 in
set_option maxRecDepth 100000 in
theorem c_X10_hands (l : Launch) (D : va_G) (cI : ClassId) (x nw kp fu ra kr rd wd ld mt vo sh fd w0 w1 w2 w3 w4 w5 k0 k1 k2 k3 k4 k5 k6 k7 k8 : Nat) (sz : Nat) (im : Int32) (ff : Nat → Int32) (wt : Int32) (re : Int32) (dy : Int32) (a : Int32) (b : Int32) (d : Int32) : Met l yX10_hands (gW yX10_hands cX10_hands 5 (some .int)) ({ frames := 2, cells := 0, slots := 0, locals := 43 } : Room) (kPre D cI [.ref x, .int a, .int b, .int d] [(x, .inr (10, [.ref nw, .ref kp, .ref fu, .ref ra, .ref kr, .ref rd, .ref wd, .ref ld, .ref mt, .ref vo, .ref sh, .ref fd, .int im])), (nw, .inr (9, [.ref w0, .ref w1, .ref w2, .ref w3, .ref w4, .ref w5, .int wt, .int re, .int dy])), (w4, .inr (8, [.ref k0, .ref k1, .ref k2, .ref k3, .ref k4, .ref k5, .ref k6, .ref k7, .ref k8, .int 0])), (fd, .inl (cI, 6, .inl ff))] sz) (va_Qi (fun (r : Int32) (u : Unit) => r = (-1000001)) (fun u t => kWd D cI (va_A [(x, .inr (10, [.ref nw, .ref kp, .ref fu, .ref ra, .ref kr, .ref rd, .ref wd, .ref ld, .ref mt, .ref vo, .ref sh, .ref fd, .int im])), (nw, .inr (9, [.ref w0, .ref w1, .ref w2, .ref w3, .ref w4, .ref w5, .int wt, .int re, .int dy])), (w4, .inr (8, [.ref k0, .ref k1, .ref k2, .ref k3, .ref k4, .ref k5, .ref k6, .ref k7, .ref k8, .int 0])), (fd, .inl (cI, 6, .inl ff))] sz) [] t) (va_A [(x, .inr (10, [.ref nw, .ref kp, .ref fu, .ref ra, .ref kr, .ref rd, .ref wd, .ref ld, .ref mt, .ref vo, .ref sh, .ref fd, .int im])), (nw, .inr (9, [.ref w0, .ref w1, .ref w2, .ref w3, .ref w4, .ref w5, .int wt, .int re, .int dy])), (w4, .inr (8, [.ref k0, .ref k1, .ref k2, .ref k3, .ref k4, .ref k5, .ref k6, .ref k7, .ref k8, .int 0])), (fd, .inl (cI, 6, .inl ff))] sz)) 0 0 (va_A [(x, .inr (10, [.ref nw, .ref kp, .ref fu, .ref ra, .ref kr, .ref rd, .ref wd, .ref ld, .ref mt, .ref vo, .ref sh, .ref fd, .int im])), (nw, .inr (9, [.ref w0, .ref w1, .ref w2, .ref w3, .ref w4, .ref w5, .int wt, .int re, .int dy])), (w4, .inr (8, [.ref k0, .ref k1, .ref k2, .ref k3, .ref k4, .ref k5, .ref k6, .ref k7, .ref k8, .int 0])), (fd, .inl (cI, 6, .inl ff))] sz) := by
  refine kMetI (own := RX10) (by decide) rfl (Nat.le_of_ble_eq_true rfl) ?_
  intro p e s m args below meth c hx hb hT hown hname hml A Q hK hP hD hS hA hN hRet ls hl
  have hl : lv_has ls 5 [(0, .ref x), (1, .int a), (2, .int b), (3, .int d)] := hl
  have lo_a := k_lo a
  have hi_a := k_hi a
  have lo_b := k_lo b
  have hi_b := k_hi b
  have lo_d := k_lo d
  have hi_d := k_hi d
  have lo_im := k_lo im
  have hi_im := k_hi im
  have lo_wt := k_lo wt
  have hi_wt := k_hi wt
  have lo_re := k_lo re
  have hi_re := k_hi re
  have lo_dy := k_lo dy
  have hi_dy := k_hi dy
  refine lv_aload_n hx hb dX10_hands_0 rfl (lv_at hl 0 rfl) ?_
  refine lv_iload_n hx hb dX10_hands_1 rfl (lv_at hl 1 rfl) ?_
  refine lv_iload_n hx hb dX10_hands_2 rfl (lv_at hl 2 rfl) ?_
  refine kJi (wr := [(fd, .inl (cI, 6, .inl ff))]) (va_runV (As := [.int a, .int b]) (rest := []) ⟨hx, hb, hml, hown, hT⟩ (c_X10_areTwoWorks l D cI x nw kp fu ra kr rd wd ld mt vo sh fd w0 w1 w2 w3 w4 w5 k0 k1 k2 k3 k4 k5 k6 k7 k8 s.heap.size im wt re dy a b) (cwV 2 hT (gV_in mw_764 mw_761 mw_763 mw_p2_1 mw_1) rfl rfl rfl (by decide +kernel) ⟨Nat.le_of_ble_eq_true rfl, Nat.le_of_ble_eq_true rfl⟩) (kRecv (own := "") (q0 := 0) (ci := 10) hK hP hD hN rfl rfl [0, 1, 2] rfl (by decide)) rfl rfl hl.1 rfl (lv_room (Nat.le_of_ble_eq_true rfl)) dX10_hands_3 ⟨Nat.le_of_ble_eq_true rfl, Nat.le_of_ble_eq_true rfl⟩) hP hD hS hA [0, 1, 2] [3] rfl rfl (by decide) (by decide) (fun r_1 u_3 H locs w_2 hP hD hS => ?_)
  have hP : va_P D vwCl [(fd, .inl (cI, 6, .inl ff)), (x, .inr (10, [.ref nw, .ref kp, .ref fu, .ref ra, .ref kr, .ref rd, .ref wd, .ref ld, .ref mt, .ref vo, .ref sh, .ref fd, .int im])), (nw, .inr (9, [.ref w0, .ref w1, .ref w2, .ref w3, .ref w4, .ref w5, .int wt, .int re, .int dy])), (w4, .inr (8, [.ref k0, .ref k1, .ref k2, .ref k3, .ref k4, .ref k5, .ref k6, .ref k7, .ref k8, .int 0]))] H := hP
  have hD : va_D A [(fd, .inl (cI, 6, .inl ff)), (x, .inr (10, [.ref nw, .ref kp, .ref fu, .ref ra, .ref kr, .ref rd, .ref wd, .ref ld, .ref mt, .ref vo, .ref sh, .ref fd, .int im])), (nw, .inr (9, [.ref w0, .ref w1, .ref w2, .ref w3, .ref w4, .ref w5, .int wt, .int re, .int dy])), (w4, .inr (8, [.ref k0, .ref k1, .ref k2, .ref k3, .ref k4, .ref k5, .ref k6, .ref k7, .ref k8, .int 0]))] := hD
  have hr_1 := w_2
  obtain rfl : r_1 = 0 := hr_1.trans (by decide)
  refine b_if_eq hx hb zl_0 (tgt := 14) dX10_hands_6 (by decide) (fun c_4 => ?_) (fun c_4 => by exfalso; omega)
  refine lv_aload_n hx hb dX10_hands_14 rfl (lv_at hl 0 rfl) ?_
  refine lv_iconst (v := 1) hx hb dX10_hands_15 (by decide) ?_
  refine kJi (wr := [(nw, .inr (9, [.ref w0, .ref w1, .ref w2, .ref w3, .ref w4, .ref w5, .int wt, .int re, .int dy])), (w4, .inr (8, [.ref k0, .ref k1, .ref k2, .ref k3, .ref k4, .ref k5, .ref k6, .ref k7, .ref k8, .int 0]))]) (va_runV (As := [.int 1]) (rest := []) ⟨hx, hb, hml, hown, hT⟩ (c_X10_finding l D cI x nw kp fu ra kr rd wd ld mt vo sh fd H.size im ff 1 (by first | omega | (simp only [zl_1] <;> omega) | decide | assumption | rfl) (by first | omega | (simp only [zl_1] <;> omega) | decide | assumption | rfl)) (cwV 1 hT (gV_in mw_338 mw_335 mw_337 mw_p1_0 mw_1) rfl rfl rfl (by decide +kernel) ⟨Nat.le_of_ble_eq_true rfl, Nat.le_of_ble_eq_true rfl⟩) (kRecv (own := "") (q0 := 1) (ci := 10) hK hP hD hN rfl rfl [1, 0] rfl (by decide)) rfl rfl hl.1 rfl (lv_room (Nat.le_of_ble_eq_true rfl)) dX10_hands_16 ⟨Nat.le_of_ble_eq_true rfl, Nat.le_of_ble_eq_true rfl⟩) hP hD hS hA [1, 0] [2, 3] rfl rfl (by decide) (by decide) (fun r_5 u_7 H locs w_6 hP hD hS => ?_)
  have hP : va_P D vwCl [(nw, .inr (9, [.ref w0, .ref w1, .ref w2, .ref w3, .ref w4, .ref w5, .int wt, .int re, .int dy])), (w4, .inr (8, [.ref k0, .ref k1, .ref k2, .ref k3, .ref k4, .ref k5, .ref k6, .ref k7, .ref k8, .int 0]))] H := hP
  have hD : va_D A [(nw, .inr (9, [.ref w0, .ref w1, .ref w2, .ref w3, .ref w4, .ref w5, .int wt, .int re, .int dy])), (w4, .inr (8, [.ref k0, .ref k1, .ref k2, .ref k3, .ref k4, .ref k5, .ref k6, .ref k7, .ref k8, .int 0]))] := hD
  have hr_5 := w_6
  obtain rfl : r_5 = (-1000001) := hr_5.trans (by decide)
  exact hRet () [] rfl hP hD (by decide) rfl hS rfl dX10_hands_19
set_option maxHeartbeats 4000000 in
set_option maxRecDepth 100000 in
theorem c_X10_voice (l : Launch) (D : va_G) (cI : ClassId) (x nw kp fu ra kr rd wd ld mt vo sh fd w0 w1 w2 w3 w4 w5 k0 k1 k2 k3 k4 k5 k6 k7 k8 : Nat) (sz : Nat) (im : Int32) (ff : Nat → Int32) (wt : Int32) (re : Int32) (dy : Int32) (a : Int32) (b : Int32) (d : Int32) : Met l yX10_voice (gW yX10_voice cX10_voice 4 (some .int)) ({ frames := 1, cells := 0, slots := 0, locals := 21 } : Room) (kPre D cI [.ref x, .int a, .int b, .int d] [(x, .inr (10, [.ref nw, .ref kp, .ref fu, .ref ra, .ref kr, .ref rd, .ref wd, .ref ld, .ref mt, .ref vo, .ref sh, .ref fd, .int im])), (nw, .inr (9, [.ref w0, .ref w1, .ref w2, .ref w3, .ref w4, .ref w5, .int wt, .int re, .int dy])), (w4, .inr (8, [.ref k0, .ref k1, .ref k2, .ref k3, .ref k4, .ref k5, .ref k6, .ref k7, .ref k8, .int 0])), (fd, .inl (cI, 6, .inl ff))] sz) (va_Qi (fun (r : Int32) (u : Unit) => r = (-1000001)) (fun u t => kWd D cI (va_A [(x, .inr (10, [.ref nw, .ref kp, .ref fu, .ref ra, .ref kr, .ref rd, .ref wd, .ref ld, .ref mt, .ref vo, .ref sh, .ref fd, .int im])), (nw, .inr (9, [.ref w0, .ref w1, .ref w2, .ref w3, .ref w4, .ref w5, .int wt, .int re, .int dy])), (w4, .inr (8, [.ref k0, .ref k1, .ref k2, .ref k3, .ref k4, .ref k5, .ref k6, .ref k7, .ref k8, .int 0])), (fd, .inl (cI, 6, .inl ff))] sz) [] t) (va_A [(x, .inr (10, [.ref nw, .ref kp, .ref fu, .ref ra, .ref kr, .ref rd, .ref wd, .ref ld, .ref mt, .ref vo, .ref sh, .ref fd, .int im])), (nw, .inr (9, [.ref w0, .ref w1, .ref w2, .ref w3, .ref w4, .ref w5, .int wt, .int re, .int dy])), (w4, .inr (8, [.ref k0, .ref k1, .ref k2, .ref k3, .ref k4, .ref k5, .ref k6, .ref k7, .ref k8, .int 0])), (fd, .inl (cI, 6, .inl ff))] sz)) 0 0 (va_A [(x, .inr (10, [.ref nw, .ref kp, .ref fu, .ref ra, .ref kr, .ref rd, .ref wd, .ref ld, .ref mt, .ref vo, .ref sh, .ref fd, .int im])), (nw, .inr (9, [.ref w0, .ref w1, .ref w2, .ref w3, .ref w4, .ref w5, .int wt, .int re, .int dy])), (w4, .inr (8, [.ref k0, .ref k1, .ref k2, .ref k3, .ref k4, .ref k5, .ref k6, .ref k7, .ref k8, .int 0])), (fd, .inl (cI, 6, .inl ff))] sz) := by
  refine kMetI (own := RX10) (by decide) rfl (Nat.le_of_ble_eq_true rfl) ?_
  intro p e s m args below meth c hx hb hT hown hname hml A Q hK hP hD hS hA hN hRet ls hl
  have hl : lv_has ls 4 [(0, .ref x), (1, .int a), (2, .int b), (3, .int d)] := hl
  have lo_a := k_lo a
  have hi_a := k_hi a
  have lo_b := k_lo b
  have hi_b := k_hi b
  have lo_d := k_lo d
  have hi_d := k_hi d
  have lo_im := k_lo im
  have hi_im := k_hi im
  have lo_wt := k_lo wt
  have hi_wt := k_hi wt
  have lo_re := k_lo re
  have hi_re := k_hi re
  have lo_dy := k_lo dy
  have hi_dy := k_hi dy
  refine lv_aload_n hx hb dX10_voice_0 rfl (lv_at hl 0 rfl) ?_
  refine va_get (D := D) (ci := 10) (v := .ref nw) (C := RX10) (T := TX10) (N := 13) hx hb hT giX10 hown hK hP 0 rfl rfl 0 (by decide) (hT (Cond.fieldLink RX10 12 "DesertWire" "now" "LDesertWire$World;") mw_291) (fun _ h9 => h9) rfl dX10_voice_1 ?_
  refine va_get (D := D) (ci := 9) (v := .ref w4) (C := RX9) (T := TX9) (N := 9) hx hb hT giX9 hown hK hP 1 rfl rfl 4 (by decide) (hT (Cond.fieldLink RX10 99 "DesertWire$World" "works" "LDesertWire$Works;") mw_99) (fun _ h9 => h9) rfl dX10_voice_4 ?_
  refine lv_iload_n hx hb dX10_voice_7 rfl (lv_at hl 1 rfl) ?_
  refine kJi (wr := [(x, .inr (10, [.ref nw, .ref kp, .ref fu, .ref ra, .ref kr, .ref rd, .ref wd, .ref ld, .ref mt, .ref vo, .ref sh, .ref fd, .int im])), (nw, .inr (9, [.ref w0, .ref w1, .ref w2, .ref w3, .ref w4, .ref w5, .int wt, .int re, .int dy])), (fd, .inl (cI, 6, .inl ff))]) (va_runV (As := [.int a]) (rest := []) ⟨hx, hb, hml, hown, hT⟩ (c_X8_has l D cI w4 k0 k1 k2 k3 k4 k5 k6 k7 k8 s.heap.size 0 a) (cwV 1 hT (gV_in mw_371 mw_380 mw_369 mw_370 mw_3) rfl rfl rfl (by decide +kernel) ⟨Nat.le_of_ble_eq_true rfl, Nat.le_of_ble_eq_true rfl⟩) (kRecv (own := "") (q0 := 2) (ci := 8) hK hP hD hN rfl rfl [2] rfl (by decide)) rfl rfl hl.1 rfl (lv_room (Nat.le_of_ble_eq_true rfl)) dX10_voice_8 ⟨Nat.le_of_ble_eq_true rfl, Nat.le_of_ble_eq_true rfl⟩) hP hD hS hA [2] [0, 1, 3] rfl rfl (by decide) (by decide) (fun r_1 u_3 H locs w_2 hP hD hS => ?_)
  have hP : va_P D vwCl [(x, .inr (10, [.ref nw, .ref kp, .ref fu, .ref ra, .ref kr, .ref rd, .ref wd, .ref ld, .ref mt, .ref vo, .ref sh, .ref fd, .int im])), (nw, .inr (9, [.ref w0, .ref w1, .ref w2, .ref w3, .ref w4, .ref w5, .int wt, .int re, .int dy])), (fd, .inl (cI, 6, .inl ff)), (w4, .inr (8, [.ref k0, .ref k1, .ref k2, .ref k3, .ref k4, .ref k5, .ref k6, .ref k7, .ref k8, .int 0]))] H := hP
  have hD : va_D A [(x, .inr (10, [.ref nw, .ref kp, .ref fu, .ref ra, .ref kr, .ref rd, .ref wd, .ref ld, .ref mt, .ref vo, .ref sh, .ref fd, .int im])), (nw, .inr (9, [.ref w0, .ref w1, .ref w2, .ref w3, .ref w4, .ref w5, .int wt, .int re, .int dy])), (fd, .inl (cI, 6, .inl ff)), (w4, .inr (8, [.ref k0, .ref k1, .ref k2, .ref k3, .ref k4, .ref k5, .ref k6, .ref k7, .ref k8, .int 0]))] := hD
  rcases w_2 with ⟨hr_1, h_4, h_5, h_6⟩ | ⟨hr_1, h_7⟩
  · (try simp only [zl_0] at h_4 h_5 h_6); exfalso; omega
  · try simp only [zl_0] at h_7
    have h_7 : a.toInt < 0 ∨ 0 ≤ a.toInt ∨ 60 ≤ a.toInt := h_7
    obtain rfl : r_1 = 0 := hr_1.trans (by decide)
    refine b_if_eq hx hb zl_0 (tgt := 23) dX10_voice_11 (by decide) (fun c_8 => ?_) (fun c_8 => by exfalso; omega)
    refine lv_aload_n hx hb dX10_voice_23 rfl (lv_at hl 0 rfl) ?_
    refine lv_iconst (v := 1) hx hb dX10_voice_24 (by decide) ?_
    refine kJi (wr := [(nw, .inr (9, [.ref w0, .ref w1, .ref w2, .ref w3, .ref w4, .ref w5, .int wt, .int re, .int dy])), (w4, .inr (8, [.ref k0, .ref k1, .ref k2, .ref k3, .ref k4, .ref k5, .ref k6, .ref k7, .ref k8, .int 0]))]) (va_runV (As := [.int 1]) (rest := []) ⟨hx, hb, hml, hown, hT⟩ (c_X10_finding l D cI x nw kp fu ra kr rd wd ld mt vo sh fd H.size im ff 1 (by first | omega | (simp only [zl_1] <;> omega) | decide | assumption | rfl) (by first | omega | (simp only [zl_1] <;> omega) | decide | assumption | rfl)) (cwV 1 hT (gV_in mw_338 mw_335 mw_337 mw_p1_0 mw_1) rfl rfl rfl (by decide +kernel) ⟨Nat.le_of_ble_eq_true rfl, Nat.le_of_ble_eq_true rfl⟩) (kRecv (own := "") (q0 := 0) (ci := 10) hK hP hD hN rfl rfl [0, 2] rfl (by decide)) rfl rfl hl.1 rfl (lv_room (Nat.le_of_ble_eq_true rfl)) dX10_voice_25 ⟨Nat.le_of_ble_eq_true rfl, Nat.le_of_ble_eq_true rfl⟩) hP hD hS hA [0, 2] [1, 3] rfl rfl (by decide) (by decide) (fun r_9 u_11 H locs w_10 hP hD hS => ?_)
    have hP : va_P D vwCl [(nw, .inr (9, [.ref w0, .ref w1, .ref w2, .ref w3, .ref w4, .ref w5, .int wt, .int re, .int dy])), (w4, .inr (8, [.ref k0, .ref k1, .ref k2, .ref k3, .ref k4, .ref k5, .ref k6, .ref k7, .ref k8, .int 0]))] H := hP
    have hD : va_D A [(nw, .inr (9, [.ref w0, .ref w1, .ref w2, .ref w3, .ref w4, .ref w5, .int wt, .int re, .int dy])), (w4, .inr (8, [.ref k0, .ref k1, .ref k2, .ref k3, .ref k4, .ref k5, .ref k6, .ref k7, .ref k8, .int 0]))] := hD
    have hr_9 := w_10
    obtain rfl : r_9 = (-1000001) := hr_9.trans (by decide)
    exact hRet () [] rfl hP hD (by decide) rfl hS rfl dX10_voice_28
set_option maxHeartbeats 4000000 in
set_option maxRecDepth 100000 in
theorem c_X10_slip (l : Launch) (D : va_G) (cI : ClassId) (x nw kp fu ra kr rd wd ld mt vo sh fd w0 w1 w2 w3 w4 w5 k0 k1 k2 k3 k4 k5 k6 k7 k8 : Nat) (sz : Nat) (im : Int32) (ff : Nat → Int32) (wt : Int32) (re : Int32) (dy : Int32) (a : Int32) (b : Int32) (d : Int32) (g : Int32) : Met l yX10_slip (gW yX10_slip cX10_slip 7 (some .int)) ({ frames := 2, cells := 0, slots := 0, locals := 43 } : Room) (kPre D cI [.ref x, .int a, .int b, .int d, .int g] [(x, .inr (10, [.ref nw, .ref kp, .ref fu, .ref ra, .ref kr, .ref rd, .ref wd, .ref ld, .ref mt, .ref vo, .ref sh, .ref fd, .int im])), (nw, .inr (9, [.ref w0, .ref w1, .ref w2, .ref w3, .ref w4, .ref w5, .int wt, .int re, .int dy])), (w4, .inr (8, [.ref k0, .ref k1, .ref k2, .ref k3, .ref k4, .ref k5, .ref k6, .ref k7, .ref k8, .int 0])), (fd, .inl (cI, 6, .inl ff))] sz) (va_Qi (fun (r : Int32) (u : Unit) => r = (-1000001)) (fun u t => kWd D cI (va_A [(x, .inr (10, [.ref nw, .ref kp, .ref fu, .ref ra, .ref kr, .ref rd, .ref wd, .ref ld, .ref mt, .ref vo, .ref sh, .ref fd, .int im])), (nw, .inr (9, [.ref w0, .ref w1, .ref w2, .ref w3, .ref w4, .ref w5, .int wt, .int re, .int dy])), (w4, .inr (8, [.ref k0, .ref k1, .ref k2, .ref k3, .ref k4, .ref k5, .ref k6, .ref k7, .ref k8, .int 0])), (fd, .inl (cI, 6, .inl ff))] sz) [] t) (va_A [(x, .inr (10, [.ref nw, .ref kp, .ref fu, .ref ra, .ref kr, .ref rd, .ref wd, .ref ld, .ref mt, .ref vo, .ref sh, .ref fd, .int im])), (nw, .inr (9, [.ref w0, .ref w1, .ref w2, .ref w3, .ref w4, .ref w5, .int wt, .int re, .int dy])), (w4, .inr (8, [.ref k0, .ref k1, .ref k2, .ref k3, .ref k4, .ref k5, .ref k6, .ref k7, .ref k8, .int 0])), (fd, .inl (cI, 6, .inl ff))] sz)) 0 0 (va_A [(x, .inr (10, [.ref nw, .ref kp, .ref fu, .ref ra, .ref kr, .ref rd, .ref wd, .ref ld, .ref mt, .ref vo, .ref sh, .ref fd, .int im])), (nw, .inr (9, [.ref w0, .ref w1, .ref w2, .ref w3, .ref w4, .ref w5, .int wt, .int re, .int dy])), (w4, .inr (8, [.ref k0, .ref k1, .ref k2, .ref k3, .ref k4, .ref k5, .ref k6, .ref k7, .ref k8, .int 0])), (fd, .inl (cI, 6, .inl ff))] sz) := by
  refine kMetI (own := RX10) (by decide) rfl (Nat.le_of_ble_eq_true rfl) ?_
  intro p e s m args below meth c hx hb hT hown hname hml A Q hK hP hD hS hA hN hRet ls hl
  have hl : lv_has ls 7 [(0, .ref x), (1, .int a), (2, .int b), (3, .int d), (4, .int g)] := hl
  have lo_a := k_lo a
  have hi_a := k_hi a
  have lo_b := k_lo b
  have hi_b := k_hi b
  have lo_d := k_lo d
  have hi_d := k_hi d
  have lo_g := k_lo g
  have hi_g := k_hi g
  have lo_im := k_lo im
  have hi_im := k_hi im
  have lo_wt := k_lo wt
  have hi_wt := k_hi wt
  have lo_re := k_lo re
  have hi_re := k_hi re
  have lo_dy := k_lo dy
  have hi_dy := k_hi dy
  refine lv_iload_n hx hb dX10_slip_0 rfl (lv_at hl 1 rfl) ?_
  refine kJi (wr := [(x, .inr (10, [.ref nw, .ref kp, .ref fu, .ref ra, .ref kr, .ref rd, .ref wd, .ref ld, .ref mt, .ref vo, .ref sh, .ref fd, .int im])), (nw, .inr (9, [.ref w0, .ref w1, .ref w2, .ref w3, .ref w4, .ref w5, .int wt, .int re, .int dy])), (w4, .inr (8, [.ref k0, .ref k1, .ref k2, .ref k3, .ref k4, .ref k5, .ref k6, .ref k7, .ref k8, .int 0])), (fd, .inl (cI, 6, .inl ff))]) (va_runS (As := [.int a]) (rest := []) ⟨hx, hb, hml, hown, hT⟩ (c_X10_isSheet l D cI s.heap.size a) (cwS 1 hT (gS_in mw_662 mw_660 mw_661 mw_1) rfl rfl rfl (by decide +kernel) ⟨Nat.le_of_ble_eq_true rfl, Nat.le_of_ble_eq_true rfl⟩) (kStat hK hP hD hN [] rfl (by decide)) rfl rfl hl.1 rfl (lv_room (Nat.le_of_ble_eq_true rfl)) dX10_slip_1 ⟨Nat.le_of_ble_eq_true rfl, Nat.le_of_ble_eq_true rfl⟩) hP hD hS hA [] [0, 1, 2, 3] rfl rfl (by decide) (by decide) (fun r_1 u_3 H locs w_2 hP hD hS => ?_)
  have hP : va_P D vwCl [(x, .inr (10, [.ref nw, .ref kp, .ref fu, .ref ra, .ref kr, .ref rd, .ref wd, .ref ld, .ref mt, .ref vo, .ref sh, .ref fd, .int im])), (nw, .inr (9, [.ref w0, .ref w1, .ref w2, .ref w3, .ref w4, .ref w5, .int wt, .int re, .int dy])), (w4, .inr (8, [.ref k0, .ref k1, .ref k2, .ref k3, .ref k4, .ref k5, .ref k6, .ref k7, .ref k8, .int 0])), (fd, .inl (cI, 6, .inl ff))] H := hP
  have hD : va_D A [(x, .inr (10, [.ref nw, .ref kp, .ref fu, .ref ra, .ref kr, .ref rd, .ref wd, .ref ld, .ref mt, .ref vo, .ref sh, .ref fd, .int im])), (nw, .inr (9, [.ref w0, .ref w1, .ref w2, .ref w3, .ref w4, .ref w5, .int wt, .int re, .int dy])), (w4, .inr (8, [.ref k0, .ref k1, .ref k2, .ref k3, .ref k4, .ref k5, .ref k6, .ref k7, .ref k8, .int 0])), (fd, .inl (cI, 6, .inl ff))] := hD
  rcases w_2 with ⟨hr_1, h_4, h_5⟩ | ⟨hr_1, h_6⟩
  · have h_4 : 0 ≤ a.toInt := h_4
    have h_5 : a.toInt ≤ 3 := h_5
    obtain rfl : r_1 = 1 := hr_1.trans (by decide)
    refine b_if_eq hx hb zl_1 (tgt := 22) dX10_slip_4 (by decide) (fun c_7 => by exfalso; omega) (fun c_7 => ?_)
    refine lv_aload_n hx hb dX10_slip_7 rfl (lv_at hl 0 rfl) ?_
    refine lv_iload_n hx hb dX10_slip_8 rfl (lv_at hl 2 rfl) ?_
    refine lv_iload_n hx hb dX10_slip_9 rfl (lv_at hl 3 rfl) ?_
    refine kJi (wr := [(fd, .inl (cI, 6, .inl ff))]) (va_runV (As := [.int b, .int d]) (rest := []) ⟨hx, hb, hml, hown, hT⟩ (c_X10_areTwoWorks l D cI x nw kp fu ra kr rd wd ld mt vo sh fd w0 w1 w2 w3 w4 w5 k0 k1 k2 k3 k4 k5 k6 k7 k8 H.size im wt re dy b d) (cwV 2 hT (gV_in mw_764 mw_761 mw_763 mw_p2_1 mw_1) rfl rfl rfl (by decide +kernel) ⟨Nat.le_of_ble_eq_true rfl, Nat.le_of_ble_eq_true rfl⟩) (kRecv (own := "") (q0 := 0) (ci := 10) hK hP hD hN rfl rfl [0, 1, 2] rfl (by decide)) rfl rfl hl.1 rfl (lv_room (Nat.le_of_ble_eq_true rfl)) dX10_slip_10 ⟨Nat.le_of_ble_eq_true rfl, Nat.le_of_ble_eq_true rfl⟩) hP hD hS hA [0, 1, 2] [3] rfl rfl (by decide) (by decide) (fun r_8 u_10 H locs w_9 hP hD hS => ?_)
    have hP : va_P D vwCl [(fd, .inl (cI, 6, .inl ff)), (x, .inr (10, [.ref nw, .ref kp, .ref fu, .ref ra, .ref kr, .ref rd, .ref wd, .ref ld, .ref mt, .ref vo, .ref sh, .ref fd, .int im])), (nw, .inr (9, [.ref w0, .ref w1, .ref w2, .ref w3, .ref w4, .ref w5, .int wt, .int re, .int dy])), (w4, .inr (8, [.ref k0, .ref k1, .ref k2, .ref k3, .ref k4, .ref k5, .ref k6, .ref k7, .ref k8, .int 0]))] H := hP
    have hD : va_D A [(fd, .inl (cI, 6, .inl ff)), (x, .inr (10, [.ref nw, .ref kp, .ref fu, .ref ra, .ref kr, .ref rd, .ref wd, .ref ld, .ref mt, .ref vo, .ref sh, .ref fd, .int im])), (nw, .inr (9, [.ref w0, .ref w1, .ref w2, .ref w3, .ref w4, .ref w5, .int wt, .int re, .int dy])), (w4, .inr (8, [.ref k0, .ref k1, .ref k2, .ref k3, .ref k4, .ref k5, .ref k6, .ref k7, .ref k8, .int 0]))] := hD
    have hr_8 := w_9
    obtain rfl : r_8 = 0 := hr_8.trans (by decide)
    refine b_if_eq hx hb zl_0 (tgt := 22) dX10_slip_13 (by decide) (fun c_11 => ?_) (fun c_11 => by exfalso; omega)
    refine lv_aload_n hx hb dX10_slip_22 rfl (lv_at hl 0 rfl) ?_
    refine lv_iconst (v := 1) hx hb dX10_slip_23 (by decide) ?_
    refine kJi (wr := [(nw, .inr (9, [.ref w0, .ref w1, .ref w2, .ref w3, .ref w4, .ref w5, .int wt, .int re, .int dy])), (w4, .inr (8, [.ref k0, .ref k1, .ref k2, .ref k3, .ref k4, .ref k5, .ref k6, .ref k7, .ref k8, .int 0]))]) (va_runV (As := [.int 1]) (rest := []) ⟨hx, hb, hml, hown, hT⟩ (c_X10_finding l D cI x nw kp fu ra kr rd wd ld mt vo sh fd H.size im ff 1 (by first | omega | (simp only [zl_1] <;> omega) | decide | assumption | rfl) (by first | omega | (simp only [zl_1] <;> omega) | decide | assumption | rfl)) (cwV 1 hT (gV_in mw_338 mw_335 mw_337 mw_p1_0 mw_1) rfl rfl rfl (by decide +kernel) ⟨Nat.le_of_ble_eq_true rfl, Nat.le_of_ble_eq_true rfl⟩) (kRecv (own := "") (q0 := 1) (ci := 10) hK hP hD hN rfl rfl [1, 0] rfl (by decide)) rfl rfl hl.1 rfl (lv_room (Nat.le_of_ble_eq_true rfl)) dX10_slip_24 ⟨Nat.le_of_ble_eq_true rfl, Nat.le_of_ble_eq_true rfl⟩) hP hD hS hA [1, 0] [2, 3] rfl rfl (by decide) (by decide) (fun r_12 u_14 H locs w_13 hP hD hS => ?_)
    have hP : va_P D vwCl [(nw, .inr (9, [.ref w0, .ref w1, .ref w2, .ref w3, .ref w4, .ref w5, .int wt, .int re, .int dy])), (w4, .inr (8, [.ref k0, .ref k1, .ref k2, .ref k3, .ref k4, .ref k5, .ref k6, .ref k7, .ref k8, .int 0]))] H := hP
    have hD : va_D A [(nw, .inr (9, [.ref w0, .ref w1, .ref w2, .ref w3, .ref w4, .ref w5, .int wt, .int re, .int dy])), (w4, .inr (8, [.ref k0, .ref k1, .ref k2, .ref k3, .ref k4, .ref k5, .ref k6, .ref k7, .ref k8, .int 0]))] := hD
    have hr_12 := w_13
    obtain rfl : r_12 = (-1000001) := hr_12.trans (by decide)
    exact hRet () [] rfl hP hD (by decide) rfl hS rfl dX10_slip_27
  · have h_6 : a.toInt < 0 ∨ 3 < a.toInt := h_6
    obtain rfl : r_1 = 0 := hr_1.trans (by decide)
    refine b_if_eq hx hb zl_0 (tgt := 22) dX10_slip_4 (by decide) (fun c_15 => ?_) (fun c_15 => by exfalso; omega)
    refine lv_aload_n hx hb dX10_slip_22 rfl (lv_at hl 0 rfl) ?_
    refine lv_iconst (v := 1) hx hb dX10_slip_23 (by decide) ?_
    refine kJi (wr := [(nw, .inr (9, [.ref w0, .ref w1, .ref w2, .ref w3, .ref w4, .ref w5, .int wt, .int re, .int dy])), (w4, .inr (8, [.ref k0, .ref k1, .ref k2, .ref k3, .ref k4, .ref k5, .ref k6, .ref k7, .ref k8, .int 0]))]) (va_runV (As := [.int 1]) (rest := []) ⟨hx, hb, hml, hown, hT⟩ (c_X10_finding l D cI x nw kp fu ra kr rd wd ld mt vo sh fd H.size im ff 1 (by first | omega | (simp only [zl_1] <;> omega) | decide | assumption | rfl) (by first | omega | (simp only [zl_1] <;> omega) | decide | assumption | rfl)) (cwV 1 hT (gV_in mw_338 mw_335 mw_337 mw_p1_0 mw_1) rfl rfl rfl (by decide +kernel) ⟨Nat.le_of_ble_eq_true rfl, Nat.le_of_ble_eq_true rfl⟩) (kRecv (own := "") (q0 := 0) (ci := 10) hK hP hD hN rfl rfl [0, 3] rfl (by decide)) rfl rfl hl.1 rfl (lv_room (Nat.le_of_ble_eq_true rfl)) dX10_slip_24 ⟨Nat.le_of_ble_eq_true rfl, Nat.le_of_ble_eq_true rfl⟩) hP hD hS hA [0, 3] [1, 2] rfl rfl (by decide) (by decide) (fun r_16 u_18 H locs w_17 hP hD hS => ?_)
    have hP : va_P D vwCl [(nw, .inr (9, [.ref w0, .ref w1, .ref w2, .ref w3, .ref w4, .ref w5, .int wt, .int re, .int dy])), (w4, .inr (8, [.ref k0, .ref k1, .ref k2, .ref k3, .ref k4, .ref k5, .ref k6, .ref k7, .ref k8, .int 0]))] H := hP
    have hD : va_D A [(nw, .inr (9, [.ref w0, .ref w1, .ref w2, .ref w3, .ref w4, .ref w5, .int wt, .int re, .int dy])), (w4, .inr (8, [.ref k0, .ref k1, .ref k2, .ref k3, .ref k4, .ref k5, .ref k6, .ref k7, .ref k8, .int 0]))] := hD
    have hr_16 := w_17
    obtain rfl : r_16 = (-1000001) := hr_16.trans (by decide)
    exact hRet () [] rfl hP hD (by decide) rfl hS rfl dX10_slip_27
set_option maxHeartbeats 4000000 in
set_option maxRecDepth 100000 in
theorem c_X10_areParties (l : Launch) (D : va_G) (cI : ClassId) (x nw kp fu ra kr rd wd ld mt vo sh fd w0 w1 w2 w3 w4 w5 pf : Nat) (sz : Nat) (im : Int32) (wt : Int32) (re : Int32) (dy : Int32) (a : Int32) (b : Int32) : Met l yX10_areParties (gW yX10_areParties cX10_areParties 3 (some .boolean)) ({ frames := 1, cells := 0, slots := 0, locals := 21 } : Room) (kPre D cI [.ref x, .int a, .int b] [(x, .inr (10, [.ref nw, .ref kp, .ref fu, .ref ra, .ref kr, .ref rd, .ref wd, .ref ld, .ref mt, .ref vo, .ref sh, .ref fd, .int im])), (nw, .inr (9, [.ref w0, .ref w1, .ref w2, .ref w3, .ref w4, .ref w5, .int wt, .int re, .int dy])), (w5, .inr (3, [.ref pf, .int 0]))] sz) (va_Qi (fun (r : Int32) (u : Unit) => r = 0) (fun u t => kWd D cI (va_A [(x, .inr (10, [.ref nw, .ref kp, .ref fu, .ref ra, .ref kr, .ref rd, .ref wd, .ref ld, .ref mt, .ref vo, .ref sh, .ref fd, .int im])), (nw, .inr (9, [.ref w0, .ref w1, .ref w2, .ref w3, .ref w4, .ref w5, .int wt, .int re, .int dy])), (w5, .inr (3, [.ref pf, .int 0]))] sz) [(x, .inr (10, [.ref nw, .ref kp, .ref fu, .ref ra, .ref kr, .ref rd, .ref wd, .ref ld, .ref mt, .ref vo, .ref sh, .ref fd, .int im])), (nw, .inr (9, [.ref w0, .ref w1, .ref w2, .ref w3, .ref w4, .ref w5, .int wt, .int re, .int dy])), (w5, .inr (3, [.ref pf, .int 0]))] t) (va_A [(x, .inr (10, [.ref nw, .ref kp, .ref fu, .ref ra, .ref kr, .ref rd, .ref wd, .ref ld, .ref mt, .ref vo, .ref sh, .ref fd, .int im])), (nw, .inr (9, [.ref w0, .ref w1, .ref w2, .ref w3, .ref w4, .ref w5, .int wt, .int re, .int dy])), (w5, .inr (3, [.ref pf, .int 0]))] sz)) 0 0 (va_A [(x, .inr (10, [.ref nw, .ref kp, .ref fu, .ref ra, .ref kr, .ref rd, .ref wd, .ref ld, .ref mt, .ref vo, .ref sh, .ref fd, .int im])), (nw, .inr (9, [.ref w0, .ref w1, .ref w2, .ref w3, .ref w4, .ref w5, .int wt, .int re, .int dy])), (w5, .inr (3, [.ref pf, .int 0]))] sz) := by
  refine kMetI (own := RX10) (by decide) rfl (Nat.le_of_ble_eq_true rfl) ?_
  intro p e s m args below meth c hx hb hT hown hname hml A Q hK hP hD hS hA hN hRet ls hl
  have hl : lv_has ls 3 [(0, .ref x), (1, .int a), (2, .int b)] := hl
  have lo_a := k_lo a
  have hi_a := k_hi a
  have lo_b := k_lo b
  have hi_b := k_hi b
  have lo_im := k_lo im
  have hi_im := k_hi im
  have lo_wt := k_lo wt
  have hi_wt := k_hi wt
  have lo_re := k_lo re
  have hi_re := k_hi re
  have lo_dy := k_lo dy
  have hi_dy := k_hi dy
  refine lv_aload_n hx hb dX10_areParties_0 rfl (lv_at hl 0 rfl) ?_
  refine va_get (D := D) (ci := 10) (v := .ref nw) (C := RX10) (T := TX10) (N := 13) hx hb hT giX10 hown hK hP 0 rfl rfl 0 (by decide) (hT (Cond.fieldLink RX10 12 "DesertWire" "now" "LDesertWire$World;") mw_291) (fun _ h9 => h9) rfl dX10_areParties_1 ?_
  refine va_get (D := D) (ci := 9) (v := .ref w5) (C := RX9) (T := TX9) (N := 9) hx hb hT giX9 hown hK hP 1 rfl rfl 5 (by decide) (hT (Cond.fieldLink RX10 193 "DesertWire$World" "parties" "LDesertWire$Parties;") mw_102) (fun _ h9 => h9) rfl dX10_areParties_4 ?_
  refine lv_iload_n hx hb dX10_areParties_7 rfl (lv_at hl 1 rfl) ?_
  refine kJi (wr := [(x, .inr (10, [.ref nw, .ref kp, .ref fu, .ref ra, .ref kr, .ref rd, .ref wd, .ref ld, .ref mt, .ref vo, .ref sh, .ref fd, .int im])), (nw, .inr (9, [.ref w0, .ref w1, .ref w2, .ref w3, .ref w4, .ref w5, .int wt, .int re, .int dy]))]) (va_runV (As := [.int a]) (rest := []) ⟨hx, hb, hml, hown, hT⟩ (c_X3_has l D cI w5 pf s.heap.size 0 a) (cwV 1 hT (gV_in mw_717 mw_722 mw_715 mw_716 mw_4) rfl rfl rfl (by decide +kernel) ⟨Nat.le_of_ble_eq_true rfl, Nat.le_of_ble_eq_true rfl⟩) (kRecv (own := "") (q0 := 2) (ci := 3) hK hP hD hN rfl rfl [2] rfl (by decide)) rfl rfl hl.1 rfl (lv_room (Nat.le_of_ble_eq_true rfl)) dX10_areParties_8 ⟨Nat.le_of_ble_eq_true rfl, Nat.le_of_ble_eq_true rfl⟩) hP hD hS hA [2] [0, 1] rfl rfl (by decide) (by decide) (fun r_1 u_3 H locs w_2 hP hD hS => ?_)
  have hP : va_P D vwCl [(x, .inr (10, [.ref nw, .ref kp, .ref fu, .ref ra, .ref kr, .ref rd, .ref wd, .ref ld, .ref mt, .ref vo, .ref sh, .ref fd, .int im])), (nw, .inr (9, [.ref w0, .ref w1, .ref w2, .ref w3, .ref w4, .ref w5, .int wt, .int re, .int dy])), (w5, .inr (3, [.ref pf, .int 0]))] H := hP
  have hD : va_D A [(x, .inr (10, [.ref nw, .ref kp, .ref fu, .ref ra, .ref kr, .ref rd, .ref wd, .ref ld, .ref mt, .ref vo, .ref sh, .ref fd, .int im])), (nw, .inr (9, [.ref w0, .ref w1, .ref w2, .ref w3, .ref w4, .ref w5, .int wt, .int re, .int dy])), (w5, .inr (3, [.ref pf, .int 0]))] := hD
  rcases w_2 with ⟨hr_1, h_4, h_5, h_6⟩ | ⟨hr_1, h_7⟩
  · (try simp only [zl_0] at h_4 h_5 h_6); exfalso; omega
  · try simp only [zl_0] at h_7
    have h_7 : a.toInt < 0 ∨ 0 ≤ a.toInt ∨ 4 ≤ a.toInt := h_7
    obtain rfl : r_1 = 0 := hr_1.trans (by decide)
    refine b_if_eq hx hb zl_0 (tgt := 32) dX10_areParties_11 (by decide) (fun c_8 => ?_) (fun c_8 => by exfalso; omega)
    refine lv_iconst (v := 0) hx hb dX10_areParties_32 (by decide) ?_
    exact hRet () [0, 1, 2] rfl hP hD (by decide) rfl hS rfl dX10_areParties_33
set_option maxHeartbeats 4000000 in
set_option maxRecDepth 100000 in
theorem c_X10_partyIs (l : Launch) (D : va_G) (cI : ClassId) (x nw kp fu ra kr rd wd ld mt vo sh fd w0 w1 w2 w3 w4 w5 pf : Nat) (sz : Nat) (im : Int32) (ff : Nat → Int32) (wt : Int32) (re : Int32) (dy : Int32) (a : Int32) (b : Int32) : Met l yX10_partyIs (gW yX10_partyIs cX10_partyIs 3 (some .int)) ({ frames := 1, cells := 0, slots := 0, locals := 21 } : Room) (kPre D cI [.ref x, .int a, .int b] [(x, .inr (10, [.ref nw, .ref kp, .ref fu, .ref ra, .ref kr, .ref rd, .ref wd, .ref ld, .ref mt, .ref vo, .ref sh, .ref fd, .int im])), (nw, .inr (9, [.ref w0, .ref w1, .ref w2, .ref w3, .ref w4, .ref w5, .int wt, .int re, .int dy])), (w5, .inr (3, [.ref pf, .int 0])), (fd, .inl (cI, 6, .inl ff))] sz) (va_Qi (fun (r : Int32) (u : Unit) => r = (-1000001)) (fun u t => kWd D cI (va_A [(x, .inr (10, [.ref nw, .ref kp, .ref fu, .ref ra, .ref kr, .ref rd, .ref wd, .ref ld, .ref mt, .ref vo, .ref sh, .ref fd, .int im])), (nw, .inr (9, [.ref w0, .ref w1, .ref w2, .ref w3, .ref w4, .ref w5, .int wt, .int re, .int dy])), (w5, .inr (3, [.ref pf, .int 0])), (fd, .inl (cI, 6, .inl ff))] sz) [] t) (va_A [(x, .inr (10, [.ref nw, .ref kp, .ref fu, .ref ra, .ref kr, .ref rd, .ref wd, .ref ld, .ref mt, .ref vo, .ref sh, .ref fd, .int im])), (nw, .inr (9, [.ref w0, .ref w1, .ref w2, .ref w3, .ref w4, .ref w5, .int wt, .int re, .int dy])), (w5, .inr (3, [.ref pf, .int 0])), (fd, .inl (cI, 6, .inl ff))] sz)) 0 0 (va_A [(x, .inr (10, [.ref nw, .ref kp, .ref fu, .ref ra, .ref kr, .ref rd, .ref wd, .ref ld, .ref mt, .ref vo, .ref sh, .ref fd, .int im])), (nw, .inr (9, [.ref w0, .ref w1, .ref w2, .ref w3, .ref w4, .ref w5, .int wt, .int re, .int dy])), (w5, .inr (3, [.ref pf, .int 0])), (fd, .inl (cI, 6, .inl ff))] sz) := by
  refine kMetI (own := RX10) (by decide) rfl (Nat.le_of_ble_eq_true rfl) ?_
  intro p e s m args below meth c hx hb hT hown hname hml A Q hK hP hD hS hA hN hRet ls hl
  have hl : lv_has ls 3 [(0, .ref x), (1, .int a), (2, .int b)] := hl
  have lo_a := k_lo a
  have hi_a := k_hi a
  have lo_b := k_lo b
  have hi_b := k_hi b
  have lo_im := k_lo im
  have hi_im := k_hi im
  have lo_wt := k_lo wt
  have hi_wt := k_hi wt
  have lo_re := k_lo re
  have hi_re := k_hi re
  have lo_dy := k_lo dy
  have hi_dy := k_hi dy
  refine lv_aload_n hx hb dX10_partyIs_0 rfl (lv_at hl 0 rfl) ?_
  refine va_get (D := D) (ci := 10) (v := .ref nw) (C := RX10) (T := TX10) (N := 13) hx hb hT giX10 hown hK hP 0 rfl rfl 0 (by decide) (hT (Cond.fieldLink RX10 12 "DesertWire" "now" "LDesertWire$World;") mw_291) (fun _ h9 => h9) rfl dX10_partyIs_1 ?_
  refine va_get (D := D) (ci := 9) (v := .ref w5) (C := RX9) (T := TX9) (N := 9) hx hb hT giX9 hown hK hP 1 rfl rfl 5 (by decide) (hT (Cond.fieldLink RX10 193 "DesertWire$World" "parties" "LDesertWire$Parties;") mw_102) (fun _ h9 => h9) rfl dX10_partyIs_4 ?_
  refine lv_iload_n hx hb dX10_partyIs_7 rfl (lv_at hl 1 rfl) ?_
  refine kJi (wr := [(x, .inr (10, [.ref nw, .ref kp, .ref fu, .ref ra, .ref kr, .ref rd, .ref wd, .ref ld, .ref mt, .ref vo, .ref sh, .ref fd, .int im])), (nw, .inr (9, [.ref w0, .ref w1, .ref w2, .ref w3, .ref w4, .ref w5, .int wt, .int re, .int dy])), (fd, .inl (cI, 6, .inl ff))]) (va_runV (As := [.int a]) (rest := []) ⟨hx, hb, hml, hown, hT⟩ (c_X3_has l D cI w5 pf s.heap.size 0 a) (cwV 1 hT (gV_in mw_717 mw_722 mw_715 mw_716 mw_4) rfl rfl rfl (by decide +kernel) ⟨Nat.le_of_ble_eq_true rfl, Nat.le_of_ble_eq_true rfl⟩) (kRecv (own := "") (q0 := 2) (ci := 3) hK hP hD hN rfl rfl [2] rfl (by decide)) rfl rfl hl.1 rfl (lv_room (Nat.le_of_ble_eq_true rfl)) dX10_partyIs_8 ⟨Nat.le_of_ble_eq_true rfl, Nat.le_of_ble_eq_true rfl⟩) hP hD hS hA [2] [0, 1, 3] rfl rfl (by decide) (by decide) (fun r_1 u_3 H locs w_2 hP hD hS => ?_)
  have hP : va_P D vwCl [(x, .inr (10, [.ref nw, .ref kp, .ref fu, .ref ra, .ref kr, .ref rd, .ref wd, .ref ld, .ref mt, .ref vo, .ref sh, .ref fd, .int im])), (nw, .inr (9, [.ref w0, .ref w1, .ref w2, .ref w3, .ref w4, .ref w5, .int wt, .int re, .int dy])), (fd, .inl (cI, 6, .inl ff)), (w5, .inr (3, [.ref pf, .int 0]))] H := hP
  have hD : va_D A [(x, .inr (10, [.ref nw, .ref kp, .ref fu, .ref ra, .ref kr, .ref rd, .ref wd, .ref ld, .ref mt, .ref vo, .ref sh, .ref fd, .int im])), (nw, .inr (9, [.ref w0, .ref w1, .ref w2, .ref w3, .ref w4, .ref w5, .int wt, .int re, .int dy])), (fd, .inl (cI, 6, .inl ff)), (w5, .inr (3, [.ref pf, .int 0]))] := hD
  rcases w_2 with ⟨hr_1, h_4, h_5, h_6⟩ | ⟨hr_1, h_7⟩
  · (try simp only [zl_0] at h_4 h_5 h_6); exfalso; omega
  · try simp only [zl_0] at h_7
    have h_7 : a.toInt < 0 ∨ 0 ≤ a.toInt ∨ 4 ≤ a.toInt := h_7
    obtain rfl : r_1 = 0 := hr_1.trans (by decide)
    refine b_if_eq hx hb zl_0 (tgt := 24) dX10_partyIs_11 (by decide) (fun c_8 => ?_) (fun c_8 => by exfalso; omega)
    refine lv_aload_n hx hb dX10_partyIs_24 rfl (lv_at hl 0 rfl) ?_
    refine lv_iconst (v := 1) hx hb dX10_partyIs_25 (by decide) ?_
    refine kJi (wr := [(nw, .inr (9, [.ref w0, .ref w1, .ref w2, .ref w3, .ref w4, .ref w5, .int wt, .int re, .int dy])), (w5, .inr (3, [.ref pf, .int 0]))]) (va_runV (As := [.int 1]) (rest := []) ⟨hx, hb, hml, hown, hT⟩ (c_X10_finding l D cI x nw kp fu ra kr rd wd ld mt vo sh fd H.size im ff 1 (by first | omega | (simp only [zl_1] <;> omega) | decide | assumption | rfl) (by first | omega | (simp only [zl_1] <;> omega) | decide | assumption | rfl)) (cwV 1 hT (gV_in mw_338 mw_335 mw_337 mw_p1_0 mw_1) rfl rfl rfl (by decide +kernel) ⟨Nat.le_of_ble_eq_true rfl, Nat.le_of_ble_eq_true rfl⟩) (kRecv (own := "") (q0 := 0) (ci := 10) hK hP hD hN rfl rfl [0, 2] rfl (by decide)) rfl rfl hl.1 rfl (lv_room (Nat.le_of_ble_eq_true rfl)) dX10_partyIs_26 ⟨Nat.le_of_ble_eq_true rfl, Nat.le_of_ble_eq_true rfl⟩) hP hD hS hA [0, 2] [1, 3] rfl rfl (by decide) (by decide) (fun r_9 u_11 H locs w_10 hP hD hS => ?_)
    have hP : va_P D vwCl [(nw, .inr (9, [.ref w0, .ref w1, .ref w2, .ref w3, .ref w4, .ref w5, .int wt, .int re, .int dy])), (w5, .inr (3, [.ref pf, .int 0]))] H := hP
    have hD : va_D A [(nw, .inr (9, [.ref w0, .ref w1, .ref w2, .ref w3, .ref w4, .ref w5, .int wt, .int re, .int dy])), (w5, .inr (3, [.ref pf, .int 0]))] := hD
    have hr_9 := w_10
    obtain rfl : r_9 = (-1000001) := hr_9.trans (by decide)
    exact hRet () [] rfl hP hD (by decide) rfl hS rfl dX10_partyIs_29
set_option maxHeartbeats 4000000 in
set_option maxRecDepth 100000 in
theorem c_X10_give (l : Launch) (D : va_G) (cI : ClassId) (x nw kp fu ra kr rd wd ld mt vo sh fd w0 w1 w2 w3 w4 w5 pf : Nat) (sz : Nat) (im : Int32) (ff : Nat → Int32) (wt : Int32) (re : Int32) (dy : Int32) (a : Int32) (b : Int32) (d : Int32) : Met l yX10_give (gW yX10_give cX10_give 7 (some .int)) ({ frames := 1, cells := 0, slots := 0, locals := 21 } : Room) (kPre D cI [.ref x, .int a, .int b, .int d] [(x, .inr (10, [.ref nw, .ref kp, .ref fu, .ref ra, .ref kr, .ref rd, .ref wd, .ref ld, .ref mt, .ref vo, .ref sh, .ref fd, .int im])), (nw, .inr (9, [.ref w0, .ref w1, .ref w2, .ref w3, .ref w4, .ref w5, .int wt, .int re, .int dy])), (w5, .inr (3, [.ref pf, .int 0])), (fd, .inl (cI, 6, .inl ff))] sz) (va_Qi (fun (r : Int32) (u : Unit) => r = (-1000001)) (fun u t => kWd D cI (va_A [(x, .inr (10, [.ref nw, .ref kp, .ref fu, .ref ra, .ref kr, .ref rd, .ref wd, .ref ld, .ref mt, .ref vo, .ref sh, .ref fd, .int im])), (nw, .inr (9, [.ref w0, .ref w1, .ref w2, .ref w3, .ref w4, .ref w5, .int wt, .int re, .int dy])), (w5, .inr (3, [.ref pf, .int 0])), (fd, .inl (cI, 6, .inl ff))] sz) [] t) (va_A [(x, .inr (10, [.ref nw, .ref kp, .ref fu, .ref ra, .ref kr, .ref rd, .ref wd, .ref ld, .ref mt, .ref vo, .ref sh, .ref fd, .int im])), (nw, .inr (9, [.ref w0, .ref w1, .ref w2, .ref w3, .ref w4, .ref w5, .int wt, .int re, .int dy])), (w5, .inr (3, [.ref pf, .int 0])), (fd, .inl (cI, 6, .inl ff))] sz)) 0 0 (va_A [(x, .inr (10, [.ref nw, .ref kp, .ref fu, .ref ra, .ref kr, .ref rd, .ref wd, .ref ld, .ref mt, .ref vo, .ref sh, .ref fd, .int im])), (nw, .inr (9, [.ref w0, .ref w1, .ref w2, .ref w3, .ref w4, .ref w5, .int wt, .int re, .int dy])), (w5, .inr (3, [.ref pf, .int 0])), (fd, .inl (cI, 6, .inl ff))] sz) := by
  refine kMetI (own := RX10) (by decide) rfl (Nat.le_of_ble_eq_true rfl) ?_
  intro p e s m args below meth c hx hb hT hown hname hml A Q hK hP hD hS hA hN hRet ls hl
  have hl : lv_has ls 7 [(0, .ref x), (1, .int a), (2, .int b), (3, .int d)] := hl
  have lo_a := k_lo a
  have hi_a := k_hi a
  have lo_b := k_lo b
  have hi_b := k_hi b
  have lo_d := k_lo d
  have hi_d := k_hi d
  have lo_im := k_lo im
  have hi_im := k_hi im
  have lo_wt := k_lo wt
  have hi_wt := k_hi wt
  have lo_re := k_lo re
  have hi_re := k_hi re
  have lo_dy := k_lo dy
  have hi_dy := k_hi dy
  refine lv_aload_n hx hb dX10_give_0 rfl (lv_at hl 0 rfl) ?_
  refine va_get (D := D) (ci := 10) (v := .ref nw) (C := RX10) (T := TX10) (N := 13) hx hb hT giX10 hown hK hP 0 rfl rfl 0 (by decide) (hT (Cond.fieldLink RX10 12 "DesertWire" "now" "LDesertWire$World;") mw_291) (fun _ h9 => h9) rfl dX10_give_1 ?_
  refine va_get (D := D) (ci := 9) (v := .ref w5) (C := RX9) (T := TX9) (N := 9) hx hb hT giX9 hown hK hP 1 rfl rfl 5 (by decide) (hT (Cond.fieldLink RX10 193 "DesertWire$World" "parties" "LDesertWire$Parties;") mw_102) (fun _ h9 => h9) rfl dX10_give_4 ?_
  refine lv_iload_n hx hb dX10_give_7 rfl (lv_at hl 1 rfl) ?_
  refine kJi (wr := [(x, .inr (10, [.ref nw, .ref kp, .ref fu, .ref ra, .ref kr, .ref rd, .ref wd, .ref ld, .ref mt, .ref vo, .ref sh, .ref fd, .int im])), (nw, .inr (9, [.ref w0, .ref w1, .ref w2, .ref w3, .ref w4, .ref w5, .int wt, .int re, .int dy])), (fd, .inl (cI, 6, .inl ff))]) (va_runV (As := [.int a]) (rest := []) ⟨hx, hb, hml, hown, hT⟩ (c_X3_has l D cI w5 pf s.heap.size 0 a) (cwV 1 hT (gV_in mw_717 mw_722 mw_715 mw_716 mw_4) rfl rfl rfl (by decide +kernel) ⟨Nat.le_of_ble_eq_true rfl, Nat.le_of_ble_eq_true rfl⟩) (kRecv (own := "") (q0 := 2) (ci := 3) hK hP hD hN rfl rfl [2] rfl (by decide)) rfl rfl hl.1 rfl (lv_room (Nat.le_of_ble_eq_true rfl)) dX10_give_8 ⟨Nat.le_of_ble_eq_true rfl, Nat.le_of_ble_eq_true rfl⟩) hP hD hS hA [2] [0, 1, 3] rfl rfl (by decide) (by decide) (fun r_1 u_3 H locs w_2 hP hD hS => ?_)
  have hP : va_P D vwCl [(x, .inr (10, [.ref nw, .ref kp, .ref fu, .ref ra, .ref kr, .ref rd, .ref wd, .ref ld, .ref mt, .ref vo, .ref sh, .ref fd, .int im])), (nw, .inr (9, [.ref w0, .ref w1, .ref w2, .ref w3, .ref w4, .ref w5, .int wt, .int re, .int dy])), (fd, .inl (cI, 6, .inl ff)), (w5, .inr (3, [.ref pf, .int 0]))] H := hP
  have hD : va_D A [(x, .inr (10, [.ref nw, .ref kp, .ref fu, .ref ra, .ref kr, .ref rd, .ref wd, .ref ld, .ref mt, .ref vo, .ref sh, .ref fd, .int im])), (nw, .inr (9, [.ref w0, .ref w1, .ref w2, .ref w3, .ref w4, .ref w5, .int wt, .int re, .int dy])), (fd, .inl (cI, 6, .inl ff)), (w5, .inr (3, [.ref pf, .int 0]))] := hD
  rcases w_2 with ⟨hr_1, h_4, h_5, h_6⟩ | ⟨hr_1, h_7⟩
  · (try simp only [zl_0] at h_4 h_5 h_6); exfalso; omega
  · try simp only [zl_0] at h_7
    have h_7 : a.toInt < 0 ∨ 0 ≤ a.toInt ∨ 4 ≤ a.toInt := h_7
    obtain rfl : r_1 = 0 := hr_1.trans (by decide)
    refine b_if_eq hx hb zl_0 (tgt := 23) dX10_give_11 (by decide) (fun c_8 => ?_) (fun c_8 => by exfalso; omega)
    refine lv_aload_n hx hb dX10_give_23 rfl (lv_at hl 0 rfl) ?_
    refine lv_iconst (v := 1) hx hb dX10_give_24 (by decide) ?_
    refine kJi (wr := [(nw, .inr (9, [.ref w0, .ref w1, .ref w2, .ref w3, .ref w4, .ref w5, .int wt, .int re, .int dy])), (w5, .inr (3, [.ref pf, .int 0]))]) (va_runV (As := [.int 1]) (rest := []) ⟨hx, hb, hml, hown, hT⟩ (c_X10_finding l D cI x nw kp fu ra kr rd wd ld mt vo sh fd H.size im ff 1 (by first | omega | (simp only [zl_1] <;> omega) | decide | assumption | rfl) (by first | omega | (simp only [zl_1] <;> omega) | decide | assumption | rfl)) (cwV 1 hT (gV_in mw_338 mw_335 mw_337 mw_p1_0 mw_1) rfl rfl rfl (by decide +kernel) ⟨Nat.le_of_ble_eq_true rfl, Nat.le_of_ble_eq_true rfl⟩) (kRecv (own := "") (q0 := 0) (ci := 10) hK hP hD hN rfl rfl [0, 2] rfl (by decide)) rfl rfl hl.1 rfl (lv_room (Nat.le_of_ble_eq_true rfl)) dX10_give_25 ⟨Nat.le_of_ble_eq_true rfl, Nat.le_of_ble_eq_true rfl⟩) hP hD hS hA [0, 2] [1, 3] rfl rfl (by decide) (by decide) (fun r_9 u_11 H locs w_10 hP hD hS => ?_)
    have hP : va_P D vwCl [(nw, .inr (9, [.ref w0, .ref w1, .ref w2, .ref w3, .ref w4, .ref w5, .int wt, .int re, .int dy])), (w5, .inr (3, [.ref pf, .int 0]))] H := hP
    have hD : va_D A [(nw, .inr (9, [.ref w0, .ref w1, .ref w2, .ref w3, .ref w4, .ref w5, .int wt, .int re, .int dy])), (w5, .inr (3, [.ref pf, .int 0]))] := hD
    have hr_9 := w_10
    obtain rfl : r_9 = (-1000001) := hr_9.trans (by decide)
    exact hRet () [] rfl hP hD (by decide) rfl hS rfl dX10_give_28
set_option maxHeartbeats 4000000 in
set_option maxRecDepth 100000 in
theorem c_X10_turn (l : Launch) (D : va_G) (cI : ClassId) (x nw kp fu ra kr rd wd ld mt vo sh fd w0 w1 w2 w3 w4 w5 pf : Nat) (sz : Nat) (im : Int32) (ff : Nat → Int32) (wt : Int32) (re : Int32) (dy : Int32) (a : Int32) : Met l yX10_turn (gW yX10_turn cX10_turn 3 (some .int)) ({ frames := 1, cells := 0, slots := 0, locals := 21 } : Room) (kPre D cI [.ref x, .int a] [(x, .inr (10, [.ref nw, .ref kp, .ref fu, .ref ra, .ref kr, .ref rd, .ref wd, .ref ld, .ref mt, .ref vo, .ref sh, .ref fd, .int im])), (nw, .inr (9, [.ref w0, .ref w1, .ref w2, .ref w3, .ref w4, .ref w5, .int wt, .int re, .int dy])), (w5, .inr (3, [.ref pf, .int 0])), (fd, .inl (cI, 6, .inl ff))] sz) (va_Qi (fun (r : Int32) (u : Unit) => r = (-1000001)) (fun u t => kWd D cI (va_A [(x, .inr (10, [.ref nw, .ref kp, .ref fu, .ref ra, .ref kr, .ref rd, .ref wd, .ref ld, .ref mt, .ref vo, .ref sh, .ref fd, .int im])), (nw, .inr (9, [.ref w0, .ref w1, .ref w2, .ref w3, .ref w4, .ref w5, .int wt, .int re, .int dy])), (w5, .inr (3, [.ref pf, .int 0])), (fd, .inl (cI, 6, .inl ff))] sz) [] t) (va_A [(x, .inr (10, [.ref nw, .ref kp, .ref fu, .ref ra, .ref kr, .ref rd, .ref wd, .ref ld, .ref mt, .ref vo, .ref sh, .ref fd, .int im])), (nw, .inr (9, [.ref w0, .ref w1, .ref w2, .ref w3, .ref w4, .ref w5, .int wt, .int re, .int dy])), (w5, .inr (3, [.ref pf, .int 0])), (fd, .inl (cI, 6, .inl ff))] sz)) 0 0 (va_A [(x, .inr (10, [.ref nw, .ref kp, .ref fu, .ref ra, .ref kr, .ref rd, .ref wd, .ref ld, .ref mt, .ref vo, .ref sh, .ref fd, .int im])), (nw, .inr (9, [.ref w0, .ref w1, .ref w2, .ref w3, .ref w4, .ref w5, .int wt, .int re, .int dy])), (w5, .inr (3, [.ref pf, .int 0])), (fd, .inl (cI, 6, .inl ff))] sz) := by
  refine kMetI (own := RX10) (by decide) rfl (Nat.le_of_ble_eq_true rfl) ?_
  intro p e s m args below meth c hx hb hT hown hname hml A Q hK hP hD hS hA hN hRet ls hl
  have hl : lv_has ls 3 [(0, .ref x), (1, .int a)] := hl
  have lo_a := k_lo a
  have hi_a := k_hi a
  have lo_im := k_lo im
  have hi_im := k_hi im
  have lo_wt := k_lo wt
  have hi_wt := k_hi wt
  have lo_re := k_lo re
  have hi_re := k_hi re
  have lo_dy := k_lo dy
  have hi_dy := k_hi dy
  refine lv_aload_n hx hb dX10_turn_0 rfl (lv_at hl 0 rfl) ?_
  refine va_get (D := D) (ci := 10) (v := .ref nw) (C := RX10) (T := TX10) (N := 13) hx hb hT giX10 hown hK hP 0 rfl rfl 0 (by decide) (hT (Cond.fieldLink RX10 12 "DesertWire" "now" "LDesertWire$World;") mw_291) (fun _ h9 => h9) rfl dX10_turn_1 ?_
  refine va_get (D := D) (ci := 9) (v := .ref w5) (C := RX9) (T := TX9) (N := 9) hx hb hT giX9 hown hK hP 1 rfl rfl 5 (by decide) (hT (Cond.fieldLink RX10 193 "DesertWire$World" "parties" "LDesertWire$Parties;") mw_102) (fun _ h9 => h9) rfl dX10_turn_4 ?_
  refine lv_iload_n hx hb dX10_turn_7 rfl (lv_at hl 1 rfl) ?_
  refine kJi (wr := [(x, .inr (10, [.ref nw, .ref kp, .ref fu, .ref ra, .ref kr, .ref rd, .ref wd, .ref ld, .ref mt, .ref vo, .ref sh, .ref fd, .int im])), (nw, .inr (9, [.ref w0, .ref w1, .ref w2, .ref w3, .ref w4, .ref w5, .int wt, .int re, .int dy])), (fd, .inl (cI, 6, .inl ff))]) (va_runV (As := [.int a]) (rest := []) ⟨hx, hb, hml, hown, hT⟩ (c_X3_has l D cI w5 pf s.heap.size 0 a) (cwV 1 hT (gV_in mw_717 mw_722 mw_715 mw_716 mw_4) rfl rfl rfl (by decide +kernel) ⟨Nat.le_of_ble_eq_true rfl, Nat.le_of_ble_eq_true rfl⟩) (kRecv (own := "") (q0 := 2) (ci := 3) hK hP hD hN rfl rfl [2] rfl (by decide)) rfl rfl hl.1 rfl (lv_room (Nat.le_of_ble_eq_true rfl)) dX10_turn_8 ⟨Nat.le_of_ble_eq_true rfl, Nat.le_of_ble_eq_true rfl⟩) hP hD hS hA [2] [0, 1, 3] rfl rfl (by decide) (by decide) (fun r_1 u_3 H locs w_2 hP hD hS => ?_)
  have hP : va_P D vwCl [(x, .inr (10, [.ref nw, .ref kp, .ref fu, .ref ra, .ref kr, .ref rd, .ref wd, .ref ld, .ref mt, .ref vo, .ref sh, .ref fd, .int im])), (nw, .inr (9, [.ref w0, .ref w1, .ref w2, .ref w3, .ref w4, .ref w5, .int wt, .int re, .int dy])), (fd, .inl (cI, 6, .inl ff)), (w5, .inr (3, [.ref pf, .int 0]))] H := hP
  have hD : va_D A [(x, .inr (10, [.ref nw, .ref kp, .ref fu, .ref ra, .ref kr, .ref rd, .ref wd, .ref ld, .ref mt, .ref vo, .ref sh, .ref fd, .int im])), (nw, .inr (9, [.ref w0, .ref w1, .ref w2, .ref w3, .ref w4, .ref w5, .int wt, .int re, .int dy])), (fd, .inl (cI, 6, .inl ff)), (w5, .inr (3, [.ref pf, .int 0]))] := hD
  rcases w_2 with ⟨hr_1, h_4, h_5, h_6⟩ | ⟨hr_1, h_7⟩
  · (try simp only [zl_0] at h_4 h_5 h_6); exfalso; omega
  · try simp only [zl_0] at h_7
    have h_7 : a.toInt < 0 ∨ 0 ≤ a.toInt ∨ 4 ≤ a.toInt := h_7
    obtain rfl : r_1 = 0 := hr_1.trans (by decide)
    refine b_if_ne hx hb zl_0 (tgt := 20) dX10_turn_11 (by decide) (fun c_8 => by exfalso; omega) (fun c_8 => ?_)
    refine lv_aload_n hx hb dX10_turn_14 rfl (lv_at hl 0 rfl) ?_
    refine lv_iconst (v := 1) hx hb dX10_turn_15 (by decide) ?_
    refine kJi (wr := [(nw, .inr (9, [.ref w0, .ref w1, .ref w2, .ref w3, .ref w4, .ref w5, .int wt, .int re, .int dy])), (w5, .inr (3, [.ref pf, .int 0]))]) (va_runV (As := [.int 1]) (rest := []) ⟨hx, hb, hml, hown, hT⟩ (c_X10_finding l D cI x nw kp fu ra kr rd wd ld mt vo sh fd H.size im ff 1 (by first | omega | (simp only [zl_1] <;> omega) | decide | assumption | rfl) (by first | omega | (simp only [zl_1] <;> omega) | decide | assumption | rfl)) (cwV 1 hT (gV_in mw_338 mw_335 mw_337 mw_p1_0 mw_1) rfl rfl rfl (by decide +kernel) ⟨Nat.le_of_ble_eq_true rfl, Nat.le_of_ble_eq_true rfl⟩) (kRecv (own := "") (q0 := 0) (ci := 10) hK hP hD hN rfl rfl [0, 2] rfl (by decide)) rfl rfl hl.1 rfl (lv_room (Nat.le_of_ble_eq_true rfl)) dX10_turn_16 ⟨Nat.le_of_ble_eq_true rfl, Nat.le_of_ble_eq_true rfl⟩) hP hD hS hA [0, 2] [1, 3] rfl rfl (by decide) (by decide) (fun r_9 u_11 H locs w_10 hP hD hS => ?_)
    have hP : va_P D vwCl [(nw, .inr (9, [.ref w0, .ref w1, .ref w2, .ref w3, .ref w4, .ref w5, .int wt, .int re, .int dy])), (w5, .inr (3, [.ref pf, .int 0]))] H := hP
    have hD : va_D A [(nw, .inr (9, [.ref w0, .ref w1, .ref w2, .ref w3, .ref w4, .ref w5, .int wt, .int re, .int dy])), (w5, .inr (3, [.ref pf, .int 0]))] := hD
    have hr_9 := w_10
    obtain rfl : r_9 = (-1000001) := hr_9.trans (by decide)
    exact hRet () [] rfl hP hD (by decide) rfl hS rfl dX10_turn_19
set_option maxHeartbeats 4000000 in
set_option maxRecDepth 100000 in
theorem c_X10_hand (l : Launch) (D : va_G) (cI : ClassId) (x nw kp fu ra kr rd wd ld mt vo sh fd w0 w1 w2 w3 w4 w5 pf : Nat) (sz : Nat) (im : Int32) (ff : Nat → Int32) (wt : Int32) (re : Int32) (dy : Int32) (a : Int32) (b : Int32) (d : Int32) : Met l yX10_hand (gW yX10_hand cX10_hand 7 (some .int)) ({ frames := 1, cells := 0, slots := 0, locals := 21 } : Room) (kPre D cI [.ref x, .int a, .int b, .int d] [(x, .inr (10, [.ref nw, .ref kp, .ref fu, .ref ra, .ref kr, .ref rd, .ref wd, .ref ld, .ref mt, .ref vo, .ref sh, .ref fd, .int im])), (nw, .inr (9, [.ref w0, .ref w1, .ref w2, .ref w3, .ref w4, .ref w5, .int wt, .int re, .int dy])), (w5, .inr (3, [.ref pf, .int 0])), (fd, .inl (cI, 6, .inl ff))] sz) (va_Qi (fun (r : Int32) (u : Unit) => r = (-1000001)) (fun u t => kWd D cI (va_A [(x, .inr (10, [.ref nw, .ref kp, .ref fu, .ref ra, .ref kr, .ref rd, .ref wd, .ref ld, .ref mt, .ref vo, .ref sh, .ref fd, .int im])), (nw, .inr (9, [.ref w0, .ref w1, .ref w2, .ref w3, .ref w4, .ref w5, .int wt, .int re, .int dy])), (w5, .inr (3, [.ref pf, .int 0])), (fd, .inl (cI, 6, .inl ff))] sz) [] t) (va_A [(x, .inr (10, [.ref nw, .ref kp, .ref fu, .ref ra, .ref kr, .ref rd, .ref wd, .ref ld, .ref mt, .ref vo, .ref sh, .ref fd, .int im])), (nw, .inr (9, [.ref w0, .ref w1, .ref w2, .ref w3, .ref w4, .ref w5, .int wt, .int re, .int dy])), (w5, .inr (3, [.ref pf, .int 0])), (fd, .inl (cI, 6, .inl ff))] sz)) 0 0 (va_A [(x, .inr (10, [.ref nw, .ref kp, .ref fu, .ref ra, .ref kr, .ref rd, .ref wd, .ref ld, .ref mt, .ref vo, .ref sh, .ref fd, .int im])), (nw, .inr (9, [.ref w0, .ref w1, .ref w2, .ref w3, .ref w4, .ref w5, .int wt, .int re, .int dy])), (w5, .inr (3, [.ref pf, .int 0])), (fd, .inl (cI, 6, .inl ff))] sz) := by
  refine kMetI (own := RX10) (by decide) rfl (Nat.le_of_ble_eq_true rfl) ?_
  intro p e s m args below meth c hx hb hT hown hname hml A Q hK hP hD hS hA hN hRet ls hl
  have hl : lv_has ls 7 [(0, .ref x), (1, .int a), (2, .int b), (3, .int d)] := hl
  have lo_a := k_lo a
  have hi_a := k_hi a
  have lo_b := k_lo b
  have hi_b := k_hi b
  have lo_d := k_lo d
  have hi_d := k_hi d
  have lo_im := k_lo im
  have hi_im := k_hi im
  have lo_wt := k_lo wt
  have hi_wt := k_hi wt
  have lo_re := k_lo re
  have hi_re := k_hi re
  have lo_dy := k_lo dy
  have hi_dy := k_hi dy
  refine lv_aload_n hx hb dX10_hand_0 rfl (lv_at hl 0 rfl) ?_
  refine va_get (D := D) (ci := 10) (v := .ref nw) (C := RX10) (T := TX10) (N := 13) hx hb hT giX10 hown hK hP 0 rfl rfl 0 (by decide) (hT (Cond.fieldLink RX10 12 "DesertWire" "now" "LDesertWire$World;") mw_291) (fun _ h9 => h9) rfl dX10_hand_1 ?_
  refine va_get (D := D) (ci := 9) (v := .ref w5) (C := RX9) (T := TX9) (N := 9) hx hb hT giX9 hown hK hP 1 rfl rfl 5 (by decide) (hT (Cond.fieldLink RX10 193 "DesertWire$World" "parties" "LDesertWire$Parties;") mw_102) (fun _ h9 => h9) rfl dX10_hand_4 ?_
  refine lv_astore (lv' := [(4, .ref w5), (0, .ref x), (1, .int a), (2, .int b), (3, .int d)]) hx hb dX10_hand_7 hl (by decide) rfl (fun ls hl => ?_)
  refine lv_aload hx hb dX10_hand_9 (lv_at hl 0 rfl) ?_
  refine lv_iload_n hx hb dX10_hand_11 rfl (lv_at hl 2 rfl) ?_
  refine kJi (wr := [(x, .inr (10, [.ref nw, .ref kp, .ref fu, .ref ra, .ref kr, .ref rd, .ref wd, .ref ld, .ref mt, .ref vo, .ref sh, .ref fd, .int im])), (nw, .inr (9, [.ref w0, .ref w1, .ref w2, .ref w3, .ref w4, .ref w5, .int wt, .int re, .int dy])), (fd, .inl (cI, 6, .inl ff))]) (va_runV (As := [.int a]) (rest := []) ⟨hx, hb, hml, hown, hT⟩ (c_X3_has l D cI w5 pf s.heap.size 0 a) (cwV 1 hT (gV_in mw_717 mw_722 mw_715 mw_716 mw_4) rfl rfl rfl (by decide +kernel) ⟨Nat.le_of_ble_eq_true rfl, Nat.le_of_ble_eq_true rfl⟩) (kRecv (own := "") (q0 := 2) (ci := 3) hK hP hD hN rfl rfl [2] rfl (by decide)) rfl rfl hl.1 rfl (lv_room (Nat.le_of_ble_eq_true rfl)) dX10_hand_12 ⟨Nat.le_of_ble_eq_true rfl, Nat.le_of_ble_eq_true rfl⟩) hP hD hS hA [2] [0, 1, 3] rfl rfl (by decide) (by decide) (fun r_1 u_3 H locs w_2 hP hD hS => ?_)
  have hP : va_P D vwCl [(x, .inr (10, [.ref nw, .ref kp, .ref fu, .ref ra, .ref kr, .ref rd, .ref wd, .ref ld, .ref mt, .ref vo, .ref sh, .ref fd, .int im])), (nw, .inr (9, [.ref w0, .ref w1, .ref w2, .ref w3, .ref w4, .ref w5, .int wt, .int re, .int dy])), (fd, .inl (cI, 6, .inl ff)), (w5, .inr (3, [.ref pf, .int 0]))] H := hP
  have hD : va_D A [(x, .inr (10, [.ref nw, .ref kp, .ref fu, .ref ra, .ref kr, .ref rd, .ref wd, .ref ld, .ref mt, .ref vo, .ref sh, .ref fd, .int im])), (nw, .inr (9, [.ref w0, .ref w1, .ref w2, .ref w3, .ref w4, .ref w5, .int wt, .int re, .int dy])), (fd, .inl (cI, 6, .inl ff)), (w5, .inr (3, [.ref pf, .int 0]))] := hD
  rcases w_2 with ⟨hr_1, h_4, h_5, h_6⟩ | ⟨hr_1, h_7⟩
  · (try simp only [zl_0] at h_4 h_5 h_6); exfalso; omega
  · try simp only [zl_0] at h_7
    have h_7 : a.toInt < 0 ∨ 0 ≤ a.toInt ∨ 4 ≤ a.toInt := h_7
    obtain rfl : r_1 = 0 := hr_1.trans (by decide)
    refine b_if_eq hx hb zl_0 (tgt := 43) dX10_hand_15 (by decide) (fun c_8 => ?_) (fun c_8 => by exfalso; omega)
    refine lv_aload_n hx hb dX10_hand_43 rfl (lv_at hl 1 rfl) ?_
    refine lv_iconst (v := 1) hx hb dX10_hand_44 (by decide) ?_
    refine kJi (wr := [(nw, .inr (9, [.ref w0, .ref w1, .ref w2, .ref w3, .ref w4, .ref w5, .int wt, .int re, .int dy])), (w5, .inr (3, [.ref pf, .int 0]))]) (va_runV (As := [.int 1]) (rest := []) ⟨hx, hb, hml, hown, hT⟩ (c_X10_finding l D cI x nw kp fu ra kr rd wd ld mt vo sh fd H.size im ff 1 (by first | omega | (simp only [zl_1] <;> omega) | decide | assumption | rfl) (by first | omega | (simp only [zl_1] <;> omega) | decide | assumption | rfl)) (cwV 1 hT (gV_in mw_338 mw_335 mw_337 mw_p1_0 mw_1) rfl rfl rfl (by decide +kernel) ⟨Nat.le_of_ble_eq_true rfl, Nat.le_of_ble_eq_true rfl⟩) (kRecv (own := "") (q0 := 0) (ci := 10) hK hP hD hN rfl rfl [0, 2] rfl (by decide)) rfl rfl hl.1 rfl (lv_room (Nat.le_of_ble_eq_true rfl)) dX10_hand_45 ⟨Nat.le_of_ble_eq_true rfl, Nat.le_of_ble_eq_true rfl⟩) hP hD hS hA [0, 2] [1, 3] rfl rfl (by decide) (by decide) (fun r_9 u_11 H locs w_10 hP hD hS => ?_)
    have hP : va_P D vwCl [(nw, .inr (9, [.ref w0, .ref w1, .ref w2, .ref w3, .ref w4, .ref w5, .int wt, .int re, .int dy])), (w5, .inr (3, [.ref pf, .int 0]))] H := hP
    have hD : va_D A [(nw, .inr (9, [.ref w0, .ref w1, .ref w2, .ref w3, .ref w4, .ref w5, .int wt, .int re, .int dy])), (w5, .inr (3, [.ref pf, .int 0]))] := hD
    have hr_9 := w_10
    obtain rfl : r_9 = (-1000001) := hr_9.trans (by decide)
    exact hRet () [] rfl hP hD (by decide) rfl hS rfl dX10_hand_48
set_option maxHeartbeats 4000000 in
set_option maxRecDepth 100000 in
theorem c_X10_load (l : Launch) (D : va_G) (cI : ClassId) (x nw kp fu ra kr rd wd ld mt vo sh fd w0 w1 w2 w3 w4 w5 pf : Nat) (sz : Nat) (im : Int32) (ff : Nat → Int32) (wt : Int32) (re : Int32) (dy : Int32) (a : Int32) (b : Int32) (d : Int32) : Met l yX10_load (gW yX10_load cX10_load 5 (some .int)) ({ frames := 1, cells := 0, slots := 0, locals := 21 } : Room) (kPre D cI [.ref x, .int a, .int b, .int d] [(x, .inr (10, [.ref nw, .ref kp, .ref fu, .ref ra, .ref kr, .ref rd, .ref wd, .ref ld, .ref mt, .ref vo, .ref sh, .ref fd, .int im])), (nw, .inr (9, [.ref w0, .ref w1, .ref w2, .ref w3, .ref w4, .ref w5, .int wt, .int re, .int dy])), (w5, .inr (3, [.ref pf, .int 0])), (fd, .inl (cI, 6, .inl ff))] sz) (va_Qi (fun (r : Int32) (u : Unit) => r = (-1000001)) (fun u t => kWd D cI (va_A [(x, .inr (10, [.ref nw, .ref kp, .ref fu, .ref ra, .ref kr, .ref rd, .ref wd, .ref ld, .ref mt, .ref vo, .ref sh, .ref fd, .int im])), (nw, .inr (9, [.ref w0, .ref w1, .ref w2, .ref w3, .ref w4, .ref w5, .int wt, .int re, .int dy])), (w5, .inr (3, [.ref pf, .int 0])), (fd, .inl (cI, 6, .inl ff))] sz) [] t) (va_A [(x, .inr (10, [.ref nw, .ref kp, .ref fu, .ref ra, .ref kr, .ref rd, .ref wd, .ref ld, .ref mt, .ref vo, .ref sh, .ref fd, .int im])), (nw, .inr (9, [.ref w0, .ref w1, .ref w2, .ref w3, .ref w4, .ref w5, .int wt, .int re, .int dy])), (w5, .inr (3, [.ref pf, .int 0])), (fd, .inl (cI, 6, .inl ff))] sz)) 0 0 (va_A [(x, .inr (10, [.ref nw, .ref kp, .ref fu, .ref ra, .ref kr, .ref rd, .ref wd, .ref ld, .ref mt, .ref vo, .ref sh, .ref fd, .int im])), (nw, .inr (9, [.ref w0, .ref w1, .ref w2, .ref w3, .ref w4, .ref w5, .int wt, .int re, .int dy])), (w5, .inr (3, [.ref pf, .int 0])), (fd, .inl (cI, 6, .inl ff))] sz) := by
  refine kMetI (own := RX10) (by decide) rfl (Nat.le_of_ble_eq_true rfl) ?_
  intro p e s m args below meth c hx hb hT hown hname hml A Q hK hP hD hS hA hN hRet ls hl
  have hl : lv_has ls 5 [(0, .ref x), (1, .int a), (2, .int b), (3, .int d)] := hl
  have lo_a := k_lo a
  have hi_a := k_hi a
  have lo_b := k_lo b
  have hi_b := k_hi b
  have lo_d := k_lo d
  have hi_d := k_hi d
  have lo_im := k_lo im
  have hi_im := k_hi im
  have lo_wt := k_lo wt
  have hi_wt := k_hi wt
  have lo_re := k_lo re
  have hi_re := k_hi re
  have lo_dy := k_lo dy
  have hi_dy := k_hi dy
  refine lv_aload_n hx hb dX10_load_0 rfl (lv_at hl 0 rfl) ?_
  refine va_get (D := D) (ci := 10) (v := .ref nw) (C := RX10) (T := TX10) (N := 13) hx hb hT giX10 hown hK hP 0 rfl rfl 0 (by decide) (hT (Cond.fieldLink RX10 12 "DesertWire" "now" "LDesertWire$World;") mw_291) (fun _ h9 => h9) rfl dX10_load_1 ?_
  refine va_get (D := D) (ci := 9) (v := .ref w5) (C := RX9) (T := TX9) (N := 9) hx hb hT giX9 hown hK hP 1 rfl rfl 5 (by decide) (hT (Cond.fieldLink RX10 193 "DesertWire$World" "parties" "LDesertWire$Parties;") mw_102) (fun _ h9 => h9) rfl dX10_load_4 ?_
  refine lv_iload_n hx hb dX10_load_7 rfl (lv_at hl 1 rfl) ?_
  refine kJi (wr := [(x, .inr (10, [.ref nw, .ref kp, .ref fu, .ref ra, .ref kr, .ref rd, .ref wd, .ref ld, .ref mt, .ref vo, .ref sh, .ref fd, .int im])), (nw, .inr (9, [.ref w0, .ref w1, .ref w2, .ref w3, .ref w4, .ref w5, .int wt, .int re, .int dy])), (fd, .inl (cI, 6, .inl ff))]) (va_runV (As := [.int a]) (rest := []) ⟨hx, hb, hml, hown, hT⟩ (c_X3_has l D cI w5 pf s.heap.size 0 a) (cwV 1 hT (gV_in mw_717 mw_722 mw_715 mw_716 mw_4) rfl rfl rfl (by decide +kernel) ⟨Nat.le_of_ble_eq_true rfl, Nat.le_of_ble_eq_true rfl⟩) (kRecv (own := "") (q0 := 2) (ci := 3) hK hP hD hN rfl rfl [2] rfl (by decide)) rfl rfl hl.1 rfl (lv_room (Nat.le_of_ble_eq_true rfl)) dX10_load_8 ⟨Nat.le_of_ble_eq_true rfl, Nat.le_of_ble_eq_true rfl⟩) hP hD hS hA [2] [0, 1, 3] rfl rfl (by decide) (by decide) (fun r_1 u_3 H locs w_2 hP hD hS => ?_)
  have hP : va_P D vwCl [(x, .inr (10, [.ref nw, .ref kp, .ref fu, .ref ra, .ref kr, .ref rd, .ref wd, .ref ld, .ref mt, .ref vo, .ref sh, .ref fd, .int im])), (nw, .inr (9, [.ref w0, .ref w1, .ref w2, .ref w3, .ref w4, .ref w5, .int wt, .int re, .int dy])), (fd, .inl (cI, 6, .inl ff)), (w5, .inr (3, [.ref pf, .int 0]))] H := hP
  have hD : va_D A [(x, .inr (10, [.ref nw, .ref kp, .ref fu, .ref ra, .ref kr, .ref rd, .ref wd, .ref ld, .ref mt, .ref vo, .ref sh, .ref fd, .int im])), (nw, .inr (9, [.ref w0, .ref w1, .ref w2, .ref w3, .ref w4, .ref w5, .int wt, .int re, .int dy])), (fd, .inl (cI, 6, .inl ff)), (w5, .inr (3, [.ref pf, .int 0]))] := hD
  rcases w_2 with ⟨hr_1, h_4, h_5, h_6⟩ | ⟨hr_1, h_7⟩
  · (try simp only [zl_0] at h_4 h_5 h_6); exfalso; omega
  · try simp only [zl_0] at h_7
    have h_7 : a.toInt < 0 ∨ 0 ≤ a.toInt ∨ 4 ≤ a.toInt := h_7
    obtain rfl : r_1 = 0 := hr_1.trans (by decide)
    refine b_if_eq hx hb zl_0 (tgt := 27) dX10_load_11 (by decide) (fun c_8 => ?_) (fun c_8 => by exfalso; omega)
    refine lv_aload_n hx hb dX10_load_27 rfl (lv_at hl 0 rfl) ?_
    refine lv_iconst (v := 1) hx hb dX10_load_28 (by decide) ?_
    refine kJi (wr := [(nw, .inr (9, [.ref w0, .ref w1, .ref w2, .ref w3, .ref w4, .ref w5, .int wt, .int re, .int dy])), (w5, .inr (3, [.ref pf, .int 0]))]) (va_runV (As := [.int 1]) (rest := []) ⟨hx, hb, hml, hown, hT⟩ (c_X10_finding l D cI x nw kp fu ra kr rd wd ld mt vo sh fd H.size im ff 1 (by first | omega | (simp only [zl_1] <;> omega) | decide | assumption | rfl) (by first | omega | (simp only [zl_1] <;> omega) | decide | assumption | rfl)) (cwV 1 hT (gV_in mw_338 mw_335 mw_337 mw_p1_0 mw_1) rfl rfl rfl (by decide +kernel) ⟨Nat.le_of_ble_eq_true rfl, Nat.le_of_ble_eq_true rfl⟩) (kRecv (own := "") (q0 := 0) (ci := 10) hK hP hD hN rfl rfl [0, 2] rfl (by decide)) rfl rfl hl.1 rfl (lv_room (Nat.le_of_ble_eq_true rfl)) dX10_load_29 ⟨Nat.le_of_ble_eq_true rfl, Nat.le_of_ble_eq_true rfl⟩) hP hD hS hA [0, 2] [1, 3] rfl rfl (by decide) (by decide) (fun r_9 u_11 H locs w_10 hP hD hS => ?_)
    have hP : va_P D vwCl [(nw, .inr (9, [.ref w0, .ref w1, .ref w2, .ref w3, .ref w4, .ref w5, .int wt, .int re, .int dy])), (w5, .inr (3, [.ref pf, .int 0]))] H := hP
    have hD : va_D A [(nw, .inr (9, [.ref w0, .ref w1, .ref w2, .ref w3, .ref w4, .ref w5, .int wt, .int re, .int dy])), (w5, .inr (3, [.ref pf, .int 0]))] := hD
    have hr_9 := w_10
    obtain rfl : r_9 = (-1000001) := hr_9.trans (by decide)
    exact hRet () [] rfl hP hD (by decide) rfl hS rfl dX10_load_32
set_option maxHeartbeats 4000000 in
set_option maxRecDepth 100000 in
theorem c_X10_meeting (l : Launch) (D : va_G) (cI : ClassId) (x nw kp fu ra kr rd wd ld mt vo sh fd w0 w1 w2 w3 w4 w5 pf : Nat) (sz : Nat) (im : Int32) (ff : Nat → Int32) (wt : Int32) (re : Int32) (dy : Int32) (a : Int32) (b : Int32) (d : Int32) (g : Int32) : Met l yX10_meeting (gW yX10_meeting cX10_meeting 7 (some .int)) ({ frames := 2, cells := 0, slots := 0, locals := 43 } : Room) (kPre D cI [.ref x, .int a, .int b, .int d, .int g] [(x, .inr (10, [.ref nw, .ref kp, .ref fu, .ref ra, .ref kr, .ref rd, .ref wd, .ref ld, .ref mt, .ref vo, .ref sh, .ref fd, .int im])), (nw, .inr (9, [.ref w0, .ref w1, .ref w2, .ref w3, .ref w4, .ref w5, .int wt, .int re, .int dy])), (w5, .inr (3, [.ref pf, .int 0])), (fd, .inl (cI, 6, .inl ff))] sz) (va_Qi (fun (r : Int32) (u : Unit) => r = (-1000001)) (fun u t => kWd D cI (va_A [(x, .inr (10, [.ref nw, .ref kp, .ref fu, .ref ra, .ref kr, .ref rd, .ref wd, .ref ld, .ref mt, .ref vo, .ref sh, .ref fd, .int im])), (nw, .inr (9, [.ref w0, .ref w1, .ref w2, .ref w3, .ref w4, .ref w5, .int wt, .int re, .int dy])), (w5, .inr (3, [.ref pf, .int 0])), (fd, .inl (cI, 6, .inl ff))] sz) [] t) (va_A [(x, .inr (10, [.ref nw, .ref kp, .ref fu, .ref ra, .ref kr, .ref rd, .ref wd, .ref ld, .ref mt, .ref vo, .ref sh, .ref fd, .int im])), (nw, .inr (9, [.ref w0, .ref w1, .ref w2, .ref w3, .ref w4, .ref w5, .int wt, .int re, .int dy])), (w5, .inr (3, [.ref pf, .int 0])), (fd, .inl (cI, 6, .inl ff))] sz)) 0 0 (va_A [(x, .inr (10, [.ref nw, .ref kp, .ref fu, .ref ra, .ref kr, .ref rd, .ref wd, .ref ld, .ref mt, .ref vo, .ref sh, .ref fd, .int im])), (nw, .inr (9, [.ref w0, .ref w1, .ref w2, .ref w3, .ref w4, .ref w5, .int wt, .int re, .int dy])), (w5, .inr (3, [.ref pf, .int 0])), (fd, .inl (cI, 6, .inl ff))] sz) := by
  refine kMetI (own := RX10) (by decide) rfl (Nat.le_of_ble_eq_true rfl) ?_
  intro p e s m args below meth c hx hb hT hown hname hml A Q hK hP hD hS hA hN hRet ls hl
  have hl : lv_has ls 7 [(0, .ref x), (1, .int a), (2, .int b), (3, .int d), (4, .int g)] := hl
  have lo_a := k_lo a
  have hi_a := k_hi a
  have lo_b := k_lo b
  have hi_b := k_hi b
  have lo_d := k_lo d
  have hi_d := k_hi d
  have lo_g := k_lo g
  have hi_g := k_hi g
  have lo_im := k_lo im
  have hi_im := k_hi im
  have lo_wt := k_lo wt
  have hi_wt := k_hi wt
  have lo_re := k_lo re
  have hi_re := k_hi re
  have lo_dy := k_lo dy
  have hi_dy := k_hi dy
  refine lv_aload_n hx hb dX10_meeting_0 rfl (lv_at hl 0 rfl) ?_
  refine lv_iload_n hx hb dX10_meeting_1 rfl (lv_at hl 1 rfl) ?_
  refine lv_iload_n hx hb dX10_meeting_2 rfl (lv_at hl 2 rfl) ?_
  refine kJi (wr := [(fd, .inl (cI, 6, .inl ff))]) (va_runV (As := [.int a, .int b]) (rest := []) ⟨hx, hb, hml, hown, hT⟩ (c_X10_areParties l D cI x nw kp fu ra kr rd wd ld mt vo sh fd w0 w1 w2 w3 w4 w5 pf s.heap.size im wt re dy a b) (cwV 2 hT (gV_in mw_923 mw_920 mw_922 mw_p2_13 mw_1) rfl rfl rfl (by decide +kernel) ⟨Nat.le_of_ble_eq_true rfl, Nat.le_of_ble_eq_true rfl⟩) (kRecv (own := "") (q0 := 0) (ci := 10) hK hP hD hN rfl rfl [0, 1, 2] rfl (by decide)) rfl rfl hl.1 rfl (lv_room (Nat.le_of_ble_eq_true rfl)) dX10_meeting_3 ⟨Nat.le_of_ble_eq_true rfl, Nat.le_of_ble_eq_true rfl⟩) hP hD hS hA [0, 1, 2] [3] rfl rfl (by decide) (by decide) (fun r_1 u_3 H locs w_2 hP hD hS => ?_)
  have hP : va_P D vwCl [(fd, .inl (cI, 6, .inl ff)), (x, .inr (10, [.ref nw, .ref kp, .ref fu, .ref ra, .ref kr, .ref rd, .ref wd, .ref ld, .ref mt, .ref vo, .ref sh, .ref fd, .int im])), (nw, .inr (9, [.ref w0, .ref w1, .ref w2, .ref w3, .ref w4, .ref w5, .int wt, .int re, .int dy])), (w5, .inr (3, [.ref pf, .int 0]))] H := hP
  have hD : va_D A [(fd, .inl (cI, 6, .inl ff)), (x, .inr (10, [.ref nw, .ref kp, .ref fu, .ref ra, .ref kr, .ref rd, .ref wd, .ref ld, .ref mt, .ref vo, .ref sh, .ref fd, .int im])), (nw, .inr (9, [.ref w0, .ref w1, .ref w2, .ref w3, .ref w4, .ref w5, .int wt, .int re, .int dy])), (w5, .inr (3, [.ref pf, .int 0]))] := hD
  have hr_1 := w_2
  obtain rfl : r_1 = 0 := hr_1.trans (by decide)
  refine b_if_eq hx hb zl_0 (tgt := 27) dX10_meeting_6 (by decide) (fun c_4 => ?_) (fun c_4 => by exfalso; omega)
  refine lv_aload_n hx hb dX10_meeting_27 rfl (lv_at hl 0 rfl) ?_
  refine lv_iconst (v := 1) hx hb dX10_meeting_28 (by decide) ?_
  refine kJi (wr := [(nw, .inr (9, [.ref w0, .ref w1, .ref w2, .ref w3, .ref w4, .ref w5, .int wt, .int re, .int dy])), (w5, .inr (3, [.ref pf, .int 0]))]) (va_runV (As := [.int 1]) (rest := []) ⟨hx, hb, hml, hown, hT⟩ (c_X10_finding l D cI x nw kp fu ra kr rd wd ld mt vo sh fd H.size im ff 1 (by first | omega | (simp only [zl_1] <;> omega) | decide | assumption | rfl) (by first | omega | (simp only [zl_1] <;> omega) | decide | assumption | rfl)) (cwV 1 hT (gV_in mw_338 mw_335 mw_337 mw_p1_0 mw_1) rfl rfl rfl (by decide +kernel) ⟨Nat.le_of_ble_eq_true rfl, Nat.le_of_ble_eq_true rfl⟩) (kRecv (own := "") (q0 := 1) (ci := 10) hK hP hD hN rfl rfl [1, 0] rfl (by decide)) rfl rfl hl.1 rfl (lv_room (Nat.le_of_ble_eq_true rfl)) dX10_meeting_29 ⟨Nat.le_of_ble_eq_true rfl, Nat.le_of_ble_eq_true rfl⟩) hP hD hS hA [1, 0] [2, 3] rfl rfl (by decide) (by decide) (fun r_5 u_7 H locs w_6 hP hD hS => ?_)
  have hP : va_P D vwCl [(nw, .inr (9, [.ref w0, .ref w1, .ref w2, .ref w3, .ref w4, .ref w5, .int wt, .int re, .int dy])), (w5, .inr (3, [.ref pf, .int 0]))] H := hP
  have hD : va_D A [(nw, .inr (9, [.ref w0, .ref w1, .ref w2, .ref w3, .ref w4, .ref w5, .int wt, .int re, .int dy])), (w5, .inr (3, [.ref pf, .int 0]))] := hD
  have hr_5 := w_6
  obtain rfl : r_5 = (-1000001) := hr_5.trans (by decide)
  exact hRet () [] rfl hP hD (by decide) rfl hS rfl dX10_meeting_32
set_option maxHeartbeats 4000000 in
set_option maxRecDepth 100000 in
theorem c_X10_judge (l : Launch) (D : va_G) (cI : ClassId) (x nw kp fu ra kr rd wd ld mt vo sh fd w0 w1 w2 w3 w4 w5 pf : Nat) (sz : Nat) (im : Int32) (ff : Nat → Int32) (wt : Int32) (re : Int32) (dy : Int32) (a : Int32) (b : Int32) (d : Int32) (g : Int32) (i0 : Int32) : Met l yX10_judge (gW yX10_judge cX10_judge 8 (some .int)) ({ frames := 2, cells := 0, slots := 0, locals := 43 } : Room) (kPre D cI [.ref x, .int a, .int b, .int d, .int g, .int i0] [(x, .inr (10, [.ref nw, .ref kp, .ref fu, .ref ra, .ref kr, .ref rd, .ref wd, .ref ld, .ref mt, .ref vo, .ref sh, .ref fd, .int im])), (nw, .inr (9, [.ref w0, .ref w1, .ref w2, .ref w3, .ref w4, .ref w5, .int wt, .int re, .int dy])), (w5, .inr (3, [.ref pf, .int 0])), (fd, .inl (cI, 6, .inl ff))] sz) (va_Qi (fun (r : Int32) (u : Unit) => r = (-1000001)) (fun u t => kWd D cI (va_A [(x, .inr (10, [.ref nw, .ref kp, .ref fu, .ref ra, .ref kr, .ref rd, .ref wd, .ref ld, .ref mt, .ref vo, .ref sh, .ref fd, .int im])), (nw, .inr (9, [.ref w0, .ref w1, .ref w2, .ref w3, .ref w4, .ref w5, .int wt, .int re, .int dy])), (w5, .inr (3, [.ref pf, .int 0])), (fd, .inl (cI, 6, .inl ff))] sz) [] t) (va_A [(x, .inr (10, [.ref nw, .ref kp, .ref fu, .ref ra, .ref kr, .ref rd, .ref wd, .ref ld, .ref mt, .ref vo, .ref sh, .ref fd, .int im])), (nw, .inr (9, [.ref w0, .ref w1, .ref w2, .ref w3, .ref w4, .ref w5, .int wt, .int re, .int dy])), (w5, .inr (3, [.ref pf, .int 0])), (fd, .inl (cI, 6, .inl ff))] sz)) 0 0 (va_A [(x, .inr (10, [.ref nw, .ref kp, .ref fu, .ref ra, .ref kr, .ref rd, .ref wd, .ref ld, .ref mt, .ref vo, .ref sh, .ref fd, .int im])), (nw, .inr (9, [.ref w0, .ref w1, .ref w2, .ref w3, .ref w4, .ref w5, .int wt, .int re, .int dy])), (w5, .inr (3, [.ref pf, .int 0])), (fd, .inl (cI, 6, .inl ff))] sz) := by
  refine kMetI (own := RX10) (by decide) rfl (Nat.le_of_ble_eq_true rfl) ?_
  intro p e s m args below meth c hx hb hT hown hname hml A Q hK hP hD hS hA hN hRet ls hl
  have hl : lv_has ls 8 [(0, .ref x), (1, .int a), (2, .int b), (3, .int d), (4, .int g), (5, .int i0)] := hl
  have lo_a := k_lo a
  have hi_a := k_hi a
  have lo_b := k_lo b
  have hi_b := k_hi b
  have lo_d := k_lo d
  have hi_d := k_hi d
  have lo_g := k_lo g
  have hi_g := k_hi g
  have lo_i0 := k_lo i0
  have hi_i0 := k_hi i0
  have lo_im := k_lo im
  have hi_im := k_hi im
  have lo_wt := k_lo wt
  have hi_wt := k_hi wt
  have lo_re := k_lo re
  have hi_re := k_hi re
  have lo_dy := k_lo dy
  have hi_dy := k_hi dy
  refine lv_aload_n hx hb dX10_judge_0 rfl (lv_at hl 0 rfl) ?_
  refine lv_iload_n hx hb dX10_judge_1 rfl (lv_at hl 1 rfl) ?_
  refine lv_iload_n hx hb dX10_judge_2 rfl (lv_at hl 2 rfl) ?_
  refine kJi (wr := [(fd, .inl (cI, 6, .inl ff))]) (va_runV (As := [.int a, .int b]) (rest := []) ⟨hx, hb, hml, hown, hT⟩ (c_X10_areParties l D cI x nw kp fu ra kr rd wd ld mt vo sh fd w0 w1 w2 w3 w4 w5 pf s.heap.size im wt re dy a b) (cwV 2 hT (gV_in mw_923 mw_920 mw_922 mw_p2_13 mw_1) rfl rfl rfl (by decide +kernel) ⟨Nat.le_of_ble_eq_true rfl, Nat.le_of_ble_eq_true rfl⟩) (kRecv (own := "") (q0 := 0) (ci := 10) hK hP hD hN rfl rfl [0, 1, 2] rfl (by decide)) rfl rfl hl.1 rfl (lv_room (Nat.le_of_ble_eq_true rfl)) dX10_judge_3 ⟨Nat.le_of_ble_eq_true rfl, Nat.le_of_ble_eq_true rfl⟩) hP hD hS hA [0, 1, 2] [3] rfl rfl (by decide) (by decide) (fun r_1 u_3 H locs w_2 hP hD hS => ?_)
  have hP : va_P D vwCl [(fd, .inl (cI, 6, .inl ff)), (x, .inr (10, [.ref nw, .ref kp, .ref fu, .ref ra, .ref kr, .ref rd, .ref wd, .ref ld, .ref mt, .ref vo, .ref sh, .ref fd, .int im])), (nw, .inr (9, [.ref w0, .ref w1, .ref w2, .ref w3, .ref w4, .ref w5, .int wt, .int re, .int dy])), (w5, .inr (3, [.ref pf, .int 0]))] H := hP
  have hD : va_D A [(fd, .inl (cI, 6, .inl ff)), (x, .inr (10, [.ref nw, .ref kp, .ref fu, .ref ra, .ref kr, .ref rd, .ref wd, .ref ld, .ref mt, .ref vo, .ref sh, .ref fd, .int im])), (nw, .inr (9, [.ref w0, .ref w1, .ref w2, .ref w3, .ref w4, .ref w5, .int wt, .int re, .int dy])), (w5, .inr (3, [.ref pf, .int 0]))] := hD
  have hr_1 := w_2
  obtain rfl : r_1 = 0 := hr_1.trans (by decide)
  refine b_if_eq hx hb zl_0 (tgt := 29) dX10_judge_6 (by decide) (fun c_4 => ?_) (fun c_4 => by exfalso; omega)
  refine lv_aload_n hx hb dX10_judge_29 rfl (lv_at hl 0 rfl) ?_
  refine lv_iconst (v := 1) hx hb dX10_judge_30 (by decide) ?_
  refine kJi (wr := [(nw, .inr (9, [.ref w0, .ref w1, .ref w2, .ref w3, .ref w4, .ref w5, .int wt, .int re, .int dy])), (w5, .inr (3, [.ref pf, .int 0]))]) (va_runV (As := [.int 1]) (rest := []) ⟨hx, hb, hml, hown, hT⟩ (c_X10_finding l D cI x nw kp fu ra kr rd wd ld mt vo sh fd H.size im ff 1 (by first | omega | (simp only [zl_1] <;> omega) | decide | assumption | rfl) (by first | omega | (simp only [zl_1] <;> omega) | decide | assumption | rfl)) (cwV 1 hT (gV_in mw_338 mw_335 mw_337 mw_p1_0 mw_1) rfl rfl rfl (by decide +kernel) ⟨Nat.le_of_ble_eq_true rfl, Nat.le_of_ble_eq_true rfl⟩) (kRecv (own := "") (q0 := 1) (ci := 10) hK hP hD hN rfl rfl [1, 0] rfl (by decide)) rfl rfl hl.1 rfl (lv_room (Nat.le_of_ble_eq_true rfl)) dX10_judge_31 ⟨Nat.le_of_ble_eq_true rfl, Nat.le_of_ble_eq_true rfl⟩) hP hD hS hA [1, 0] [2, 3] rfl rfl (by decide) (by decide) (fun r_5 u_7 H locs w_6 hP hD hS => ?_)
  have hP : va_P D vwCl [(nw, .inr (9, [.ref w0, .ref w1, .ref w2, .ref w3, .ref w4, .ref w5, .int wt, .int re, .int dy])), (w5, .inr (3, [.ref pf, .int 0]))] H := hP
  have hD : va_D A [(nw, .inr (9, [.ref w0, .ref w1, .ref w2, .ref w3, .ref w4, .ref w5, .int wt, .int re, .int dy])), (w5, .inr (3, [.ref pf, .int 0]))] := hD
  have hr_5 := w_6
  obtain rfl : r_5 = (-1000001) := hr_5.trans (by decide)
  exact hRet () [] rfl hP hD (by decide) rfl hS rfl dX10_judge_34
set_option maxHeartbeats 4000000 in
set_option maxRecDepth 100000 in
theorem c_X10_rest (l : Launch) (D : va_G) (cI : ClassId) (x nw kp fu ra kr rd wd ld mt vo sh fd w0 w1 w2 w3 w4 w5 pf : Nat) (sz : Nat) (im : Int32) (ff : Nat → Int32) (wt : Int32) (re : Int32) (dy : Int32) (a : Int32) (b : Int32) : Met l yX10_rest (gW yX10_rest cX10_rest 5 (some .int)) ({ frames := 1, cells := 0, slots := 0, locals := 21 } : Room) (kPre D cI [.ref x, .int a, .int b] [(x, .inr (10, [.ref nw, .ref kp, .ref fu, .ref ra, .ref kr, .ref rd, .ref wd, .ref ld, .ref mt, .ref vo, .ref sh, .ref fd, .int im])), (nw, .inr (9, [.ref w0, .ref w1, .ref w2, .ref w3, .ref w4, .ref w5, .int wt, .int re, .int dy])), (w5, .inr (3, [.ref pf, .int 0])), (fd, .inl (cI, 6, .inl ff))] sz) (va_Qi (fun (r : Int32) (u : Unit) => r = (-1000001)) (fun u t => kWd D cI (va_A [(x, .inr (10, [.ref nw, .ref kp, .ref fu, .ref ra, .ref kr, .ref rd, .ref wd, .ref ld, .ref mt, .ref vo, .ref sh, .ref fd, .int im])), (nw, .inr (9, [.ref w0, .ref w1, .ref w2, .ref w3, .ref w4, .ref w5, .int wt, .int re, .int dy])), (w5, .inr (3, [.ref pf, .int 0])), (fd, .inl (cI, 6, .inl ff))] sz) [] t) (va_A [(x, .inr (10, [.ref nw, .ref kp, .ref fu, .ref ra, .ref kr, .ref rd, .ref wd, .ref ld, .ref mt, .ref vo, .ref sh, .ref fd, .int im])), (nw, .inr (9, [.ref w0, .ref w1, .ref w2, .ref w3, .ref w4, .ref w5, .int wt, .int re, .int dy])), (w5, .inr (3, [.ref pf, .int 0])), (fd, .inl (cI, 6, .inl ff))] sz)) 0 0 (va_A [(x, .inr (10, [.ref nw, .ref kp, .ref fu, .ref ra, .ref kr, .ref rd, .ref wd, .ref ld, .ref mt, .ref vo, .ref sh, .ref fd, .int im])), (nw, .inr (9, [.ref w0, .ref w1, .ref w2, .ref w3, .ref w4, .ref w5, .int wt, .int re, .int dy])), (w5, .inr (3, [.ref pf, .int 0])), (fd, .inl (cI, 6, .inl ff))] sz) := by
  refine kMetI (own := RX10) (by decide) rfl (Nat.le_of_ble_eq_true rfl) ?_
  intro p e s m args below meth c hx hb hT hown hname hml A Q hK hP hD hS hA hN hRet ls hl
  have hl : lv_has ls 5 [(0, .ref x), (1, .int a), (2, .int b)] := hl
  have lo_a := k_lo a
  have hi_a := k_hi a
  have lo_b := k_lo b
  have hi_b := k_hi b
  have lo_im := k_lo im
  have hi_im := k_hi im
  have lo_wt := k_lo wt
  have hi_wt := k_hi wt
  have lo_re := k_lo re
  have hi_re := k_hi re
  have lo_dy := k_lo dy
  have hi_dy := k_hi dy
  refine lv_aload_n hx hb dX10_rest_0 rfl (lv_at hl 0 rfl) ?_
  refine va_get (D := D) (ci := 10) (v := .ref nw) (C := RX10) (T := TX10) (N := 13) hx hb hT giX10 hown hK hP 0 rfl rfl 0 (by decide) (hT (Cond.fieldLink RX10 12 "DesertWire" "now" "LDesertWire$World;") mw_291) (fun _ h9 => h9) rfl dX10_rest_1 ?_
  refine va_get (D := D) (ci := 9) (v := .ref w5) (C := RX9) (T := TX9) (N := 9) hx hb hT giX9 hown hK hP 1 rfl rfl 5 (by decide) (hT (Cond.fieldLink RX10 193 "DesertWire$World" "parties" "LDesertWire$Parties;") mw_102) (fun _ h9 => h9) rfl dX10_rest_4 ?_
  refine lv_iload_n hx hb dX10_rest_7 rfl (lv_at hl 1 rfl) ?_
  refine kJi (wr := [(x, .inr (10, [.ref nw, .ref kp, .ref fu, .ref ra, .ref kr, .ref rd, .ref wd, .ref ld, .ref mt, .ref vo, .ref sh, .ref fd, .int im])), (nw, .inr (9, [.ref w0, .ref w1, .ref w2, .ref w3, .ref w4, .ref w5, .int wt, .int re, .int dy])), (fd, .inl (cI, 6, .inl ff))]) (va_runV (As := [.int a]) (rest := []) ⟨hx, hb, hml, hown, hT⟩ (c_X3_has l D cI w5 pf s.heap.size 0 a) (cwV 1 hT (gV_in mw_717 mw_722 mw_715 mw_716 mw_4) rfl rfl rfl (by decide +kernel) ⟨Nat.le_of_ble_eq_true rfl, Nat.le_of_ble_eq_true rfl⟩) (kRecv (own := "") (q0 := 2) (ci := 3) hK hP hD hN rfl rfl [2] rfl (by decide)) rfl rfl hl.1 rfl (lv_room (Nat.le_of_ble_eq_true rfl)) dX10_rest_8 ⟨Nat.le_of_ble_eq_true rfl, Nat.le_of_ble_eq_true rfl⟩) hP hD hS hA [2] [0, 1, 3] rfl rfl (by decide) (by decide) (fun r_1 u_3 H locs w_2 hP hD hS => ?_)
  have hP : va_P D vwCl [(x, .inr (10, [.ref nw, .ref kp, .ref fu, .ref ra, .ref kr, .ref rd, .ref wd, .ref ld, .ref mt, .ref vo, .ref sh, .ref fd, .int im])), (nw, .inr (9, [.ref w0, .ref w1, .ref w2, .ref w3, .ref w4, .ref w5, .int wt, .int re, .int dy])), (fd, .inl (cI, 6, .inl ff)), (w5, .inr (3, [.ref pf, .int 0]))] H := hP
  have hD : va_D A [(x, .inr (10, [.ref nw, .ref kp, .ref fu, .ref ra, .ref kr, .ref rd, .ref wd, .ref ld, .ref mt, .ref vo, .ref sh, .ref fd, .int im])), (nw, .inr (9, [.ref w0, .ref w1, .ref w2, .ref w3, .ref w4, .ref w5, .int wt, .int re, .int dy])), (fd, .inl (cI, 6, .inl ff)), (w5, .inr (3, [.ref pf, .int 0]))] := hD
  rcases w_2 with ⟨hr_1, h_4, h_5, h_6⟩ | ⟨hr_1, h_7⟩
  · (try simp only [zl_0] at h_4 h_5 h_6); exfalso; omega
  · try simp only [zl_0] at h_7
    have h_7 : a.toInt < 0 ∨ 0 ≤ a.toInt ∨ 4 ≤ a.toInt := h_7
    obtain rfl : r_1 = 0 := hr_1.trans (by decide)
    refine b_if_ne hx hb zl_0 (tgt := 20) dX10_rest_11 (by decide) (fun c_8 => by exfalso; omega) (fun c_8 => ?_)
    refine lv_aload_n hx hb dX10_rest_14 rfl (lv_at hl 0 rfl) ?_
    refine lv_iconst (v := 1) hx hb dX10_rest_15 (by decide) ?_
    refine kJi (wr := [(nw, .inr (9, [.ref w0, .ref w1, .ref w2, .ref w3, .ref w4, .ref w5, .int wt, .int re, .int dy])), (w5, .inr (3, [.ref pf, .int 0]))]) (va_runV (As := [.int 1]) (rest := []) ⟨hx, hb, hml, hown, hT⟩ (c_X10_finding l D cI x nw kp fu ra kr rd wd ld mt vo sh fd H.size im ff 1 (by first | omega | (simp only [zl_1] <;> omega) | decide | assumption | rfl) (by first | omega | (simp only [zl_1] <;> omega) | decide | assumption | rfl)) (cwV 1 hT (gV_in mw_338 mw_335 mw_337 mw_p1_0 mw_1) rfl rfl rfl (by decide +kernel) ⟨Nat.le_of_ble_eq_true rfl, Nat.le_of_ble_eq_true rfl⟩) (kRecv (own := "") (q0 := 0) (ci := 10) hK hP hD hN rfl rfl [0, 2] rfl (by decide)) rfl rfl hl.1 rfl (lv_room (Nat.le_of_ble_eq_true rfl)) dX10_rest_16 ⟨Nat.le_of_ble_eq_true rfl, Nat.le_of_ble_eq_true rfl⟩) hP hD hS hA [0, 2] [1, 3] rfl rfl (by decide) (by decide) (fun r_9 u_11 H locs w_10 hP hD hS => ?_)
    have hP : va_P D vwCl [(nw, .inr (9, [.ref w0, .ref w1, .ref w2, .ref w3, .ref w4, .ref w5, .int wt, .int re, .int dy])), (w5, .inr (3, [.ref pf, .int 0]))] H := hP
    have hD : va_D A [(nw, .inr (9, [.ref w0, .ref w1, .ref w2, .ref w3, .ref w4, .ref w5, .int wt, .int re, .int dy])), (w5, .inr (3, [.ref pf, .int 0]))] := hD
    have hr_9 := w_10
    obtain rfl : r_9 = (-1000001) := hr_9.trans (by decide)
    exact hRet () [] rfl hP hD (by decide) rfl hS rfl dX10_rest_19
set_option maxHeartbeats 4000000 in
set_option maxRecDepth 100000 in
theorem c_X10_mileIs (l : Launch) (D : va_G) (cI : ClassId) (x nw kp fu ra kr rd wd ld mt vo sh fd w0 w1 w2 w3 w4 w5 k0 k1 k2 k3 k4 k5 k6 k7 k8 : Nat) (sz : Nat) (im : Int32) (ff : Nat → Int32) (wt : Int32) (re : Int32) (a : Int32) (b : Int32) : Met l yX10_mileIs (gW yX10_mileIs cX10_mileIs 3 (some .int)) ({ frames := 3, cells := 0, slots := 0, locals := 66 } : Room) (kPre D cI [.ref x, .int a, .int b] [(x, .inr (10, [.ref nw, .ref kp, .ref fu, .ref ra, .ref kr, .ref rd, .ref wd, .ref ld, .ref mt, .ref vo, .ref sh, .ref fd, .int im])), (nw, .inr (9, [.ref w0, .ref w1, .ref w2, .ref w3, .ref w4, .ref w5, .int wt, .int re, .int 0])), (w0, .inl (cI, 12, .inl (fun _ => (2 : Int32)))), (w1, .inl (cI, 40, .inl (fun _ => (0 : Int32)))), (w2, .inl (cI, 40, .inl (fun _ => (0 : Int32)))), (w4, .inr (8, [.ref k0, .ref k1, .ref k2, .ref k3, .ref k4, .ref k5, .ref k6, .ref k7, .ref k8, .int 0])), (k6, .inl (cI, 40, .inl (fun _ => (0 : Int32)))), (k7, .inl (cI, 40, .inl (fun _ => (0 : Int32)))), (fd, .inl (cI, 6, .inl ff))] sz) (va_Qi (fun (r : Int32) (u : Unit) => r = sp_mileIs a b) (fun u t => kWd D cI (va_A [(x, .inr (10, [.ref nw, .ref kp, .ref fu, .ref ra, .ref kr, .ref rd, .ref wd, .ref ld, .ref mt, .ref vo, .ref sh, .ref fd, .int im])), (nw, .inr (9, [.ref w0, .ref w1, .ref w2, .ref w3, .ref w4, .ref w5, .int wt, .int re, .int 0])), (w0, .inl (cI, 12, .inl (fun _ => (2 : Int32)))), (w1, .inl (cI, 40, .inl (fun _ => (0 : Int32)))), (w2, .inl (cI, 40, .inl (fun _ => (0 : Int32)))), (w4, .inr (8, [.ref k0, .ref k1, .ref k2, .ref k3, .ref k4, .ref k5, .ref k6, .ref k7, .ref k8, .int 0])), (k6, .inl (cI, 40, .inl (fun _ => (0 : Int32)))), (k7, .inl (cI, 40, .inl (fun _ => (0 : Int32)))), (fd, .inl (cI, 6, .inl ff))] sz) [] t) (va_A [(x, .inr (10, [.ref nw, .ref kp, .ref fu, .ref ra, .ref kr, .ref rd, .ref wd, .ref ld, .ref mt, .ref vo, .ref sh, .ref fd, .int im])), (nw, .inr (9, [.ref w0, .ref w1, .ref w2, .ref w3, .ref w4, .ref w5, .int wt, .int re, .int 0])), (w0, .inl (cI, 12, .inl (fun _ => (2 : Int32)))), (w1, .inl (cI, 40, .inl (fun _ => (0 : Int32)))), (w2, .inl (cI, 40, .inl (fun _ => (0 : Int32)))), (w4, .inr (8, [.ref k0, .ref k1, .ref k2, .ref k3, .ref k4, .ref k5, .ref k6, .ref k7, .ref k8, .int 0])), (k6, .inl (cI, 40, .inl (fun _ => (0 : Int32)))), (k7, .inl (cI, 40, .inl (fun _ => (0 : Int32)))), (fd, .inl (cI, 6, .inl ff))] sz)) 0 0 (va_A [(x, .inr (10, [.ref nw, .ref kp, .ref fu, .ref ra, .ref kr, .ref rd, .ref wd, .ref ld, .ref mt, .ref vo, .ref sh, .ref fd, .int im])), (nw, .inr (9, [.ref w0, .ref w1, .ref w2, .ref w3, .ref w4, .ref w5, .int wt, .int re, .int 0])), (w0, .inl (cI, 12, .inl (fun _ => (2 : Int32)))), (w1, .inl (cI, 40, .inl (fun _ => (0 : Int32)))), (w2, .inl (cI, 40, .inl (fun _ => (0 : Int32)))), (w4, .inr (8, [.ref k0, .ref k1, .ref k2, .ref k3, .ref k4, .ref k5, .ref k6, .ref k7, .ref k8, .int 0])), (k6, .inl (cI, 40, .inl (fun _ => (0 : Int32)))), (k7, .inl (cI, 40, .inl (fun _ => (0 : Int32)))), (fd, .inl (cI, 6, .inl ff))] sz) := by
  refine kMetI (own := RX10) (by decide) rfl (Nat.le_of_ble_eq_true rfl) ?_
  intro p e s m args below meth c hx hb hT hown hname hml A Q hK hP hD hS hA hN hRet ls hl
  have hl : lv_has ls 3 [(0, .ref x), (1, .int a), (2, .int b)] := hl
  have lo_a := k_lo a
  have hi_a := k_hi a
  have lo_b := k_lo b
  have hi_b := k_hi b
  have lo_im := k_lo im
  have hi_im := k_hi im
  have lo_wt := k_lo wt
  have hi_wt := k_hi wt
  have lo_re := k_lo re
  have hi_re := k_hi re
  refine lv_iload_n hx hb dX10_mileIs_0 rfl (lv_at hl 1 rfl) ?_
  refine kJi (wr := [(x, .inr (10, [.ref nw, .ref kp, .ref fu, .ref ra, .ref kr, .ref rd, .ref wd, .ref ld, .ref mt, .ref vo, .ref sh, .ref fd, .int im])), (nw, .inr (9, [.ref w0, .ref w1, .ref w2, .ref w3, .ref w4, .ref w5, .int wt, .int re, .int 0])), (w0, .inl (cI, 12, .inl (fun _ => (2 : Int32)))), (w1, .inl (cI, 40, .inl (fun _ => (0 : Int32)))), (w2, .inl (cI, 40, .inl (fun _ => (0 : Int32)))), (w4, .inr (8, [.ref k0, .ref k1, .ref k2, .ref k3, .ref k4, .ref k5, .ref k6, .ref k7, .ref k8, .int 0])), (k6, .inl (cI, 40, .inl (fun _ => (0 : Int32)))), (k7, .inl (cI, 40, .inl (fun _ => (0 : Int32)))), (fd, .inl (cI, 6, .inl ff))]) (va_runS (As := [.int a]) (rest := []) ⟨hx, hb, hml, hown, hT⟩ (c_X10_isMile l D cI s.heap.size a) (cwS 1 hT (gS_in mw_346 mw_344 mw_345 mw_1) rfl rfl rfl (by decide +kernel) ⟨Nat.le_of_ble_eq_true rfl, Nat.le_of_ble_eq_true rfl⟩) (kStat hK hP hD hN [] rfl (by decide)) rfl rfl hl.1 rfl (lv_room (Nat.le_of_ble_eq_true rfl)) dX10_mileIs_1 ⟨Nat.le_of_ble_eq_true rfl, Nat.le_of_ble_eq_true rfl⟩) hP hD hS hA [] [0, 1, 2, 3, 4, 5, 6, 7, 8] rfl rfl (by decide) (by decide) (fun r_1 u_3 H locs w_2 hP hD hS => ?_)
  have hP : va_P D vwCl [(x, .inr (10, [.ref nw, .ref kp, .ref fu, .ref ra, .ref kr, .ref rd, .ref wd, .ref ld, .ref mt, .ref vo, .ref sh, .ref fd, .int im])), (nw, .inr (9, [.ref w0, .ref w1, .ref w2, .ref w3, .ref w4, .ref w5, .int wt, .int re, .int 0])), (w0, .inl (cI, 12, .inl (fun _ => (2 : Int32)))), (w1, .inl (cI, 40, .inl (fun _ => (0 : Int32)))), (w2, .inl (cI, 40, .inl (fun _ => (0 : Int32)))), (w4, .inr (8, [.ref k0, .ref k1, .ref k2, .ref k3, .ref k4, .ref k5, .ref k6, .ref k7, .ref k8, .int 0])), (k6, .inl (cI, 40, .inl (fun _ => (0 : Int32)))), (k7, .inl (cI, 40, .inl (fun _ => (0 : Int32)))), (fd, .inl (cI, 6, .inl ff))] H := hP
  have hD : va_D A [(x, .inr (10, [.ref nw, .ref kp, .ref fu, .ref ra, .ref kr, .ref rd, .ref wd, .ref ld, .ref mt, .ref vo, .ref sh, .ref fd, .int im])), (nw, .inr (9, [.ref w0, .ref w1, .ref w2, .ref w3, .ref w4, .ref w5, .int wt, .int re, .int 0])), (w0, .inl (cI, 12, .inl (fun _ => (2 : Int32)))), (w1, .inl (cI, 40, .inl (fun _ => (0 : Int32)))), (w2, .inl (cI, 40, .inl (fun _ => (0 : Int32)))), (w4, .inr (8, [.ref k0, .ref k1, .ref k2, .ref k3, .ref k4, .ref k5, .ref k6, .ref k7, .ref k8, .int 0])), (k6, .inl (cI, 40, .inl (fun _ => (0 : Int32)))), (k7, .inl (cI, 40, .inl (fun _ => (0 : Int32)))), (fd, .inl (cI, 6, .inl ff))] := hD
  rcases w_2 with ⟨hr_1, h_4, h_5⟩ | ⟨hr_1, h_6⟩
  · have h_4 : 0 ≤ a.toInt := h_4
    have h_5 : a.toInt ≤ 39 := h_5
    obtain rfl : r_1 = 1 := hr_1.trans (by decide)
    refine b_if_ne hx hb zl_1 (tgt := 13) dX10_mileIs_4 (by decide) (fun c_7 => ?_) (fun c_7 => by exfalso; omega)
    refine lv_iload_n hx hb dX10_mileIs_13 rfl (lv_at hl 2 rfl) ?_
    by_cases c_8 : b.toInt = 0
    · refine lv_tableIn (off := 38) (tgt := 52) hx hb dX10_mileIs_14 (by omega) (by omega) (by rw [c_8]; decide) (by decide) ?_
      refine lv_aload_n hx hb dX10_mileIs_52 rfl (lv_at hl 0 rfl) ?_
      refine va_get (D := D) (ci := 10) (v := .ref nw) (C := RX10) (T := TX10) (N := 13) hx hb hT giX10 hown hK hP 0 rfl rfl 0 (by decide) (hT (Cond.fieldLink RX10 12 "DesertWire" "now" "LDesertWire$World;") mw_291) (fun _ h9 => h9) rfl dX10_mileIs_53 ?_
      refine lv_iload_n hx hb dX10_mileIs_56 rfl (lv_at hl 1 rfl) ?_
      refine kJi (wr := [(x, .inr (10, [.ref nw, .ref kp, .ref fu, .ref ra, .ref kr, .ref rd, .ref wd, .ref ld, .ref mt, .ref vo, .ref sh, .ref fd, .int im])), (w0, .inl (cI, 12, .inl (fun _ => (2 : Int32)))), (w2, .inl (cI, 40, .inl (fun _ => (0 : Int32)))), (w4, .inr (8, [.ref k0, .ref k1, .ref k2, .ref k3, .ref k4, .ref k5, .ref k6, .ref k7, .ref k8, .int 0])), (k6, .inl (cI, 40, .inl (fun _ => (0 : Int32)))), (k7, .inl (cI, 40, .inl (fun _ => (0 : Int32)))), (fd, .inl (cI, 6, .inl ff))]) (va_runV (As := [.int a]) (rest := []) ⟨hx, hb, hml, hown, hT⟩ (c_X9_soilOf l D cI nw w0 w1 w2 w3 w4 w5 H.size wt re 0 a) (cwV 1 hT (gV_in mw_423 mw_616 mw_421 mw_422 mw_2) rfl rfl rfl (by decide +kernel) ⟨Nat.le_of_ble_eq_true rfl, Nat.le_of_ble_eq_true rfl⟩) (kRecv (own := "") (q0 := 1) (ci := 9) hK hP hD hN rfl rfl [1, 3] rfl (by decide)) rfl rfl hl.1 rfl (lv_room (Nat.le_of_ble_eq_true rfl)) dX10_mileIs_57 ⟨Nat.le_of_ble_eq_true rfl, Nat.le_of_ble_eq_true rfl⟩) hP hD hS hA [1, 3] [0, 2, 4, 5, 6, 7, 8] rfl rfl (by decide) (by decide) (fun r_9 u_11 H locs w_10 hP hD hS => ?_)
      have hP : va_P D vwCl [(x, .inr (10, [.ref nw, .ref kp, .ref fu, .ref ra, .ref kr, .ref rd, .ref wd, .ref ld, .ref mt, .ref vo, .ref sh, .ref fd, .int im])), (w0, .inl (cI, 12, .inl (fun _ => (2 : Int32)))), (w2, .inl (cI, 40, .inl (fun _ => (0 : Int32)))), (w4, .inr (8, [.ref k0, .ref k1, .ref k2, .ref k3, .ref k4, .ref k5, .ref k6, .ref k7, .ref k8, .int 0])), (k6, .inl (cI, 40, .inl (fun _ => (0 : Int32)))), (k7, .inl (cI, 40, .inl (fun _ => (0 : Int32)))), (fd, .inl (cI, 6, .inl ff)), (nw, .inr (9, [.ref w0, .ref w1, .ref w2, .ref w3, .ref w4, .ref w5, .int wt, .int re, .int 0])), (w1, .inl (cI, 40, .inl (fun _ => (0 : Int32))))] H := hP
      have hD : va_D A [(x, .inr (10, [.ref nw, .ref kp, .ref fu, .ref ra, .ref kr, .ref rd, .ref wd, .ref ld, .ref mt, .ref vo, .ref sh, .ref fd, .int im])), (w0, .inl (cI, 12, .inl (fun _ => (2 : Int32)))), (w2, .inl (cI, 40, .inl (fun _ => (0 : Int32)))), (w4, .inr (8, [.ref k0, .ref k1, .ref k2, .ref k3, .ref k4, .ref k5, .ref k6, .ref k7, .ref k8, .int 0])), (k6, .inl (cI, 40, .inl (fun _ => (0 : Int32)))), (k7, .inl (cI, 40, .inl (fun _ => (0 : Int32)))), (fd, .inl (cI, 6, .inl ff)), (nw, .inr (9, [.ref w0, .ref w1, .ref w2, .ref w3, .ref w4, .ref w5, .int wt, .int re, .int 0])), (w1, .inl (cI, 40, .inl (fun _ => (0 : Int32))))] := hD
      have hr_9 := w_10
      obtain rfl : r_9 = 0 := hr_9.trans (by decide)
      exact hRet () [] (by unfold sp_mileIs; repeat (first | rw [if_pos (by omega)] | rw [if_neg (by omega)])) hP hD (by decide) rfl hS rfl dX10_mileIs_60
    by_cases c_12 : b.toInt = 1
    · refine lv_tableIn (off := 47) (tgt := 61) hx hb dX10_mileIs_14 (by omega) (by omega) (by rw [c_12]; decide) (by decide) ?_
      refine lv_aload_n hx hb dX10_mileIs_61 rfl (lv_at hl 0 rfl) ?_
      refine va_get (D := D) (ci := 10) (v := .ref nw) (C := RX10) (T := TX10) (N := 13) hx hb hT giX10 hown hK hP 0 rfl rfl 0 (by decide) (hT (Cond.fieldLink RX10 12 "DesertWire" "now" "LDesertWire$World;") mw_291) (fun _ h9 => h9) rfl dX10_mileIs_62 ?_
      refine lv_iload_n hx hb dX10_mileIs_65 rfl (lv_at hl 1 rfl) ?_
      refine kJi (wr := [(x, .inr (10, [.ref nw, .ref kp, .ref fu, .ref ra, .ref kr, .ref rd, .ref wd, .ref ld, .ref mt, .ref vo, .ref sh, .ref fd, .int im])), (w0, .inl (cI, 12, .inl (fun _ => (2 : Int32)))), (w1, .inl (cI, 40, .inl (fun _ => (0 : Int32)))), (w4, .inr (8, [.ref k0, .ref k1, .ref k2, .ref k3, .ref k4, .ref k5, .ref k6, .ref k7, .ref k8, .int 0])), (k6, .inl (cI, 40, .inl (fun _ => (0 : Int32)))), (k7, .inl (cI, 40, .inl (fun _ => (0 : Int32)))), (fd, .inl (cI, 6, .inl ff))]) (va_runV (As := [.int a]) (rest := []) ⟨hx, hb, hml, hown, hT⟩ (c_X9_springOf l D cI nw w0 w1 w2 w3 w4 w5 H.size wt re 0 a) (cwV 1 hT (gV_in mw_620 mw_617 mw_618 mw_619 mw_2) rfl rfl rfl (by decide +kernel) ⟨Nat.le_of_ble_eq_true rfl, Nat.le_of_ble_eq_true rfl⟩) (kRecv (own := "") (q0 := 1) (ci := 9) hK hP hD hN rfl rfl [1, 4] rfl (by decide)) rfl rfl hl.1 rfl (lv_room (Nat.le_of_ble_eq_true rfl)) dX10_mileIs_66 ⟨Nat.le_of_ble_eq_true rfl, Nat.le_of_ble_eq_true rfl⟩) hP hD hS hA [1, 4] [0, 2, 3, 5, 6, 7, 8] rfl rfl (by decide) (by decide) (fun r_13 u_15 H locs w_14 hP hD hS => ?_)
      have hP : va_P D vwCl [(x, .inr (10, [.ref nw, .ref kp, .ref fu, .ref ra, .ref kr, .ref rd, .ref wd, .ref ld, .ref mt, .ref vo, .ref sh, .ref fd, .int im])), (w0, .inl (cI, 12, .inl (fun _ => (2 : Int32)))), (w1, .inl (cI, 40, .inl (fun _ => (0 : Int32)))), (w4, .inr (8, [.ref k0, .ref k1, .ref k2, .ref k3, .ref k4, .ref k5, .ref k6, .ref k7, .ref k8, .int 0])), (k6, .inl (cI, 40, .inl (fun _ => (0 : Int32)))), (k7, .inl (cI, 40, .inl (fun _ => (0 : Int32)))), (fd, .inl (cI, 6, .inl ff)), (nw, .inr (9, [.ref w0, .ref w1, .ref w2, .ref w3, .ref w4, .ref w5, .int wt, .int re, .int 0])), (w2, .inl (cI, 40, .inl (fun _ => (0 : Int32))))] H := hP
      have hD : va_D A [(x, .inr (10, [.ref nw, .ref kp, .ref fu, .ref ra, .ref kr, .ref rd, .ref wd, .ref ld, .ref mt, .ref vo, .ref sh, .ref fd, .int im])), (w0, .inl (cI, 12, .inl (fun _ => (2 : Int32)))), (w1, .inl (cI, 40, .inl (fun _ => (0 : Int32)))), (w4, .inr (8, [.ref k0, .ref k1, .ref k2, .ref k3, .ref k4, .ref k5, .ref k6, .ref k7, .ref k8, .int 0])), (k6, .inl (cI, 40, .inl (fun _ => (0 : Int32)))), (k7, .inl (cI, 40, .inl (fun _ => (0 : Int32)))), (fd, .inl (cI, 6, .inl ff)), (nw, .inr (9, [.ref w0, .ref w1, .ref w2, .ref w3, .ref w4, .ref w5, .int wt, .int re, .int 0])), (w2, .inl (cI, 40, .inl (fun _ => (0 : Int32))))] := hD
      have hr_13 := w_14
      obtain rfl : r_13 = 0 := hr_13.trans (by decide)
      exact hRet () [] (by unfold sp_mileIs; repeat (first | rw [if_pos (by omega)] | rw [if_neg (by omega)])) hP hD (by decide) rfl hS rfl dX10_mileIs_69
    by_cases c_16 : b.toInt = 2
    · refine lv_tableIn (off := 56) (tgt := 70) hx hb dX10_mileIs_14 (by omega) (by omega) (by rw [c_16]; decide) (by decide) ?_
      refine lv_aload_n hx hb dX10_mileIs_70 rfl (lv_at hl 0 rfl) ?_
      refine va_get (D := D) (ci := 10) (v := .ref nw) (C := RX10) (T := TX10) (N := 13) hx hb hT giX10 hown hK hP 0 rfl rfl 0 (by decide) (hT (Cond.fieldLink RX10 12 "DesertWire" "now" "LDesertWire$World;") mw_291) (fun _ h9 => h9) rfl dX10_mileIs_71 ?_
      refine va_get (D := D) (ci := 9) (v := .ref w4) (C := RX9) (T := TX9) (N := 9) hx hb hT giX9 hown hK hP 1 rfl rfl 4 (by decide) (hT (Cond.fieldLink RX10 99 "DesertWire$World" "works" "LDesertWire$Works;") mw_99) (fun _ h9 => h9) rfl dX10_mileIs_74 ?_
      refine lv_iload_n hx hb dX10_mileIs_77 rfl (lv_at hl 1 rfl) ?_
      refine kJi (wr := [(x, .inr (10, [.ref nw, .ref kp, .ref fu, .ref ra, .ref kr, .ref rd, .ref wd, .ref ld, .ref mt, .ref vo, .ref sh, .ref fd, .int im])), (nw, .inr (9, [.ref w0, .ref w1, .ref w2, .ref w3, .ref w4, .ref w5, .int wt, .int re, .int 0])), (w0, .inl (cI, 12, .inl (fun _ => (2 : Int32)))), (w1, .inl (cI, 40, .inl (fun _ => (0 : Int32)))), (w2, .inl (cI, 40, .inl (fun _ => (0 : Int32)))), (k7, .inl (cI, 40, .inl (fun _ => (0 : Int32)))), (fd, .inl (cI, 6, .inl ff))]) (va_runV (As := [.int a]) (rest := []) ⟨hx, hb, hml, hown, hT⟩ (c_X8_isWired l D cI w4 k0 k1 k2 k3 k4 k5 k6 k7 k8 H.size 0 a) (cwV 1 hT (gV_in mw_624 mw_621 mw_622 mw_623 mw_3) rfl rfl rfl (by decide +kernel) ⟨Nat.le_of_ble_eq_true rfl, Nat.le_of_ble_eq_true rfl⟩) (kRecv (own := "") (q0 := 5) (ci := 8) hK hP hD hN rfl rfl [5, 6] rfl (by decide)) rfl rfl hl.1 rfl (lv_room (Nat.le_of_ble_eq_true rfl)) dX10_mileIs_78 ⟨Nat.le_of_ble_eq_true rfl, Nat.le_of_ble_eq_true rfl⟩) hP hD hS hA [5, 6] [0, 1, 2, 3, 4, 7, 8] rfl rfl (by decide) (by decide) (fun r_17 u_19 H locs w_18 hP hD hS => ?_)
      have hP : va_P D vwCl [(x, .inr (10, [.ref nw, .ref kp, .ref fu, .ref ra, .ref kr, .ref rd, .ref wd, .ref ld, .ref mt, .ref vo, .ref sh, .ref fd, .int im])), (nw, .inr (9, [.ref w0, .ref w1, .ref w2, .ref w3, .ref w4, .ref w5, .int wt, .int re, .int 0])), (w0, .inl (cI, 12, .inl (fun _ => (2 : Int32)))), (w1, .inl (cI, 40, .inl (fun _ => (0 : Int32)))), (w2, .inl (cI, 40, .inl (fun _ => (0 : Int32)))), (k7, .inl (cI, 40, .inl (fun _ => (0 : Int32)))), (fd, .inl (cI, 6, .inl ff)), (w4, .inr (8, [.ref k0, .ref k1, .ref k2, .ref k3, .ref k4, .ref k5, .ref k6, .ref k7, .ref k8, .int 0])), (k6, .inl (cI, 40, .inl (fun _ => (0 : Int32))))] H := hP
      have hD : va_D A [(x, .inr (10, [.ref nw, .ref kp, .ref fu, .ref ra, .ref kr, .ref rd, .ref wd, .ref ld, .ref mt, .ref vo, .ref sh, .ref fd, .int im])), (nw, .inr (9, [.ref w0, .ref w1, .ref w2, .ref w3, .ref w4, .ref w5, .int wt, .int re, .int 0])), (w0, .inl (cI, 12, .inl (fun _ => (2 : Int32)))), (w1, .inl (cI, 40, .inl (fun _ => (0 : Int32)))), (w2, .inl (cI, 40, .inl (fun _ => (0 : Int32)))), (k7, .inl (cI, 40, .inl (fun _ => (0 : Int32)))), (fd, .inl (cI, 6, .inl ff)), (w4, .inr (8, [.ref k0, .ref k1, .ref k2, .ref k3, .ref k4, .ref k5, .ref k6, .ref k7, .ref k8, .int 0])), (k6, .inl (cI, 40, .inl (fun _ => (0 : Int32))))] := hD
      have hr_17 := w_18
      obtain rfl : r_17 = 0 := hr_17.trans (by decide)
      refine b_if_eq hx hb zl_0 (tgt := 88) dX10_mileIs_81 (by decide) (fun c_20 => ?_) (fun c_20 => by exfalso; omega)
      refine lv_iconst (v := 0) hx hb dX10_mileIs_88 (by decide) ?_
      exact hRet () [] (by unfold sp_mileIs; repeat (first | rw [if_pos (by omega)] | rw [if_neg (by omega)])) hP hD (by decide) rfl hS rfl dX10_mileIs_89
    by_cases c_21 : b.toInt = 3
    · refine lv_tableIn (off := 76) (tgt := 90) hx hb dX10_mileIs_14 (by omega) (by omega) (by rw [c_21]; decide) (by decide) ?_
      refine lv_aload_n hx hb dX10_mileIs_90 rfl (lv_at hl 0 rfl) ?_
      refine va_get (D := D) (ci := 10) (v := .ref nw) (C := RX10) (T := TX10) (N := 13) hx hb hT giX10 hown hK hP 0 rfl rfl 0 (by decide) (hT (Cond.fieldLink RX10 12 "DesertWire" "now" "LDesertWire$World;") mw_291) (fun _ h9 => h9) rfl dX10_mileIs_91 ?_
      refine lv_iload_n hx hb dX10_mileIs_94 rfl (lv_at hl 1 rfl) ?_
      refine kJi (wr := [(x, .inr (10, [.ref nw, .ref kp, .ref fu, .ref ra, .ref kr, .ref rd, .ref wd, .ref ld, .ref mt, .ref vo, .ref sh, .ref fd, .int im])), (w0, .inl (cI, 12, .inl (fun _ => (2 : Int32)))), (w1, .inl (cI, 40, .inl (fun _ => (0 : Int32)))), (w2, .inl (cI, 40, .inl (fun _ => (0 : Int32)))), (k7, .inl (cI, 40, .inl (fun _ => (0 : Int32)))), (fd, .inl (cI, 6, .inl ff))]) (va_runV (As := [.int a]) (rest := []) ⟨hx, hb, hml, hown, hT⟩ (c_X9_leakOf l D cI nw w0 w1 w2 w3 w4 w5 k0 k1 k2 k3 k4 k5 k6 k7 k8 H.size wt re 0 0 a) (cwV 1 hT (gV_in mw_628 mw_625 mw_626 mw_627 mw_2) rfl rfl rfl (by decide +kernel) ⟨Nat.le_of_ble_eq_true rfl, Nat.le_of_ble_eq_true rfl⟩) (kRecv (own := "") (q0 := 1) (ci := 9) hK hP hD hN rfl rfl [1, 5, 6] rfl (by decide)) rfl rfl hl.1 rfl (lv_room (Nat.le_of_ble_eq_true rfl)) dX10_mileIs_95 ⟨Nat.le_of_ble_eq_true rfl, Nat.le_of_ble_eq_true rfl⟩) hP hD hS hA [1, 5, 6] [0, 2, 3, 4, 7, 8] rfl rfl (by decide) (by decide) (fun r_22 u_24 H locs w_23 hP hD hS => ?_)
      have hP : va_P D vwCl [(x, .inr (10, [.ref nw, .ref kp, .ref fu, .ref ra, .ref kr, .ref rd, .ref wd, .ref ld, .ref mt, .ref vo, .ref sh, .ref fd, .int im])), (w0, .inl (cI, 12, .inl (fun _ => (2 : Int32)))), (w1, .inl (cI, 40, .inl (fun _ => (0 : Int32)))), (w2, .inl (cI, 40, .inl (fun _ => (0 : Int32)))), (k7, .inl (cI, 40, .inl (fun _ => (0 : Int32)))), (fd, .inl (cI, 6, .inl ff)), (nw, .inr (9, [.ref w0, .ref w1, .ref w2, .ref w3, .ref w4, .ref w5, .int wt, .int re, .int 0])), (w4, .inr (8, [.ref k0, .ref k1, .ref k2, .ref k3, .ref k4, .ref k5, .ref k6, .ref k7, .ref k8, .int 0])), (k6, .inl (cI, 40, .inl (fun _ => (0 : Int32))))] H := hP
      have hD : va_D A [(x, .inr (10, [.ref nw, .ref kp, .ref fu, .ref ra, .ref kr, .ref rd, .ref wd, .ref ld, .ref mt, .ref vo, .ref sh, .ref fd, .int im])), (w0, .inl (cI, 12, .inl (fun _ => (2 : Int32)))), (w1, .inl (cI, 40, .inl (fun _ => (0 : Int32)))), (w2, .inl (cI, 40, .inl (fun _ => (0 : Int32)))), (k7, .inl (cI, 40, .inl (fun _ => (0 : Int32)))), (fd, .inl (cI, 6, .inl ff)), (nw, .inr (9, [.ref w0, .ref w1, .ref w2, .ref w3, .ref w4, .ref w5, .int wt, .int re, .int 0])), (w4, .inr (8, [.ref k0, .ref k1, .ref k2, .ref k3, .ref k4, .ref k5, .ref k6, .ref k7, .ref k8, .int 0])), (k6, .inl (cI, 40, .inl (fun _ => (0 : Int32))))] := hD
      have hr_22 := w_23
      obtain rfl : r_22 = (-1) := hr_22.trans (by decide)
      exact hRet () [] (by unfold sp_mileIs; repeat (first | rw [if_pos (by omega)] | rw [if_neg (by omega)])) hP hD (by decide) rfl hS rfl dX10_mileIs_98
    by_cases c_25 : b.toInt = 4
    · refine lv_tableIn (off := 85) (tgt := 99) hx hb dX10_mileIs_14 (by omega) (by omega) (by rw [c_25]; decide) (by decide) ?_
      refine lv_aload_n hx hb dX10_mileIs_99 rfl (lv_at hl 0 rfl) ?_
      refine va_get (D := D) (ci := 10) (v := .ref nw) (C := RX10) (T := TX10) (N := 13) hx hb hT giX10 hown hK hP 0 rfl rfl 0 (by decide) (hT (Cond.fieldLink RX10 12 "DesertWire" "now" "LDesertWire$World;") mw_291) (fun _ h9 => h9) rfl dX10_mileIs_100 ?_
      refine lv_iload_n hx hb dX10_mileIs_103 rfl (lv_at hl 1 rfl) ?_
      refine kJi (wr := [(x, .inr (10, [.ref nw, .ref kp, .ref fu, .ref ra, .ref kr, .ref rd, .ref wd, .ref ld, .ref mt, .ref vo, .ref sh, .ref fd, .int im])), (w2, .inl (cI, 40, .inl (fun _ => (0 : Int32)))), (w4, .inr (8, [.ref k0, .ref k1, .ref k2, .ref k3, .ref k4, .ref k5, .ref k6, .ref k7, .ref k8, .int 0])), (k6, .inl (cI, 40, .inl (fun _ => (0 : Int32)))), (k7, .inl (cI, 40, .inl (fun _ => (0 : Int32)))), (fd, .inl (cI, 6, .inl ff))]) (va_runV (As := [.int a]) (rest := []) ⟨hx, hb, hml, hown, hT⟩ (c_X9_effortOf l D cI nw w0 w1 w2 w3 w4 w5 H.size wt re a) (cwV 1 hT (gV_in mw_648 mw_645 mw_646 mw_647 mw_2) rfl rfl rfl (by decide +kernel) ⟨Nat.le_of_ble_eq_true rfl, Nat.le_of_ble_eq_true rfl⟩) (kRecv (own := "") (q0 := 1) (ci := 9) hK hP hD hN rfl rfl [1, 2, 3] rfl (by decide)) rfl rfl hl.1 rfl (lv_room (Nat.le_of_ble_eq_true rfl)) dX10_mileIs_104 ⟨Nat.le_of_ble_eq_true rfl, Nat.le_of_ble_eq_true rfl⟩) hP hD hS hA [1, 2, 3] [0, 4, 5, 6, 7, 8] rfl rfl (by decide) (by decide) (fun r_26 u_28 H locs w_27 hP hD hS => ?_)
      have hP : va_P D vwCl [(x, .inr (10, [.ref nw, .ref kp, .ref fu, .ref ra, .ref kr, .ref rd, .ref wd, .ref ld, .ref mt, .ref vo, .ref sh, .ref fd, .int im])), (w2, .inl (cI, 40, .inl (fun _ => (0 : Int32)))), (w4, .inr (8, [.ref k0, .ref k1, .ref k2, .ref k3, .ref k4, .ref k5, .ref k6, .ref k7, .ref k8, .int 0])), (k6, .inl (cI, 40, .inl (fun _ => (0 : Int32)))), (k7, .inl (cI, 40, .inl (fun _ => (0 : Int32)))), (fd, .inl (cI, 6, .inl ff)), (nw, .inr (9, [.ref w0, .ref w1, .ref w2, .ref w3, .ref w4, .ref w5, .int wt, .int re, .int 0])), (w0, .inl (cI, 12, .inl (fun _ => (2 : Int32)))), (w1, .inl (cI, 40, .inl (fun _ => (0 : Int32))))] H := hP
      have hD : va_D A [(x, .inr (10, [.ref nw, .ref kp, .ref fu, .ref ra, .ref kr, .ref rd, .ref wd, .ref ld, .ref mt, .ref vo, .ref sh, .ref fd, .int im])), (w2, .inl (cI, 40, .inl (fun _ => (0 : Int32)))), (w4, .inr (8, [.ref k0, .ref k1, .ref k2, .ref k3, .ref k4, .ref k5, .ref k6, .ref k7, .ref k8, .int 0])), (k6, .inl (cI, 40, .inl (fun _ => (0 : Int32)))), (k7, .inl (cI, 40, .inl (fun _ => (0 : Int32)))), (fd, .inl (cI, 6, .inl ff)), (nw, .inr (9, [.ref w0, .ref w1, .ref w2, .ref w3, .ref w4, .ref w5, .int wt, .int re, .int 0])), (w0, .inl (cI, 12, .inl (fun _ => (2 : Int32)))), (w1, .inl (cI, 40, .inl (fun _ => (0 : Int32))))] := hD
      have hr_26 := w_27
      obtain rfl : r_26 = 10 := hr_26.trans (by decide)
      exact hRet () [] (by unfold sp_mileIs; repeat (first | rw [if_pos (by omega)] | rw [if_neg (by omega)])) hP hD (by decide) rfl hS rfl dX10_mileIs_107
    by_cases c_29 : b.toInt = 5
    · refine lv_tableIn (off := 94) (tgt := 108) hx hb dX10_mileIs_14 (by omega) (by omega) (by rw [c_29]; decide) (by decide) ?_
      refine lv_aload_n hx hb dX10_mileIs_108 rfl (lv_at hl 0 rfl) ?_
      refine va_get (D := D) (ci := 10) (v := .ref nw) (C := RX10) (T := TX10) (N := 13) hx hb hT giX10 hown hK hP 0 rfl rfl 0 (by decide) (hT (Cond.fieldLink RX10 12 "DesertWire" "now" "LDesertWire$World;") mw_291) (fun _ h9 => h9) rfl dX10_mileIs_109 ?_
      refine va_get (D := D) (ci := 9) (v := .ref w4) (C := RX9) (T := TX9) (N := 9) hx hb hT giX9 hown hK hP 1 rfl rfl 4 (by decide) (hT (Cond.fieldLink RX10 99 "DesertWire$World" "works" "LDesertWire$Works;") mw_99) (fun _ h9 => h9) rfl dX10_mileIs_112 ?_
      refine lv_iload_n hx hb dX10_mileIs_115 rfl (lv_at hl 1 rfl) ?_
      refine kJi (wr := [(x, .inr (10, [.ref nw, .ref kp, .ref fu, .ref ra, .ref kr, .ref rd, .ref wd, .ref ld, .ref mt, .ref vo, .ref sh, .ref fd, .int im])), (nw, .inr (9, [.ref w0, .ref w1, .ref w2, .ref w3, .ref w4, .ref w5, .int wt, .int re, .int 0])), (w0, .inl (cI, 12, .inl (fun _ => (2 : Int32)))), (w1, .inl (cI, 40, .inl (fun _ => (0 : Int32)))), (w2, .inl (cI, 40, .inl (fun _ => (0 : Int32)))), (k6, .inl (cI, 40, .inl (fun _ => (0 : Int32)))), (fd, .inl (cI, 6, .inl ff))]) (va_runV (As := [.int a]) (rest := []) ⟨hx, hb, hml, hown, hT⟩ (c_X8_drinkIn l D cI w4 k0 k1 k2 k3 k4 k5 k6 k7 k8 H.size 0 a) (cwV 1 hT (gV_in mw_655 mw_652 mw_653 mw_654 mw_3) rfl rfl rfl (by decide +kernel) ⟨Nat.le_of_ble_eq_true rfl, Nat.le_of_ble_eq_true rfl⟩) (kRecv (own := "") (q0 := 5) (ci := 8) hK hP hD hN rfl rfl [5, 7] rfl (by decide)) rfl rfl hl.1 rfl (lv_room (Nat.le_of_ble_eq_true rfl)) dX10_mileIs_116 ⟨Nat.le_of_ble_eq_true rfl, Nat.le_of_ble_eq_true rfl⟩) hP hD hS hA [5, 7] [0, 1, 2, 3, 4, 6, 8] rfl rfl (by decide) (by decide) (fun r_30 u_32 H locs w_31 hP hD hS => ?_)
      have hP : va_P D vwCl [(x, .inr (10, [.ref nw, .ref kp, .ref fu, .ref ra, .ref kr, .ref rd, .ref wd, .ref ld, .ref mt, .ref vo, .ref sh, .ref fd, .int im])), (nw, .inr (9, [.ref w0, .ref w1, .ref w2, .ref w3, .ref w4, .ref w5, .int wt, .int re, .int 0])), (w0, .inl (cI, 12, .inl (fun _ => (2 : Int32)))), (w1, .inl (cI, 40, .inl (fun _ => (0 : Int32)))), (w2, .inl (cI, 40, .inl (fun _ => (0 : Int32)))), (k6, .inl (cI, 40, .inl (fun _ => (0 : Int32)))), (fd, .inl (cI, 6, .inl ff)), (w4, .inr (8, [.ref k0, .ref k1, .ref k2, .ref k3, .ref k4, .ref k5, .ref k6, .ref k7, .ref k8, .int 0])), (k7, .inl (cI, 40, .inl (fun _ => (0 : Int32))))] H := hP
      have hD : va_D A [(x, .inr (10, [.ref nw, .ref kp, .ref fu, .ref ra, .ref kr, .ref rd, .ref wd, .ref ld, .ref mt, .ref vo, .ref sh, .ref fd, .int im])), (nw, .inr (9, [.ref w0, .ref w1, .ref w2, .ref w3, .ref w4, .ref w5, .int wt, .int re, .int 0])), (w0, .inl (cI, 12, .inl (fun _ => (2 : Int32)))), (w1, .inl (cI, 40, .inl (fun _ => (0 : Int32)))), (w2, .inl (cI, 40, .inl (fun _ => (0 : Int32)))), (k6, .inl (cI, 40, .inl (fun _ => (0 : Int32)))), (fd, .inl (cI, 6, .inl ff)), (w4, .inr (8, [.ref k0, .ref k1, .ref k2, .ref k3, .ref k4, .ref k5, .ref k6, .ref k7, .ref k8, .int 0])), (k7, .inl (cI, 40, .inl (fun _ => (0 : Int32))))] := hD
      have hr_30 := w_31
      obtain rfl : r_30 = 0 := hr_30.trans (by decide)
      exact hRet () [] (by unfold sp_mileIs; repeat (first | rw [if_pos (by omega)] | rw [if_neg (by omega)])) hP hD (by decide) rfl hS rfl dX10_mileIs_119
    refine lv_tableOut (tgt := 120) hx hb dX10_mileIs_14 (by omega) (by decide) ?_
    refine lv_aload_n hx hb dX10_mileIs_120 rfl (lv_at hl 0 rfl) ?_
    refine lv_iconst (v := 1) hx hb dX10_mileIs_121 (by decide) ?_
    refine kJi (wr := [(nw, .inr (9, [.ref w0, .ref w1, .ref w2, .ref w3, .ref w4, .ref w5, .int wt, .int re, .int 0])), (w0, .inl (cI, 12, .inl (fun _ => (2 : Int32)))), (w1, .inl (cI, 40, .inl (fun _ => (0 : Int32)))), (w2, .inl (cI, 40, .inl (fun _ => (0 : Int32)))), (w4, .inr (8, [.ref k0, .ref k1, .ref k2, .ref k3, .ref k4, .ref k5, .ref k6, .ref k7, .ref k8, .int 0])), (k6, .inl (cI, 40, .inl (fun _ => (0 : Int32)))), (k7, .inl (cI, 40, .inl (fun _ => (0 : Int32))))]) (va_runV (As := [.int 1]) (rest := []) ⟨hx, hb, hml, hown, hT⟩ (c_X10_finding l D cI x nw kp fu ra kr rd wd ld mt vo sh fd H.size im ff 1 (by first | omega | (simp only [zl_1] <;> omega) | decide | assumption | rfl) (by first | omega | (simp only [zl_1] <;> omega) | decide | assumption | rfl)) (cwV 1 hT (gV_in mw_338 mw_335 mw_337 mw_p1_0 mw_1) rfl rfl rfl (by decide +kernel) ⟨Nat.le_of_ble_eq_true rfl, Nat.le_of_ble_eq_true rfl⟩) (kRecv (own := "") (q0 := 0) (ci := 10) hK hP hD hN rfl rfl [0, 8] rfl (by decide)) rfl rfl hl.1 rfl (lv_room (Nat.le_of_ble_eq_true rfl)) dX10_mileIs_122 ⟨Nat.le_of_ble_eq_true rfl, Nat.le_of_ble_eq_true rfl⟩) hP hD hS hA [0, 8] [1, 2, 3, 4, 5, 6, 7] rfl rfl (by decide) (by decide) (fun r_33 u_35 H locs w_34 hP hD hS => ?_)
    have hP : va_P D vwCl [(nw, .inr (9, [.ref w0, .ref w1, .ref w2, .ref w3, .ref w4, .ref w5, .int wt, .int re, .int 0])), (w0, .inl (cI, 12, .inl (fun _ => (2 : Int32)))), (w1, .inl (cI, 40, .inl (fun _ => (0 : Int32)))), (w2, .inl (cI, 40, .inl (fun _ => (0 : Int32)))), (w4, .inr (8, [.ref k0, .ref k1, .ref k2, .ref k3, .ref k4, .ref k5, .ref k6, .ref k7, .ref k8, .int 0])), (k6, .inl (cI, 40, .inl (fun _ => (0 : Int32)))), (k7, .inl (cI, 40, .inl (fun _ => (0 : Int32))))] H := hP
    have hD : va_D A [(nw, .inr (9, [.ref w0, .ref w1, .ref w2, .ref w3, .ref w4, .ref w5, .int wt, .int re, .int 0])), (w0, .inl (cI, 12, .inl (fun _ => (2 : Int32)))), (w1, .inl (cI, 40, .inl (fun _ => (0 : Int32)))), (w2, .inl (cI, 40, .inl (fun _ => (0 : Int32)))), (w4, .inr (8, [.ref k0, .ref k1, .ref k2, .ref k3, .ref k4, .ref k5, .ref k6, .ref k7, .ref k8, .int 0])), (k6, .inl (cI, 40, .inl (fun _ => (0 : Int32)))), (k7, .inl (cI, 40, .inl (fun _ => (0 : Int32))))] := hD
    have hr_33 := w_34
    obtain rfl : r_33 = (-1000001) := hr_33.trans (by decide)
    exact hRet () [] (by unfold sp_mileIs; repeat (first | rw [if_pos (by omega)] | rw [if_neg (by omega)])) hP hD (by decide) rfl hS rfl dX10_mileIs_125
  · have h_6 : a.toInt < 0 ∨ 39 < a.toInt := h_6
    obtain rfl : r_1 = 0 := hr_1.trans (by decide)
    refine b_if_ne hx hb zl_0 (tgt := 13) dX10_mileIs_4 (by decide) (fun c_36 => by exfalso; omega) (fun c_36 => ?_)
    refine lv_aload_n hx hb dX10_mileIs_7 rfl (lv_at hl 0 rfl) ?_
    refine lv_iconst (v := 1) hx hb dX10_mileIs_8 (by decide) ?_
    refine kJi (wr := [(nw, .inr (9, [.ref w0, .ref w1, .ref w2, .ref w3, .ref w4, .ref w5, .int wt, .int re, .int 0])), (w0, .inl (cI, 12, .inl (fun _ => (2 : Int32)))), (w1, .inl (cI, 40, .inl (fun _ => (0 : Int32)))), (w2, .inl (cI, 40, .inl (fun _ => (0 : Int32)))), (w4, .inr (8, [.ref k0, .ref k1, .ref k2, .ref k3, .ref k4, .ref k5, .ref k6, .ref k7, .ref k8, .int 0])), (k6, .inl (cI, 40, .inl (fun _ => (0 : Int32)))), (k7, .inl (cI, 40, .inl (fun _ => (0 : Int32))))]) (va_runV (As := [.int 1]) (rest := []) ⟨hx, hb, hml, hown, hT⟩ (c_X10_finding l D cI x nw kp fu ra kr rd wd ld mt vo sh fd H.size im ff 1 (by first | omega | (simp only [zl_1] <;> omega) | decide | assumption | rfl) (by first | omega | (simp only [zl_1] <;> omega) | decide | assumption | rfl)) (cwV 1 hT (gV_in mw_338 mw_335 mw_337 mw_p1_0 mw_1) rfl rfl rfl (by decide +kernel) ⟨Nat.le_of_ble_eq_true rfl, Nat.le_of_ble_eq_true rfl⟩) (kRecv (own := "") (q0 := 0) (ci := 10) hK hP hD hN rfl rfl [0, 8] rfl (by decide)) rfl rfl hl.1 rfl (lv_room (Nat.le_of_ble_eq_true rfl)) dX10_mileIs_9 ⟨Nat.le_of_ble_eq_true rfl, Nat.le_of_ble_eq_true rfl⟩) hP hD hS hA [0, 8] [1, 2, 3, 4, 5, 6, 7] rfl rfl (by decide) (by decide) (fun r_37 u_39 H locs w_38 hP hD hS => ?_)
    have hP : va_P D vwCl [(nw, .inr (9, [.ref w0, .ref w1, .ref w2, .ref w3, .ref w4, .ref w5, .int wt, .int re, .int 0])), (w0, .inl (cI, 12, .inl (fun _ => (2 : Int32)))), (w1, .inl (cI, 40, .inl (fun _ => (0 : Int32)))), (w2, .inl (cI, 40, .inl (fun _ => (0 : Int32)))), (w4, .inr (8, [.ref k0, .ref k1, .ref k2, .ref k3, .ref k4, .ref k5, .ref k6, .ref k7, .ref k8, .int 0])), (k6, .inl (cI, 40, .inl (fun _ => (0 : Int32)))), (k7, .inl (cI, 40, .inl (fun _ => (0 : Int32))))] H := hP
    have hD : va_D A [(nw, .inr (9, [.ref w0, .ref w1, .ref w2, .ref w3, .ref w4, .ref w5, .int wt, .int re, .int 0])), (w0, .inl (cI, 12, .inl (fun _ => (2 : Int32)))), (w1, .inl (cI, 40, .inl (fun _ => (0 : Int32)))), (w2, .inl (cI, 40, .inl (fun _ => (0 : Int32)))), (w4, .inr (8, [.ref k0, .ref k1, .ref k2, .ref k3, .ref k4, .ref k5, .ref k6, .ref k7, .ref k8, .int 0])), (k6, .inl (cI, 40, .inl (fun _ => (0 : Int32)))), (k7, .inl (cI, 40, .inl (fun _ => (0 : Int32))))] := hD
    have hr_37 := w_38
    obtain rfl : r_37 = (-1000001) := hr_37.trans (by decide)
    exact hRet () [] (by unfold sp_mileIs; repeat (first | rw [if_pos (by omega)] | rw [if_neg (by omega)])) hP hD (by decide) rfl hS rfl dX10_mileIs_12
set_option maxHeartbeats 4000000 in
set_option maxRecDepth 100000 in
theorem c_X10_soils (l : Launch) (D : va_G) (cI : ClassId) (x nw kp fu ra kr rd wd ld mt vo sh fd sb sl sn : Nat) (sz : Nat) (im : Int32) (ff : Nat → Int32) (a : Int32) (b : Int32) : Met l yX10_soils (gW yX10_soils cX10_soils 3 (some .int)) ({ frames := 3, cells := 0, slots := 0, locals := 62 } : Room) (kPre D cI [.ref x, .int a, .int b] [(x, .inr (10, [.ref nw, .ref kp, .ref fu, .ref ra, .ref kr, .ref rd, .ref wd, .ref ld, .ref mt, .ref vo, .ref sh, .ref fd, .int im])), (sh, .inr (6, [.ref sb, .ref sl, .ref sn])), (sb, .inl (cI, 4, .inl (fun _ => (0 : Int32)))), (fd, .inl (cI, 6, .inl ff))] sz) (va_Qi (fun (r : Int32) (u : Unit) => r = sp_soils a b) (fun u t => kWd D cI (va_A [(x, .inr (10, [.ref nw, .ref kp, .ref fu, .ref ra, .ref kr, .ref rd, .ref wd, .ref ld, .ref mt, .ref vo, .ref sh, .ref fd, .int im])), (sh, .inr (6, [.ref sb, .ref sl, .ref sn])), (sb, .inl (cI, 4, .inl (fun _ => (0 : Int32)))), (fd, .inl (cI, 6, .inl ff))] sz) [] t) (va_A [(x, .inr (10, [.ref nw, .ref kp, .ref fu, .ref ra, .ref kr, .ref rd, .ref wd, .ref ld, .ref mt, .ref vo, .ref sh, .ref fd, .int im])), (sh, .inr (6, [.ref sb, .ref sl, .ref sn])), (sb, .inl (cI, 4, .inl (fun _ => (0 : Int32)))), (fd, .inl (cI, 6, .inl ff))] sz)) 0 0 (va_A [(x, .inr (10, [.ref nw, .ref kp, .ref fu, .ref ra, .ref kr, .ref rd, .ref wd, .ref ld, .ref mt, .ref vo, .ref sh, .ref fd, .int im])), (sh, .inr (6, [.ref sb, .ref sl, .ref sn])), (sb, .inl (cI, 4, .inl (fun _ => (0 : Int32)))), (fd, .inl (cI, 6, .inl ff))] sz) := by
  refine kMetI (own := RX10) (by decide) rfl (Nat.le_of_ble_eq_true rfl) ?_
  intro p e s m args below meth c hx hb hT hown hname hml A Q hK hP hD hS hA hN hRet ls hl
  have hl : lv_has ls 3 [(0, .ref x), (1, .int a), (2, .int b)] := hl
  have lo_a := k_lo a
  have hi_a := k_hi a
  have lo_b := k_lo b
  have hi_b := k_hi b
  have lo_im := k_lo im
  have hi_im := k_hi im
  refine lv_iload_n hx hb dX10_soils_0 rfl (lv_at hl 1 rfl) ?_
  refine kJi (wr := [(x, .inr (10, [.ref nw, .ref kp, .ref fu, .ref ra, .ref kr, .ref rd, .ref wd, .ref ld, .ref mt, .ref vo, .ref sh, .ref fd, .int im])), (sh, .inr (6, [.ref sb, .ref sl, .ref sn])), (sb, .inl (cI, 4, .inl (fun _ => (0 : Int32)))), (fd, .inl (cI, 6, .inl ff))]) (va_runS (As := [.int a]) (rest := []) ⟨hx, hb, hml, hown, hT⟩ (c_X10_isSheet l D cI s.heap.size a) (cwS 1 hT (gS_in mw_662 mw_660 mw_661 mw_1) rfl rfl rfl (by decide +kernel) ⟨Nat.le_of_ble_eq_true rfl, Nat.le_of_ble_eq_true rfl⟩) (kStat hK hP hD hN [] rfl (by decide)) rfl rfl hl.1 rfl (lv_room (Nat.le_of_ble_eq_true rfl)) dX10_soils_1 ⟨Nat.le_of_ble_eq_true rfl, Nat.le_of_ble_eq_true rfl⟩) hP hD hS hA [] [0, 1, 2, 3] rfl rfl (by decide) (by decide) (fun r_1 u_3 H locs w_2 hP hD hS => ?_)
  have hP : va_P D vwCl [(x, .inr (10, [.ref nw, .ref kp, .ref fu, .ref ra, .ref kr, .ref rd, .ref wd, .ref ld, .ref mt, .ref vo, .ref sh, .ref fd, .int im])), (sh, .inr (6, [.ref sb, .ref sl, .ref sn])), (sb, .inl (cI, 4, .inl (fun _ => (0 : Int32)))), (fd, .inl (cI, 6, .inl ff))] H := hP
  have hD : va_D A [(x, .inr (10, [.ref nw, .ref kp, .ref fu, .ref ra, .ref kr, .ref rd, .ref wd, .ref ld, .ref mt, .ref vo, .ref sh, .ref fd, .int im])), (sh, .inr (6, [.ref sb, .ref sl, .ref sn])), (sb, .inl (cI, 4, .inl (fun _ => (0 : Int32)))), (fd, .inl (cI, 6, .inl ff))] := hD
  rcases w_2 with ⟨hr_1, h_4, h_5⟩ | ⟨hr_1, h_6⟩
  · have h_4 : 0 ≤ a.toInt := h_4
    have h_5 : a.toInt ≤ 3 := h_5
    obtain rfl : r_1 = 1 := hr_1.trans (by decide)
    refine b_if_eq hx hb zl_1 (tgt := 14) dX10_soils_4 (by decide) (fun c_7 => by exfalso; omega) (fun c_7 => ?_)
    refine lv_iload_n hx hb dX10_soils_7 rfl (lv_at hl 2 rfl) ?_
    refine kJi (wr := [(x, .inr (10, [.ref nw, .ref kp, .ref fu, .ref ra, .ref kr, .ref rd, .ref wd, .ref ld, .ref mt, .ref vo, .ref sh, .ref fd, .int im])), (sh, .inr (6, [.ref sb, .ref sl, .ref sn])), (sb, .inl (cI, 4, .inl (fun _ => (0 : Int32)))), (fd, .inl (cI, 6, .inl ff))]) (va_runS (As := [.int b]) (rest := []) ⟨hx, hb, hml, hown, hT⟩ (c_X10_isMile l D cI H.size b) (cwS 1 hT (gS_in mw_346 mw_344 mw_345 mw_1) rfl rfl rfl (by decide +kernel) ⟨Nat.le_of_ble_eq_true rfl, Nat.le_of_ble_eq_true rfl⟩) (kStat hK hP hD hN [] rfl (by decide)) rfl rfl hl.1 rfl (lv_room (Nat.le_of_ble_eq_true rfl)) dX10_soils_8 ⟨Nat.le_of_ble_eq_true rfl, Nat.le_of_ble_eq_true rfl⟩) hP hD hS hA [] [0, 1, 2, 3] rfl rfl (by decide) (by decide) (fun r_8 u_10 H locs w_9 hP hD hS => ?_)
    have hP : va_P D vwCl [(x, .inr (10, [.ref nw, .ref kp, .ref fu, .ref ra, .ref kr, .ref rd, .ref wd, .ref ld, .ref mt, .ref vo, .ref sh, .ref fd, .int im])), (sh, .inr (6, [.ref sb, .ref sl, .ref sn])), (sb, .inl (cI, 4, .inl (fun _ => (0 : Int32)))), (fd, .inl (cI, 6, .inl ff))] H := hP
    have hD : va_D A [(x, .inr (10, [.ref nw, .ref kp, .ref fu, .ref ra, .ref kr, .ref rd, .ref wd, .ref ld, .ref mt, .ref vo, .ref sh, .ref fd, .int im])), (sh, .inr (6, [.ref sb, .ref sl, .ref sn])), (sb, .inl (cI, 4, .inl (fun _ => (0 : Int32)))), (fd, .inl (cI, 6, .inl ff))] := hD
    rcases w_9 with ⟨hr_8, h_11, h_12⟩ | ⟨hr_8, h_13⟩
    · have h_11 : 0 ≤ b.toInt := h_11
      have h_12 : b.toInt ≤ 39 := h_12
      obtain rfl : r_8 = 1 := hr_8.trans (by decide)
      refine b_if_ne hx hb zl_1 (tgt := 20) dX10_soils_11 (by decide) (fun c_14 => ?_) (fun c_14 => by exfalso; omega)
      refine lv_aload_n hx hb dX10_soils_20 rfl (lv_at hl 0 rfl) ?_
      refine va_get (D := D) (ci := 10) (v := .ref sh) (C := RX10) (T := TX10) (N := 13) hx hb hT giX10 hown hK hP 0 rfl rfl 10 (by decide) (hT (Cond.fieldLink RX10 70 "DesertWire" "sheets" "LDesertWire$Sheets;") mw_301) (fun _ h9 => h9) rfl dX10_soils_21 ?_
      refine lv_iload_n hx hb dX10_soils_24 rfl (lv_at hl 1 rfl) ?_
      refine kJi (wr := [(x, .inr (10, [.ref nw, .ref kp, .ref fu, .ref ra, .ref kr, .ref rd, .ref wd, .ref ld, .ref mt, .ref vo, .ref sh, .ref fd, .int im])), (fd, .inl (cI, 6, .inl ff))]) (va_runV (As := [.int a]) (rest := []) ⟨hx, hb, hml, hown, hT⟩ (c_X6_isMissing l D cI sh sb sl sn H.size a) (cwV 1 hT (gV_in mw_666 mw_663 mw_664 mw_665 mw_11) rfl rfl rfl (by decide +kernel) ⟨Nat.le_of_ble_eq_true rfl, Nat.le_of_ble_eq_true rfl⟩) (kRecv (own := "") (q0 := 1) (ci := 6) hK hP hD hN rfl rfl [1, 2] rfl (by decide)) rfl rfl hl.1 rfl (lv_room (Nat.le_of_ble_eq_true rfl)) dX10_soils_25 ⟨Nat.le_of_ble_eq_true rfl, Nat.le_of_ble_eq_true rfl⟩) hP hD hS hA [1, 2] [0, 3] rfl rfl (by decide) (by decide) (fun r_15 u_17 H locs w_16 hP hD hS => ?_)
      have hP : va_P D vwCl [(x, .inr (10, [.ref nw, .ref kp, .ref fu, .ref ra, .ref kr, .ref rd, .ref wd, .ref ld, .ref mt, .ref vo, .ref sh, .ref fd, .int im])), (fd, .inl (cI, 6, .inl ff)), (sh, .inr (6, [.ref sb, .ref sl, .ref sn])), (sb, .inl (cI, 4, .inl (fun _ => (0 : Int32))))] H := hP
      have hD : va_D A [(x, .inr (10, [.ref nw, .ref kp, .ref fu, .ref ra, .ref kr, .ref rd, .ref wd, .ref ld, .ref mt, .ref vo, .ref sh, .ref fd, .int im])), (fd, .inl (cI, 6, .inl ff)), (sh, .inr (6, [.ref sb, .ref sl, .ref sn])), (sb, .inl (cI, 4, .inl (fun _ => (0 : Int32))))] := hD
      have hr_15 := w_16
      obtain rfl : r_15 = 1 := hr_15.trans (by decide)
      refine b_if_eq hx hb zl_1 (tgt := 37) dX10_soils_28 (by decide) (fun c_18 => by exfalso; omega) (fun c_18 => ?_)
      refine lv_aload_n hx hb dX10_soils_31 rfl (lv_at hl 0 rfl) ?_
      refine lv_iconst (v := 2) hx hb dX10_soils_32 (by decide) ?_
      refine kJi (wr := [(sh, .inr (6, [.ref sb, .ref sl, .ref sn])), (sb, .inl (cI, 4, .inl (fun _ => (0 : Int32))))]) (va_runV (As := [.int 2]) (rest := []) ⟨hx, hb, hml, hown, hT⟩ (c_X10_finding l D cI x nw kp fu ra kr rd wd ld mt vo sh fd H.size im ff 2 (by first | omega | (simp only [zl_2] <;> omega) | decide | assumption | rfl) (by first | omega | (simp only [zl_2] <;> omega) | decide | assumption | rfl)) (cwV 1 hT (gV_in mw_338 mw_335 mw_337 mw_p1_0 mw_1) rfl rfl rfl (by decide +kernel) ⟨Nat.le_of_ble_eq_true rfl, Nat.le_of_ble_eq_true rfl⟩) (kRecv (own := "") (q0 := 0) (ci := 10) hK hP hD hN rfl rfl [0, 1] rfl (by decide)) rfl rfl hl.1 rfl (lv_room (Nat.le_of_ble_eq_true rfl)) dX10_soils_33 ⟨Nat.le_of_ble_eq_true rfl, Nat.le_of_ble_eq_true rfl⟩) hP hD hS hA [0, 1] [2, 3] rfl rfl (by decide) (by decide) (fun r_19 u_21 H locs w_20 hP hD hS => ?_)
      have hP : va_P D vwCl [(sh, .inr (6, [.ref sb, .ref sl, .ref sn])), (sb, .inl (cI, 4, .inl (fun _ => (0 : Int32))))] H := hP
      have hD : va_D A [(sh, .inr (6, [.ref sb, .ref sl, .ref sn])), (sb, .inl (cI, 4, .inl (fun _ => (0 : Int32))))] := hD
      have hr_19 := w_20
      obtain rfl : r_19 = (-1000002) := hr_19.trans (by decide)
      exact hRet () [] (by unfold sp_soils; repeat (first | rw [if_pos (by omega)] | rw [if_neg (by omega)])) hP hD (by decide) rfl hS rfl dX10_soils_36
    · have h_13 : b.toInt < 0 ∨ 39 < b.toInt := h_13
      obtain rfl : r_8 = 0 := hr_8.trans (by decide)
      refine b_if_ne hx hb zl_0 (tgt := 20) dX10_soils_11 (by decide) (fun c_22 => by exfalso; omega) (fun c_22 => ?_)
      refine lv_aload_n hx hb dX10_soils_14 rfl (lv_at hl 0 rfl) ?_
      refine lv_iconst (v := 1) hx hb dX10_soils_15 (by decide) ?_
      refine kJi (wr := [(sh, .inr (6, [.ref sb, .ref sl, .ref sn])), (sb, .inl (cI, 4, .inl (fun _ => (0 : Int32))))]) (va_runV (As := [.int 1]) (rest := []) ⟨hx, hb, hml, hown, hT⟩ (c_X10_finding l D cI x nw kp fu ra kr rd wd ld mt vo sh fd H.size im ff 1 (by first | omega | (simp only [zl_1] <;> omega) | decide | assumption | rfl) (by first | omega | (simp only [zl_1] <;> omega) | decide | assumption | rfl)) (cwV 1 hT (gV_in mw_338 mw_335 mw_337 mw_p1_0 mw_1) rfl rfl rfl (by decide +kernel) ⟨Nat.le_of_ble_eq_true rfl, Nat.le_of_ble_eq_true rfl⟩) (kRecv (own := "") (q0 := 0) (ci := 10) hK hP hD hN rfl rfl [0, 3] rfl (by decide)) rfl rfl hl.1 rfl (lv_room (Nat.le_of_ble_eq_true rfl)) dX10_soils_16 ⟨Nat.le_of_ble_eq_true rfl, Nat.le_of_ble_eq_true rfl⟩) hP hD hS hA [0, 3] [1, 2] rfl rfl (by decide) (by decide) (fun r_23 u_25 H locs w_24 hP hD hS => ?_)
      have hP : va_P D vwCl [(sh, .inr (6, [.ref sb, .ref sl, .ref sn])), (sb, .inl (cI, 4, .inl (fun _ => (0 : Int32))))] H := hP
      have hD : va_D A [(sh, .inr (6, [.ref sb, .ref sl, .ref sn])), (sb, .inl (cI, 4, .inl (fun _ => (0 : Int32))))] := hD
      have hr_23 := w_24
      obtain rfl : r_23 = (-1000001) := hr_23.trans (by decide)
      exact hRet () [] (by unfold sp_soils; repeat (first | rw [if_pos (by omega)] | rw [if_neg (by omega)])) hP hD (by decide) rfl hS rfl dX10_soils_19
  · have h_6 : a.toInt < 0 ∨ 3 < a.toInt := h_6
    obtain rfl : r_1 = 0 := hr_1.trans (by decide)
    refine b_if_eq hx hb zl_0 (tgt := 14) dX10_soils_4 (by decide) (fun c_26 => ?_) (fun c_26 => by exfalso; omega)
    refine lv_aload_n hx hb dX10_soils_14 rfl (lv_at hl 0 rfl) ?_
    refine lv_iconst (v := 1) hx hb dX10_soils_15 (by decide) ?_
    refine kJi (wr := [(sh, .inr (6, [.ref sb, .ref sl, .ref sn])), (sb, .inl (cI, 4, .inl (fun _ => (0 : Int32))))]) (va_runV (As := [.int 1]) (rest := []) ⟨hx, hb, hml, hown, hT⟩ (c_X10_finding l D cI x nw kp fu ra kr rd wd ld mt vo sh fd H.size im ff 1 (by first | omega | (simp only [zl_1] <;> omega) | decide | assumption | rfl) (by first | omega | (simp only [zl_1] <;> omega) | decide | assumption | rfl)) (cwV 1 hT (gV_in mw_338 mw_335 mw_337 mw_p1_0 mw_1) rfl rfl rfl (by decide +kernel) ⟨Nat.le_of_ble_eq_true rfl, Nat.le_of_ble_eq_true rfl⟩) (kRecv (own := "") (q0 := 0) (ci := 10) hK hP hD hN rfl rfl [0, 3] rfl (by decide)) rfl rfl hl.1 rfl (lv_room (Nat.le_of_ble_eq_true rfl)) dX10_soils_16 ⟨Nat.le_of_ble_eq_true rfl, Nat.le_of_ble_eq_true rfl⟩) hP hD hS hA [0, 3] [1, 2] rfl rfl (by decide) (by decide) (fun r_27 u_29 H locs w_28 hP hD hS => ?_)
    have hP : va_P D vwCl [(sh, .inr (6, [.ref sb, .ref sl, .ref sn])), (sb, .inl (cI, 4, .inl (fun _ => (0 : Int32))))] H := hP
    have hD : va_D A [(sh, .inr (6, [.ref sb, .ref sl, .ref sn])), (sb, .inl (cI, 4, .inl (fun _ => (0 : Int32))))] := hD
    have hr_27 := w_28
    obtain rfl : r_27 = (-1000001) := hr_27.trans (by decide)
    exact hRet () [] (by unfold sp_soils; repeat (first | rw [if_pos (by omega)] | rw [if_neg (by omega)])) hP hD (by decide) rfl hS rfl dX10_soils_19
set_option maxHeartbeats 4000000 in
set_option maxRecDepth 100000 in
theorem c_X10_party (l : Launch) (D : va_G) (cI : ClassId) (x nw kp fu ra kr rd wd ld mt vo sh fd w0 w1 w2 w3 w4 w5 pf : Nat) (sz : Nat) (im : Int32) (ff : Nat → Int32) (wt : Int32) (re : Int32) (dy : Int32) (f0 : Nat → Int32) (a : Int32) (b : Int32) (d : Int32) (g : Int32) : Met l yX10_party (gW yX10_party cX10_party 7 (some .int)) ({ frames := 2, cells := 0, slots := 0, locals := 44 } : Room) (kPre D cI [.ref x, .int a, .int b, .int d, .int g] [(x, .inr (10, [.ref nw, .ref kp, .ref fu, .ref ra, .ref kr, .ref rd, .ref wd, .ref ld, .ref mt, .ref vo, .ref sh, .ref fd, .int im])), (nw, .inr (9, [.ref w0, .ref w1, .ref w2, .ref w3, .ref w4, .ref w5, .int wt, .int re, .int dy])), (w5, .inr (3, [.ref pf, .int 0])), (pf, .inl (cI, 36, .inl f0)), (fd, .inl (cI, 6, .inl ff))] sz) (va_Qi (fun (r : Int32) (u : Unit) => r = sp_party a b d g) (fun u t => kWd D cI (va_A [(x, .inr (10, [.ref nw, .ref kp, .ref fu, .ref ra, .ref kr, .ref rd, .ref wd, .ref ld, .ref mt, .ref vo, .ref sh, .ref fd, .int im])), (nw, .inr (9, [.ref w0, .ref w1, .ref w2, .ref w3, .ref w4, .ref w5, .int wt, .int re, .int dy])), (w5, .inr (3, [.ref pf, .int 0])), (pf, .inl (cI, 36, .inl f0)), (fd, .inl (cI, 6, .inl ff))] sz) [] t) (va_A [(x, .inr (10, [.ref nw, .ref kp, .ref fu, .ref ra, .ref kr, .ref rd, .ref wd, .ref ld, .ref mt, .ref vo, .ref sh, .ref fd, .int im])), (nw, .inr (9, [.ref w0, .ref w1, .ref w2, .ref w3, .ref w4, .ref w5, .int wt, .int re, .int dy])), (w5, .inr (3, [.ref pf, .int 0])), (pf, .inl (cI, 36, .inl f0)), (fd, .inl (cI, 6, .inl ff))] sz)) 0 0 (va_A [(x, .inr (10, [.ref nw, .ref kp, .ref fu, .ref ra, .ref kr, .ref rd, .ref wd, .ref ld, .ref mt, .ref vo, .ref sh, .ref fd, .int im])), (nw, .inr (9, [.ref w0, .ref w1, .ref w2, .ref w3, .ref w4, .ref w5, .int wt, .int re, .int dy])), (w5, .inr (3, [.ref pf, .int 0])), (pf, .inl (cI, 36, .inl f0)), (fd, .inl (cI, 6, .inl ff))] sz) := by
  refine kMetI (own := RX10) (by decide) rfl (Nat.le_of_ble_eq_true rfl) ?_
  intro p e s m args below meth c hx hb hT hown hname hml A Q hK hP hD hS hA hN hRet ls hl
  have hl : lv_has ls 7 [(0, .ref x), (1, .int a), (2, .int b), (3, .int d), (4, .int g)] := hl
  have lo_a := k_lo a
  have hi_a := k_hi a
  have lo_b := k_lo b
  have hi_b := k_hi b
  have lo_d := k_lo d
  have hi_d := k_hi d
  have lo_g := k_lo g
  have hi_g := k_hi g
  have lo_im := k_lo im
  have hi_im := k_hi im
  have lo_wt := k_lo wt
  have hi_wt := k_hi wt
  have lo_re := k_lo re
  have hi_re := k_hi re
  have lo_dy := k_lo dy
  have hi_dy := k_hi dy
  refine lv_iload_n hx hb dX10_party_0 rfl (lv_at hl 1 rfl) ?_
  refine kJi (wr := [(x, .inr (10, [.ref nw, .ref kp, .ref fu, .ref ra, .ref kr, .ref rd, .ref wd, .ref ld, .ref mt, .ref vo, .ref sh, .ref fd, .int im])), (nw, .inr (9, [.ref w0, .ref w1, .ref w2, .ref w3, .ref w4, .ref w5, .int wt, .int re, .int dy])), (w5, .inr (3, [.ref pf, .int 0])), (pf, .inl (cI, 36, .inl f0)), (fd, .inl (cI, 6, .inl ff))]) (va_runS (As := [.int a]) (rest := []) ⟨hx, hb, hml, hown, hT⟩ (c_X10_isMile l D cI s.heap.size a) (cwS 1 hT (gS_in mw_346 mw_344 mw_345 mw_1) rfl rfl rfl (by decide +kernel) ⟨Nat.le_of_ble_eq_true rfl, Nat.le_of_ble_eq_true rfl⟩) (kStat hK hP hD hN [] rfl (by decide)) rfl rfl hl.1 rfl (lv_room (Nat.le_of_ble_eq_true rfl)) dX10_party_1 ⟨Nat.le_of_ble_eq_true rfl, Nat.le_of_ble_eq_true rfl⟩) hP hD hS hA [] [0, 1, 2, 3, 4] rfl rfl (by decide) (by decide) (fun r_1 u_3 H locs w_2 hP hD hS => ?_)
  have hP : va_P D vwCl [(x, .inr (10, [.ref nw, .ref kp, .ref fu, .ref ra, .ref kr, .ref rd, .ref wd, .ref ld, .ref mt, .ref vo, .ref sh, .ref fd, .int im])), (nw, .inr (9, [.ref w0, .ref w1, .ref w2, .ref w3, .ref w4, .ref w5, .int wt, .int re, .int dy])), (w5, .inr (3, [.ref pf, .int 0])), (pf, .inl (cI, 36, .inl f0)), (fd, .inl (cI, 6, .inl ff))] H := hP
  have hD : va_D A [(x, .inr (10, [.ref nw, .ref kp, .ref fu, .ref ra, .ref kr, .ref rd, .ref wd, .ref ld, .ref mt, .ref vo, .ref sh, .ref fd, .int im])), (nw, .inr (9, [.ref w0, .ref w1, .ref w2, .ref w3, .ref w4, .ref w5, .int wt, .int re, .int dy])), (w5, .inr (3, [.ref pf, .int 0])), (pf, .inl (cI, 36, .inl f0)), (fd, .inl (cI, 6, .inl ff))] := hD
  rcases w_2 with ⟨hr_1, h_4, h_5⟩ | ⟨hr_1, h_6⟩
  · have h_4 : 0 ≤ a.toInt := h_4
    have h_5 : a.toInt ≤ 39 := h_5
    obtain rfl : r_1 = 1 := hr_1.trans (by decide)
    refine b_if_eq hx hb zl_1 (tgt := 33) dX10_party_4 (by decide) (fun c_7 => by exfalso; omega) (fun c_7 => ?_)
    refine lv_iload_n hx hb dX10_party_7 rfl (lv_at hl 2 rfl) ?_
    refine lv_iconst (v := 1) hx hb dX10_party_8 (by decide) ?_
    refine b_icmp_eq hx hb rfl zl_1 (tgt := 17) dX10_party_9 (by decide) (fun c_8 => ?_) (fun c_8 => ?_)
    · refine lv_iload hx hb dX10_party_17 (lv_at hl 4 rfl) ?_
      refine b_if_lt hx hb rfl (tgt := 33) dX10_party_19 (by decide) (fun c_9 => ?_) (fun c_9 => ?_)
      · refine lv_iconst (v := 0) hx hb dX10_party_33 (by decide) ?_
        refine lv_istore (lv' := [(5, .int 0), (0, .ref x), (1, .int a), (2, .int b), (3, .int d), (4, .int g)]) hx hb dX10_party_34 hl (by decide) rfl (fun ls hl => ?_)
        refine lv_iload hx hb dX10_party_36 (lv_at hl 0 rfl) ?_
        refine b_if_eq hx hb zl_0 (tgt := 65) dX10_party_38 (by decide) (fun c_10 => ?_) (fun c_10 => by exfalso; omega)
        refine lv_aload_n hx hb dX10_party_65 rfl (lv_at hl 1 rfl) ?_
        refine lv_iconst (v := 1) hx hb dX10_party_66 (by decide) ?_
        refine kJi (wr := [(nw, .inr (9, [.ref w0, .ref w1, .ref w2, .ref w3, .ref w4, .ref w5, .int wt, .int re, .int dy])), (w5, .inr (3, [.ref pf, .int 0])), (pf, .inl (cI, 36, .inl f0))]) (va_runV (As := [.int 1]) (rest := []) ⟨hx, hb, hml, hown, hT⟩ (c_X10_finding l D cI x nw kp fu ra kr rd wd ld mt vo sh fd H.size im ff 1 (by first | omega | (simp only [zl_1] <;> omega) | decide | assumption | rfl) (by first | omega | (simp only [zl_1] <;> omega) | decide | assumption | rfl)) (cwV 1 hT (gV_in mw_338 mw_335 mw_337 mw_p1_0 mw_1) rfl rfl rfl (by decide +kernel) ⟨Nat.le_of_ble_eq_true rfl, Nat.le_of_ble_eq_true rfl⟩) (kRecv (own := "") (q0 := 0) (ci := 10) hK hP hD hN rfl rfl [0, 4] rfl (by decide)) rfl rfl hl.1 rfl (lv_room (Nat.le_of_ble_eq_true rfl)) dX10_party_67 ⟨Nat.le_of_ble_eq_true rfl, Nat.le_of_ble_eq_true rfl⟩) hP hD hS hA [0, 4] [1, 2, 3] rfl rfl (by decide) (by decide) (fun r_11 u_13 H locs w_12 hP hD hS => ?_)
        have hP : va_P D vwCl [(nw, .inr (9, [.ref w0, .ref w1, .ref w2, .ref w3, .ref w4, .ref w5, .int wt, .int re, .int dy])), (w5, .inr (3, [.ref pf, .int 0])), (pf, .inl (cI, 36, .inl f0))] H := hP
        have hD : va_D A [(nw, .inr (9, [.ref w0, .ref w1, .ref w2, .ref w3, .ref w4, .ref w5, .int wt, .int re, .int dy])), (w5, .inr (3, [.ref pf, .int 0])), (pf, .inl (cI, 36, .inl f0))] := hD
        have hr_11 := w_12
        obtain rfl : r_11 = (-1000001) := hr_11.trans (by decide)
        exact hRet () [] (by unfold sp_party; repeat (first | rw [if_pos (by omega)] | rw [if_neg (by omega)])) hP hD (by decide) rfl hS rfl dX10_party_70
      · refine lv_iload hx hb dX10_party_22 (lv_at hl 4 rfl) ?_
        refine lv_bipush (v := 99) hx hb dX10_party_24 (by decide) ?_
        refine b_icmp_gt hx hb rfl zl_99 (tgt := 33) dX10_party_26 (by decide) (fun c_14 => ?_) (fun c_14 => ?_)
        · refine lv_iconst (v := 0) hx hb dX10_party_33 (by decide) ?_
          refine lv_istore (lv' := [(5, .int 0), (0, .ref x), (1, .int a), (2, .int b), (3, .int d), (4, .int g)]) hx hb dX10_party_34 hl (by decide) rfl (fun ls hl => ?_)
          refine lv_iload hx hb dX10_party_36 (lv_at hl 0 rfl) ?_
          refine b_if_eq hx hb zl_0 (tgt := 65) dX10_party_38 (by decide) (fun c_15 => ?_) (fun c_15 => by exfalso; omega)
          refine lv_aload_n hx hb dX10_party_65 rfl (lv_at hl 1 rfl) ?_
          refine lv_iconst (v := 1) hx hb dX10_party_66 (by decide) ?_
          refine kJi (wr := [(nw, .inr (9, [.ref w0, .ref w1, .ref w2, .ref w3, .ref w4, .ref w5, .int wt, .int re, .int dy])), (w5, .inr (3, [.ref pf, .int 0])), (pf, .inl (cI, 36, .inl f0))]) (va_runV (As := [.int 1]) (rest := []) ⟨hx, hb, hml, hown, hT⟩ (c_X10_finding l D cI x nw kp fu ra kr rd wd ld mt vo sh fd H.size im ff 1 (by first | omega | (simp only [zl_1] <;> omega) | decide | assumption | rfl) (by first | omega | (simp only [zl_1] <;> omega) | decide | assumption | rfl)) (cwV 1 hT (gV_in mw_338 mw_335 mw_337 mw_p1_0 mw_1) rfl rfl rfl (by decide +kernel) ⟨Nat.le_of_ble_eq_true rfl, Nat.le_of_ble_eq_true rfl⟩) (kRecv (own := "") (q0 := 0) (ci := 10) hK hP hD hN rfl rfl [0, 4] rfl (by decide)) rfl rfl hl.1 rfl (lv_room (Nat.le_of_ble_eq_true rfl)) dX10_party_67 ⟨Nat.le_of_ble_eq_true rfl, Nat.le_of_ble_eq_true rfl⟩) hP hD hS hA [0, 4] [1, 2, 3] rfl rfl (by decide) (by decide) (fun r_16 u_18 H locs w_17 hP hD hS => ?_)
          have hP : va_P D vwCl [(nw, .inr (9, [.ref w0, .ref w1, .ref w2, .ref w3, .ref w4, .ref w5, .int wt, .int re, .int dy])), (w5, .inr (3, [.ref pf, .int 0])), (pf, .inl (cI, 36, .inl f0))] H := hP
          have hD : va_D A [(nw, .inr (9, [.ref w0, .ref w1, .ref w2, .ref w3, .ref w4, .ref w5, .int wt, .int re, .int dy])), (w5, .inr (3, [.ref pf, .int 0])), (pf, .inl (cI, 36, .inl f0))] := hD
          have hr_16 := w_17
          obtain rfl : r_16 = (-1000001) := hr_16.trans (by decide)
          exact hRet () [] (by unfold sp_party; repeat (first | rw [if_pos (by omega)] | rw [if_neg (by omega)])) hP hD (by decide) rfl hS rfl dX10_party_70
        · refine lv_iconst (v := 1) hx hb dX10_party_29 (by decide) ?_
          refine lv_goto (tgt := 34) hx hb dX10_party_30 (by decide) ?_
          refine lv_istore (lv' := [(5, .int 1), (0, .ref x), (1, .int a), (2, .int b), (3, .int d), (4, .int g)]) hx hb dX10_party_34 hl (by decide) rfl (fun ls hl => ?_)
          refine lv_iload hx hb dX10_party_36 (lv_at hl 0 rfl) ?_
          refine b_if_eq hx hb zl_1 (tgt := 65) dX10_party_38 (by decide) (fun c_19 => by exfalso; omega) (fun c_19 => ?_)
          refine lv_iload_n hx hb dX10_party_41 rfl (lv_at hl 4 rfl) ?_
          refine lv_bipush (v := 100) hx hb dX10_party_42 (by decide) ?_
          refine b_icmp_lt hx hb rfl zl_100 (tgt := 65) dX10_party_44 (by decide) (fun c_20 => ?_) (fun c_20 => ?_)
          · refine lv_aload_n hx hb dX10_party_65 rfl (lv_at hl 1 rfl) ?_
            refine lv_iconst (v := 1) hx hb dX10_party_66 (by decide) ?_
            refine kJi (wr := [(nw, .inr (9, [.ref w0, .ref w1, .ref w2, .ref w3, .ref w4, .ref w5, .int wt, .int re, .int dy])), (w5, .inr (3, [.ref pf, .int 0])), (pf, .inl (cI, 36, .inl f0))]) (va_runV (As := [.int 1]) (rest := []) ⟨hx, hb, hml, hown, hT⟩ (c_X10_finding l D cI x nw kp fu ra kr rd wd ld mt vo sh fd H.size im ff 1 (by first | omega | (simp only [zl_1] <;> omega) | decide | assumption | rfl) (by first | omega | (simp only [zl_1] <;> omega) | decide | assumption | rfl)) (cwV 1 hT (gV_in mw_338 mw_335 mw_337 mw_p1_0 mw_1) rfl rfl rfl (by decide +kernel) ⟨Nat.le_of_ble_eq_true rfl, Nat.le_of_ble_eq_true rfl⟩) (kRecv (own := "") (q0 := 0) (ci := 10) hK hP hD hN rfl rfl [0, 4] rfl (by decide)) rfl rfl hl.1 rfl (lv_room (Nat.le_of_ble_eq_true rfl)) dX10_party_67 ⟨Nat.le_of_ble_eq_true rfl, Nat.le_of_ble_eq_true rfl⟩) hP hD hS hA [0, 4] [1, 2, 3] rfl rfl (by decide) (by decide) (fun r_21 u_23 H locs w_22 hP hD hS => ?_)
            have hP : va_P D vwCl [(nw, .inr (9, [.ref w0, .ref w1, .ref w2, .ref w3, .ref w4, .ref w5, .int wt, .int re, .int dy])), (w5, .inr (3, [.ref pf, .int 0])), (pf, .inl (cI, 36, .inl f0))] H := hP
            have hD : va_D A [(nw, .inr (9, [.ref w0, .ref w1, .ref w2, .ref w3, .ref w4, .ref w5, .int wt, .int re, .int dy])), (w5, .inr (3, [.ref pf, .int 0])), (pf, .inl (cI, 36, .inl f0))] := hD
            have hr_21 := w_22
            obtain rfl : r_21 = (-1000001) := hr_21.trans (by decide)
            exact hRet () [] (by unfold sp_party; repeat (first | rw [if_pos (by omega)] | rw [if_neg (by omega)])) hP hD (by decide) rfl hS rfl dX10_party_70
          · refine lv_iload_n hx hb dX10_party_47 rfl (lv_at hl 4 rfl) ?_
            refine lv_bipush (v := 100) hx hb dX10_party_48 (by decide) ?_
            refine lv_idiv hx hb dX10_party_50 (by decide) ?_
            refine lv_topi (fun v_24 ev_24 => ?_)
            have tv_24 : v_24.toInt = d.toInt / 100 := k_divv (w := 0) ev_24 zl_100 (by omega) (by decide)
            have lo_v_24 := k_lo v_24
            have hi_v_24 := k_hi v_24
            refine lv_bipush (v := 50) hx hb dX10_party_51 (by decide) ?_
            refine b_icmp_gt hx hb rfl zl_50 (tgt := 65) dX10_party_53 (by decide) (fun c_25 => ?_) (fun c_25 => ?_)
            · refine lv_aload_n hx hb dX10_party_65 rfl (lv_at hl 1 rfl) ?_
              refine lv_iconst (v := 1) hx hb dX10_party_66 (by decide) ?_
              refine kJi (wr := [(nw, .inr (9, [.ref w0, .ref w1, .ref w2, .ref w3, .ref w4, .ref w5, .int wt, .int re, .int dy])), (w5, .inr (3, [.ref pf, .int 0])), (pf, .inl (cI, 36, .inl f0))]) (va_runV (As := [.int 1]) (rest := []) ⟨hx, hb, hml, hown, hT⟩ (c_X10_finding l D cI x nw kp fu ra kr rd wd ld mt vo sh fd H.size im ff 1 (by first | omega | (simp only [zl_1] <;> omega) | decide | assumption | rfl) (by first | omega | (simp only [zl_1] <;> omega) | decide | assumption | rfl)) (cwV 1 hT (gV_in mw_338 mw_335 mw_337 mw_p1_0 mw_1) rfl rfl rfl (by decide +kernel) ⟨Nat.le_of_ble_eq_true rfl, Nat.le_of_ble_eq_true rfl⟩) (kRecv (own := "") (q0 := 0) (ci := 10) hK hP hD hN rfl rfl [0, 4] rfl (by decide)) rfl rfl hl.1 rfl (lv_room (Nat.le_of_ble_eq_true rfl)) dX10_party_67 ⟨Nat.le_of_ble_eq_true rfl, Nat.le_of_ble_eq_true rfl⟩) hP hD hS hA [0, 4] [1, 2, 3] rfl rfl (by decide) (by decide) (fun r_26 u_28 H locs w_27 hP hD hS => ?_)
              have hP : va_P D vwCl [(nw, .inr (9, [.ref w0, .ref w1, .ref w2, .ref w3, .ref w4, .ref w5, .int wt, .int re, .int dy])), (w5, .inr (3, [.ref pf, .int 0])), (pf, .inl (cI, 36, .inl f0))] H := hP
              have hD : va_D A [(nw, .inr (9, [.ref w0, .ref w1, .ref w2, .ref w3, .ref w4, .ref w5, .int wt, .int re, .int dy])), (w5, .inr (3, [.ref pf, .int 0])), (pf, .inl (cI, 36, .inl f0))] := hD
              have hr_26 := w_27
              obtain rfl : r_26 = (-1000001) := hr_26.trans (by decide)
              exact hRet () [] (by unfold sp_party; repeat (first | rw [if_pos (by omega)] | rw [if_neg (by omega)])) hP hD (by decide) rfl hS rfl dX10_party_70
            · refine lv_iload_n hx hb dX10_party_56 rfl (lv_at hl 4 rfl) ?_
              refine lv_bipush (v := 100) hx hb dX10_party_57 (by decide) ?_
              refine lv_irem hx hb dX10_party_59 (by decide) ?_
              refine lv_topi (fun v_29 ev_29 => ?_)
              have tv_29 : v_29.toInt = d.toInt % 100 := k_remv (w := 0) ev_29 zl_100 (by omega) (by decide)
              have lo_v_29 := k_lo v_29
              have hi_v_29 := k_hi v_29
              refine lv_bipush (v := 50) hx hb dX10_party_60 (by decide) ?_
              refine b_icmp_le hx hb rfl zl_50 (tgt := 71) dX10_party_62 (by decide) (fun c_30 => ?_) (fun c_30 => ?_)
              · refine lv_aload_n hx hb dX10_party_71 rfl (lv_at hl 1 rfl) ?_
                refine va_get (D := D) (ci := 10) (v := .ref nw) (C := RX10) (T := TX10) (N := 13) hx hb hT giX10 hown hK hP 0 rfl rfl 0 (by decide) (hT (Cond.fieldLink RX10 12 "DesertWire" "now" "LDesertWire$World;") mw_291) (fun _ h9 => h9) rfl dX10_party_72 ?_
                refine va_get (D := D) (ci := 9) (v := .ref w5) (C := RX9) (T := TX9) (N := 9) hx hb hT giX9 hown hK hP 1 rfl rfl 5 (by decide) (hT (Cond.fieldLink RX10 193 "DesertWire$World" "parties" "LDesertWire$Parties;") mw_102) (fun _ h9 => h9) rfl dX10_party_75 ?_
                refine kJi (wr := [(x, .inr (10, [.ref nw, .ref kp, .ref fu, .ref ra, .ref kr, .ref rd, .ref wd, .ref ld, .ref mt, .ref vo, .ref sh, .ref fd, .int im])), (nw, .inr (9, [.ref w0, .ref w1, .ref w2, .ref w3, .ref w4, .ref w5, .int wt, .int re, .int dy])), (pf, .inl (cI, 36, .inl f0)), (fd, .inl (cI, 6, .inl ff))]) (va_runV (As := []) (rest := []) ⟨hx, hb, hml, hown, hT⟩ (c_X3_hasRoom l D cI w5 pf H.size 0) (cwV 0 hT (gV_in mw_704 mw_701 mw_702 mw_703 mw_4) rfl rfl rfl (by decide +kernel) ⟨Nat.le_of_ble_eq_true rfl, Nat.le_of_ble_eq_true rfl⟩) (kRecv (own := "") (q0 := 2) (ci := 3) hK hP hD hN rfl rfl [2] rfl (by decide)) rfl rfl hl.1 rfl (lv_room (Nat.le_of_ble_eq_true rfl)) dX10_party_78 ⟨Nat.le_of_ble_eq_true rfl, Nat.le_of_ble_eq_true rfl⟩) hP hD hS hA [2] [0, 1, 3, 4] rfl rfl (by decide) (by decide) (fun r_31 u_33 H locs w_32 hP hD hS => ?_)
                have hP : va_P D vwCl [(x, .inr (10, [.ref nw, .ref kp, .ref fu, .ref ra, .ref kr, .ref rd, .ref wd, .ref ld, .ref mt, .ref vo, .ref sh, .ref fd, .int im])), (nw, .inr (9, [.ref w0, .ref w1, .ref w2, .ref w3, .ref w4, .ref w5, .int wt, .int re, .int dy])), (pf, .inl (cI, 36, .inl f0)), (fd, .inl (cI, 6, .inl ff)), (w5, .inr (3, [.ref pf, .int 0]))] H := hP
                have hD : va_D A [(x, .inr (10, [.ref nw, .ref kp, .ref fu, .ref ra, .ref kr, .ref rd, .ref wd, .ref ld, .ref mt, .ref vo, .ref sh, .ref fd, .int im])), (nw, .inr (9, [.ref w0, .ref w1, .ref w2, .ref w3, .ref w4, .ref w5, .int wt, .int re, .int dy])), (pf, .inl (cI, 36, .inl f0)), (fd, .inl (cI, 6, .inl ff)), (w5, .inr (3, [.ref pf, .int 0]))] := hD
                rcases w_32 with ⟨hr_31, h_34, h_35⟩ | ⟨hr_31, h_36⟩
                · try simp only [zl_0] at h_34
                  try simp only [zl_0] at h_35
                  obtain rfl : r_31 = 1 := hr_31.trans (by decide)
                  refine b_if_ne hx hb zl_1 (tgt := 90) dX10_party_81 (by decide) (fun c_37 => ?_) (fun c_37 => by exfalso; omega)
                  refine lv_aload_n hx hb dX10_party_90 rfl (lv_at hl 1 rfl) ?_
                  refine va_get (D := D) (ci := 10) (v := .ref nw) (C := RX10) (T := TX10) (N := 13) hx hb hT giX10 hown hK hP 0 rfl rfl 0 (by decide) (hT (Cond.fieldLink RX10 12 "DesertWire" "now" "LDesertWire$World;") mw_291) (fun _ h9 => h9) rfl dX10_party_91 ?_
                  refine va_get (D := D) (ci := 9) (v := .ref w5) (C := RX9) (T := TX9) (N := 9) hx hb hT giX9 hown hK hP 1 rfl rfl 5 (by decide) (hT (Cond.fieldLink RX10 193 "DesertWire$World" "parties" "LDesertWire$Parties;") mw_102) (fun _ h9 => h9) rfl dX10_party_94 ?_
                  refine kJi (wr := [(x, .inr (10, [.ref nw, .ref kp, .ref fu, .ref ra, .ref kr, .ref rd, .ref wd, .ref ld, .ref mt, .ref vo, .ref sh, .ref fd, .int im])), (nw, .inr (9, [.ref w0, .ref w1, .ref w2, .ref w3, .ref w4, .ref w5, .int wt, .int re, .int dy])), (fd, .inl (cI, 6, .inl ff))]) (va_runV (As := []) (rest := []) ⟨hx, hb, hml, hown, hT⟩ (c_X3_add l D cI w5 pf H.size f0) (cwV 0 hT (gV_in mw_708 mw_705 mw_706 mw_707 mw_4) rfl rfl rfl (by decide +kernel) ⟨Nat.le_of_ble_eq_true rfl, Nat.le_of_ble_eq_true rfl⟩) (kRecv (own := "") (q0 := 4) (ci := 3) hK hP hD hN rfl rfl [4, 2] rfl (by decide)) rfl rfl hl.1 rfl (lv_room (Nat.le_of_ble_eq_true rfl)) dX10_party_97 ⟨Nat.le_of_ble_eq_true rfl, Nat.le_of_ble_eq_true rfl⟩) hP hD hS hA [4, 2] [0, 1, 3] rfl rfl (by decide) (by decide) (fun r_38 g_40 H locs w_39 hP hD hS => ?_)
                  have hP : va_P D vwCl [(x, .inr (10, [.ref nw, .ref kp, .ref fu, .ref ra, .ref kr, .ref rd, .ref wd, .ref ld, .ref mt, .ref vo, .ref sh, .ref fd, .int im])), (nw, .inr (9, [.ref w0, .ref w1, .ref w2, .ref w3, .ref w4, .ref w5, .int wt, .int re, .int dy])), (fd, .inl (cI, 6, .inl ff)), (w5, .inr (3, [.ref pf, .int 1])), (pf, .inl (cI, 36, .inl g_40))] H := hP
                  have hD : va_D A [(x, .inr (10, [.ref nw, .ref kp, .ref fu, .ref ra, .ref kr, .ref rd, .ref wd, .ref ld, .ref mt, .ref vo, .ref sh, .ref fd, .int im])), (nw, .inr (9, [.ref w0, .ref w1, .ref w2, .ref w3, .ref w4, .ref w5, .int wt, .int re, .int dy])), (fd, .inl (cI, 6, .inl ff)), (w5, .inr (3, [.ref pf, .int 1])), (pf, .inl (cI, 36, .inl g_40))] := hD
                  have hr_38 := w_39
                  obtain rfl : r_38 = 0 := hr_38.trans (by decide)
                  refine lv_istore (lv' := [(6, .int 0), (5, .int 1), (0, .ref x), (1, .int a), (2, .int b), (3, .int d), (4, .int g)]) hx hb dX10_party_100 hl (by decide) rfl (fun ls hl => ?_)
                  refine lv_aload_n hx hb dX10_party_102 rfl (lv_at hl 2 rfl) ?_
                  refine va_get (D := D) (ci := 10) (v := .ref nw) (C := RX10) (T := TX10) (N := 13) hx hb hT giX10 hown hK hP 0 rfl rfl 0 (by decide) (hT (Cond.fieldLink RX10 12 "DesertWire" "now" "LDesertWire$World;") mw_291) (fun _ h9 => h9) rfl dX10_party_103 ?_
                  refine va_get (D := D) (ci := 9) (v := .ref w5) (C := RX9) (T := TX9) (N := 9) hx hb hT giX9 hown hK hP 1 rfl rfl 5 (by decide) (hT (Cond.fieldLink RX10 193 "DesertWire$World" "parties" "LDesertWire$Parties;") mw_102) (fun _ h9 => h9) rfl dX10_party_106 ?_
                  refine lv_iload hx hb dX10_party_109 (lv_at hl 0 rfl) ?_
                  refine lv_iconst (v := 0) hx hb dX10_party_111 (by decide) ?_
                  refine lv_iload_n hx hb dX10_party_112 rfl (lv_at hl 3 rfl) ?_
                  refine kJv (wr := [(x, .inr (10, [.ref nw, .ref kp, .ref fu, .ref ra, .ref kr, .ref rd, .ref wd, .ref ld, .ref mt, .ref vo, .ref sh, .ref fd, .int im])), (nw, .inr (9, [.ref w0, .ref w1, .ref w2, .ref w3, .ref w4, .ref w5, .int wt, .int re, .int dy])), (fd, .inl (cI, 6, .inl ff))]) (va_runV (As := [.int 0, .int 0, .int a]) (rest := []) ⟨hx, hb, hml, hown, hT⟩ (c_X3_set l D cI w5 pf H.size 1 g_40 0 0 a) (cwV 3 hT (gV_in mw_713 mw_710 mw_711 mw_712 mw_4) rfl rfl rfl (by decide +kernel) ⟨Nat.le_of_ble_eq_true rfl, Nat.le_of_ble_eq_true rfl⟩) (kRecv (own := "") (q0 := 3) (ci := 3) hK hP hD hN rfl rfl [3, 4] rfl (by decide)) rfl rfl hl.1 rfl (lv_room (Nat.le_of_ble_eq_true rfl)) dX10_party_113 ⟨Nat.le_of_ble_eq_true rfl, Nat.le_of_ble_eq_true rfl⟩) hP hD hS hA [3, 4] [0, 1, 2] rfl rfl (by decide) (by decide) (fun g_43 H locs w_42 hP hD hS => ?_)
                  have hP : va_P D vwCl [(x, .inr (10, [.ref nw, .ref kp, .ref fu, .ref ra, .ref kr, .ref rd, .ref wd, .ref ld, .ref mt, .ref vo, .ref sh, .ref fd, .int im])), (nw, .inr (9, [.ref w0, .ref w1, .ref w2, .ref w3, .ref w4, .ref w5, .int wt, .int re, .int dy])), (fd, .inl (cI, 6, .inl ff)), (w5, .inr (3, [.ref pf, .int 1])), (pf, .inl (cI, 36, .inl g_43))] H := hP
                  have hD : va_D A [(x, .inr (10, [.ref nw, .ref kp, .ref fu, .ref ra, .ref kr, .ref rd, .ref wd, .ref ld, .ref mt, .ref vo, .ref sh, .ref fd, .int im])), (nw, .inr (9, [.ref w0, .ref w1, .ref w2, .ref w3, .ref w4, .ref w5, .int wt, .int re, .int dy])), (fd, .inl (cI, 6, .inl ff)), (w5, .inr (3, [.ref pf, .int 1])), (pf, .inl (cI, 36, .inl g_43))] := hD
                  refine lv_aload_n hx hb dX10_party_116 rfl (lv_at hl 2 rfl) ?_
                  refine va_get (D := D) (ci := 10) (v := .ref nw) (C := RX10) (T := TX10) (N := 13) hx hb hT giX10 hown hK hP 0 rfl rfl 0 (by decide) (hT (Cond.fieldLink RX10 12 "DesertWire" "now" "LDesertWire$World;") mw_291) (fun _ h9 => h9) rfl dX10_party_117 ?_
                  refine va_get (D := D) (ci := 9) (v := .ref w5) (C := RX9) (T := TX9) (N := 9) hx hb hT giX9 hown hK hP 1 rfl rfl 5 (by decide) (hT (Cond.fieldLink RX10 193 "DesertWire$World" "parties" "LDesertWire$Parties;") mw_102) (fun _ h9 => h9) rfl dX10_party_120 ?_
                  refine lv_iload hx hb dX10_party_123 (lv_at hl 0 rfl) ?_
                  refine lv_iconst (v := 1) hx hb dX10_party_125 (by decide) ?_
                  refine lv_iload_n hx hb dX10_party_126 rfl (lv_at hl 4 rfl) ?_
                  refine kJv (wr := [(x, .inr (10, [.ref nw, .ref kp, .ref fu, .ref ra, .ref kr, .ref rd, .ref wd, .ref ld, .ref mt, .ref vo, .ref sh, .ref fd, .int im])), (nw, .inr (9, [.ref w0, .ref w1, .ref w2, .ref w3, .ref w4, .ref w5, .int wt, .int re, .int dy])), (fd, .inl (cI, 6, .inl ff))]) (va_runV (As := [.int 0, .int 1, .int b]) (rest := []) ⟨hx, hb, hml, hown, hT⟩ (c_X3_set l D cI w5 pf H.size 1 g_43 0 1 b) (cwV 3 hT (gV_in mw_713 mw_710 mw_711 mw_712 mw_4) rfl rfl rfl (by decide +kernel) ⟨Nat.le_of_ble_eq_true rfl, Nat.le_of_ble_eq_true rfl⟩) (kRecv (own := "") (q0 := 3) (ci := 3) hK hP hD hN rfl rfl [3, 4] rfl (by decide)) rfl rfl hl.1 rfl (lv_room (Nat.le_of_ble_eq_true rfl)) dX10_party_127 ⟨Nat.le_of_ble_eq_true rfl, Nat.le_of_ble_eq_true rfl⟩) hP hD hS hA [3, 4] [0, 1, 2] rfl rfl (by decide) (by decide) (fun g_46 H locs w_45 hP hD hS => ?_)
                  have hP : va_P D vwCl [(x, .inr (10, [.ref nw, .ref kp, .ref fu, .ref ra, .ref kr, .ref rd, .ref wd, .ref ld, .ref mt, .ref vo, .ref sh, .ref fd, .int im])), (nw, .inr (9, [.ref w0, .ref w1, .ref w2, .ref w3, .ref w4, .ref w5, .int wt, .int re, .int dy])), (fd, .inl (cI, 6, .inl ff)), (w5, .inr (3, [.ref pf, .int 1])), (pf, .inl (cI, 36, .inl g_46))] H := hP
                  have hD : va_D A [(x, .inr (10, [.ref nw, .ref kp, .ref fu, .ref ra, .ref kr, .ref rd, .ref wd, .ref ld, .ref mt, .ref vo, .ref sh, .ref fd, .int im])), (nw, .inr (9, [.ref w0, .ref w1, .ref w2, .ref w3, .ref w4, .ref w5, .int wt, .int re, .int dy])), (fd, .inl (cI, 6, .inl ff)), (w5, .inr (3, [.ref pf, .int 1])), (pf, .inl (cI, 36, .inl g_46))] := hD
                  refine lv_aload_n hx hb dX10_party_130 rfl (lv_at hl 2 rfl) ?_
                  refine va_get (D := D) (ci := 10) (v := .ref nw) (C := RX10) (T := TX10) (N := 13) hx hb hT giX10 hown hK hP 0 rfl rfl 0 (by decide) (hT (Cond.fieldLink RX10 12 "DesertWire" "now" "LDesertWire$World;") mw_291) (fun _ h9 => h9) rfl dX10_party_131 ?_
                  refine va_get (D := D) (ci := 9) (v := .ref w5) (C := RX9) (T := TX9) (N := 9) hx hb hT giX9 hown hK hP 1 rfl rfl 5 (by decide) (hT (Cond.fieldLink RX10 193 "DesertWire$World" "parties" "LDesertWire$Parties;") mw_102) (fun _ h9 => h9) rfl dX10_party_134 ?_
                  refine lv_iload hx hb dX10_party_137 (lv_at hl 0 rfl) ?_
                  refine lv_iconst (v := 2) hx hb dX10_party_139 (by decide) ?_
                  refine lv_iload_n hx hb dX10_party_140 rfl (lv_at hl 5 rfl) ?_
                  refine lv_bipush (v := 100) hx hb dX10_party_141 (by decide) ?_
                  refine lv_idiv hx hb dX10_party_143 (by decide) ?_
                  refine lv_topi (fun v_47 ev_47 => ?_)
                  have tv_47 : v_47.toInt = d.toInt / 100 := k_divv (w := 0) ev_47 zl_100 (by omega) (by decide)
                  have lo_v_47 := k_lo v_47
                  have hi_v_47 := k_hi v_47
                  refine kJv (wr := [(x, .inr (10, [.ref nw, .ref kp, .ref fu, .ref ra, .ref kr, .ref rd, .ref wd, .ref ld, .ref mt, .ref vo, .ref sh, .ref fd, .int im])), (nw, .inr (9, [.ref w0, .ref w1, .ref w2, .ref w3, .ref w4, .ref w5, .int wt, .int re, .int dy])), (fd, .inl (cI, 6, .inl ff))]) (va_runV (As := [.int 0, .int 2, .int v_47]) (rest := []) ⟨hx, hb, hml, hown, hT⟩ (c_X3_set l D cI w5 pf H.size 1 g_46 0 2 v_47) (cwV 3 hT (gV_in mw_713 mw_710 mw_711 mw_712 mw_4) rfl rfl rfl (by decide +kernel) ⟨Nat.le_of_ble_eq_true rfl, Nat.le_of_ble_eq_true rfl⟩) (kRecv (own := "") (q0 := 3) (ci := 3) hK hP hD hN rfl rfl [3, 4] rfl (by decide)) rfl rfl hl.1 rfl (lv_room (Nat.le_of_ble_eq_true rfl)) dX10_party_144 ⟨Nat.le_of_ble_eq_true rfl, Nat.le_of_ble_eq_true rfl⟩) hP hD hS hA [3, 4] [0, 1, 2] rfl rfl (by decide) (by decide) (fun g_50 H locs w_49 hP hD hS => ?_)
                  have hP : va_P D vwCl [(x, .inr (10, [.ref nw, .ref kp, .ref fu, .ref ra, .ref kr, .ref rd, .ref wd, .ref ld, .ref mt, .ref vo, .ref sh, .ref fd, .int im])), (nw, .inr (9, [.ref w0, .ref w1, .ref w2, .ref w3, .ref w4, .ref w5, .int wt, .int re, .int dy])), (fd, .inl (cI, 6, .inl ff)), (w5, .inr (3, [.ref pf, .int 1])), (pf, .inl (cI, 36, .inl g_50))] H := hP
                  have hD : va_D A [(x, .inr (10, [.ref nw, .ref kp, .ref fu, .ref ra, .ref kr, .ref rd, .ref wd, .ref ld, .ref mt, .ref vo, .ref sh, .ref fd, .int im])), (nw, .inr (9, [.ref w0, .ref w1, .ref w2, .ref w3, .ref w4, .ref w5, .int wt, .int re, .int dy])), (fd, .inl (cI, 6, .inl ff)), (w5, .inr (3, [.ref pf, .int 1])), (pf, .inl (cI, 36, .inl g_50))] := hD
                  refine lv_aload_n hx hb dX10_party_147 rfl (lv_at hl 2 rfl) ?_
                  refine va_get (D := D) (ci := 10) (v := .ref nw) (C := RX10) (T := TX10) (N := 13) hx hb hT giX10 hown hK hP 0 rfl rfl 0 (by decide) (hT (Cond.fieldLink RX10 12 "DesertWire" "now" "LDesertWire$World;") mw_291) (fun _ h9 => h9) rfl dX10_party_148 ?_
                  refine va_get (D := D) (ci := 9) (v := .ref w5) (C := RX9) (T := TX9) (N := 9) hx hb hT giX9 hown hK hP 1 rfl rfl 5 (by decide) (hT (Cond.fieldLink RX10 193 "DesertWire$World" "parties" "LDesertWire$Parties;") mw_102) (fun _ h9 => h9) rfl dX10_party_151 ?_
                  refine lv_iload hx hb dX10_party_154 (lv_at hl 0 rfl) ?_
                  refine lv_iconst (v := 3) hx hb dX10_party_156 (by decide) ?_
                  refine lv_iload_n hx hb dX10_party_157 rfl (lv_at hl 5 rfl) ?_
                  refine lv_bipush (v := 100) hx hb dX10_party_158 (by decide) ?_
                  refine lv_irem hx hb dX10_party_160 (by decide) ?_
                  refine lv_topi (fun v_51 ev_51 => ?_)
                  have tv_51 : v_51.toInt = d.toInt % 100 := k_remv (w := 0) ev_51 zl_100 (by omega) (by decide)
                  have lo_v_51 := k_lo v_51
                  have hi_v_51 := k_hi v_51
                  refine kJv (wr := [(x, .inr (10, [.ref nw, .ref kp, .ref fu, .ref ra, .ref kr, .ref rd, .ref wd, .ref ld, .ref mt, .ref vo, .ref sh, .ref fd, .int im])), (nw, .inr (9, [.ref w0, .ref w1, .ref w2, .ref w3, .ref w4, .ref w5, .int wt, .int re, .int dy])), (fd, .inl (cI, 6, .inl ff))]) (va_runV (As := [.int 0, .int 3, .int v_51]) (rest := []) ⟨hx, hb, hml, hown, hT⟩ (c_X3_set l D cI w5 pf H.size 1 g_50 0 3 v_51) (cwV 3 hT (gV_in mw_713 mw_710 mw_711 mw_712 mw_4) rfl rfl rfl (by decide +kernel) ⟨Nat.le_of_ble_eq_true rfl, Nat.le_of_ble_eq_true rfl⟩) (kRecv (own := "") (q0 := 3) (ci := 3) hK hP hD hN rfl rfl [3, 4] rfl (by decide)) rfl rfl hl.1 rfl (lv_room (Nat.le_of_ble_eq_true rfl)) dX10_party_161 ⟨Nat.le_of_ble_eq_true rfl, Nat.le_of_ble_eq_true rfl⟩) hP hD hS hA [3, 4] [0, 1, 2] rfl rfl (by decide) (by decide) (fun g_54 H locs w_53 hP hD hS => ?_)
                  have hP : va_P D vwCl [(x, .inr (10, [.ref nw, .ref kp, .ref fu, .ref ra, .ref kr, .ref rd, .ref wd, .ref ld, .ref mt, .ref vo, .ref sh, .ref fd, .int im])), (nw, .inr (9, [.ref w0, .ref w1, .ref w2, .ref w3, .ref w4, .ref w5, .int wt, .int re, .int dy])), (fd, .inl (cI, 6, .inl ff)), (w5, .inr (3, [.ref pf, .int 1])), (pf, .inl (cI, 36, .inl g_54))] H := hP
                  have hD : va_D A [(x, .inr (10, [.ref nw, .ref kp, .ref fu, .ref ra, .ref kr, .ref rd, .ref wd, .ref ld, .ref mt, .ref vo, .ref sh, .ref fd, .int im])), (nw, .inr (9, [.ref w0, .ref w1, .ref w2, .ref w3, .ref w4, .ref w5, .int wt, .int re, .int dy])), (fd, .inl (cI, 6, .inl ff)), (w5, .inr (3, [.ref pf, .int 1])), (pf, .inl (cI, 36, .inl g_54))] := hD
                  refine lv_aload_n hx hb dX10_party_164 rfl (lv_at hl 2 rfl) ?_
                  refine va_get (D := D) (ci := 10) (v := .ref nw) (C := RX10) (T := TX10) (N := 13) hx hb hT giX10 hown hK hP 0 rfl rfl 0 (by decide) (hT (Cond.fieldLink RX10 12 "DesertWire" "now" "LDesertWire$World;") mw_291) (fun _ h9 => h9) rfl dX10_party_165 ?_
                  refine va_get (D := D) (ci := 9) (v := .ref w5) (C := RX9) (T := TX9) (N := 9) hx hb hT giX9 hown hK hP 1 rfl rfl 5 (by decide) (hT (Cond.fieldLink RX10 193 "DesertWire$World" "parties" "LDesertWire$Parties;") mw_102) (fun _ h9 => h9) rfl dX10_party_168 ?_
                  refine lv_iload hx hb dX10_party_171 (lv_at hl 0 rfl) ?_
                  refine lv_iconst (v := 4) hx hb dX10_party_173 (by decide) ?_
                  refine lv_iload hx hb dX10_party_174 (lv_at hl 6 rfl) ?_
                  refine kJv (wr := [(x, .inr (10, [.ref nw, .ref kp, .ref fu, .ref ra, .ref kr, .ref rd, .ref wd, .ref ld, .ref mt, .ref vo, .ref sh, .ref fd, .int im])), (nw, .inr (9, [.ref w0, .ref w1, .ref w2, .ref w3, .ref w4, .ref w5, .int wt, .int re, .int dy])), (fd, .inl (cI, 6, .inl ff))]) (va_runV (As := [.int 0, .int 4, .int g]) (rest := []) ⟨hx, hb, hml, hown, hT⟩ (c_X3_set l D cI w5 pf H.size 1 g_54 0 4 g) (cwV 3 hT (gV_in mw_713 mw_710 mw_711 mw_712 mw_4) rfl rfl rfl (by decide +kernel) ⟨Nat.le_of_ble_eq_true rfl, Nat.le_of_ble_eq_true rfl⟩) (kRecv (own := "") (q0 := 3) (ci := 3) hK hP hD hN rfl rfl [3, 4] rfl (by decide)) rfl rfl hl.1 rfl (lv_room (Nat.le_of_ble_eq_true rfl)) dX10_party_176 ⟨Nat.le_of_ble_eq_true rfl, Nat.le_of_ble_eq_true rfl⟩) hP hD hS hA [3, 4] [0, 1, 2] rfl rfl (by decide) (by decide) (fun g_57 H locs w_56 hP hD hS => ?_)
                  have hP : va_P D vwCl [(x, .inr (10, [.ref nw, .ref kp, .ref fu, .ref ra, .ref kr, .ref rd, .ref wd, .ref ld, .ref mt, .ref vo, .ref sh, .ref fd, .int im])), (nw, .inr (9, [.ref w0, .ref w1, .ref w2, .ref w3, .ref w4, .ref w5, .int wt, .int re, .int dy])), (fd, .inl (cI, 6, .inl ff)), (w5, .inr (3, [.ref pf, .int 1])), (pf, .inl (cI, 36, .inl g_57))] H := hP
                  have hD : va_D A [(x, .inr (10, [.ref nw, .ref kp, .ref fu, .ref ra, .ref kr, .ref rd, .ref wd, .ref ld, .ref mt, .ref vo, .ref sh, .ref fd, .int im])), (nw, .inr (9, [.ref w0, .ref w1, .ref w2, .ref w3, .ref w4, .ref w5, .int wt, .int re, .int dy])), (fd, .inl (cI, 6, .inl ff)), (w5, .inr (3, [.ref pf, .int 1])), (pf, .inl (cI, 36, .inl g_57))] := hD
                  refine lv_iload hx hb dX10_party_179 (lv_at hl 0 rfl) ?_
                  exact hRet () [] (by unfold sp_party; repeat (first | rw [if_pos (by omega)] | rw [if_neg (by omega)])) hP hD (by decide) rfl hS rfl dX10_party_181
                · (try simp only [zl_0] at h_36); exfalso; omega
              · refine lv_aload_n hx hb dX10_party_65 rfl (lv_at hl 1 rfl) ?_
                refine lv_iconst (v := 1) hx hb dX10_party_66 (by decide) ?_
                refine kJi (wr := [(nw, .inr (9, [.ref w0, .ref w1, .ref w2, .ref w3, .ref w4, .ref w5, .int wt, .int re, .int dy])), (w5, .inr (3, [.ref pf, .int 0])), (pf, .inl (cI, 36, .inl f0))]) (va_runV (As := [.int 1]) (rest := []) ⟨hx, hb, hml, hown, hT⟩ (c_X10_finding l D cI x nw kp fu ra kr rd wd ld mt vo sh fd H.size im ff 1 (by first | omega | (simp only [zl_1] <;> omega) | decide | assumption | rfl) (by first | omega | (simp only [zl_1] <;> omega) | decide | assumption | rfl)) (cwV 1 hT (gV_in mw_338 mw_335 mw_337 mw_p1_0 mw_1) rfl rfl rfl (by decide +kernel) ⟨Nat.le_of_ble_eq_true rfl, Nat.le_of_ble_eq_true rfl⟩) (kRecv (own := "") (q0 := 0) (ci := 10) hK hP hD hN rfl rfl [0, 4] rfl (by decide)) rfl rfl hl.1 rfl (lv_room (Nat.le_of_ble_eq_true rfl)) dX10_party_67 ⟨Nat.le_of_ble_eq_true rfl, Nat.le_of_ble_eq_true rfl⟩) hP hD hS hA [0, 4] [1, 2, 3] rfl rfl (by decide) (by decide) (fun r_58 u_60 H locs w_59 hP hD hS => ?_)
                have hP : va_P D vwCl [(nw, .inr (9, [.ref w0, .ref w1, .ref w2, .ref w3, .ref w4, .ref w5, .int wt, .int re, .int dy])), (w5, .inr (3, [.ref pf, .int 0])), (pf, .inl (cI, 36, .inl f0))] H := hP
                have hD : va_D A [(nw, .inr (9, [.ref w0, .ref w1, .ref w2, .ref w3, .ref w4, .ref w5, .int wt, .int re, .int dy])), (w5, .inr (3, [.ref pf, .int 0])), (pf, .inl (cI, 36, .inl f0))] := hD
                have hr_58 := w_59
                obtain rfl : r_58 = (-1000001) := hr_58.trans (by decide)
                exact hRet () [] (by unfold sp_party; repeat (first | rw [if_pos (by omega)] | rw [if_neg (by omega)])) hP hD (by decide) rfl hS rfl dX10_party_70
    · refine lv_iload_n hx hb dX10_party_12 rfl (lv_at hl 2 rfl) ?_
      refine lv_iconst (v := (-1)) hx hb dX10_party_13 (by decide) ?_
      refine b_icmp_ne hx hb rfl zl_m1 (tgt := 33) dX10_party_14 (by decide) (fun c_61 => ?_) (fun c_61 => ?_)
      · refine lv_iconst (v := 0) hx hb dX10_party_33 (by decide) ?_
        refine lv_istore (lv' := [(5, .int 0), (0, .ref x), (1, .int a), (2, .int b), (3, .int d), (4, .int g)]) hx hb dX10_party_34 hl (by decide) rfl (fun ls hl => ?_)
        refine lv_iload hx hb dX10_party_36 (lv_at hl 0 rfl) ?_
        refine b_if_eq hx hb zl_0 (tgt := 65) dX10_party_38 (by decide) (fun c_62 => ?_) (fun c_62 => by exfalso; omega)
        refine lv_aload_n hx hb dX10_party_65 rfl (lv_at hl 1 rfl) ?_
        refine lv_iconst (v := 1) hx hb dX10_party_66 (by decide) ?_
        refine kJi (wr := [(nw, .inr (9, [.ref w0, .ref w1, .ref w2, .ref w3, .ref w4, .ref w5, .int wt, .int re, .int dy])), (w5, .inr (3, [.ref pf, .int 0])), (pf, .inl (cI, 36, .inl f0))]) (va_runV (As := [.int 1]) (rest := []) ⟨hx, hb, hml, hown, hT⟩ (c_X10_finding l D cI x nw kp fu ra kr rd wd ld mt vo sh fd H.size im ff 1 (by first | omega | (simp only [zl_1] <;> omega) | decide | assumption | rfl) (by first | omega | (simp only [zl_1] <;> omega) | decide | assumption | rfl)) (cwV 1 hT (gV_in mw_338 mw_335 mw_337 mw_p1_0 mw_1) rfl rfl rfl (by decide +kernel) ⟨Nat.le_of_ble_eq_true rfl, Nat.le_of_ble_eq_true rfl⟩) (kRecv (own := "") (q0 := 0) (ci := 10) hK hP hD hN rfl rfl [0, 4] rfl (by decide)) rfl rfl hl.1 rfl (lv_room (Nat.le_of_ble_eq_true rfl)) dX10_party_67 ⟨Nat.le_of_ble_eq_true rfl, Nat.le_of_ble_eq_true rfl⟩) hP hD hS hA [0, 4] [1, 2, 3] rfl rfl (by decide) (by decide) (fun r_63 u_65 H locs w_64 hP hD hS => ?_)
        have hP : va_P D vwCl [(nw, .inr (9, [.ref w0, .ref w1, .ref w2, .ref w3, .ref w4, .ref w5, .int wt, .int re, .int dy])), (w5, .inr (3, [.ref pf, .int 0])), (pf, .inl (cI, 36, .inl f0))] H := hP
        have hD : va_D A [(nw, .inr (9, [.ref w0, .ref w1, .ref w2, .ref w3, .ref w4, .ref w5, .int wt, .int re, .int dy])), (w5, .inr (3, [.ref pf, .int 0])), (pf, .inl (cI, 36, .inl f0))] := hD
        have hr_63 := w_64
        obtain rfl : r_63 = (-1000001) := hr_63.trans (by decide)
        exact hRet () [] (by unfold sp_party; repeat (first | rw [if_pos (by omega)] | rw [if_neg (by omega)])) hP hD (by decide) rfl hS rfl dX10_party_70
      · refine lv_iload hx hb dX10_party_17 (lv_at hl 4 rfl) ?_
        refine b_if_lt hx hb rfl (tgt := 33) dX10_party_19 (by decide) (fun c_66 => ?_) (fun c_66 => ?_)
        · refine lv_iconst (v := 0) hx hb dX10_party_33 (by decide) ?_
          refine lv_istore (lv' := [(5, .int 0), (0, .ref x), (1, .int a), (2, .int b), (3, .int d), (4, .int g)]) hx hb dX10_party_34 hl (by decide) rfl (fun ls hl => ?_)
          refine lv_iload hx hb dX10_party_36 (lv_at hl 0 rfl) ?_
          refine b_if_eq hx hb zl_0 (tgt := 65) dX10_party_38 (by decide) (fun c_67 => ?_) (fun c_67 => by exfalso; omega)
          refine lv_aload_n hx hb dX10_party_65 rfl (lv_at hl 1 rfl) ?_
          refine lv_iconst (v := 1) hx hb dX10_party_66 (by decide) ?_
          refine kJi (wr := [(nw, .inr (9, [.ref w0, .ref w1, .ref w2, .ref w3, .ref w4, .ref w5, .int wt, .int re, .int dy])), (w5, .inr (3, [.ref pf, .int 0])), (pf, .inl (cI, 36, .inl f0))]) (va_runV (As := [.int 1]) (rest := []) ⟨hx, hb, hml, hown, hT⟩ (c_X10_finding l D cI x nw kp fu ra kr rd wd ld mt vo sh fd H.size im ff 1 (by first | omega | (simp only [zl_1] <;> omega) | decide | assumption | rfl) (by first | omega | (simp only [zl_1] <;> omega) | decide | assumption | rfl)) (cwV 1 hT (gV_in mw_338 mw_335 mw_337 mw_p1_0 mw_1) rfl rfl rfl (by decide +kernel) ⟨Nat.le_of_ble_eq_true rfl, Nat.le_of_ble_eq_true rfl⟩) (kRecv (own := "") (q0 := 0) (ci := 10) hK hP hD hN rfl rfl [0, 4] rfl (by decide)) rfl rfl hl.1 rfl (lv_room (Nat.le_of_ble_eq_true rfl)) dX10_party_67 ⟨Nat.le_of_ble_eq_true rfl, Nat.le_of_ble_eq_true rfl⟩) hP hD hS hA [0, 4] [1, 2, 3] rfl rfl (by decide) (by decide) (fun r_68 u_70 H locs w_69 hP hD hS => ?_)
          have hP : va_P D vwCl [(nw, .inr (9, [.ref w0, .ref w1, .ref w2, .ref w3, .ref w4, .ref w5, .int wt, .int re, .int dy])), (w5, .inr (3, [.ref pf, .int 0])), (pf, .inl (cI, 36, .inl f0))] H := hP
          have hD : va_D A [(nw, .inr (9, [.ref w0, .ref w1, .ref w2, .ref w3, .ref w4, .ref w5, .int wt, .int re, .int dy])), (w5, .inr (3, [.ref pf, .int 0])), (pf, .inl (cI, 36, .inl f0))] := hD
          have hr_68 := w_69
          obtain rfl : r_68 = (-1000001) := hr_68.trans (by decide)
          exact hRet () [] (by unfold sp_party; repeat (first | rw [if_pos (by omega)] | rw [if_neg (by omega)])) hP hD (by decide) rfl hS rfl dX10_party_70
        · refine lv_iload hx hb dX10_party_22 (lv_at hl 4 rfl) ?_
          refine lv_bipush (v := 99) hx hb dX10_party_24 (by decide) ?_
          refine b_icmp_gt hx hb rfl zl_99 (tgt := 33) dX10_party_26 (by decide) (fun c_71 => ?_) (fun c_71 => ?_)
          · refine lv_iconst (v := 0) hx hb dX10_party_33 (by decide) ?_
            refine lv_istore (lv' := [(5, .int 0), (0, .ref x), (1, .int a), (2, .int b), (3, .int d), (4, .int g)]) hx hb dX10_party_34 hl (by decide) rfl (fun ls hl => ?_)
            refine lv_iload hx hb dX10_party_36 (lv_at hl 0 rfl) ?_
            refine b_if_eq hx hb zl_0 (tgt := 65) dX10_party_38 (by decide) (fun c_72 => ?_) (fun c_72 => by exfalso; omega)
            refine lv_aload_n hx hb dX10_party_65 rfl (lv_at hl 1 rfl) ?_
            refine lv_iconst (v := 1) hx hb dX10_party_66 (by decide) ?_
            refine kJi (wr := [(nw, .inr (9, [.ref w0, .ref w1, .ref w2, .ref w3, .ref w4, .ref w5, .int wt, .int re, .int dy])), (w5, .inr (3, [.ref pf, .int 0])), (pf, .inl (cI, 36, .inl f0))]) (va_runV (As := [.int 1]) (rest := []) ⟨hx, hb, hml, hown, hT⟩ (c_X10_finding l D cI x nw kp fu ra kr rd wd ld mt vo sh fd H.size im ff 1 (by first | omega | (simp only [zl_1] <;> omega) | decide | assumption | rfl) (by first | omega | (simp only [zl_1] <;> omega) | decide | assumption | rfl)) (cwV 1 hT (gV_in mw_338 mw_335 mw_337 mw_p1_0 mw_1) rfl rfl rfl (by decide +kernel) ⟨Nat.le_of_ble_eq_true rfl, Nat.le_of_ble_eq_true rfl⟩) (kRecv (own := "") (q0 := 0) (ci := 10) hK hP hD hN rfl rfl [0, 4] rfl (by decide)) rfl rfl hl.1 rfl (lv_room (Nat.le_of_ble_eq_true rfl)) dX10_party_67 ⟨Nat.le_of_ble_eq_true rfl, Nat.le_of_ble_eq_true rfl⟩) hP hD hS hA [0, 4] [1, 2, 3] rfl rfl (by decide) (by decide) (fun r_73 u_75 H locs w_74 hP hD hS => ?_)
            have hP : va_P D vwCl [(nw, .inr (9, [.ref w0, .ref w1, .ref w2, .ref w3, .ref w4, .ref w5, .int wt, .int re, .int dy])), (w5, .inr (3, [.ref pf, .int 0])), (pf, .inl (cI, 36, .inl f0))] H := hP
            have hD : va_D A [(nw, .inr (9, [.ref w0, .ref w1, .ref w2, .ref w3, .ref w4, .ref w5, .int wt, .int re, .int dy])), (w5, .inr (3, [.ref pf, .int 0])), (pf, .inl (cI, 36, .inl f0))] := hD
            have hr_73 := w_74
            obtain rfl : r_73 = (-1000001) := hr_73.trans (by decide)
            exact hRet () [] (by unfold sp_party; repeat (first | rw [if_pos (by omega)] | rw [if_neg (by omega)])) hP hD (by decide) rfl hS rfl dX10_party_70
          · refine lv_iconst (v := 1) hx hb dX10_party_29 (by decide) ?_
            refine lv_goto (tgt := 34) hx hb dX10_party_30 (by decide) ?_
            refine lv_istore (lv' := [(5, .int 1), (0, .ref x), (1, .int a), (2, .int b), (3, .int d), (4, .int g)]) hx hb dX10_party_34 hl (by decide) rfl (fun ls hl => ?_)
            refine lv_iload hx hb dX10_party_36 (lv_at hl 0 rfl) ?_
            refine b_if_eq hx hb zl_1 (tgt := 65) dX10_party_38 (by decide) (fun c_76 => by exfalso; omega) (fun c_76 => ?_)
            refine lv_iload_n hx hb dX10_party_41 rfl (lv_at hl 4 rfl) ?_
            refine lv_bipush (v := 100) hx hb dX10_party_42 (by decide) ?_
            refine b_icmp_lt hx hb rfl zl_100 (tgt := 65) dX10_party_44 (by decide) (fun c_77 => ?_) (fun c_77 => ?_)
            · refine lv_aload_n hx hb dX10_party_65 rfl (lv_at hl 1 rfl) ?_
              refine lv_iconst (v := 1) hx hb dX10_party_66 (by decide) ?_
              refine kJi (wr := [(nw, .inr (9, [.ref w0, .ref w1, .ref w2, .ref w3, .ref w4, .ref w5, .int wt, .int re, .int dy])), (w5, .inr (3, [.ref pf, .int 0])), (pf, .inl (cI, 36, .inl f0))]) (va_runV (As := [.int 1]) (rest := []) ⟨hx, hb, hml, hown, hT⟩ (c_X10_finding l D cI x nw kp fu ra kr rd wd ld mt vo sh fd H.size im ff 1 (by first | omega | (simp only [zl_1] <;> omega) | decide | assumption | rfl) (by first | omega | (simp only [zl_1] <;> omega) | decide | assumption | rfl)) (cwV 1 hT (gV_in mw_338 mw_335 mw_337 mw_p1_0 mw_1) rfl rfl rfl (by decide +kernel) ⟨Nat.le_of_ble_eq_true rfl, Nat.le_of_ble_eq_true rfl⟩) (kRecv (own := "") (q0 := 0) (ci := 10) hK hP hD hN rfl rfl [0, 4] rfl (by decide)) rfl rfl hl.1 rfl (lv_room (Nat.le_of_ble_eq_true rfl)) dX10_party_67 ⟨Nat.le_of_ble_eq_true rfl, Nat.le_of_ble_eq_true rfl⟩) hP hD hS hA [0, 4] [1, 2, 3] rfl rfl (by decide) (by decide) (fun r_78 u_80 H locs w_79 hP hD hS => ?_)
              have hP : va_P D vwCl [(nw, .inr (9, [.ref w0, .ref w1, .ref w2, .ref w3, .ref w4, .ref w5, .int wt, .int re, .int dy])), (w5, .inr (3, [.ref pf, .int 0])), (pf, .inl (cI, 36, .inl f0))] H := hP
              have hD : va_D A [(nw, .inr (9, [.ref w0, .ref w1, .ref w2, .ref w3, .ref w4, .ref w5, .int wt, .int re, .int dy])), (w5, .inr (3, [.ref pf, .int 0])), (pf, .inl (cI, 36, .inl f0))] := hD
              have hr_78 := w_79
              obtain rfl : r_78 = (-1000001) := hr_78.trans (by decide)
              exact hRet () [] (by unfold sp_party; repeat (first | rw [if_pos (by omega)] | rw [if_neg (by omega)])) hP hD (by decide) rfl hS rfl dX10_party_70
            · refine lv_iload_n hx hb dX10_party_47 rfl (lv_at hl 4 rfl) ?_
              refine lv_bipush (v := 100) hx hb dX10_party_48 (by decide) ?_
              refine lv_idiv hx hb dX10_party_50 (by decide) ?_
              refine lv_topi (fun v_81 ev_81 => ?_)
              have tv_81 : v_81.toInt = d.toInt / 100 := k_divv (w := 0) ev_81 zl_100 (by omega) (by decide)
              have lo_v_81 := k_lo v_81
              have hi_v_81 := k_hi v_81
              refine lv_bipush (v := 50) hx hb dX10_party_51 (by decide) ?_
              refine b_icmp_gt hx hb rfl zl_50 (tgt := 65) dX10_party_53 (by decide) (fun c_82 => ?_) (fun c_82 => ?_)
              · refine lv_aload_n hx hb dX10_party_65 rfl (lv_at hl 1 rfl) ?_
                refine lv_iconst (v := 1) hx hb dX10_party_66 (by decide) ?_
                refine kJi (wr := [(nw, .inr (9, [.ref w0, .ref w1, .ref w2, .ref w3, .ref w4, .ref w5, .int wt, .int re, .int dy])), (w5, .inr (3, [.ref pf, .int 0])), (pf, .inl (cI, 36, .inl f0))]) (va_runV (As := [.int 1]) (rest := []) ⟨hx, hb, hml, hown, hT⟩ (c_X10_finding l D cI x nw kp fu ra kr rd wd ld mt vo sh fd H.size im ff 1 (by first | omega | (simp only [zl_1] <;> omega) | decide | assumption | rfl) (by first | omega | (simp only [zl_1] <;> omega) | decide | assumption | rfl)) (cwV 1 hT (gV_in mw_338 mw_335 mw_337 mw_p1_0 mw_1) rfl rfl rfl (by decide +kernel) ⟨Nat.le_of_ble_eq_true rfl, Nat.le_of_ble_eq_true rfl⟩) (kRecv (own := "") (q0 := 0) (ci := 10) hK hP hD hN rfl rfl [0, 4] rfl (by decide)) rfl rfl hl.1 rfl (lv_room (Nat.le_of_ble_eq_true rfl)) dX10_party_67 ⟨Nat.le_of_ble_eq_true rfl, Nat.le_of_ble_eq_true rfl⟩) hP hD hS hA [0, 4] [1, 2, 3] rfl rfl (by decide) (by decide) (fun r_83 u_85 H locs w_84 hP hD hS => ?_)
                have hP : va_P D vwCl [(nw, .inr (9, [.ref w0, .ref w1, .ref w2, .ref w3, .ref w4, .ref w5, .int wt, .int re, .int dy])), (w5, .inr (3, [.ref pf, .int 0])), (pf, .inl (cI, 36, .inl f0))] H := hP
                have hD : va_D A [(nw, .inr (9, [.ref w0, .ref w1, .ref w2, .ref w3, .ref w4, .ref w5, .int wt, .int re, .int dy])), (w5, .inr (3, [.ref pf, .int 0])), (pf, .inl (cI, 36, .inl f0))] := hD
                have hr_83 := w_84
                obtain rfl : r_83 = (-1000001) := hr_83.trans (by decide)
                exact hRet () [] (by unfold sp_party; repeat (first | rw [if_pos (by omega)] | rw [if_neg (by omega)])) hP hD (by decide) rfl hS rfl dX10_party_70
              · refine lv_iload_n hx hb dX10_party_56 rfl (lv_at hl 4 rfl) ?_
                refine lv_bipush (v := 100) hx hb dX10_party_57 (by decide) ?_
                refine lv_irem hx hb dX10_party_59 (by decide) ?_
                refine lv_topi (fun v_86 ev_86 => ?_)
                have tv_86 : v_86.toInt = d.toInt % 100 := k_remv (w := 0) ev_86 zl_100 (by omega) (by decide)
                have lo_v_86 := k_lo v_86
                have hi_v_86 := k_hi v_86
                refine lv_bipush (v := 50) hx hb dX10_party_60 (by decide) ?_
                refine b_icmp_le hx hb rfl zl_50 (tgt := 71) dX10_party_62 (by decide) (fun c_87 => ?_) (fun c_87 => ?_)
                · refine lv_aload_n hx hb dX10_party_71 rfl (lv_at hl 1 rfl) ?_
                  refine va_get (D := D) (ci := 10) (v := .ref nw) (C := RX10) (T := TX10) (N := 13) hx hb hT giX10 hown hK hP 0 rfl rfl 0 (by decide) (hT (Cond.fieldLink RX10 12 "DesertWire" "now" "LDesertWire$World;") mw_291) (fun _ h9 => h9) rfl dX10_party_72 ?_
                  refine va_get (D := D) (ci := 9) (v := .ref w5) (C := RX9) (T := TX9) (N := 9) hx hb hT giX9 hown hK hP 1 rfl rfl 5 (by decide) (hT (Cond.fieldLink RX10 193 "DesertWire$World" "parties" "LDesertWire$Parties;") mw_102) (fun _ h9 => h9) rfl dX10_party_75 ?_
                  refine kJi (wr := [(x, .inr (10, [.ref nw, .ref kp, .ref fu, .ref ra, .ref kr, .ref rd, .ref wd, .ref ld, .ref mt, .ref vo, .ref sh, .ref fd, .int im])), (nw, .inr (9, [.ref w0, .ref w1, .ref w2, .ref w3, .ref w4, .ref w5, .int wt, .int re, .int dy])), (pf, .inl (cI, 36, .inl f0)), (fd, .inl (cI, 6, .inl ff))]) (va_runV (As := []) (rest := []) ⟨hx, hb, hml, hown, hT⟩ (c_X3_hasRoom l D cI w5 pf H.size 0) (cwV 0 hT (gV_in mw_704 mw_701 mw_702 mw_703 mw_4) rfl rfl rfl (by decide +kernel) ⟨Nat.le_of_ble_eq_true rfl, Nat.le_of_ble_eq_true rfl⟩) (kRecv (own := "") (q0 := 2) (ci := 3) hK hP hD hN rfl rfl [2] rfl (by decide)) rfl rfl hl.1 rfl (lv_room (Nat.le_of_ble_eq_true rfl)) dX10_party_78 ⟨Nat.le_of_ble_eq_true rfl, Nat.le_of_ble_eq_true rfl⟩) hP hD hS hA [2] [0, 1, 3, 4] rfl rfl (by decide) (by decide) (fun r_88 u_90 H locs w_89 hP hD hS => ?_)
                  have hP : va_P D vwCl [(x, .inr (10, [.ref nw, .ref kp, .ref fu, .ref ra, .ref kr, .ref rd, .ref wd, .ref ld, .ref mt, .ref vo, .ref sh, .ref fd, .int im])), (nw, .inr (9, [.ref w0, .ref w1, .ref w2, .ref w3, .ref w4, .ref w5, .int wt, .int re, .int dy])), (pf, .inl (cI, 36, .inl f0)), (fd, .inl (cI, 6, .inl ff)), (w5, .inr (3, [.ref pf, .int 0]))] H := hP
                  have hD : va_D A [(x, .inr (10, [.ref nw, .ref kp, .ref fu, .ref ra, .ref kr, .ref rd, .ref wd, .ref ld, .ref mt, .ref vo, .ref sh, .ref fd, .int im])), (nw, .inr (9, [.ref w0, .ref w1, .ref w2, .ref w3, .ref w4, .ref w5, .int wt, .int re, .int dy])), (pf, .inl (cI, 36, .inl f0)), (fd, .inl (cI, 6, .inl ff)), (w5, .inr (3, [.ref pf, .int 0]))] := hD
                  rcases w_89 with ⟨hr_88, h_91, h_92⟩ | ⟨hr_88, h_93⟩
                  · try simp only [zl_0] at h_91
                    try simp only [zl_0] at h_92
                    obtain rfl : r_88 = 1 := hr_88.trans (by decide)
                    refine b_if_ne hx hb zl_1 (tgt := 90) dX10_party_81 (by decide) (fun c_94 => ?_) (fun c_94 => by exfalso; omega)
                    refine lv_aload_n hx hb dX10_party_90 rfl (lv_at hl 1 rfl) ?_
                    refine va_get (D := D) (ci := 10) (v := .ref nw) (C := RX10) (T := TX10) (N := 13) hx hb hT giX10 hown hK hP 0 rfl rfl 0 (by decide) (hT (Cond.fieldLink RX10 12 "DesertWire" "now" "LDesertWire$World;") mw_291) (fun _ h9 => h9) rfl dX10_party_91 ?_
                    refine va_get (D := D) (ci := 9) (v := .ref w5) (C := RX9) (T := TX9) (N := 9) hx hb hT giX9 hown hK hP 1 rfl rfl 5 (by decide) (hT (Cond.fieldLink RX10 193 "DesertWire$World" "parties" "LDesertWire$Parties;") mw_102) (fun _ h9 => h9) rfl dX10_party_94 ?_
                    refine kJi (wr := [(x, .inr (10, [.ref nw, .ref kp, .ref fu, .ref ra, .ref kr, .ref rd, .ref wd, .ref ld, .ref mt, .ref vo, .ref sh, .ref fd, .int im])), (nw, .inr (9, [.ref w0, .ref w1, .ref w2, .ref w3, .ref w4, .ref w5, .int wt, .int re, .int dy])), (fd, .inl (cI, 6, .inl ff))]) (va_runV (As := []) (rest := []) ⟨hx, hb, hml, hown, hT⟩ (c_X3_add l D cI w5 pf H.size f0) (cwV 0 hT (gV_in mw_708 mw_705 mw_706 mw_707 mw_4) rfl rfl rfl (by decide +kernel) ⟨Nat.le_of_ble_eq_true rfl, Nat.le_of_ble_eq_true rfl⟩) (kRecv (own := "") (q0 := 4) (ci := 3) hK hP hD hN rfl rfl [4, 2] rfl (by decide)) rfl rfl hl.1 rfl (lv_room (Nat.le_of_ble_eq_true rfl)) dX10_party_97 ⟨Nat.le_of_ble_eq_true rfl, Nat.le_of_ble_eq_true rfl⟩) hP hD hS hA [4, 2] [0, 1, 3] rfl rfl (by decide) (by decide) (fun r_95 g_97 H locs w_96 hP hD hS => ?_)
                    have hP : va_P D vwCl [(x, .inr (10, [.ref nw, .ref kp, .ref fu, .ref ra, .ref kr, .ref rd, .ref wd, .ref ld, .ref mt, .ref vo, .ref sh, .ref fd, .int im])), (nw, .inr (9, [.ref w0, .ref w1, .ref w2, .ref w3, .ref w4, .ref w5, .int wt, .int re, .int dy])), (fd, .inl (cI, 6, .inl ff)), (w5, .inr (3, [.ref pf, .int 1])), (pf, .inl (cI, 36, .inl g_97))] H := hP
                    have hD : va_D A [(x, .inr (10, [.ref nw, .ref kp, .ref fu, .ref ra, .ref kr, .ref rd, .ref wd, .ref ld, .ref mt, .ref vo, .ref sh, .ref fd, .int im])), (nw, .inr (9, [.ref w0, .ref w1, .ref w2, .ref w3, .ref w4, .ref w5, .int wt, .int re, .int dy])), (fd, .inl (cI, 6, .inl ff)), (w5, .inr (3, [.ref pf, .int 1])), (pf, .inl (cI, 36, .inl g_97))] := hD
                    have hr_95 := w_96
                    obtain rfl : r_95 = 0 := hr_95.trans (by decide)
                    refine lv_istore (lv' := [(6, .int 0), (5, .int 1), (0, .ref x), (1, .int a), (2, .int b), (3, .int d), (4, .int g)]) hx hb dX10_party_100 hl (by decide) rfl (fun ls hl => ?_)
                    refine lv_aload_n hx hb dX10_party_102 rfl (lv_at hl 2 rfl) ?_
                    refine va_get (D := D) (ci := 10) (v := .ref nw) (C := RX10) (T := TX10) (N := 13) hx hb hT giX10 hown hK hP 0 rfl rfl 0 (by decide) (hT (Cond.fieldLink RX10 12 "DesertWire" "now" "LDesertWire$World;") mw_291) (fun _ h9 => h9) rfl dX10_party_103 ?_
                    refine va_get (D := D) (ci := 9) (v := .ref w5) (C := RX9) (T := TX9) (N := 9) hx hb hT giX9 hown hK hP 1 rfl rfl 5 (by decide) (hT (Cond.fieldLink RX10 193 "DesertWire$World" "parties" "LDesertWire$Parties;") mw_102) (fun _ h9 => h9) rfl dX10_party_106 ?_
                    refine lv_iload hx hb dX10_party_109 (lv_at hl 0 rfl) ?_
                    refine lv_iconst (v := 0) hx hb dX10_party_111 (by decide) ?_
                    refine lv_iload_n hx hb dX10_party_112 rfl (lv_at hl 3 rfl) ?_
                    refine kJv (wr := [(x, .inr (10, [.ref nw, .ref kp, .ref fu, .ref ra, .ref kr, .ref rd, .ref wd, .ref ld, .ref mt, .ref vo, .ref sh, .ref fd, .int im])), (nw, .inr (9, [.ref w0, .ref w1, .ref w2, .ref w3, .ref w4, .ref w5, .int wt, .int re, .int dy])), (fd, .inl (cI, 6, .inl ff))]) (va_runV (As := [.int 0, .int 0, .int a]) (rest := []) ⟨hx, hb, hml, hown, hT⟩ (c_X3_set l D cI w5 pf H.size 1 g_97 0 0 a) (cwV 3 hT (gV_in mw_713 mw_710 mw_711 mw_712 mw_4) rfl rfl rfl (by decide +kernel) ⟨Nat.le_of_ble_eq_true rfl, Nat.le_of_ble_eq_true rfl⟩) (kRecv (own := "") (q0 := 3) (ci := 3) hK hP hD hN rfl rfl [3, 4] rfl (by decide)) rfl rfl hl.1 rfl (lv_room (Nat.le_of_ble_eq_true rfl)) dX10_party_113 ⟨Nat.le_of_ble_eq_true rfl, Nat.le_of_ble_eq_true rfl⟩) hP hD hS hA [3, 4] [0, 1, 2] rfl rfl (by decide) (by decide) (fun g_100 H locs w_99 hP hD hS => ?_)
                    have hP : va_P D vwCl [(x, .inr (10, [.ref nw, .ref kp, .ref fu, .ref ra, .ref kr, .ref rd, .ref wd, .ref ld, .ref mt, .ref vo, .ref sh, .ref fd, .int im])), (nw, .inr (9, [.ref w0, .ref w1, .ref w2, .ref w3, .ref w4, .ref w5, .int wt, .int re, .int dy])), (fd, .inl (cI, 6, .inl ff)), (w5, .inr (3, [.ref pf, .int 1])), (pf, .inl (cI, 36, .inl g_100))] H := hP
                    have hD : va_D A [(x, .inr (10, [.ref nw, .ref kp, .ref fu, .ref ra, .ref kr, .ref rd, .ref wd, .ref ld, .ref mt, .ref vo, .ref sh, .ref fd, .int im])), (nw, .inr (9, [.ref w0, .ref w1, .ref w2, .ref w3, .ref w4, .ref w5, .int wt, .int re, .int dy])), (fd, .inl (cI, 6, .inl ff)), (w5, .inr (3, [.ref pf, .int 1])), (pf, .inl (cI, 36, .inl g_100))] := hD
                    refine lv_aload_n hx hb dX10_party_116 rfl (lv_at hl 2 rfl) ?_
                    refine va_get (D := D) (ci := 10) (v := .ref nw) (C := RX10) (T := TX10) (N := 13) hx hb hT giX10 hown hK hP 0 rfl rfl 0 (by decide) (hT (Cond.fieldLink RX10 12 "DesertWire" "now" "LDesertWire$World;") mw_291) (fun _ h9 => h9) rfl dX10_party_117 ?_
                    refine va_get (D := D) (ci := 9) (v := .ref w5) (C := RX9) (T := TX9) (N := 9) hx hb hT giX9 hown hK hP 1 rfl rfl 5 (by decide) (hT (Cond.fieldLink RX10 193 "DesertWire$World" "parties" "LDesertWire$Parties;") mw_102) (fun _ h9 => h9) rfl dX10_party_120 ?_
                    refine lv_iload hx hb dX10_party_123 (lv_at hl 0 rfl) ?_
                    refine lv_iconst (v := 1) hx hb dX10_party_125 (by decide) ?_
                    refine lv_iload_n hx hb dX10_party_126 rfl (lv_at hl 4 rfl) ?_
                    refine kJv (wr := [(x, .inr (10, [.ref nw, .ref kp, .ref fu, .ref ra, .ref kr, .ref rd, .ref wd, .ref ld, .ref mt, .ref vo, .ref sh, .ref fd, .int im])), (nw, .inr (9, [.ref w0, .ref w1, .ref w2, .ref w3, .ref w4, .ref w5, .int wt, .int re, .int dy])), (fd, .inl (cI, 6, .inl ff))]) (va_runV (As := [.int 0, .int 1, .int b]) (rest := []) ⟨hx, hb, hml, hown, hT⟩ (c_X3_set l D cI w5 pf H.size 1 g_100 0 1 b) (cwV 3 hT (gV_in mw_713 mw_710 mw_711 mw_712 mw_4) rfl rfl rfl (by decide +kernel) ⟨Nat.le_of_ble_eq_true rfl, Nat.le_of_ble_eq_true rfl⟩) (kRecv (own := "") (q0 := 3) (ci := 3) hK hP hD hN rfl rfl [3, 4] rfl (by decide)) rfl rfl hl.1 rfl (lv_room (Nat.le_of_ble_eq_true rfl)) dX10_party_127 ⟨Nat.le_of_ble_eq_true rfl, Nat.le_of_ble_eq_true rfl⟩) hP hD hS hA [3, 4] [0, 1, 2] rfl rfl (by decide) (by decide) (fun g_103 H locs w_102 hP hD hS => ?_)
                    have hP : va_P D vwCl [(x, .inr (10, [.ref nw, .ref kp, .ref fu, .ref ra, .ref kr, .ref rd, .ref wd, .ref ld, .ref mt, .ref vo, .ref sh, .ref fd, .int im])), (nw, .inr (9, [.ref w0, .ref w1, .ref w2, .ref w3, .ref w4, .ref w5, .int wt, .int re, .int dy])), (fd, .inl (cI, 6, .inl ff)), (w5, .inr (3, [.ref pf, .int 1])), (pf, .inl (cI, 36, .inl g_103))] H := hP
                    have hD : va_D A [(x, .inr (10, [.ref nw, .ref kp, .ref fu, .ref ra, .ref kr, .ref rd, .ref wd, .ref ld, .ref mt, .ref vo, .ref sh, .ref fd, .int im])), (nw, .inr (9, [.ref w0, .ref w1, .ref w2, .ref w3, .ref w4, .ref w5, .int wt, .int re, .int dy])), (fd, .inl (cI, 6, .inl ff)), (w5, .inr (3, [.ref pf, .int 1])), (pf, .inl (cI, 36, .inl g_103))] := hD
                    refine lv_aload_n hx hb dX10_party_130 rfl (lv_at hl 2 rfl) ?_
                    refine va_get (D := D) (ci := 10) (v := .ref nw) (C := RX10) (T := TX10) (N := 13) hx hb hT giX10 hown hK hP 0 rfl rfl 0 (by decide) (hT (Cond.fieldLink RX10 12 "DesertWire" "now" "LDesertWire$World;") mw_291) (fun _ h9 => h9) rfl dX10_party_131 ?_
                    refine va_get (D := D) (ci := 9) (v := .ref w5) (C := RX9) (T := TX9) (N := 9) hx hb hT giX9 hown hK hP 1 rfl rfl 5 (by decide) (hT (Cond.fieldLink RX10 193 "DesertWire$World" "parties" "LDesertWire$Parties;") mw_102) (fun _ h9 => h9) rfl dX10_party_134 ?_
                    refine lv_iload hx hb dX10_party_137 (lv_at hl 0 rfl) ?_
                    refine lv_iconst (v := 2) hx hb dX10_party_139 (by decide) ?_
                    refine lv_iload_n hx hb dX10_party_140 rfl (lv_at hl 5 rfl) ?_
                    refine lv_bipush (v := 100) hx hb dX10_party_141 (by decide) ?_
                    refine lv_idiv hx hb dX10_party_143 (by decide) ?_
                    refine lv_topi (fun v_104 ev_104 => ?_)
                    have tv_104 : v_104.toInt = d.toInt / 100 := k_divv (w := 0) ev_104 zl_100 (by omega) (by decide)
                    have lo_v_104 := k_lo v_104
                    have hi_v_104 := k_hi v_104
                    refine kJv (wr := [(x, .inr (10, [.ref nw, .ref kp, .ref fu, .ref ra, .ref kr, .ref rd, .ref wd, .ref ld, .ref mt, .ref vo, .ref sh, .ref fd, .int im])), (nw, .inr (9, [.ref w0, .ref w1, .ref w2, .ref w3, .ref w4, .ref w5, .int wt, .int re, .int dy])), (fd, .inl (cI, 6, .inl ff))]) (va_runV (As := [.int 0, .int 2, .int v_104]) (rest := []) ⟨hx, hb, hml, hown, hT⟩ (c_X3_set l D cI w5 pf H.size 1 g_103 0 2 v_104) (cwV 3 hT (gV_in mw_713 mw_710 mw_711 mw_712 mw_4) rfl rfl rfl (by decide +kernel) ⟨Nat.le_of_ble_eq_true rfl, Nat.le_of_ble_eq_true rfl⟩) (kRecv (own := "") (q0 := 3) (ci := 3) hK hP hD hN rfl rfl [3, 4] rfl (by decide)) rfl rfl hl.1 rfl (lv_room (Nat.le_of_ble_eq_true rfl)) dX10_party_144 ⟨Nat.le_of_ble_eq_true rfl, Nat.le_of_ble_eq_true rfl⟩) hP hD hS hA [3, 4] [0, 1, 2] rfl rfl (by decide) (by decide) (fun g_107 H locs w_106 hP hD hS => ?_)
                    have hP : va_P D vwCl [(x, .inr (10, [.ref nw, .ref kp, .ref fu, .ref ra, .ref kr, .ref rd, .ref wd, .ref ld, .ref mt, .ref vo, .ref sh, .ref fd, .int im])), (nw, .inr (9, [.ref w0, .ref w1, .ref w2, .ref w3, .ref w4, .ref w5, .int wt, .int re, .int dy])), (fd, .inl (cI, 6, .inl ff)), (w5, .inr (3, [.ref pf, .int 1])), (pf, .inl (cI, 36, .inl g_107))] H := hP
                    have hD : va_D A [(x, .inr (10, [.ref nw, .ref kp, .ref fu, .ref ra, .ref kr, .ref rd, .ref wd, .ref ld, .ref mt, .ref vo, .ref sh, .ref fd, .int im])), (nw, .inr (9, [.ref w0, .ref w1, .ref w2, .ref w3, .ref w4, .ref w5, .int wt, .int re, .int dy])), (fd, .inl (cI, 6, .inl ff)), (w5, .inr (3, [.ref pf, .int 1])), (pf, .inl (cI, 36, .inl g_107))] := hD
                    refine lv_aload_n hx hb dX10_party_147 rfl (lv_at hl 2 rfl) ?_
                    refine va_get (D := D) (ci := 10) (v := .ref nw) (C := RX10) (T := TX10) (N := 13) hx hb hT giX10 hown hK hP 0 rfl rfl 0 (by decide) (hT (Cond.fieldLink RX10 12 "DesertWire" "now" "LDesertWire$World;") mw_291) (fun _ h9 => h9) rfl dX10_party_148 ?_
                    refine va_get (D := D) (ci := 9) (v := .ref w5) (C := RX9) (T := TX9) (N := 9) hx hb hT giX9 hown hK hP 1 rfl rfl 5 (by decide) (hT (Cond.fieldLink RX10 193 "DesertWire$World" "parties" "LDesertWire$Parties;") mw_102) (fun _ h9 => h9) rfl dX10_party_151 ?_
                    refine lv_iload hx hb dX10_party_154 (lv_at hl 0 rfl) ?_
                    refine lv_iconst (v := 3) hx hb dX10_party_156 (by decide) ?_
                    refine lv_iload_n hx hb dX10_party_157 rfl (lv_at hl 5 rfl) ?_
                    refine lv_bipush (v := 100) hx hb dX10_party_158 (by decide) ?_
                    refine lv_irem hx hb dX10_party_160 (by decide) ?_
                    refine lv_topi (fun v_108 ev_108 => ?_)
                    have tv_108 : v_108.toInt = d.toInt % 100 := k_remv (w := 0) ev_108 zl_100 (by omega) (by decide)
                    have lo_v_108 := k_lo v_108
                    have hi_v_108 := k_hi v_108
                    refine kJv (wr := [(x, .inr (10, [.ref nw, .ref kp, .ref fu, .ref ra, .ref kr, .ref rd, .ref wd, .ref ld, .ref mt, .ref vo, .ref sh, .ref fd, .int im])), (nw, .inr (9, [.ref w0, .ref w1, .ref w2, .ref w3, .ref w4, .ref w5, .int wt, .int re, .int dy])), (fd, .inl (cI, 6, .inl ff))]) (va_runV (As := [.int 0, .int 3, .int v_108]) (rest := []) ⟨hx, hb, hml, hown, hT⟩ (c_X3_set l D cI w5 pf H.size 1 g_107 0 3 v_108) (cwV 3 hT (gV_in mw_713 mw_710 mw_711 mw_712 mw_4) rfl rfl rfl (by decide +kernel) ⟨Nat.le_of_ble_eq_true rfl, Nat.le_of_ble_eq_true rfl⟩) (kRecv (own := "") (q0 := 3) (ci := 3) hK hP hD hN rfl rfl [3, 4] rfl (by decide)) rfl rfl hl.1 rfl (lv_room (Nat.le_of_ble_eq_true rfl)) dX10_party_161 ⟨Nat.le_of_ble_eq_true rfl, Nat.le_of_ble_eq_true rfl⟩) hP hD hS hA [3, 4] [0, 1, 2] rfl rfl (by decide) (by decide) (fun g_111 H locs w_110 hP hD hS => ?_)
                    have hP : va_P D vwCl [(x, .inr (10, [.ref nw, .ref kp, .ref fu, .ref ra, .ref kr, .ref rd, .ref wd, .ref ld, .ref mt, .ref vo, .ref sh, .ref fd, .int im])), (nw, .inr (9, [.ref w0, .ref w1, .ref w2, .ref w3, .ref w4, .ref w5, .int wt, .int re, .int dy])), (fd, .inl (cI, 6, .inl ff)), (w5, .inr (3, [.ref pf, .int 1])), (pf, .inl (cI, 36, .inl g_111))] H := hP
                    have hD : va_D A [(x, .inr (10, [.ref nw, .ref kp, .ref fu, .ref ra, .ref kr, .ref rd, .ref wd, .ref ld, .ref mt, .ref vo, .ref sh, .ref fd, .int im])), (nw, .inr (9, [.ref w0, .ref w1, .ref w2, .ref w3, .ref w4, .ref w5, .int wt, .int re, .int dy])), (fd, .inl (cI, 6, .inl ff)), (w5, .inr (3, [.ref pf, .int 1])), (pf, .inl (cI, 36, .inl g_111))] := hD
                    refine lv_aload_n hx hb dX10_party_164 rfl (lv_at hl 2 rfl) ?_
                    refine va_get (D := D) (ci := 10) (v := .ref nw) (C := RX10) (T := TX10) (N := 13) hx hb hT giX10 hown hK hP 0 rfl rfl 0 (by decide) (hT (Cond.fieldLink RX10 12 "DesertWire" "now" "LDesertWire$World;") mw_291) (fun _ h9 => h9) rfl dX10_party_165 ?_
                    refine va_get (D := D) (ci := 9) (v := .ref w5) (C := RX9) (T := TX9) (N := 9) hx hb hT giX9 hown hK hP 1 rfl rfl 5 (by decide) (hT (Cond.fieldLink RX10 193 "DesertWire$World" "parties" "LDesertWire$Parties;") mw_102) (fun _ h9 => h9) rfl dX10_party_168 ?_
                    refine lv_iload hx hb dX10_party_171 (lv_at hl 0 rfl) ?_
                    refine lv_iconst (v := 4) hx hb dX10_party_173 (by decide) ?_
                    refine lv_iload hx hb dX10_party_174 (lv_at hl 6 rfl) ?_
                    refine kJv (wr := [(x, .inr (10, [.ref nw, .ref kp, .ref fu, .ref ra, .ref kr, .ref rd, .ref wd, .ref ld, .ref mt, .ref vo, .ref sh, .ref fd, .int im])), (nw, .inr (9, [.ref w0, .ref w1, .ref w2, .ref w3, .ref w4, .ref w5, .int wt, .int re, .int dy])), (fd, .inl (cI, 6, .inl ff))]) (va_runV (As := [.int 0, .int 4, .int g]) (rest := []) ⟨hx, hb, hml, hown, hT⟩ (c_X3_set l D cI w5 pf H.size 1 g_111 0 4 g) (cwV 3 hT (gV_in mw_713 mw_710 mw_711 mw_712 mw_4) rfl rfl rfl (by decide +kernel) ⟨Nat.le_of_ble_eq_true rfl, Nat.le_of_ble_eq_true rfl⟩) (kRecv (own := "") (q0 := 3) (ci := 3) hK hP hD hN rfl rfl [3, 4] rfl (by decide)) rfl rfl hl.1 rfl (lv_room (Nat.le_of_ble_eq_true rfl)) dX10_party_176 ⟨Nat.le_of_ble_eq_true rfl, Nat.le_of_ble_eq_true rfl⟩) hP hD hS hA [3, 4] [0, 1, 2] rfl rfl (by decide) (by decide) (fun g_114 H locs w_113 hP hD hS => ?_)
                    have hP : va_P D vwCl [(x, .inr (10, [.ref nw, .ref kp, .ref fu, .ref ra, .ref kr, .ref rd, .ref wd, .ref ld, .ref mt, .ref vo, .ref sh, .ref fd, .int im])), (nw, .inr (9, [.ref w0, .ref w1, .ref w2, .ref w3, .ref w4, .ref w5, .int wt, .int re, .int dy])), (fd, .inl (cI, 6, .inl ff)), (w5, .inr (3, [.ref pf, .int 1])), (pf, .inl (cI, 36, .inl g_114))] H := hP
                    have hD : va_D A [(x, .inr (10, [.ref nw, .ref kp, .ref fu, .ref ra, .ref kr, .ref rd, .ref wd, .ref ld, .ref mt, .ref vo, .ref sh, .ref fd, .int im])), (nw, .inr (9, [.ref w0, .ref w1, .ref w2, .ref w3, .ref w4, .ref w5, .int wt, .int re, .int dy])), (fd, .inl (cI, 6, .inl ff)), (w5, .inr (3, [.ref pf, .int 1])), (pf, .inl (cI, 36, .inl g_114))] := hD
                    refine lv_iload hx hb dX10_party_179 (lv_at hl 0 rfl) ?_
                    exact hRet () [] (by unfold sp_party; repeat (first | rw [if_pos (by omega)] | rw [if_neg (by omega)])) hP hD (by decide) rfl hS rfl dX10_party_181
                  · (try simp only [zl_0] at h_93); exfalso; omega
                · refine lv_aload_n hx hb dX10_party_65 rfl (lv_at hl 1 rfl) ?_
                  refine lv_iconst (v := 1) hx hb dX10_party_66 (by decide) ?_
                  refine kJi (wr := [(nw, .inr (9, [.ref w0, .ref w1, .ref w2, .ref w3, .ref w4, .ref w5, .int wt, .int re, .int dy])), (w5, .inr (3, [.ref pf, .int 0])), (pf, .inl (cI, 36, .inl f0))]) (va_runV (As := [.int 1]) (rest := []) ⟨hx, hb, hml, hown, hT⟩ (c_X10_finding l D cI x nw kp fu ra kr rd wd ld mt vo sh fd H.size im ff 1 (by first | omega | (simp only [zl_1] <;> omega) | decide | assumption | rfl) (by first | omega | (simp only [zl_1] <;> omega) | decide | assumption | rfl)) (cwV 1 hT (gV_in mw_338 mw_335 mw_337 mw_p1_0 mw_1) rfl rfl rfl (by decide +kernel) ⟨Nat.le_of_ble_eq_true rfl, Nat.le_of_ble_eq_true rfl⟩) (kRecv (own := "") (q0 := 0) (ci := 10) hK hP hD hN rfl rfl [0, 4] rfl (by decide)) rfl rfl hl.1 rfl (lv_room (Nat.le_of_ble_eq_true rfl)) dX10_party_67 ⟨Nat.le_of_ble_eq_true rfl, Nat.le_of_ble_eq_true rfl⟩) hP hD hS hA [0, 4] [1, 2, 3] rfl rfl (by decide) (by decide) (fun r_115 u_117 H locs w_116 hP hD hS => ?_)
                  have hP : va_P D vwCl [(nw, .inr (9, [.ref w0, .ref w1, .ref w2, .ref w3, .ref w4, .ref w5, .int wt, .int re, .int dy])), (w5, .inr (3, [.ref pf, .int 0])), (pf, .inl (cI, 36, .inl f0))] H := hP
                  have hD : va_D A [(nw, .inr (9, [.ref w0, .ref w1, .ref w2, .ref w3, .ref w4, .ref w5, .int wt, .int re, .int dy])), (w5, .inr (3, [.ref pf, .int 0])), (pf, .inl (cI, 36, .inl f0))] := hD
                  have hr_115 := w_116
                  obtain rfl : r_115 = (-1000001) := hr_115.trans (by decide)
                  exact hRet () [] (by unfold sp_party; repeat (first | rw [if_pos (by omega)] | rw [if_neg (by omega)])) hP hD (by decide) rfl hS rfl dX10_party_70
  · have h_6 : a.toInt < 0 ∨ 39 < a.toInt := h_6
    obtain rfl : r_1 = 0 := hr_1.trans (by decide)
    refine b_if_eq hx hb zl_0 (tgt := 33) dX10_party_4 (by decide) (fun c_118 => ?_) (fun c_118 => by exfalso; omega)
    refine lv_iconst (v := 0) hx hb dX10_party_33 (by decide) ?_
    refine lv_istore (lv' := [(5, .int 0), (0, .ref x), (1, .int a), (2, .int b), (3, .int d), (4, .int g)]) hx hb dX10_party_34 hl (by decide) rfl (fun ls hl => ?_)
    refine lv_iload hx hb dX10_party_36 (lv_at hl 0 rfl) ?_
    refine b_if_eq hx hb zl_0 (tgt := 65) dX10_party_38 (by decide) (fun c_119 => ?_) (fun c_119 => by exfalso; omega)
    refine lv_aload_n hx hb dX10_party_65 rfl (lv_at hl 1 rfl) ?_
    refine lv_iconst (v := 1) hx hb dX10_party_66 (by decide) ?_
    refine kJi (wr := [(nw, .inr (9, [.ref w0, .ref w1, .ref w2, .ref w3, .ref w4, .ref w5, .int wt, .int re, .int dy])), (w5, .inr (3, [.ref pf, .int 0])), (pf, .inl (cI, 36, .inl f0))]) (va_runV (As := [.int 1]) (rest := []) ⟨hx, hb, hml, hown, hT⟩ (c_X10_finding l D cI x nw kp fu ra kr rd wd ld mt vo sh fd H.size im ff 1 (by first | omega | (simp only [zl_1] <;> omega) | decide | assumption | rfl) (by first | omega | (simp only [zl_1] <;> omega) | decide | assumption | rfl)) (cwV 1 hT (gV_in mw_338 mw_335 mw_337 mw_p1_0 mw_1) rfl rfl rfl (by decide +kernel) ⟨Nat.le_of_ble_eq_true rfl, Nat.le_of_ble_eq_true rfl⟩) (kRecv (own := "") (q0 := 0) (ci := 10) hK hP hD hN rfl rfl [0, 4] rfl (by decide)) rfl rfl hl.1 rfl (lv_room (Nat.le_of_ble_eq_true rfl)) dX10_party_67 ⟨Nat.le_of_ble_eq_true rfl, Nat.le_of_ble_eq_true rfl⟩) hP hD hS hA [0, 4] [1, 2, 3] rfl rfl (by decide) (by decide) (fun r_120 u_122 H locs w_121 hP hD hS => ?_)
    have hP : va_P D vwCl [(nw, .inr (9, [.ref w0, .ref w1, .ref w2, .ref w3, .ref w4, .ref w5, .int wt, .int re, .int dy])), (w5, .inr (3, [.ref pf, .int 0])), (pf, .inl (cI, 36, .inl f0))] H := hP
    have hD : va_D A [(nw, .inr (9, [.ref w0, .ref w1, .ref w2, .ref w3, .ref w4, .ref w5, .int wt, .int re, .int dy])), (w5, .inr (3, [.ref pf, .int 0])), (pf, .inl (cI, 36, .inl f0))] := hD
    have hr_120 := w_121
    obtain rfl : r_120 = (-1000001) := hr_120.trans (by decide)
    exact hRet () [] (by unfold sp_party; repeat (first | rw [if_pos (by omega)] | rw [if_neg (by omega)])) hP hD (by decide) rfl hS rfl dX10_party_70
set_option maxHeartbeats 4000000 in
set_option maxRecDepth 100000 in
theorem c_X10_reach (l : Launch) (D : va_G) (cI : ClassId) (x nw kp fu ra kr rd wd ld mt vo sh fd w0 w1 w2 w3 w4 w5 : Nat) (sz : Nat) (im : Int32) (ff : Nat → Int32) (wt : Int32) (dy : Int32) (a : Int32) : Met l yX10_reach (gW yX10_reach cX10_reach 3 (some .int)) ({ frames := 1, cells := 0, slots := 0, locals := 21 } : Room) (kPre D cI [.ref x, .int a] [(x, .inr (10, [.ref nw, .ref kp, .ref fu, .ref ra, .ref kr, .ref rd, .ref wd, .ref ld, .ref mt, .ref vo, .ref sh, .ref fd, .int im])), (nw, .inr (9, [.ref w0, .ref w1, .ref w2, .ref w3, .ref w4, .ref w5, .int wt, .int 40, .int dy])), (fd, .inl (cI, 6, .inl ff))] sz) (va_Qi (fun (r : Int32) (u : Unit) => r = sp_reach a) (fun u t => kWd D cI (va_A [(x, .inr (10, [.ref nw, .ref kp, .ref fu, .ref ra, .ref kr, .ref rd, .ref wd, .ref ld, .ref mt, .ref vo, .ref sh, .ref fd, .int im])), (nw, .inr (9, [.ref w0, .ref w1, .ref w2, .ref w3, .ref w4, .ref w5, .int wt, .int 40, .int dy])), (fd, .inl (cI, 6, .inl ff))] sz) [] t) (va_A [(x, .inr (10, [.ref nw, .ref kp, .ref fu, .ref ra, .ref kr, .ref rd, .ref wd, .ref ld, .ref mt, .ref vo, .ref sh, .ref fd, .int im])), (nw, .inr (9, [.ref w0, .ref w1, .ref w2, .ref w3, .ref w4, .ref w5, .int wt, .int 40, .int dy])), (fd, .inl (cI, 6, .inl ff))] sz)) 0 0 (va_A [(x, .inr (10, [.ref nw, .ref kp, .ref fu, .ref ra, .ref kr, .ref rd, .ref wd, .ref ld, .ref mt, .ref vo, .ref sh, .ref fd, .int im])), (nw, .inr (9, [.ref w0, .ref w1, .ref w2, .ref w3, .ref w4, .ref w5, .int wt, .int 40, .int dy])), (fd, .inl (cI, 6, .inl ff))] sz) := by
  refine kMetI (own := RX10) (by decide) rfl (Nat.le_of_ble_eq_true rfl) ?_
  intro p e s m args below meth c hx hb hT hown hname hml A Q hK hP hD hS hA hN hRet ls hl
  have hl : lv_has ls 3 [(0, .ref x), (1, .int a)] := hl
  have lo_a := k_lo a
  have hi_a := k_hi a
  have lo_im := k_lo im
  have hi_im := k_hi im
  have lo_wt := k_lo wt
  have hi_wt := k_hi wt
  have lo_dy := k_lo dy
  have hi_dy := k_hi dy
  refine lv_iload_n hx hb dX10_reach_0 rfl (lv_at hl 1 rfl) ?_
  refine lv_iconst (v := 1) hx hb dX10_reach_1 (by decide) ?_
  refine b_icmp_lt hx hb rfl zl_1 (tgt := 12) dX10_reach_2 (by decide) (fun c_1 => ?_) (fun c_1 => ?_)
  · refine lv_aload_n hx hb dX10_reach_12 rfl (lv_at hl 0 rfl) ?_
    refine lv_iconst (v := 1) hx hb dX10_reach_13 (by decide) ?_
    refine kJi (wr := [(nw, .inr (9, [.ref w0, .ref w1, .ref w2, .ref w3, .ref w4, .ref w5, .int wt, .int 40, .int dy]))]) (va_runV (As := [.int 1]) (rest := []) ⟨hx, hb, hml, hown, hT⟩ (c_X10_finding l D cI x nw kp fu ra kr rd wd ld mt vo sh fd s.heap.size im ff 1 (by first | omega | (simp only [zl_1] <;> omega) | decide | assumption | rfl) (by first | omega | (simp only [zl_1] <;> omega) | decide | assumption | rfl)) (cwV 1 hT (gV_in mw_338 mw_335 mw_337 mw_p1_0 mw_1) rfl rfl rfl (by decide +kernel) ⟨Nat.le_of_ble_eq_true rfl, Nat.le_of_ble_eq_true rfl⟩) (kRecv (own := "") (q0 := 0) (ci := 10) hK hP hD hN rfl rfl [0, 2] rfl (by decide)) rfl rfl hl.1 rfl (lv_room (Nat.le_of_ble_eq_true rfl)) dX10_reach_14 ⟨Nat.le_of_ble_eq_true rfl, Nat.le_of_ble_eq_true rfl⟩) hP hD hS hA [0, 2] [1] rfl rfl (by decide) (by decide) (fun r_2 u_4 H locs w_3 hP hD hS => ?_)
    have hP : va_P D vwCl [(nw, .inr (9, [.ref w0, .ref w1, .ref w2, .ref w3, .ref w4, .ref w5, .int wt, .int 40, .int dy]))] H := hP
    have hD : va_D A [(nw, .inr (9, [.ref w0, .ref w1, .ref w2, .ref w3, .ref w4, .ref w5, .int wt, .int 40, .int dy]))] := hD
    have hr_2 := w_3
    obtain rfl : r_2 = (-1000001) := hr_2.trans (by decide)
    exact hRet () [] (by unfold sp_reach; repeat (first | rw [if_pos (by omega)] | rw [if_neg (by omega)])) hP hD (by decide) rfl hS rfl dX10_reach_17
  · refine lv_iload_n hx hb dX10_reach_5 rfl (lv_at hl 1 rfl) ?_
    refine lv_sipush (v := 200) hx hb dX10_reach_6 (by decide) ?_
    refine b_icmp_le hx hb rfl zl_200 (tgt := 18) dX10_reach_9 (by decide) (fun c_5 => ?_) (fun c_5 => ?_)
    · refine lv_aload_n hx hb dX10_reach_18 rfl (lv_at hl 0 rfl) ?_
      refine va_get (D := D) (ci := 10) (v := .ref nw) (C := RX10) (T := TX10) (N := 13) hx hb hT giX10 hown hK hP 0 rfl rfl 0 (by decide) (hT (Cond.fieldLink RX10 12 "DesertWire" "now" "LDesertWire$World;") mw_291) (fun _ h9 => h9) rfl dX10_reach_19 ?_
      refine va_get (D := D) (ci := 9) (v := .int 40) (C := RX9) (T := TX9) (N := 9) hx hb hT giX9 hown hK hP 1 rfl rfl 7 (by decide) (hT (Cond.fieldLink RX10 217 "DesertWire$World" "reach" "I") mw_107) (fun _ h9 => h9) rfl dX10_reach_22 ?_
      refine lv_istore_n (lv' := [(2, .int 40), (0, .ref x), (1, .int a)]) hx hb dX10_reach_25 rfl hl (by decide) rfl (fun ls hl => ?_)
      refine lv_aload_n hx hb dX10_reach_26 rfl (lv_at hl 1 rfl) ?_
      refine va_get (D := D) (ci := 10) (v := .ref nw) (C := RX10) (T := TX10) (N := 13) hx hb hT giX10 hown hK hP 0 rfl rfl 0 (by decide) (hT (Cond.fieldLink RX10 12 "DesertWire" "now" "LDesertWire$World;") mw_291) (fun _ h9 => h9) rfl dX10_reach_27 ?_
      refine lv_iload_n hx hb dX10_reach_30 rfl (lv_at hl 2 rfl) ?_
      refine va_put (D := D) (ci := 9) (v := .int a) (ty := .int) (C := RX9) (T := TX9) (N := 9) hx hb hT giX9 tyX9 tyX9_ok nmX9 hown hK hP hD hS 1 rfl rfl 7 (by decide) (hT (Cond.fieldLink RX10 217 "DesertWire$World" "reach" "I") mw_107) (fun _ h9 => h9) rfl (by decide +kernel) rfl rfl (Nat.le_of_ble_eq_true rfl) dX10_reach_31 (fun H locs hP hD hS => ?_)
      have hP : va_P D vwCl [(x, .inr (10, [.ref nw, .ref kp, .ref fu, .ref ra, .ref kr, .ref rd, .ref wd, .ref ld, .ref mt, .ref vo, .ref sh, .ref fd, .int im])), (nw, .inr (9, [.ref w0, .ref w1, .ref w2, .ref w3, .ref w4, .ref w5, .int wt, .int a, .int dy])), (fd, .inl (cI, 6, .inl ff))] H := hP
      have hD : va_D A [(x, .inr (10, [.ref nw, .ref kp, .ref fu, .ref ra, .ref kr, .ref rd, .ref wd, .ref ld, .ref mt, .ref vo, .ref sh, .ref fd, .int im])), (nw, .inr (9, [.ref w0, .ref w1, .ref w2, .ref w3, .ref w4, .ref w5, .int wt, .int a, .int dy])), (fd, .inl (cI, 6, .inl ff))] := hD
      refine lv_iload_n hx hb dX10_reach_34 rfl (lv_at hl 0 rfl) ?_
      exact hRet () [] (by unfold sp_reach; repeat (first | rw [if_pos (by omega)] | rw [if_neg (by omega)])) hP hD (by decide) rfl hS rfl dX10_reach_35
    · refine lv_aload_n hx hb dX10_reach_12 rfl (lv_at hl 0 rfl) ?_
      refine lv_iconst (v := 1) hx hb dX10_reach_13 (by decide) ?_
      refine kJi (wr := [(nw, .inr (9, [.ref w0, .ref w1, .ref w2, .ref w3, .ref w4, .ref w5, .int wt, .int 40, .int dy]))]) (va_runV (As := [.int 1]) (rest := []) ⟨hx, hb, hml, hown, hT⟩ (c_X10_finding l D cI x nw kp fu ra kr rd wd ld mt vo sh fd s.heap.size im ff 1 (by first | omega | (simp only [zl_1] <;> omega) | decide | assumption | rfl) (by first | omega | (simp only [zl_1] <;> omega) | decide | assumption | rfl)) (cwV 1 hT (gV_in mw_338 mw_335 mw_337 mw_p1_0 mw_1) rfl rfl rfl (by decide +kernel) ⟨Nat.le_of_ble_eq_true rfl, Nat.le_of_ble_eq_true rfl⟩) (kRecv (own := "") (q0 := 0) (ci := 10) hK hP hD hN rfl rfl [0, 2] rfl (by decide)) rfl rfl hl.1 rfl (lv_room (Nat.le_of_ble_eq_true rfl)) dX10_reach_14 ⟨Nat.le_of_ble_eq_true rfl, Nat.le_of_ble_eq_true rfl⟩) hP hD hS hA [0, 2] [1] rfl rfl (by decide) (by decide) (fun r_6 u_8 H locs w_7 hP hD hS => ?_)
      have hP : va_P D vwCl [(nw, .inr (9, [.ref w0, .ref w1, .ref w2, .ref w3, .ref w4, .ref w5, .int wt, .int 40, .int dy]))] H := hP
      have hD : va_D A [(nw, .inr (9, [.ref w0, .ref w1, .ref w2, .ref w3, .ref w4, .ref w5, .int wt, .int 40, .int dy]))] := hD
      have hr_6 := w_7
      obtain rfl : r_6 = (-1000001) := hr_6.trans (by decide)
      exact hRet () [] (by unfold sp_reach; repeat (first | rw [if_pos (by omega)] | rw [if_neg (by omega)])) hP hD (by decide) rfl hS rfl dX10_reach_17
set_option maxHeartbeats 4000000 in
set_option maxRecDepth 100000 in
theorem c_X10_feed (l : Launch) (D : va_G) (cI : ClassId) (x nw kp fu ra kr rd wd ld mt vo sh fd t0 t1 t2 t3 t4 : Nat) (sz : Nat) (im : Int32) (ff : Nat → Int32) (f0 : Nat → Int32) (wo : Int64) (a : Int32) : Met l yX10_feed (gW yX10_feed cX10_feed 4 (some .int)) ({ frames := 1, cells := 0, slots := 0, locals := 24 } : Room) (kPre D cI [.ref x, .long wo, .int a] [(x, .inr (10, [.ref nw, .ref kp, .ref fu, .ref ra, .ref kr, .ref rd, .ref wd, .ref ld, .ref mt, .ref vo, .ref sh, .ref fd, .int im])), (ra, .inr (4, [.ref t0, .ref t1, .ref t2, .ref t3, .ref t4, .int 0, .int 0])), (t0, .inl (cI, 50, .inl f0)), (fd, .inl (cI, 6, .inl ff))] sz) (va_Qi (fun (r : Int32) (u : Unit) => r = sp_feed a) (fun u t => kWd D cI (va_A [(x, .inr (10, [.ref nw, .ref kp, .ref fu, .ref ra, .ref kr, .ref rd, .ref wd, .ref ld, .ref mt, .ref vo, .ref sh, .ref fd, .int im])), (ra, .inr (4, [.ref t0, .ref t1, .ref t2, .ref t3, .ref t4, .int 0, .int 0])), (t0, .inl (cI, 50, .inl f0)), (fd, .inl (cI, 6, .inl ff))] sz) [] t) (va_A [(x, .inr (10, [.ref nw, .ref kp, .ref fu, .ref ra, .ref kr, .ref rd, .ref wd, .ref ld, .ref mt, .ref vo, .ref sh, .ref fd, .int im])), (ra, .inr (4, [.ref t0, .ref t1, .ref t2, .ref t3, .ref t4, .int 0, .int 0])), (t0, .inl (cI, 50, .inl f0)), (fd, .inl (cI, 6, .inl ff))] sz)) 0 0 (va_A [(x, .inr (10, [.ref nw, .ref kp, .ref fu, .ref ra, .ref kr, .ref rd, .ref wd, .ref ld, .ref mt, .ref vo, .ref sh, .ref fd, .int im])), (ra, .inr (4, [.ref t0, .ref t1, .ref t2, .ref t3, .ref t4, .int 0, .int 0])), (t0, .inl (cI, 50, .inl f0)), (fd, .inl (cI, 6, .inl ff))] sz) := by
  refine kMetI (own := RX10) (by decide) rfl (Nat.le_of_ble_eq_true rfl) ?_
  intro p e s m args below meth c hx hb hT hown hname hml A Q hK hP hD hS hA hN hRet ls hl
  have hl : lv_has ls 4 [(0, .ref x), (1, .long wo), (3, .int a)] := hl
  have lo_a := k_lo a
  have hi_a := k_hi a
  have lo_im := k_lo im
  have hi_im := k_hi im
  refine lv_iload_n hx hb dX10_feed_0 rfl (lv_at hl 2 rfl) ?_
  refine lv_iconst (v := 1) hx hb dX10_feed_1 (by decide) ?_
  refine b_icmp_lt hx hb rfl zl_1 (tgt := 11) dX10_feed_2 (by decide) (fun c_1 => ?_) (fun c_1 => ?_)
  · refine lv_aload_n hx hb dX10_feed_11 rfl (lv_at hl 0 rfl) ?_
    refine lv_iconst (v := 1) hx hb dX10_feed_12 (by decide) ?_
    refine kJi (wr := [(ra, .inr (4, [.ref t0, .ref t1, .ref t2, .ref t3, .ref t4, .int 0, .int 0])), (t0, .inl (cI, 50, .inl f0))]) (va_runV (As := [.int 1]) (rest := []) ⟨hx, hb, hml, hown, hT⟩ (c_X10_finding l D cI x nw kp fu ra kr rd wd ld mt vo sh fd s.heap.size im ff 1 (by first | omega | (simp only [zl_1] <;> omega) | decide | assumption | rfl) (by first | omega | (simp only [zl_1] <;> omega) | decide | assumption | rfl)) (cwV 1 hT (gV_in mw_338 mw_335 mw_337 mw_p1_0 mw_1) rfl rfl rfl (by decide +kernel) ⟨Nat.le_of_ble_eq_true rfl, Nat.le_of_ble_eq_true rfl⟩) (kRecv (own := "") (q0 := 0) (ci := 10) hK hP hD hN rfl rfl [0, 3] rfl (by decide)) rfl rfl hl.1 rfl (lv_room (Nat.le_of_ble_eq_true rfl)) dX10_feed_13 ⟨Nat.le_of_ble_eq_true rfl, Nat.le_of_ble_eq_true rfl⟩) hP hD hS hA [0, 3] [1, 2] rfl rfl (by decide) (by decide) (fun r_2 u_4 H locs w_3 hP hD hS => ?_)
    have hP : va_P D vwCl [(ra, .inr (4, [.ref t0, .ref t1, .ref t2, .ref t3, .ref t4, .int 0, .int 0])), (t0, .inl (cI, 50, .inl f0))] H := hP
    have hD : va_D A [(ra, .inr (4, [.ref t0, .ref t1, .ref t2, .ref t3, .ref t4, .int 0, .int 0])), (t0, .inl (cI, 50, .inl f0))] := hD
    have hr_2 := w_3
    obtain rfl : r_2 = (-1000001) := hr_2.trans (by decide)
    exact hRet () [] (by unfold sp_feed; first | (rw [if_pos (by omega)]; exact k_inj (by omega)) | rw [if_neg (by omega)]) hP hD (by decide) rfl hS rfl dX10_feed_16
  · refine lv_iload_n hx hb dX10_feed_5 rfl (lv_at hl 2 rfl) ?_
    refine lv_bipush (v := 8) hx hb dX10_feed_6 (by decide) ?_
    refine b_icmp_le hx hb rfl zl_8 (tgt := 17) dX10_feed_8 (by decide) (fun c_5 => ?_) (fun c_5 => ?_)
    · refine lv_aload_n hx hb dX10_feed_17 rfl (lv_at hl 0 rfl) ?_
      refine va_get (D := D) (ci := 10) (v := .ref ra) (C := RX10) (T := TX10) (N := 13) hx hb hT giX10 hown hK hP 0 rfl rfl 3 (by decide) (hT (Cond.fieldLink RX10 25 "DesertWire" "rates" "LDesertWire$Rates;") mw_294) (fun _ h9 => h9) rfl dX10_feed_18 ?_
      refine va_get (D := D) (ci := 4) (v := .int 0) (C := RX4) (T := TX4) (N := 7) hx hb hT giX4 hown hK hP 1 rfl rfl 5 (by decide) (hT (Cond.fieldLink RX10 255 "DesertWire$Rates" "taped" "I") mw_144) (fun _ h9 => h9) rfl dX10_feed_21 ?_
      refine lv_iload_n hx hb dX10_feed_24 rfl (lv_at hl 2 rfl) ?_
      refine lv_iadd hx hb dX10_feed_25 ?_
      refine lv_topi (fun v_6 ev_6 => ?_)
      have tv_6 : v_6.toInt = 0 + a.toInt := by rw [ev_6]; exact k_addv zl_0 rfl (by omega) (by omega)
      refine lv_bipush (v := 50) hx hb dX10_feed_26 (by decide) ?_
      refine b_icmp_le hx hb rfl zl_50 (tgt := 37) dX10_feed_28 (by decide) (fun c_7 => ?_) (fun c_7 => by exfalso; omega)
      refine lv_aload_n hx hb dX10_feed_37 rfl (lv_at hl 0 rfl) ?_
      refine va_get (D := D) (ci := 10) (v := .ref ra) (C := RX10) (T := TX10) (N := 13) hx hb hT giX10 hown hK hP 0 rfl rfl 3 (by decide) (hT (Cond.fieldLink RX10 25 "DesertWire" "rates" "LDesertWire$Rates;") mw_294) (fun _ h9 => h9) rfl dX10_feed_38 ?_
      refine lv_lload_n hx hb dX10_feed_41 rfl (lv_at hl 1 rfl) ?_
      refine lv_iload_n hx hb dX10_feed_42 rfl (lv_at hl 2 rfl) ?_
      refine kJv (wr := [(x, .inr (10, [.ref nw, .ref kp, .ref fu, .ref ra, .ref kr, .ref rd, .ref wd, .ref ld, .ref mt, .ref vo, .ref sh, .ref fd, .int im])), (fd, .inl (cI, 6, .inl ff))]) (va_runV (As := [.long wo, .int a]) (rest := []) ⟨hx, hb, hml, hown, hT⟩ (c_X4_append l D cI ra t0 t1 t2 t3 t4 s.heap.size 0 f0 wo a (by first | omega | (simp only [zl_0] <;> omega) | decide | assumption | rfl) (by first | omega | (simp only [zl_0] <;> omega) | decide | assumption | rfl)) (cwV 2 hT (gV_in mw_838 mw_835 mw_836 mw_837 mw_5) rfl rfl rfl (by decide +kernel) ⟨Nat.le_of_ble_eq_true rfl, Nat.le_of_ble_eq_true rfl⟩) (kRecv (own := "") (q0 := 1) (ci := 4) hK hP hD hN rfl rfl [1, 2] rfl (by decide)) rfl rfl hl.1 rfl (lv_room (Nat.le_of_ble_eq_true rfl)) dX10_feed_43 ⟨Nat.le_of_ble_eq_true rfl, Nat.le_of_ble_eq_true rfl⟩) hP hD hS hA [1, 2] [0, 3] rfl rfl (by decide) (by decide) (fun tt_10 H locs w_9 hP hD hS => ?_)
      have hP : va_P D vwCl [(x, .inr (10, [.ref nw, .ref kp, .ref fu, .ref ra, .ref kr, .ref rd, .ref wd, .ref ld, .ref mt, .ref vo, .ref sh, .ref fd, .int im])), (fd, .inl (cI, 6, .inl ff)), (ra, .inr (4, [.ref t0, .ref t1, .ref t2, .ref t3, .ref t4, .int tt_10, .int 0]))] H := hP
      have hD : va_D A [(x, .inr (10, [.ref nw, .ref kp, .ref fu, .ref ra, .ref kr, .ref rd, .ref wd, .ref ld, .ref mt, .ref vo, .ref sh, .ref fd, .int im])), (fd, .inl (cI, 6, .inl ff)), (ra, .inr (4, [.ref t0, .ref t1, .ref t2, .ref t3, .ref t4, .int tt_10, .int 0]))] := hD
      have lo_tt_10 := k_lo tt_10
      have hi_tt_10 := k_hi tt_10
      have h_11 := w_9
      try simp only [zl_0] at h_11
      have h_11 : tt_10.toInt = a.toInt := h_11
      refine lv_aload_n hx hb dX10_feed_46 rfl (lv_at hl 0 rfl) ?_
      refine va_get (D := D) (ci := 10) (v := .ref ra) (C := RX10) (T := TX10) (N := 13) hx hb hT giX10 hown hK hP 0 rfl rfl 3 (by decide) (hT (Cond.fieldLink RX10 25 "DesertWire" "rates" "LDesertWire$Rates;") mw_294) (fun _ h9 => h9) rfl dX10_feed_47 ?_
      refine va_get (D := D) (ci := 4) (v := .int tt_10) (C := RX4) (T := TX4) (N := 7) hx hb hT giX4 hown hK hP 2 rfl rfl 5 (by decide) (hT (Cond.fieldLink RX10 255 "DesertWire$Rates" "taped" "I") mw_144) (fun _ h9 => h9) rfl dX10_feed_50 ?_
      exact hRet () [] (by unfold sp_feed; first | (rw [if_pos (by omega)]; exact k_inj (by omega)) | rw [if_neg (by omega)]) hP hD (by decide) rfl hS rfl dX10_feed_53
    · refine lv_aload_n hx hb dX10_feed_11 rfl (lv_at hl 0 rfl) ?_
      refine lv_iconst (v := 1) hx hb dX10_feed_12 (by decide) ?_
      refine kJi (wr := [(ra, .inr (4, [.ref t0, .ref t1, .ref t2, .ref t3, .ref t4, .int 0, .int 0])), (t0, .inl (cI, 50, .inl f0))]) (va_runV (As := [.int 1]) (rest := []) ⟨hx, hb, hml, hown, hT⟩ (c_X10_finding l D cI x nw kp fu ra kr rd wd ld mt vo sh fd s.heap.size im ff 1 (by first | omega | (simp only [zl_1] <;> omega) | decide | assumption | rfl) (by first | omega | (simp only [zl_1] <;> omega) | decide | assumption | rfl)) (cwV 1 hT (gV_in mw_338 mw_335 mw_337 mw_p1_0 mw_1) rfl rfl rfl (by decide +kernel) ⟨Nat.le_of_ble_eq_true rfl, Nat.le_of_ble_eq_true rfl⟩) (kRecv (own := "") (q0 := 0) (ci := 10) hK hP hD hN rfl rfl [0, 3] rfl (by decide)) rfl rfl hl.1 rfl (lv_room (Nat.le_of_ble_eq_true rfl)) dX10_feed_13 ⟨Nat.le_of_ble_eq_true rfl, Nat.le_of_ble_eq_true rfl⟩) hP hD hS hA [0, 3] [1, 2] rfl rfl (by decide) (by decide) (fun r_12 u_14 H locs w_13 hP hD hS => ?_)
      have hP : va_P D vwCl [(ra, .inr (4, [.ref t0, .ref t1, .ref t2, .ref t3, .ref t4, .int 0, .int 0])), (t0, .inl (cI, 50, .inl f0))] H := hP
      have hD : va_D A [(ra, .inr (4, [.ref t0, .ref t1, .ref t2, .ref t3, .ref t4, .int 0, .int 0])), (t0, .inl (cI, 50, .inl f0))] := hD
      have hr_12 := w_13
      obtain rfl : r_12 = (-1000001) := hr_12.trans (by decide)
      exact hRet () [] (by unfold sp_feed; first | (rw [if_pos (by omega)]; exact k_inj (by omega)) | rw [if_neg (by omega)]) hP hD (by decide) rfl hS rfl dX10_feed_16
set_option maxHeartbeats 4000000 in
set_option maxRecDepth 100000 in
theorem c_X10_rate (l : Launch) (D : va_G) (cI : ClassId) (x nw kp fu ra kr rd wd ld mt vo sh fd t0 t1 t2 t3 t4 tx : Nat) (sz : Nat) (im : Int32) (ff : Nat → Int32) (a : Int32) (b : Int32) : Met l yX10_rate (gW yX10_rate cX10_rate 4 (some .int)) ({ frames := 8, cells := 0, slots := 0, locals := 191 } : Room) (kPre D cI [.ref x, .int a, .int b] [(x, .inr (10, [.ref nw, .ref kp, .ref fu, .ref ra, .ref kr, .ref rd, .ref wd, .ref ld, .ref mt, .ref vo, .ref sh, .ref fd, .int im])), (ra, .inr (4, [.ref t0, .ref t1, .ref t2, .ref t3, .ref t4, .int 0, .int 0])), (rd, .inr (5, [.ref tx, .int 0, .int 0, .int 0, .int 0, .int 0, .int 0, .int 0])), (fd, .inl (cI, 6, .inl ff))] sz) (va_Qi (fun (r : Int32) (u : Unit) => r = sp_rate a b) (fun u t => kWd D cI (va_A [(x, .inr (10, [.ref nw, .ref kp, .ref fu, .ref ra, .ref kr, .ref rd, .ref wd, .ref ld, .ref mt, .ref vo, .ref sh, .ref fd, .int im])), (ra, .inr (4, [.ref t0, .ref t1, .ref t2, .ref t3, .ref t4, .int 0, .int 0])), (rd, .inr (5, [.ref tx, .int 0, .int 0, .int 0, .int 0, .int 0, .int 0, .int 0])), (fd, .inl (cI, 6, .inl ff))] sz) [] t) (va_A [(x, .inr (10, [.ref nw, .ref kp, .ref fu, .ref ra, .ref kr, .ref rd, .ref wd, .ref ld, .ref mt, .ref vo, .ref sh, .ref fd, .int im])), (ra, .inr (4, [.ref t0, .ref t1, .ref t2, .ref t3, .ref t4, .int 0, .int 0])), (rd, .inr (5, [.ref tx, .int 0, .int 0, .int 0, .int 0, .int 0, .int 0, .int 0])), (fd, .inl (cI, 6, .inl ff))] sz)) 0 0 (va_A [(x, .inr (10, [.ref nw, .ref kp, .ref fu, .ref ra, .ref kr, .ref rd, .ref wd, .ref ld, .ref mt, .ref vo, .ref sh, .ref fd, .int im])), (ra, .inr (4, [.ref t0, .ref t1, .ref t2, .ref t3, .ref t4, .int 0, .int 0])), (rd, .inr (5, [.ref tx, .int 0, .int 0, .int 0, .int 0, .int 0, .int 0, .int 0])), (fd, .inl (cI, 6, .inl ff))] sz) := by
  refine kMetI (own := RX10) (by decide) rfl (Nat.le_of_ble_eq_true rfl) ?_
  intro p e s m args below meth c hx hb hT hown hname hml A Q hK hP hD hS hA hN hRet ls hl
  have hl : lv_has ls 4 [(0, .ref x), (1, .int a), (2, .int b)] := hl
  have lo_a := k_lo a
  have hi_a := k_hi a
  have lo_b := k_lo b
  have hi_b := k_hi b
  have lo_im := k_lo im
  have hi_im := k_hi im
  refine lv_iload_n hx hb dX10_rate_0 rfl (lv_at hl 1 rfl) ?_
  refine kJi (wr := [(x, .inr (10, [.ref nw, .ref kp, .ref fu, .ref ra, .ref kr, .ref rd, .ref wd, .ref ld, .ref mt, .ref vo, .ref sh, .ref fd, .int im])), (ra, .inr (4, [.ref t0, .ref t1, .ref t2, .ref t3, .ref t4, .int 0, .int 0])), (rd, .inr (5, [.ref tx, .int 0, .int 0, .int 0, .int 0, .int 0, .int 0, .int 0])), (fd, .inl (cI, 6, .inl ff))]) (va_runS (As := [.int a]) (rest := []) ⟨hx, hb, hml, hown, hT⟩ (c_X10_isUse l D cI s.heap.size a) (cwS 1 hT (gS_in mw_846 mw_844 mw_845 mw_1) rfl rfl rfl (by decide +kernel) ⟨Nat.le_of_ble_eq_true rfl, Nat.le_of_ble_eq_true rfl⟩) (kStat hK hP hD hN [] rfl (by decide)) rfl rfl hl.1 rfl (lv_room (Nat.le_of_ble_eq_true rfl)) dX10_rate_1 ⟨Nat.le_of_ble_eq_true rfl, Nat.le_of_ble_eq_true rfl⟩) hP hD hS hA [] [0, 1, 2, 3] rfl rfl (by decide) (by decide) (fun r_1 u_3 H locs w_2 hP hD hS => ?_)
  have hP : va_P D vwCl [(x, .inr (10, [.ref nw, .ref kp, .ref fu, .ref ra, .ref kr, .ref rd, .ref wd, .ref ld, .ref mt, .ref vo, .ref sh, .ref fd, .int im])), (ra, .inr (4, [.ref t0, .ref t1, .ref t2, .ref t3, .ref t4, .int 0, .int 0])), (rd, .inr (5, [.ref tx, .int 0, .int 0, .int 0, .int 0, .int 0, .int 0, .int 0])), (fd, .inl (cI, 6, .inl ff))] H := hP
  have hD : va_D A [(x, .inr (10, [.ref nw, .ref kp, .ref fu, .ref ra, .ref kr, .ref rd, .ref wd, .ref ld, .ref mt, .ref vo, .ref sh, .ref fd, .int im])), (ra, .inr (4, [.ref t0, .ref t1, .ref t2, .ref t3, .ref t4, .int 0, .int 0])), (rd, .inr (5, [.ref tx, .int 0, .int 0, .int 0, .int 0, .int 0, .int 0, .int 0])), (fd, .inl (cI, 6, .inl ff))] := hD
  rcases w_2 with ⟨hr_1, h_4, h_5⟩ | ⟨hr_1, h_6⟩
  · have h_4 : 0 ≤ a.toInt := h_4
    have h_5 : a.toInt ≤ 2 := h_5
    obtain rfl : r_1 = 1 := hr_1.trans (by decide)
    refine b_if_eq hx hb zl_1 (tgt := 14) dX10_rate_4 (by decide) (fun c_7 => by exfalso; omega) (fun c_7 => ?_)
    refine lv_iload_n hx hb dX10_rate_7 rfl (lv_at hl 2 rfl) ?_
    refine kJi (wr := [(x, .inr (10, [.ref nw, .ref kp, .ref fu, .ref ra, .ref kr, .ref rd, .ref wd, .ref ld, .ref mt, .ref vo, .ref sh, .ref fd, .int im])), (ra, .inr (4, [.ref t0, .ref t1, .ref t2, .ref t3, .ref t4, .int 0, .int 0])), (rd, .inr (5, [.ref tx, .int 0, .int 0, .int 0, .int 0, .int 0, .int 0, .int 0])), (fd, .inl (cI, 6, .inl ff))]) (va_runS (As := [.int b]) (rest := []) ⟨hx, hb, hml, hown, hT⟩ (c_X10_isDay l D cI H.size b) (cwS 1 hT (gS_in mw_849 mw_847 mw_848 mw_1) rfl rfl rfl (by decide +kernel) ⟨Nat.le_of_ble_eq_true rfl, Nat.le_of_ble_eq_true rfl⟩) (kStat hK hP hD hN [] rfl (by decide)) rfl rfl hl.1 rfl (lv_room (Nat.le_of_ble_eq_true rfl)) dX10_rate_8 ⟨Nat.le_of_ble_eq_true rfl, Nat.le_of_ble_eq_true rfl⟩) hP hD hS hA [] [0, 1, 2, 3] rfl rfl (by decide) (by decide) (fun r_8 u_10 H locs w_9 hP hD hS => ?_)
    have hP : va_P D vwCl [(x, .inr (10, [.ref nw, .ref kp, .ref fu, .ref ra, .ref kr, .ref rd, .ref wd, .ref ld, .ref mt, .ref vo, .ref sh, .ref fd, .int im])), (ra, .inr (4, [.ref t0, .ref t1, .ref t2, .ref t3, .ref t4, .int 0, .int 0])), (rd, .inr (5, [.ref tx, .int 0, .int 0, .int 0, .int 0, .int 0, .int 0, .int 0])), (fd, .inl (cI, 6, .inl ff))] H := hP
    have hD : va_D A [(x, .inr (10, [.ref nw, .ref kp, .ref fu, .ref ra, .ref kr, .ref rd, .ref wd, .ref ld, .ref mt, .ref vo, .ref sh, .ref fd, .int im])), (ra, .inr (4, [.ref t0, .ref t1, .ref t2, .ref t3, .ref t4, .int 0, .int 0])), (rd, .inr (5, [.ref tx, .int 0, .int 0, .int 0, .int 0, .int 0, .int 0, .int 0])), (fd, .inl (cI, 6, .inl ff))] := hD
    rcases w_9 with ⟨hr_8, h_11, h_12⟩ | ⟨hr_8, h_13⟩
    · have h_11 : 0 ≤ b.toInt := h_11
      have h_12 : b.toInt ≤ 2000 := h_12
      obtain rfl : r_8 = 1 := hr_8.trans (by decide)
      refine b_if_ne hx hb zl_1 (tgt := 20) dX10_rate_11 (by decide) (fun c_14 => ?_) (fun c_14 => by exfalso; omega)
      refine lv_aload_n hx hb dX10_rate_20 rfl (lv_at hl 0 rfl) ?_
      refine va_get (D := D) (ci := 10) (v := .ref ra) (C := RX10) (T := TX10) (N := 13) hx hb hT giX10 hown hK hP 0 rfl rfl 3 (by decide) (hT (Cond.fieldLink RX10 25 "DesertWire" "rates" "LDesertWire$Rates;") mw_294) (fun _ h9 => h9) rfl dX10_rate_21 ?_
      refine kJi (wr := [(x, .inr (10, [.ref nw, .ref kp, .ref fu, .ref ra, .ref kr, .ref rd, .ref wd, .ref ld, .ref mt, .ref vo, .ref sh, .ref fd, .int im])), (rd, .inr (5, [.ref tx, .int 0, .int 0, .int 0, .int 0, .int 0, .int 0, .int 0])), (fd, .inl (cI, 6, .inl ff))]) (va_runV (As := []) (rest := []) ⟨hx, hb, hml, hown, hT⟩ (c_X4_hasRoom l D cI ra t0 t1 t2 t3 t4 H.size 0 0) (cwV 0 hT (gV_in mw_853 mw_850 mw_851 mw_852 mw_5) rfl rfl rfl (by decide +kernel) ⟨Nat.le_of_ble_eq_true rfl, Nat.le_of_ble_eq_true rfl⟩) (kRecv (own := "") (q0 := 1) (ci := 4) hK hP hD hN rfl rfl [1] rfl (by decide)) rfl rfl hl.1 rfl (lv_room (Nat.le_of_ble_eq_true rfl)) dX10_rate_24 ⟨Nat.le_of_ble_eq_true rfl, Nat.le_of_ble_eq_true rfl⟩) hP hD hS hA [1] [0, 2, 3] rfl rfl (by decide) (by decide) (fun r_15 u_17 H locs w_16 hP hD hS => ?_)
      have hP : va_P D vwCl [(x, .inr (10, [.ref nw, .ref kp, .ref fu, .ref ra, .ref kr, .ref rd, .ref wd, .ref ld, .ref mt, .ref vo, .ref sh, .ref fd, .int im])), (rd, .inr (5, [.ref tx, .int 0, .int 0, .int 0, .int 0, .int 0, .int 0, .int 0])), (fd, .inl (cI, 6, .inl ff)), (ra, .inr (4, [.ref t0, .ref t1, .ref t2, .ref t3, .ref t4, .int 0, .int 0]))] H := hP
      have hD : va_D A [(x, .inr (10, [.ref nw, .ref kp, .ref fu, .ref ra, .ref kr, .ref rd, .ref wd, .ref ld, .ref mt, .ref vo, .ref sh, .ref fd, .int im])), (rd, .inr (5, [.ref tx, .int 0, .int 0, .int 0, .int 0, .int 0, .int 0, .int 0])), (fd, .inl (cI, 6, .inl ff)), (ra, .inr (4, [.ref t0, .ref t1, .ref t2, .ref t3, .ref t4, .int 0, .int 0]))] := hD
      rcases w_16 with ⟨hr_15, h_18, h_19⟩ | ⟨hr_15, h_20⟩
      · try simp only [zl_0] at h_18
        try simp only [zl_0] at h_19
        obtain rfl : r_15 = 1 := hr_15.trans (by decide)
        refine b_if_ne hx hb zl_1 (tgt := 36) dX10_rate_27 (by decide) (fun c_21 => ?_) (fun c_21 => by exfalso; omega)
        refine lv_aload_n hx hb dX10_rate_36 rfl (lv_at hl 0 rfl) ?_
        refine va_get (D := D) (ci := 10) (v := .ref rd) (C := RX10) (T := TX10) (N := 13) hx hb hT giX10 hown hK hP 0 rfl rfl 5 (by decide) (hT (Cond.fieldLink RX10 35 "DesertWire" "reader" "LDesertWire$Reader;") mw_296) (fun _ h9 => h9) rfl dX10_rate_37 ?_
        refine lv_aload_n hx hb dX10_rate_40 rfl (lv_at hl 0 rfl) ?_
        refine va_get (D := D) (ci := 10) (v := .ref ra) (C := RX10) (T := TX10) (N := 13) hx hb hT giX10 hown hK hP 0 rfl rfl 3 (by decide) (hT (Cond.fieldLink RX10 25 "DesertWire" "rates" "LDesertWire$Rates;") mw_294) (fun _ h9 => h9) rfl dX10_rate_41 ?_
        refine va_get (D := D) (ci := 4) (v := .ref t0) (C := RX4) (T := TX4) (N := 7) hx hb hT giX4 hown hK hP 3 rfl rfl 0 (by decide) (hT (Cond.fieldLink RX10 269 "DesertWire$Rates" "tape" "[I") mw_137) (fun _ h9 => h9) rfl dX10_rate_44 ?_
        refine lv_iconst (v := 0) hx hb dX10_rate_47 (by decide) ?_
        refine lv_aload_n hx hb dX10_rate_48 rfl (lv_at hl 0 rfl) ?_
        refine va_get (D := D) (ci := 10) (v := .ref ra) (C := RX10) (T := TX10) (N := 13) hx hb hT giX10 hown hK hP 0 rfl rfl 3 (by decide) (hT (Cond.fieldLink RX10 25 "DesertWire" "rates" "LDesertWire$Rates;") mw_294) (fun _ h9 => h9) rfl dX10_rate_49 ?_
        refine va_get (D := D) (ci := 4) (v := .int 0) (C := RX4) (T := TX4) (N := 7) hx hb hT giX4 hown hK hP 3 rfl rfl 5 (by decide) (hT (Cond.fieldLink RX10 255 "DesertWire$Rates" "taped" "I") mw_144) (fun _ h9 => h9) rfl dX10_rate_52 ?_
        refine kJv (wr := [(x, .inr (10, [.ref nw, .ref kp, .ref fu, .ref ra, .ref kr, .ref rd, .ref wd, .ref ld, .ref mt, .ref vo, .ref sh, .ref fd, .int im])), (fd, .inl (cI, 6, .inl ff)), (ra, .inr (4, [.ref t0, .ref t1, .ref t2, .ref t3, .ref t4, .int 0, .int 0]))]) (va_runV (As := [.ref t0, .int 0, .int 0]) (rest := []) ⟨hx, hb, hml, hown, hT⟩ (c_X5_open l D cI rd tx t0 H.size 0 0 0 0 0 0 0 0 0 (by first | omega | (simp only [zl_0] <;> omega) | decide | assumption | rfl)) (cwV 3 hT (gV_in mw_452 mw_449 mw_450 mw_451 mw_6) rfl rfl rfl (by decide +kernel) ⟨Nat.le_of_ble_eq_true rfl, Nat.le_of_ble_eq_true rfl⟩) (kRecv (own := "") (q0 := 1) (ci := 5) hK hP hD hN rfl rfl [1] rfl (by decide)) rfl rfl hl.1 rfl (lv_room (Nat.le_of_ble_eq_true rfl)) dX10_rate_55 ⟨Nat.le_of_ble_eq_true rfl, Nat.le_of_ble_eq_true rfl⟩) hP hD hS hA [1] [0, 2, 3] rfl rfl (by decide) (by decide) (fun u_24 H locs w_23 hP hD hS => ?_)
        have hP : va_P D vwCl [(x, .inr (10, [.ref nw, .ref kp, .ref fu, .ref ra, .ref kr, .ref rd, .ref wd, .ref ld, .ref mt, .ref vo, .ref sh, .ref fd, .int im])), (fd, .inl (cI, 6, .inl ff)), (ra, .inr (4, [.ref t0, .ref t1, .ref t2, .ref t3, .ref t4, .int 0, .int 0])), (rd, .inr (5, [.ref tx, .int 0, .int 0, .int 0, .int 0, .int 0, .int 0, .int 0]))] H := hP
        have hD : va_D A [(x, .inr (10, [.ref nw, .ref kp, .ref fu, .ref ra, .ref kr, .ref rd, .ref wd, .ref ld, .ref mt, .ref vo, .ref sh, .ref fd, .int im])), (fd, .inl (cI, 6, .inl ff)), (ra, .inr (4, [.ref t0, .ref t1, .ref t2, .ref t3, .ref t4, .int 0, .int 0])), (rd, .inr (5, [.ref tx, .int 0, .int 0, .int 0, .int 0, .int 0, .int 0, .int 0]))] := hD
        refine lv_aload_n hx hb dX10_rate_58 rfl (lv_at hl 0 rfl) ?_
        refine va_get (D := D) (ci := 10) (v := .ref rd) (C := RX10) (T := TX10) (N := 13) hx hb hT giX10 hown hK hP 0 rfl rfl 5 (by decide) (hT (Cond.fieldLink RX10 35 "DesertWire" "reader" "LDesertWire$Reader;") mw_296) (fun _ h9 => h9) rfl dX10_rate_59 ?_
        refine lv_iload_n hx hb dX10_rate_62 rfl (lv_at hl 1 rfl) ?_
        refine lv_iconst (v := 0) hx hb dX10_rate_63 (by decide) ?_
        refine lv_iconst (v := 0) hx hb dX10_rate_64 (by decide) ?_
        refine lv_iconst (v := 0) hx hb dX10_rate_65 (by decide) ?_
        refine kJi (wr := [(x, .inr (10, [.ref nw, .ref kp, .ref fu, .ref ra, .ref kr, .ref rd, .ref wd, .ref ld, .ref mt, .ref vo, .ref sh, .ref fd, .int im])), (fd, .inl (cI, 6, .inl ff)), (ra, .inr (4, [.ref t0, .ref t1, .ref t2, .ref t3, .ref t4, .int 0, .int 0]))]) (va_runV (As := [.int a, .int 0, .int 0, .int 0]) (rest := []) ⟨hx, hb, hml, hown, hT⟩ (c_X5_valueFor l D cI rd tx H.size 0 0 0 0 0 0 a 0 0 0) (cwV 4 hT (gV_in mw_456 mw_453 mw_454 mw_455 mw_6) rfl rfl rfl (by decide +kernel) ⟨Nat.le_of_ble_eq_true rfl, Nat.le_of_ble_eq_true rfl⟩) (kRecv (own := "") (q0 := 3) (ci := 5) hK hP hD hN rfl rfl [3] rfl (by decide)) rfl rfl hl.1 rfl (lv_room (Nat.le_of_ble_eq_true rfl)) dX10_rate_66 ⟨Nat.le_of_ble_eq_true rfl, Nat.le_of_ble_eq_true rfl⟩) hP hD hS hA [3] [0, 1, 2] rfl rfl (by decide) (by decide) (fun r_25 u_27 H locs w_26 hP hD hS => ?_)
        have hP : va_P D vwCl [(x, .inr (10, [.ref nw, .ref kp, .ref fu, .ref ra, .ref kr, .ref rd, .ref wd, .ref ld, .ref mt, .ref vo, .ref sh, .ref fd, .int im])), (fd, .inl (cI, 6, .inl ff)), (ra, .inr (4, [.ref t0, .ref t1, .ref t2, .ref t3, .ref t4, .int 0, .int 0])), (rd, .inr (5, [.ref tx, .int 0, .int 0, .int 1, .int a, .int 0, .int 0, .int 0]))] H := hP
        have hD : va_D A [(x, .inr (10, [.ref nw, .ref kp, .ref fu, .ref ra, .ref kr, .ref rd, .ref wd, .ref ld, .ref mt, .ref vo, .ref sh, .ref fd, .int im])), (fd, .inl (cI, 6, .inl ff)), (ra, .inr (4, [.ref t0, .ref t1, .ref t2, .ref t3, .ref t4, .int 0, .int 0])), (rd, .inr (5, [.ref tx, .int 0, .int 0, .int 1, .int a, .int 0, .int 0, .int 0]))] := hD
        have hr_25 := w_26
        obtain rfl : r_25 = 0 := hr_25.trans (by decide)
        refine lv_pop hx hb dX10_rate_69 rfl ?_
        refine lv_aload_n hx hb dX10_rate_70 rfl (lv_at hl 0 rfl) ?_
        refine va_get (D := D) (ci := 10) (v := .ref rd) (C := RX10) (T := TX10) (N := 13) hx hb hT giX10 hown hK hP 0 rfl rfl 5 (by decide) (hT (Cond.fieldLink RX10 35 "DesertWire" "reader" "LDesertWire$Reader;") mw_296) (fun _ h9 => h9) rfl dX10_rate_71 ?_
        refine kJi (wr := [(x, .inr (10, [.ref nw, .ref kp, .ref fu, .ref ra, .ref kr, .ref rd, .ref wd, .ref ld, .ref mt, .ref vo, .ref sh, .ref fd, .int im])), (fd, .inl (cI, 6, .inl ff)), (ra, .inr (4, [.ref t0, .ref t1, .ref t2, .ref t3, .ref t4, .int 0, .int 0]))]) (va_runV (As := []) (rest := []) ⟨hx, hb, hml, hown, hT⟩ (c_X5_fault l D cI rd tx H.size a 0 0 0) (cwV 0 hT (gV_in mw_857 mw_854 mw_855 mw_856 mw_6) rfl rfl rfl (by decide +kernel) ⟨Nat.le_of_ble_eq_true rfl, Nat.le_of_ble_eq_true rfl⟩) (kRecv (own := "") (q0 := 3) (ci := 5) hK hP hD hN rfl rfl [3] rfl (by decide)) rfl rfl hl.1 rfl (lv_room (Nat.le_of_ble_eq_true rfl)) dX10_rate_74 ⟨Nat.le_of_ble_eq_true rfl, Nat.le_of_ble_eq_true rfl⟩) hP hD hS hA [3] [0, 1, 2] rfl rfl (by decide) (by decide) (fun r_28 u_30 H locs w_29 hP hD hS => ?_)
        have hP : va_P D vwCl [(x, .inr (10, [.ref nw, .ref kp, .ref fu, .ref ra, .ref kr, .ref rd, .ref wd, .ref ld, .ref mt, .ref vo, .ref sh, .ref fd, .int im])), (fd, .inl (cI, 6, .inl ff)), (ra, .inr (4, [.ref t0, .ref t1, .ref t2, .ref t3, .ref t4, .int 0, .int 0])), (rd, .inr (5, [.ref tx, .int 0, .int 0, .int 1, .int a, .int 0, .int 0, .int 0]))] H := hP
        have hD : va_D A [(x, .inr (10, [.ref nw, .ref kp, .ref fu, .ref ra, .ref kr, .ref rd, .ref wd, .ref ld, .ref mt, .ref vo, .ref sh, .ref fd, .int im])), (fd, .inl (cI, 6, .inl ff)), (ra, .inr (4, [.ref t0, .ref t1, .ref t2, .ref t3, .ref t4, .int 0, .int 0])), (rd, .inr (5, [.ref tx, .int 0, .int 0, .int 1, .int a, .int 0, .int 0, .int 0]))] := hD
        have hr_28 := w_29
        obtain rfl : r_28 = 0 := hr_28.trans (by decide)
        refine lv_istore_n (lv' := [(3, .int 0), (0, .ref x), (1, .int a), (2, .int b)]) hx hb dX10_rate_77 rfl hl (by decide) rfl (fun ls hl => ?_)
        refine lv_iload_n hx hb dX10_rate_78 rfl (lv_at hl 0 rfl) ?_
        refine b_if_lt hx hb zl_0 (tgt := 95) dX10_rate_79 (by decide) (fun c_31 => by exfalso; omega) (fun c_31 => ?_)
        refine lv_aload_n hx hb dX10_rate_82 rfl (lv_at hl 1 rfl) ?_
        refine va_get (D := D) (ci := 10) (v := .ref ra) (C := RX10) (T := TX10) (N := 13) hx hb hT giX10 hown hK hP 0 rfl rfl 3 (by decide) (hT (Cond.fieldLink RX10 25 "DesertWire" "rates" "LDesertWire$Rates;") mw_294) (fun _ h9 => h9) rfl dX10_rate_83 ?_
        refine lv_iconst (v := 0) hx hb dX10_rate_86 (by decide) ?_
        refine va_put (D := D) (ci := 4) (v := .int 0) (ty := .int) (C := RX4) (T := TX4) (N := 7) hx hb hT giX4 tyX4 tyX4_ok nmX4 hown hK hP hD hS 2 rfl rfl 5 (by decide) (hT (Cond.fieldLink RX10 255 "DesertWire$Rates" "taped" "I") mw_144) (fun _ h9 => h9) rfl (by decide +kernel) rfl rfl (Nat.le_of_ble_eq_true rfl) dX10_rate_87 (fun H locs hP hD hS => ?_)
        have hP : va_P D vwCl [(x, .inr (10, [.ref nw, .ref kp, .ref fu, .ref ra, .ref kr, .ref rd, .ref wd, .ref ld, .ref mt, .ref vo, .ref sh, .ref fd, .int im])), (fd, .inl (cI, 6, .inl ff)), (ra, .inr (4, [.ref t0, .ref t1, .ref t2, .ref t3, .ref t4, .int 0, .int 0])), (rd, .inr (5, [.ref tx, .int 0, .int 0, .int 1, .int a, .int 0, .int 0, .int 0]))] H := hP
        have hD : va_D A [(x, .inr (10, [.ref nw, .ref kp, .ref fu, .ref ra, .ref kr, .ref rd, .ref wd, .ref ld, .ref mt, .ref vo, .ref sh, .ref fd, .int im])), (fd, .inl (cI, 6, .inl ff)), (ra, .inr (4, [.ref t0, .ref t1, .ref t2, .ref t3, .ref t4, .int 0, .int 0])), (rd, .inr (5, [.ref tx, .int 0, .int 0, .int 1, .int a, .int 0, .int 0, .int 0]))] := hD
        refine lv_bipush (v := (-10)) hx hb dX10_rate_90 (by decide) ?_
        refine lv_iload_n hx hb dX10_rate_92 rfl (lv_at hl 0 rfl) ?_
        refine k_isub (v := (-10)) hx hb dX10_rate_93 (by decide) ?_
        exact hRet () [] (by unfold sp_rate; repeat (first | rw [if_pos (by omega)] | rw [if_neg (by omega)])) hP hD (by decide) rfl hS rfl dX10_rate_94
      · (try simp only [zl_0] at h_20); exfalso; omega
    · have h_13 : b.toInt < 0 ∨ 2000 < b.toInt := h_13
      obtain rfl : r_8 = 0 := hr_8.trans (by decide)
      refine b_if_ne hx hb zl_0 (tgt := 20) dX10_rate_11 (by decide) (fun c_32 => by exfalso; omega) (fun c_32 => ?_)
      refine lv_aload_n hx hb dX10_rate_14 rfl (lv_at hl 0 rfl) ?_
      refine lv_iconst (v := 1) hx hb dX10_rate_15 (by decide) ?_
      refine kJi (wr := [(ra, .inr (4, [.ref t0, .ref t1, .ref t2, .ref t3, .ref t4, .int 0, .int 0])), (rd, .inr (5, [.ref tx, .int 0, .int 0, .int 0, .int 0, .int 0, .int 0, .int 0]))]) (va_runV (As := [.int 1]) (rest := []) ⟨hx, hb, hml, hown, hT⟩ (c_X10_finding l D cI x nw kp fu ra kr rd wd ld mt vo sh fd H.size im ff 1 (by first | omega | (simp only [zl_1] <;> omega) | decide | assumption | rfl) (by first | omega | (simp only [zl_1] <;> omega) | decide | assumption | rfl)) (cwV 1 hT (gV_in mw_338 mw_335 mw_337 mw_p1_0 mw_1) rfl rfl rfl (by decide +kernel) ⟨Nat.le_of_ble_eq_true rfl, Nat.le_of_ble_eq_true rfl⟩) (kRecv (own := "") (q0 := 0) (ci := 10) hK hP hD hN rfl rfl [0, 3] rfl (by decide)) rfl rfl hl.1 rfl (lv_room (Nat.le_of_ble_eq_true rfl)) dX10_rate_16 ⟨Nat.le_of_ble_eq_true rfl, Nat.le_of_ble_eq_true rfl⟩) hP hD hS hA [0, 3] [1, 2] rfl rfl (by decide) (by decide) (fun r_33 u_35 H locs w_34 hP hD hS => ?_)
      have hP : va_P D vwCl [(ra, .inr (4, [.ref t0, .ref t1, .ref t2, .ref t3, .ref t4, .int 0, .int 0])), (rd, .inr (5, [.ref tx, .int 0, .int 0, .int 0, .int 0, .int 0, .int 0, .int 0]))] H := hP
      have hD : va_D A [(ra, .inr (4, [.ref t0, .ref t1, .ref t2, .ref t3, .ref t4, .int 0, .int 0])), (rd, .inr (5, [.ref tx, .int 0, .int 0, .int 0, .int 0, .int 0, .int 0, .int 0]))] := hD
      have hr_33 := w_34
      obtain rfl : r_33 = (-1000001) := hr_33.trans (by decide)
      exact hRet () [] (by unfold sp_rate; repeat (first | rw [if_pos (by omega)] | rw [if_neg (by omega)])) hP hD (by decide) rfl hS rfl dX10_rate_19
  · have h_6 : a.toInt < 0 ∨ 2 < a.toInt := h_6
    obtain rfl : r_1 = 0 := hr_1.trans (by decide)
    refine b_if_eq hx hb zl_0 (tgt := 14) dX10_rate_4 (by decide) (fun c_36 => ?_) (fun c_36 => by exfalso; omega)
    refine lv_aload_n hx hb dX10_rate_14 rfl (lv_at hl 0 rfl) ?_
    refine lv_iconst (v := 1) hx hb dX10_rate_15 (by decide) ?_
    refine kJi (wr := [(ra, .inr (4, [.ref t0, .ref t1, .ref t2, .ref t3, .ref t4, .int 0, .int 0])), (rd, .inr (5, [.ref tx, .int 0, .int 0, .int 0, .int 0, .int 0, .int 0, .int 0]))]) (va_runV (As := [.int 1]) (rest := []) ⟨hx, hb, hml, hown, hT⟩ (c_X10_finding l D cI x nw kp fu ra kr rd wd ld mt vo sh fd H.size im ff 1 (by first | omega | (simp only [zl_1] <;> omega) | decide | assumption | rfl) (by first | omega | (simp only [zl_1] <;> omega) | decide | assumption | rfl)) (cwV 1 hT (gV_in mw_338 mw_335 mw_337 mw_p1_0 mw_1) rfl rfl rfl (by decide +kernel) ⟨Nat.le_of_ble_eq_true rfl, Nat.le_of_ble_eq_true rfl⟩) (kRecv (own := "") (q0 := 0) (ci := 10) hK hP hD hN rfl rfl [0, 3] rfl (by decide)) rfl rfl hl.1 rfl (lv_room (Nat.le_of_ble_eq_true rfl)) dX10_rate_16 ⟨Nat.le_of_ble_eq_true rfl, Nat.le_of_ble_eq_true rfl⟩) hP hD hS hA [0, 3] [1, 2] rfl rfl (by decide) (by decide) (fun r_37 u_39 H locs w_38 hP hD hS => ?_)
    have hP : va_P D vwCl [(ra, .inr (4, [.ref t0, .ref t1, .ref t2, .ref t3, .ref t4, .int 0, .int 0])), (rd, .inr (5, [.ref tx, .int 0, .int 0, .int 0, .int 0, .int 0, .int 0, .int 0]))] H := hP
    have hD : va_D A [(ra, .inr (4, [.ref t0, .ref t1, .ref t2, .ref t3, .ref t4, .int 0, .int 0])), (rd, .inr (5, [.ref tx, .int 0, .int 0, .int 0, .int 0, .int 0, .int 0, .int 0]))] := hD
    have hr_37 := w_38
    obtain rfl : r_37 = (-1000001) := hr_37.trans (by decide)
    exact hRet () [] (by unfold sp_rate; repeat (first | rw [if_pos (by omega)] | rw [if_neg (by omega)])) hP hD (by decide) rfl hS rfl dX10_rate_19
set_option maxHeartbeats 4000000 in
set_option maxRecDepth 100000 in
theorem c_X10_force (l : Launch) (D : va_G) (cI : ClassId) (x nw kp fu ra kr rd wd ld mt vo sh fd t0 t1 t2 t3 t4 : Nat) (sz : Nat) (im : Int32) (ff : Nat → Int32) (a : Int32) (b : Int32) : Met l yX10_force (gW yX10_force cX10_force 4 (some .int)) ({ frames := 1, cells := 0, slots := 0, locals := 23 } : Room) (kPre D cI [.ref x, .int a, .int b] [(x, .inr (10, [.ref nw, .ref kp, .ref fu, .ref ra, .ref kr, .ref rd, .ref wd, .ref ld, .ref mt, .ref vo, .ref sh, .ref fd, .int im])), (ra, .inr (4, [.ref t0, .ref t1, .ref t2, .ref t3, .ref t4, .int 0, .int 0])), (fd, .inl (cI, 6, .inl ff))] sz) (va_Qi (fun (r : Int32) (u : Unit) => r = sp_force a b) (fun u t => kWd D cI (va_A [(x, .inr (10, [.ref nw, .ref kp, .ref fu, .ref ra, .ref kr, .ref rd, .ref wd, .ref ld, .ref mt, .ref vo, .ref sh, .ref fd, .int im])), (ra, .inr (4, [.ref t0, .ref t1, .ref t2, .ref t3, .ref t4, .int 0, .int 0])), (fd, .inl (cI, 6, .inl ff))] sz) [] t) (va_A [(x, .inr (10, [.ref nw, .ref kp, .ref fu, .ref ra, .ref kr, .ref rd, .ref wd, .ref ld, .ref mt, .ref vo, .ref sh, .ref fd, .int im])), (ra, .inr (4, [.ref t0, .ref t1, .ref t2, .ref t3, .ref t4, .int 0, .int 0])), (fd, .inl (cI, 6, .inl ff))] sz)) 0 0 (va_A [(x, .inr (10, [.ref nw, .ref kp, .ref fu, .ref ra, .ref kr, .ref rd, .ref wd, .ref ld, .ref mt, .ref vo, .ref sh, .ref fd, .int im])), (ra, .inr (4, [.ref t0, .ref t1, .ref t2, .ref t3, .ref t4, .int 0, .int 0])), (fd, .inl (cI, 6, .inl ff))] sz) := by
  refine kMetI (own := RX10) (by decide) rfl (Nat.le_of_ble_eq_true rfl) ?_
  intro p e s m args below meth c hx hb hT hown hname hml A Q hK hP hD hS hA hN hRet ls hl
  have hl : lv_has ls 4 [(0, .ref x), (1, .int a), (2, .int b)] := hl
  have lo_a := k_lo a
  have hi_a := k_hi a
  have lo_b := k_lo b
  have hi_b := k_hi b
  have lo_im := k_lo im
  have hi_im := k_hi im
  refine lv_iload_n hx hb dX10_force_0 rfl (lv_at hl 1 rfl) ?_
  refine kJi (wr := [(x, .inr (10, [.ref nw, .ref kp, .ref fu, .ref ra, .ref kr, .ref rd, .ref wd, .ref ld, .ref mt, .ref vo, .ref sh, .ref fd, .int im])), (ra, .inr (4, [.ref t0, .ref t1, .ref t2, .ref t3, .ref t4, .int 0, .int 0])), (fd, .inl (cI, 6, .inl ff))]) (va_runS (As := [.int a]) (rest := []) ⟨hx, hb, hml, hown, hT⟩ (c_X10_isUse l D cI s.heap.size a) (cwS 1 hT (gS_in mw_846 mw_844 mw_845 mw_1) rfl rfl rfl (by decide +kernel) ⟨Nat.le_of_ble_eq_true rfl, Nat.le_of_ble_eq_true rfl⟩) (kStat hK hP hD hN [] rfl (by decide)) rfl rfl hl.1 rfl (lv_room (Nat.le_of_ble_eq_true rfl)) dX10_force_1 ⟨Nat.le_of_ble_eq_true rfl, Nat.le_of_ble_eq_true rfl⟩) hP hD hS hA [] [0, 1, 2] rfl rfl (by decide) (by decide) (fun r_1 u_3 H locs w_2 hP hD hS => ?_)
  have hP : va_P D vwCl [(x, .inr (10, [.ref nw, .ref kp, .ref fu, .ref ra, .ref kr, .ref rd, .ref wd, .ref ld, .ref mt, .ref vo, .ref sh, .ref fd, .int im])), (ra, .inr (4, [.ref t0, .ref t1, .ref t2, .ref t3, .ref t4, .int 0, .int 0])), (fd, .inl (cI, 6, .inl ff))] H := hP
  have hD : va_D A [(x, .inr (10, [.ref nw, .ref kp, .ref fu, .ref ra, .ref kr, .ref rd, .ref wd, .ref ld, .ref mt, .ref vo, .ref sh, .ref fd, .int im])), (ra, .inr (4, [.ref t0, .ref t1, .ref t2, .ref t3, .ref t4, .int 0, .int 0])), (fd, .inl (cI, 6, .inl ff))] := hD
  rcases w_2 with ⟨hr_1, h_4, h_5⟩ | ⟨hr_1, h_6⟩
  · have h_4 : 0 ≤ a.toInt := h_4
    have h_5 : a.toInt ≤ 2 := h_5
    obtain rfl : r_1 = 1 := hr_1.trans (by decide)
    refine b_if_eq hx hb zl_1 (tgt := 14) dX10_force_4 (by decide) (fun c_7 => by exfalso; omega) (fun c_7 => ?_)
    refine lv_iload_n hx hb dX10_force_7 rfl (lv_at hl 2 rfl) ?_
    refine kJi (wr := [(x, .inr (10, [.ref nw, .ref kp, .ref fu, .ref ra, .ref kr, .ref rd, .ref wd, .ref ld, .ref mt, .ref vo, .ref sh, .ref fd, .int im])), (ra, .inr (4, [.ref t0, .ref t1, .ref t2, .ref t3, .ref t4, .int 0, .int 0])), (fd, .inl (cI, 6, .inl ff))]) (va_runS (As := [.int b]) (rest := []) ⟨hx, hb, hml, hown, hT⟩ (c_X10_isDay l D cI H.size b) (cwS 1 hT (gS_in mw_849 mw_847 mw_848 mw_1) rfl rfl rfl (by decide +kernel) ⟨Nat.le_of_ble_eq_true rfl, Nat.le_of_ble_eq_true rfl⟩) (kStat hK hP hD hN [] rfl (by decide)) rfl rfl hl.1 rfl (lv_room (Nat.le_of_ble_eq_true rfl)) dX10_force_8 ⟨Nat.le_of_ble_eq_true rfl, Nat.le_of_ble_eq_true rfl⟩) hP hD hS hA [] [0, 1, 2] rfl rfl (by decide) (by decide) (fun r_8 u_10 H locs w_9 hP hD hS => ?_)
    have hP : va_P D vwCl [(x, .inr (10, [.ref nw, .ref kp, .ref fu, .ref ra, .ref kr, .ref rd, .ref wd, .ref ld, .ref mt, .ref vo, .ref sh, .ref fd, .int im])), (ra, .inr (4, [.ref t0, .ref t1, .ref t2, .ref t3, .ref t4, .int 0, .int 0])), (fd, .inl (cI, 6, .inl ff))] H := hP
    have hD : va_D A [(x, .inr (10, [.ref nw, .ref kp, .ref fu, .ref ra, .ref kr, .ref rd, .ref wd, .ref ld, .ref mt, .ref vo, .ref sh, .ref fd, .int im])), (ra, .inr (4, [.ref t0, .ref t1, .ref t2, .ref t3, .ref t4, .int 0, .int 0])), (fd, .inl (cI, 6, .inl ff))] := hD
    rcases w_9 with ⟨hr_8, h_11, h_12⟩ | ⟨hr_8, h_13⟩
    · have h_11 : 0 ≤ b.toInt := h_11
      have h_12 : b.toInt ≤ 2000 := h_12
      obtain rfl : r_8 = 1 := hr_8.trans (by decide)
      refine b_if_ne hx hb zl_1 (tgt := 20) dX10_force_11 (by decide) (fun c_14 => ?_) (fun c_14 => by exfalso; omega)
      refine lv_aload_n hx hb dX10_force_20 rfl (lv_at hl 0 rfl) ?_
      refine va_get (D := D) (ci := 10) (v := .ref ra) (C := RX10) (T := TX10) (N := 13) hx hb hT giX10 hown hK hP 0 rfl rfl 3 (by decide) (hT (Cond.fieldLink RX10 25 "DesertWire" "rates" "LDesertWire$Rates;") mw_294) (fun _ h9 => h9) rfl dX10_force_21 ?_
      refine lv_iload_n hx hb dX10_force_24 rfl (lv_at hl 1 rfl) ?_
      refine lv_iload_n hx hb dX10_force_25 rfl (lv_at hl 2 rfl) ?_
      refine kJi (wr := [(x, .inr (10, [.ref nw, .ref kp, .ref fu, .ref ra, .ref kr, .ref rd, .ref wd, .ref ld, .ref mt, .ref vo, .ref sh, .ref fd, .int im])), (fd, .inl (cI, 6, .inl ff))]) (va_runV (As := [.int a, .int b]) (rest := []) ⟨hx, hb, hml, hown, hT⟩ (c_X4_inForce l D cI ra t0 t1 t2 t3 t4 H.size 0 a b) (cwV 2 hT (gV_in mw_444 mw_441 mw_442 mw_443 mw_5) rfl rfl rfl (by decide +kernel) ⟨Nat.le_of_ble_eq_true rfl, Nat.le_of_ble_eq_true rfl⟩) (kRecv (own := "") (q0 := 1) (ci := 4) hK hP hD hN rfl rfl [1] rfl (by decide)) rfl rfl hl.1 rfl (lv_room (Nat.le_of_ble_eq_true rfl)) dX10_force_26 ⟨Nat.le_of_ble_eq_true rfl, Nat.le_of_ble_eq_true rfl⟩) hP hD hS hA [1] [0, 2] rfl rfl (by decide) (by decide) (fun r_15 u_17 H locs w_16 hP hD hS => ?_)
      have hP : va_P D vwCl [(x, .inr (10, [.ref nw, .ref kp, .ref fu, .ref ra, .ref kr, .ref rd, .ref wd, .ref ld, .ref mt, .ref vo, .ref sh, .ref fd, .int im])), (fd, .inl (cI, 6, .inl ff)), (ra, .inr (4, [.ref t0, .ref t1, .ref t2, .ref t3, .ref t4, .int 0, .int 0]))] H := hP
      have hD : va_D A [(x, .inr (10, [.ref nw, .ref kp, .ref fu, .ref ra, .ref kr, .ref rd, .ref wd, .ref ld, .ref mt, .ref vo, .ref sh, .ref fd, .int im])), (fd, .inl (cI, 6, .inl ff)), (ra, .inr (4, [.ref t0, .ref t1, .ref t2, .ref t3, .ref t4, .int 0, .int 0]))] := hD
      have hr_15 := w_16
      obtain rfl : r_15 = (-1) := hr_15.trans (by decide)
      refine lv_istore_n (lv' := [(3, .int (-1)), (0, .ref x), (1, .int a), (2, .int b)]) hx hb dX10_force_29 rfl hl (by decide) rfl (fun ls hl => ?_)
      refine lv_iload_n hx hb dX10_force_30 rfl (lv_at hl 0 rfl) ?_
      refine b_if_ge hx hb zl_m1 (tgt := 42) dX10_force_31 (by decide) (fun c_18 => by exfalso; omega) (fun c_18 => ?_)
      refine lv_aload_n hx hb dX10_force_34 rfl (lv_at hl 1 rfl) ?_
      refine lv_iconst (v := 2) hx hb dX10_force_35 (by decide) ?_
      refine kJi (wr := [(ra, .inr (4, [.ref t0, .ref t1, .ref t2, .ref t3, .ref t4, .int 0, .int 0]))]) (va_runV (As := [.int 2]) (rest := []) ⟨hx, hb, hml, hown, hT⟩ (c_X10_finding l D cI x nw kp fu ra kr rd wd ld mt vo sh fd H.size im ff 2 (by first | omega | (simp only [zl_2] <;> omega) | decide | assumption | rfl) (by first | omega | (simp only [zl_2] <;> omega) | decide | assumption | rfl)) (cwV 1 hT (gV_in mw_338 mw_335 mw_337 mw_p1_0 mw_1) rfl rfl rfl (by decide +kernel) ⟨Nat.le_of_ble_eq_true rfl, Nat.le_of_ble_eq_true rfl⟩) (kRecv (own := "") (q0 := 0) (ci := 10) hK hP hD hN rfl rfl [0, 1] rfl (by decide)) rfl rfl hl.1 rfl (lv_room (Nat.le_of_ble_eq_true rfl)) dX10_force_36 ⟨Nat.le_of_ble_eq_true rfl, Nat.le_of_ble_eq_true rfl⟩) hP hD hS hA [0, 1] [2] rfl rfl (by decide) (by decide) (fun r_19 u_21 H locs w_20 hP hD hS => ?_)
      have hP : va_P D vwCl [(ra, .inr (4, [.ref t0, .ref t1, .ref t2, .ref t3, .ref t4, .int 0, .int 0]))] H := hP
      have hD : va_D A [(ra, .inr (4, [.ref t0, .ref t1, .ref t2, .ref t3, .ref t4, .int 0, .int 0]))] := hD
      have hr_19 := w_20
      obtain rfl : r_19 = (-1000002) := hr_19.trans (by decide)
      refine lv_goto (tgt := 43) hx hb dX10_force_39 (by decide) ?_
      exact hRet () [] (by unfold sp_force; repeat (first | rw [if_pos (by omega)] | rw [if_neg (by omega)])) hP hD (by decide) rfl hS rfl dX10_force_43
    · have h_13 : b.toInt < 0 ∨ 2000 < b.toInt := h_13
      obtain rfl : r_8 = 0 := hr_8.trans (by decide)
      refine b_if_ne hx hb zl_0 (tgt := 20) dX10_force_11 (by decide) (fun c_22 => by exfalso; omega) (fun c_22 => ?_)
      refine lv_aload_n hx hb dX10_force_14 rfl (lv_at hl 0 rfl) ?_
      refine lv_iconst (v := 1) hx hb dX10_force_15 (by decide) ?_
      refine kJi (wr := [(ra, .inr (4, [.ref t0, .ref t1, .ref t2, .ref t3, .ref t4, .int 0, .int 0]))]) (va_runV (As := [.int 1]) (rest := []) ⟨hx, hb, hml, hown, hT⟩ (c_X10_finding l D cI x nw kp fu ra kr rd wd ld mt vo sh fd H.size im ff 1 (by first | omega | (simp only [zl_1] <;> omega) | decide | assumption | rfl) (by first | omega | (simp only [zl_1] <;> omega) | decide | assumption | rfl)) (cwV 1 hT (gV_in mw_338 mw_335 mw_337 mw_p1_0 mw_1) rfl rfl rfl (by decide +kernel) ⟨Nat.le_of_ble_eq_true rfl, Nat.le_of_ble_eq_true rfl⟩) (kRecv (own := "") (q0 := 0) (ci := 10) hK hP hD hN rfl rfl [0, 2] rfl (by decide)) rfl rfl hl.1 rfl (lv_room (Nat.le_of_ble_eq_true rfl)) dX10_force_16 ⟨Nat.le_of_ble_eq_true rfl, Nat.le_of_ble_eq_true rfl⟩) hP hD hS hA [0, 2] [1] rfl rfl (by decide) (by decide) (fun r_23 u_25 H locs w_24 hP hD hS => ?_)
      have hP : va_P D vwCl [(ra, .inr (4, [.ref t0, .ref t1, .ref t2, .ref t3, .ref t4, .int 0, .int 0]))] H := hP
      have hD : va_D A [(ra, .inr (4, [.ref t0, .ref t1, .ref t2, .ref t3, .ref t4, .int 0, .int 0]))] := hD
      have hr_23 := w_24
      obtain rfl : r_23 = (-1000001) := hr_23.trans (by decide)
      exact hRet () [] (by unfold sp_force; repeat (first | rw [if_pos (by omega)] | rw [if_neg (by omega)])) hP hD (by decide) rfl hS rfl dX10_force_19
  · have h_6 : a.toInt < 0 ∨ 2 < a.toInt := h_6
    obtain rfl : r_1 = 0 := hr_1.trans (by decide)
    refine b_if_eq hx hb zl_0 (tgt := 14) dX10_force_4 (by decide) (fun c_26 => ?_) (fun c_26 => by exfalso; omega)
    refine lv_aload_n hx hb dX10_force_14 rfl (lv_at hl 0 rfl) ?_
    refine lv_iconst (v := 1) hx hb dX10_force_15 (by decide) ?_
    refine kJi (wr := [(ra, .inr (4, [.ref t0, .ref t1, .ref t2, .ref t3, .ref t4, .int 0, .int 0]))]) (va_runV (As := [.int 1]) (rest := []) ⟨hx, hb, hml, hown, hT⟩ (c_X10_finding l D cI x nw kp fu ra kr rd wd ld mt vo sh fd H.size im ff 1 (by first | omega | (simp only [zl_1] <;> omega) | decide | assumption | rfl) (by first | omega | (simp only [zl_1] <;> omega) | decide | assumption | rfl)) (cwV 1 hT (gV_in mw_338 mw_335 mw_337 mw_p1_0 mw_1) rfl rfl rfl (by decide +kernel) ⟨Nat.le_of_ble_eq_true rfl, Nat.le_of_ble_eq_true rfl⟩) (kRecv (own := "") (q0 := 0) (ci := 10) hK hP hD hN rfl rfl [0, 2] rfl (by decide)) rfl rfl hl.1 rfl (lv_room (Nat.le_of_ble_eq_true rfl)) dX10_force_16 ⟨Nat.le_of_ble_eq_true rfl, Nat.le_of_ble_eq_true rfl⟩) hP hD hS hA [0, 2] [1] rfl rfl (by decide) (by decide) (fun r_27 u_29 H locs w_28 hP hD hS => ?_)
    have hP : va_P D vwCl [(ra, .inr (4, [.ref t0, .ref t1, .ref t2, .ref t3, .ref t4, .int 0, .int 0]))] H := hP
    have hD : va_D A [(ra, .inr (4, [.ref t0, .ref t1, .ref t2, .ref t3, .ref t4, .int 0, .int 0]))] := hD
    have hr_27 := w_28
    obtain rfl : r_27 = (-1000001) := hr_27.trans (by decide)
    exact hRet () [] (by unfold sp_force; repeat (first | rw [if_pos (by omega)] | rw [if_neg (by omega)])) hP hD (by decide) rfl hS rfl dX10_force_19
set_option maxHeartbeats 4000000 in
set_option maxRecDepth 100000 in
theorem c_X10_valueOf (l : Launch) (D : va_G) (cI : ClassId) (x nw kp fu ra kr rd wd ld mt vo sh fd w0 w1 w2 w3 w4 w5 t0 t1 t2 t3 t4 : Nat) (sz : Nat) (im : Int32) (wt : Int32) (re : Int32) (a : Int32) (b : Int32) (d : Int32) (g : Int32) (pre0 : 0 ≤ a.toInt) (pre1 : a.toInt ≤ 2) : Met l yX10_valueOf (gW yX10_valueOf cX10_valueOf 6 (some .int)) ({ frames := 1, cells := 0, slots := 0, locals := 40 } : Room) (kPre D cI [.ref x, .int a, .int b, .int d, .int g] [(x, .inr (10, [.ref nw, .ref kp, .ref fu, .ref ra, .ref kr, .ref rd, .ref wd, .ref ld, .ref mt, .ref vo, .ref sh, .ref fd, .int im])), (nw, .inr (9, [.ref w0, .ref w1, .ref w2, .ref w3, .ref w4, .ref w5, .int wt, .int re, .int 0])), (ra, .inr (4, [.ref t0, .ref t1, .ref t2, .ref t3, .ref t4, .int 0, .int 0]))] sz) (va_Qi (fun (r : Int32) (u : Unit) => r = sp_val a b d g) (fun u t => kWd D cI (va_A [(x, .inr (10, [.ref nw, .ref kp, .ref fu, .ref ra, .ref kr, .ref rd, .ref wd, .ref ld, .ref mt, .ref vo, .ref sh, .ref fd, .int im])), (nw, .inr (9, [.ref w0, .ref w1, .ref w2, .ref w3, .ref w4, .ref w5, .int wt, .int re, .int 0])), (ra, .inr (4, [.ref t0, .ref t1, .ref t2, .ref t3, .ref t4, .int 0, .int 0]))] sz) [(x, .inr (10, [.ref nw, .ref kp, .ref fu, .ref ra, .ref kr, .ref rd, .ref wd, .ref ld, .ref mt, .ref vo, .ref sh, .ref fd, .int im])), (nw, .inr (9, [.ref w0, .ref w1, .ref w2, .ref w3, .ref w4, .ref w5, .int wt, .int re, .int 0])), (ra, .inr (4, [.ref t0, .ref t1, .ref t2, .ref t3, .ref t4, .int 0, .int 0]))] t) (va_A [(x, .inr (10, [.ref nw, .ref kp, .ref fu, .ref ra, .ref kr, .ref rd, .ref wd, .ref ld, .ref mt, .ref vo, .ref sh, .ref fd, .int im])), (nw, .inr (9, [.ref w0, .ref w1, .ref w2, .ref w3, .ref w4, .ref w5, .int wt, .int re, .int 0])), (ra, .inr (4, [.ref t0, .ref t1, .ref t2, .ref t3, .ref t4, .int 0, .int 0]))] sz)) 0 0 (va_A [(x, .inr (10, [.ref nw, .ref kp, .ref fu, .ref ra, .ref kr, .ref rd, .ref wd, .ref ld, .ref mt, .ref vo, .ref sh, .ref fd, .int im])), (nw, .inr (9, [.ref w0, .ref w1, .ref w2, .ref w3, .ref w4, .ref w5, .int wt, .int re, .int 0])), (ra, .inr (4, [.ref t0, .ref t1, .ref t2, .ref t3, .ref t4, .int 0, .int 0]))] sz) := by
  refine kMetI (own := RX10) (by decide) rfl (Nat.le_of_ble_eq_true rfl) ?_
  intro p e s m args below meth c hx hb hT hown hname hml A Q hK hP hD hS hA hN hRet ls hl
  have hl : lv_has ls 6 [(0, .ref x), (1, .int a), (2, .int b), (3, .int d), (4, .int g)] := hl
  have lo_a := k_lo a
  have hi_a := k_hi a
  have lo_b := k_lo b
  have hi_b := k_hi b
  have lo_d := k_lo d
  have hi_d := k_hi d
  have lo_g := k_lo g
  have hi_g := k_hi g
  have lo_im := k_lo im
  have hi_im := k_hi im
  have lo_wt := k_lo wt
  have hi_wt := k_hi wt
  have lo_re := k_lo re
  have hi_re := k_hi re
  refine lv_aload_n hx hb dX10_valueOf_0 rfl (lv_at hl 0 rfl) ?_
  refine va_get (D := D) (ci := 10) (v := .ref ra) (C := RX10) (T := TX10) (N := 13) hx hb hT giX10 hown hK hP 0 rfl rfl 3 (by decide) (hT (Cond.fieldLink RX10 25 "DesertWire" "rates" "LDesertWire$Rates;") mw_294) (fun _ h9 => h9) rfl dX10_valueOf_1 ?_
  refine lv_iload_n hx hb dX10_valueOf_4 rfl (lv_at hl 1 rfl) ?_
  refine lv_aload_n hx hb dX10_valueOf_5 rfl (lv_at hl 0 rfl) ?_
  refine va_get (D := D) (ci := 10) (v := .ref nw) (C := RX10) (T := TX10) (N := 13) hx hb hT giX10 hown hK hP 0 rfl rfl 0 (by decide) (hT (Cond.fieldLink RX10 12 "DesertWire" "now" "LDesertWire$World;") mw_291) (fun _ h9 => h9) rfl dX10_valueOf_6 ?_
  refine va_get (D := D) (ci := 9) (v := .int 0) (C := RX9) (T := TX9) (N := 9) hx hb hT giX9 hown hK hP 1 rfl rfl 8 (by decide) (hT (Cond.fieldLink RX10 109 "DesertWire$World" "day" "I") mw_110) (fun _ h9 => h9) rfl dX10_valueOf_9 ?_
  refine kJi (wr := [(x, .inr (10, [.ref nw, .ref kp, .ref fu, .ref ra, .ref kr, .ref rd, .ref wd, .ref ld, .ref mt, .ref vo, .ref sh, .ref fd, .int im])), (nw, .inr (9, [.ref w0, .ref w1, .ref w2, .ref w3, .ref w4, .ref w5, .int wt, .int re, .int 0]))]) (va_runV (As := [.int a, .int 0]) (rest := []) ⟨hx, hb, hml, hown, hT⟩ (c_X4_inForce l D cI ra t0 t1 t2 t3 t4 s.heap.size 0 a 0) (cwV 2 hT (gV_in mw_444 mw_441 mw_442 mw_443 mw_5) rfl rfl rfl (by decide +kernel) ⟨Nat.le_of_ble_eq_true rfl, Nat.le_of_ble_eq_true rfl⟩) (kRecv (own := "") (q0 := 2) (ci := 4) hK hP hD hN rfl rfl [2] rfl (by decide)) rfl rfl hl.1 rfl (lv_room (Nat.le_of_ble_eq_true rfl)) dX10_valueOf_12 ⟨Nat.le_of_ble_eq_true rfl, Nat.le_of_ble_eq_true rfl⟩) hP hD hS hA [2] [0, 1] rfl rfl (by decide) (by decide) (fun r_1 u_3 H locs w_2 hP hD hS => ?_)
  have hP : va_P D vwCl [(x, .inr (10, [.ref nw, .ref kp, .ref fu, .ref ra, .ref kr, .ref rd, .ref wd, .ref ld, .ref mt, .ref vo, .ref sh, .ref fd, .int im])), (nw, .inr (9, [.ref w0, .ref w1, .ref w2, .ref w3, .ref w4, .ref w5, .int wt, .int re, .int 0])), (ra, .inr (4, [.ref t0, .ref t1, .ref t2, .ref t3, .ref t4, .int 0, .int 0]))] H := hP
  have hD : va_D A [(x, .inr (10, [.ref nw, .ref kp, .ref fu, .ref ra, .ref kr, .ref rd, .ref wd, .ref ld, .ref mt, .ref vo, .ref sh, .ref fd, .int im])), (nw, .inr (9, [.ref w0, .ref w1, .ref w2, .ref w3, .ref w4, .ref w5, .int wt, .int re, .int 0])), (ra, .inr (4, [.ref t0, .ref t1, .ref t2, .ref t3, .ref t4, .int 0, .int 0]))] := hD
  have hr_1 := w_2
  obtain rfl : r_1 = (-1) := hr_1.trans (by decide)
  refine lv_istore (lv' := [(5, .int (-1)), (0, .ref x), (1, .int a), (2, .int b), (3, .int d), (4, .int g)]) hx hb dX10_valueOf_15 hl (by decide) rfl (fun ls hl => ?_)
  refine lv_iload hx hb dX10_valueOf_17 (lv_at hl 0 rfl) ?_
  refine b_if_lt hx hb zl_m1 (tgt := 50) dX10_valueOf_19 (by decide) (fun c_4 => ?_) (fun c_4 => by exfalso; omega)
  refine lv_iload_n hx hb dX10_valueOf_50 rfl (lv_at hl 2 rfl) ?_
  by_cases c_5 : a.toInt = 0
  · refine lv_lookup (off := 25) (tgt := 76) hx hb dX10_valueOf_51 (by decide) (by rw [c_5]; decide) (by decide) ?_
    refine lv_iload hx hb dX10_valueOf_76 (lv_at hl 0 rfl) ?_
    refine b_if_ge hx hb zl_m1 (tgt := 88) dX10_valueOf_78 (by decide) (fun c_6 => by exfalso; omega) (fun c_6 => ?_)
    refine lv_iload_n hx hb dX10_valueOf_81 rfl (lv_at hl 3 rfl) ?_
    refine lv_iload hx hb dX10_valueOf_82 (lv_at hl 5 rfl) ?_
    refine lv_imul hx hb dX10_valueOf_84 ?_
    refine lv_topi (fun v_7 ev_7 => ?_)
    have lo_v_7 := k_lo v_7
    have hi_v_7 := k_hi v_7
    refine lv_goto (tgt := 100) hx hb dX10_valueOf_85 (by decide) ?_
    exact hRet () [0, 1, 2] (by unfold sp_val; first | (rw [if_pos (by omega)]; subst_vars; rfl) | (rw [if_neg (by omega), if_pos (by omega)]; subst_vars; rfl) | (rw [if_neg (by omega), if_neg (by omega)]; subst_vars; first | rfl | (exact k_mx (by omega)) | (exact k_mx0 (by omega)))) hP hD (by decide) rfl hS rfl dX10_valueOf_100
  by_cases c_8 : a.toInt = 1
  · refine lv_lookup (off := 50) (tgt := 101) hx hb dX10_valueOf_51 (by decide) (by rw [c_8]; decide) (by decide) ?_
    refine lv_iload hx hb dX10_valueOf_101 (lv_at hl 0 rfl) ?_
    refine b_if_ge hx hb zl_m1 (tgt := 113) dX10_valueOf_103 (by decide) (fun c_9 => by exfalso; omega) (fun c_9 => ?_)
    refine lv_bipush (v := 70) hx hb dX10_valueOf_106 (by decide) ?_
    refine lv_iload_n hx hb dX10_valueOf_108 rfl (lv_at hl 3 rfl) ?_
    refine lv_imul hx hb dX10_valueOf_109 ?_
    refine lv_topi (fun v_10 ev_10 => ?_)
    have lo_v_10 := k_lo v_10
    have hi_v_10 := k_hi v_10
    refine lv_goto (tgt := 125) hx hb dX10_valueOf_110 (by decide) ?_
    exact hRet () [0, 1, 2] (by unfold sp_val; first | (rw [if_pos (by omega)]; subst_vars; rfl) | (rw [if_neg (by omega), if_pos (by omega)]; subst_vars; rfl) | (rw [if_neg (by omega), if_neg (by omega)]; subst_vars; first | rfl | (exact k_mx (by omega)) | (exact k_mx0 (by omega)))) hP hD (by decide) rfl hS rfl dX10_valueOf_125
  refine lv_lookup (off := 75) (tgt := 126) hx hb dX10_valueOf_51 (by decide) (k_osw2 (by omega) (by omega)) (by decide) ?_
  refine lv_iconst (v := 0) hx hb dX10_valueOf_126 (by decide) ?_
  refine lv_iload hx hb dX10_valueOf_127 (lv_at hl 0 rfl) ?_
  refine b_if_ge hx hb zl_m1 (tgt := 139) dX10_valueOf_129 (by decide) (fun c_11 => by exfalso; omega) (fun c_11 => ?_)
  refine lv_iload_n hx hb dX10_valueOf_132 rfl (lv_at hl 4 rfl) ?_
  refine lv_iload hx hb dX10_valueOf_133 (lv_at hl 5 rfl) ?_
  refine lv_isub hx hb dX10_valueOf_135 ?_
  refine lv_topi (fun v_12 ev_12 => ?_)
  have lo_v_12 := k_lo v_12
  have hi_v_12 := k_hi v_12
  refine lv_goto (tgt := 151) hx hb dX10_valueOf_136 (by decide) ?_
  refine va_mmax hx hb (hml.trans hl.1.symm) hown (hT _ mw_594) (hT _ mw_426) (hT _ mw_13) (hT _ mw_427) (Nat.le_of_ble_eq_true rfl) (Nat.le_of_ble_eq_true rfl) (Nat.le_of_ble_eq_true rfl) (Nat.le_of_ble_eq_true rfl) dX10_valueOf_151 ?_
  refine lv_topi (fun v_13 ev_13 => ?_)
  have lo_v_13 := k_lo v_13
  have hi_v_13 := k_hi v_13
  have tv_13 : v_13.toInt = k_max 0 v_12.toInt := by rw [ev_13]; exact k_mmax zl_0 rfl
  try rw [tv_12] at tv_13
  have sv_13 := k_max_spec (0) (v_12.toInt)
  try rw [tv_12] at sv_13
  exact hRet () [0, 1, 2] (by unfold sp_val; first | (rw [if_pos (by omega)]; subst_vars; rfl) | (rw [if_neg (by omega), if_pos (by omega)]; subst_vars; rfl) | (rw [if_neg (by omega), if_neg (by omega)]; subst_vars; first | rfl | (exact k_mx (by omega)) | (exact k_mx0 (by omega)))) hP hD (by decide) rfl hS rfl dX10_valueOf_154
set_option maxHeartbeats 4000000 in
set_option maxRecDepth 100000 in
theorem c_X10_price (l : Launch) (D : va_G) (cI : ClassId) (x nw kp fu ra kr rd wd ld mt vo sh fd w0 w1 w2 w3 w4 w5 t0 t1 t2 t3 t4 : Nat) (sz : Nat) (im : Int32) (ff : Nat → Int32) (wt : Int32) (re : Int32) (a : Int32) (b : Int32) (d : Int32) (g : Int32) : Met l yX10_price (gW yX10_price cX10_price 5 (some .int)) ({ frames := 2, cells := 0, slots := 0, locals := 65 } : Room) (kPre D cI [.ref x, .int a, .int b, .int d, .int g] [(x, .inr (10, [.ref nw, .ref kp, .ref fu, .ref ra, .ref kr, .ref rd, .ref wd, .ref ld, .ref mt, .ref vo, .ref sh, .ref fd, .int im])), (nw, .inr (9, [.ref w0, .ref w1, .ref w2, .ref w3, .ref w4, .ref w5, .int wt, .int re, .int 0])), (ra, .inr (4, [.ref t0, .ref t1, .ref t2, .ref t3, .ref t4, .int 0, .int 0])), (fd, .inl (cI, 6, .inl ff))] sz) (va_Qi (fun (r : Int32) (u : Unit) => r = sp_price a b d g) (fun u t => kWd D cI (va_A [(x, .inr (10, [.ref nw, .ref kp, .ref fu, .ref ra, .ref kr, .ref rd, .ref wd, .ref ld, .ref mt, .ref vo, .ref sh, .ref fd, .int im])), (nw, .inr (9, [.ref w0, .ref w1, .ref w2, .ref w3, .ref w4, .ref w5, .int wt, .int re, .int 0])), (ra, .inr (4, [.ref t0, .ref t1, .ref t2, .ref t3, .ref t4, .int 0, .int 0])), (fd, .inl (cI, 6, .inl ff))] sz) [] t) (va_A [(x, .inr (10, [.ref nw, .ref kp, .ref fu, .ref ra, .ref kr, .ref rd, .ref wd, .ref ld, .ref mt, .ref vo, .ref sh, .ref fd, .int im])), (nw, .inr (9, [.ref w0, .ref w1, .ref w2, .ref w3, .ref w4, .ref w5, .int wt, .int re, .int 0])), (ra, .inr (4, [.ref t0, .ref t1, .ref t2, .ref t3, .ref t4, .int 0, .int 0])), (fd, .inl (cI, 6, .inl ff))] sz)) 0 0 (va_A [(x, .inr (10, [.ref nw, .ref kp, .ref fu, .ref ra, .ref kr, .ref rd, .ref wd, .ref ld, .ref mt, .ref vo, .ref sh, .ref fd, .int im])), (nw, .inr (9, [.ref w0, .ref w1, .ref w2, .ref w3, .ref w4, .ref w5, .int wt, .int re, .int 0])), (ra, .inr (4, [.ref t0, .ref t1, .ref t2, .ref t3, .ref t4, .int 0, .int 0])), (fd, .inl (cI, 6, .inl ff))] sz) := by
  refine kMetI (own := RX10) (by decide) rfl (Nat.le_of_ble_eq_true rfl) ?_
  intro p e s m args below meth c hx hb hT hown hname hml A Q hK hP hD hS hA hN hRet ls hl
  have hl : lv_has ls 5 [(0, .ref x), (1, .int a), (2, .int b), (3, .int d), (4, .int g)] := hl
  have lo_a := k_lo a
  have hi_a := k_hi a
  have lo_b := k_lo b
  have hi_b := k_hi b
  have lo_d := k_lo d
  have hi_d := k_hi d
  have lo_g := k_lo g
  have hi_g := k_hi g
  have lo_im := k_lo im
  have hi_im := k_hi im
  have lo_wt := k_lo wt
  have hi_wt := k_hi wt
  have lo_re := k_lo re
  have hi_re := k_hi re
  refine lv_iload_n hx hb dX10_price_0 rfl (lv_at hl 1 rfl) ?_
  refine kJi (wr := [(x, .inr (10, [.ref nw, .ref kp, .ref fu, .ref ra, .ref kr, .ref rd, .ref wd, .ref ld, .ref mt, .ref vo, .ref sh, .ref fd, .int im])), (nw, .inr (9, [.ref w0, .ref w1, .ref w2, .ref w3, .ref w4, .ref w5, .int wt, .int re, .int 0])), (ra, .inr (4, [.ref t0, .ref t1, .ref t2, .ref t3, .ref t4, .int 0, .int 0])), (fd, .inl (cI, 6, .inl ff))]) (va_runS (As := [.int a]) (rest := []) ⟨hx, hb, hml, hown, hT⟩ (c_X10_isUse l D cI s.heap.size a) (cwS 1 hT (gS_in mw_846 mw_844 mw_845 mw_1) rfl rfl rfl (by decide +kernel) ⟨Nat.le_of_ble_eq_true rfl, Nat.le_of_ble_eq_true rfl⟩) (kStat hK hP hD hN [] rfl (by decide)) rfl rfl hl.1 rfl (lv_room (Nat.le_of_ble_eq_true rfl)) dX10_price_1 ⟨Nat.le_of_ble_eq_true rfl, Nat.le_of_ble_eq_true rfl⟩) hP hD hS hA [] [0, 1, 2, 3] rfl rfl (by decide) (by decide) (fun r_1 u_3 H locs w_2 hP hD hS => ?_)
  have hP : va_P D vwCl [(x, .inr (10, [.ref nw, .ref kp, .ref fu, .ref ra, .ref kr, .ref rd, .ref wd, .ref ld, .ref mt, .ref vo, .ref sh, .ref fd, .int im])), (nw, .inr (9, [.ref w0, .ref w1, .ref w2, .ref w3, .ref w4, .ref w5, .int wt, .int re, .int 0])), (ra, .inr (4, [.ref t0, .ref t1, .ref t2, .ref t3, .ref t4, .int 0, .int 0])), (fd, .inl (cI, 6, .inl ff))] H := hP
  have hD : va_D A [(x, .inr (10, [.ref nw, .ref kp, .ref fu, .ref ra, .ref kr, .ref rd, .ref wd, .ref ld, .ref mt, .ref vo, .ref sh, .ref fd, .int im])), (nw, .inr (9, [.ref w0, .ref w1, .ref w2, .ref w3, .ref w4, .ref w5, .int wt, .int re, .int 0])), (ra, .inr (4, [.ref t0, .ref t1, .ref t2, .ref t3, .ref t4, .int 0, .int 0])), (fd, .inl (cI, 6, .inl ff))] := hD
  rcases w_2 with ⟨hr_1, h_4, h_5⟩ | ⟨hr_1, h_6⟩
  · have h_4 : 0 ≤ a.toInt := h_4
    have h_5 : a.toInt ≤ 2 := h_5
    obtain rfl : r_1 = 1 := hr_1.trans (by decide)
    refine b_if_ne hx hb zl_1 (tgt := 13) dX10_price_4 (by decide) (fun c_7 => ?_) (fun c_7 => by exfalso; omega)
    refine lv_aload_n hx hb dX10_price_13 rfl (lv_at hl 0 rfl) ?_
    refine lv_iload_n hx hb dX10_price_14 rfl (lv_at hl 1 rfl) ?_
    refine lv_iload_n hx hb dX10_price_15 rfl (lv_at hl 2 rfl) ?_
    refine lv_iload_n hx hb dX10_price_16 rfl (lv_at hl 3 rfl) ?_
    refine lv_iload hx hb dX10_price_17 (lv_at hl 4 rfl) ?_
    refine kJi (wr := [(fd, .inl (cI, 6, .inl ff))]) (va_runV (As := [.int a, .int b, .int d, .int g]) (rest := []) ⟨hx, hb, hml, hown, hT⟩ (c_X10_valueOf l D cI x nw kp fu ra kr rd wd ld mt vo sh fd w0 w1 w2 w3 w4 w5 t0 t1 t2 t3 t4 H.size im wt re a b d g (by first | omega | decide | assumption | rfl) (by first | omega | decide | assumption | rfl)) (cwV 4 hT (gV_in mw_440 mw_437 mw_439 mw_p1_4 mw_1) rfl rfl rfl (by decide +kernel) ⟨Nat.le_of_ble_eq_true rfl, Nat.le_of_ble_eq_true rfl⟩) (kRecv (own := "") (q0 := 0) (ci := 10) hK hP hD hN rfl rfl [0, 1, 2] rfl (by decide)) rfl rfl hl.1 rfl (lv_room (Nat.le_of_ble_eq_true rfl)) dX10_price_19 ⟨Nat.le_of_ble_eq_true rfl, Nat.le_of_ble_eq_true rfl⟩) hP hD hS hA [0, 1, 2] [3] rfl rfl (by decide) (by decide) (fun r_8 u_10 H locs w_9 hP hD hS => ?_)
    have hP : va_P D vwCl [(fd, .inl (cI, 6, .inl ff)), (x, .inr (10, [.ref nw, .ref kp, .ref fu, .ref ra, .ref kr, .ref rd, .ref wd, .ref ld, .ref mt, .ref vo, .ref sh, .ref fd, .int im])), (nw, .inr (9, [.ref w0, .ref w1, .ref w2, .ref w3, .ref w4, .ref w5, .int wt, .int re, .int 0])), (ra, .inr (4, [.ref t0, .ref t1, .ref t2, .ref t3, .ref t4, .int 0, .int 0]))] H := hP
    have hD : va_D A [(fd, .inl (cI, 6, .inl ff)), (x, .inr (10, [.ref nw, .ref kp, .ref fu, .ref ra, .ref kr, .ref rd, .ref wd, .ref ld, .ref mt, .ref vo, .ref sh, .ref fd, .int im])), (nw, .inr (9, [.ref w0, .ref w1, .ref w2, .ref w3, .ref w4, .ref w5, .int wt, .int re, .int 0])), (ra, .inr (4, [.ref t0, .ref t1, .ref t2, .ref t3, .ref t4, .int 0, .int 0]))] := hD
    have hr_8 := w_9
    have hr_8 : r_8 = sp_val a b d g := hr_8
    have lo_r_8 := k_lo r_8
    have hi_r_8 := k_hi r_8
    exact hRet () [] (by unfold sp_price; first | (rw [if_pos (by omega)]; first | exact hr_8 | rfl) | (rw [if_neg (by omega)])) hP hD (by decide) rfl hS rfl dX10_price_22
  · have h_6 : a.toInt < 0 ∨ 2 < a.toInt := h_6
    obtain rfl : r_1 = 0 := hr_1.trans (by decide)
    refine b_if_ne hx hb zl_0 (tgt := 13) dX10_price_4 (by decide) (fun c_11 => by exfalso; omega) (fun c_11 => ?_)
    refine lv_aload_n hx hb dX10_price_7 rfl (lv_at hl 0 rfl) ?_
    refine lv_iconst (v := 1) hx hb dX10_price_8 (by decide) ?_
    refine kJi (wr := [(nw, .inr (9, [.ref w0, .ref w1, .ref w2, .ref w3, .ref w4, .ref w5, .int wt, .int re, .int 0])), (ra, .inr (4, [.ref t0, .ref t1, .ref t2, .ref t3, .ref t4, .int 0, .int 0]))]) (va_runV (As := [.int 1]) (rest := []) ⟨hx, hb, hml, hown, hT⟩ (c_X10_finding l D cI x nw kp fu ra kr rd wd ld mt vo sh fd H.size im ff 1 (by first | omega | (simp only [zl_1] <;> omega) | decide | assumption | rfl) (by first | omega | (simp only [zl_1] <;> omega) | decide | assumption | rfl)) (cwV 1 hT (gV_in mw_338 mw_335 mw_337 mw_p1_0 mw_1) rfl rfl rfl (by decide +kernel) ⟨Nat.le_of_ble_eq_true rfl, Nat.le_of_ble_eq_true rfl⟩) (kRecv (own := "") (q0 := 0) (ci := 10) hK hP hD hN rfl rfl [0, 3] rfl (by decide)) rfl rfl hl.1 rfl (lv_room (Nat.le_of_ble_eq_true rfl)) dX10_price_9 ⟨Nat.le_of_ble_eq_true rfl, Nat.le_of_ble_eq_true rfl⟩) hP hD hS hA [0, 3] [1, 2] rfl rfl (by decide) (by decide) (fun r_12 u_14 H locs w_13 hP hD hS => ?_)
    have hP : va_P D vwCl [(nw, .inr (9, [.ref w0, .ref w1, .ref w2, .ref w3, .ref w4, .ref w5, .int wt, .int re, .int 0])), (ra, .inr (4, [.ref t0, .ref t1, .ref t2, .ref t3, .ref t4, .int 0, .int 0]))] H := hP
    have hD : va_D A [(nw, .inr (9, [.ref w0, .ref w1, .ref w2, .ref w3, .ref w4, .ref w5, .int wt, .int re, .int 0])), (ra, .inr (4, [.ref t0, .ref t1, .ref t2, .ref t3, .ref t4, .int 0, .int 0]))] := hD
    have hr_12 := w_13
    obtain rfl : r_12 = (-1000001) := hr_12.trans (by decide)
    exact hRet () [] (by unfold sp_price; first | (rw [if_pos (by omega)]; first | exact h | rfl) | (rw [if_neg (by omega)])) hP hD (by decide) rfl hS rfl dX10_price_12
set_option maxHeartbeats 4000000 in
set_option maxRecDepth 100000 in
theorem c_X10_owed (l : Launch) (D : va_G) (cI : ClassId) (x nw kp fu ra kr rd wd ld mt vo sh fd w0 w1 w2 w3 w4 w5 : Nat) (sz : Nat) (im : Int32) (ff : Nat → Int32) (wt : Int32) (re : Int32) (a : Int32) : Met l yX10_owed (gW yX10_owed cX10_owed 2 (some .int)) ({ frames := 1, cells := 0, slots := 0, locals := 21 } : Room) (kPre D cI [.ref x, .int a] [(x, .inr (10, [.ref nw, .ref kp, .ref fu, .ref ra, .ref kr, .ref rd, .ref wd, .ref ld, .ref mt, .ref vo, .ref sh, .ref fd, .int im])), (nw, .inr (9, [.ref w0, .ref w1, .ref w2, .ref w3, .ref w4, .ref w5, .int wt, .int re, .int 0])), (fd, .inl (cI, 6, .inl ff))] sz) (va_Qi (fun (r : Int32) (u : Unit) => r = sp_owed a) (fun u t => kWd D cI (va_A [(x, .inr (10, [.ref nw, .ref kp, .ref fu, .ref ra, .ref kr, .ref rd, .ref wd, .ref ld, .ref mt, .ref vo, .ref sh, .ref fd, .int im])), (nw, .inr (9, [.ref w0, .ref w1, .ref w2, .ref w3, .ref w4, .ref w5, .int wt, .int re, .int 0])), (fd, .inl (cI, 6, .inl ff))] sz) [] t) (va_A [(x, .inr (10, [.ref nw, .ref kp, .ref fu, .ref ra, .ref kr, .ref rd, .ref wd, .ref ld, .ref mt, .ref vo, .ref sh, .ref fd, .int im])), (nw, .inr (9, [.ref w0, .ref w1, .ref w2, .ref w3, .ref w4, .ref w5, .int wt, .int re, .int 0])), (fd, .inl (cI, 6, .inl ff))] sz)) 0 0 (va_A [(x, .inr (10, [.ref nw, .ref kp, .ref fu, .ref ra, .ref kr, .ref rd, .ref wd, .ref ld, .ref mt, .ref vo, .ref sh, .ref fd, .int im])), (nw, .inr (9, [.ref w0, .ref w1, .ref w2, .ref w3, .ref w4, .ref w5, .int wt, .int re, .int 0])), (fd, .inl (cI, 6, .inl ff))] sz) := by
  refine kMetI (own := RX10) (by decide) rfl (Nat.le_of_ble_eq_true rfl) ?_
  intro p e s m args below meth c hx hb hT hown hname hml A Q hK hP hD hS hA hN hRet ls hl
  have hl : lv_has ls 2 [(0, .ref x), (1, .int a)] := hl
  have lo_a := k_lo a
  have hi_a := k_hi a
  have lo_im := k_lo im
  have hi_im := k_hi im
  have lo_wt := k_lo wt
  have hi_wt := k_hi wt
  have lo_re := k_lo re
  have hi_re := k_hi re
  refine lv_iload_n hx hb dX10_owed_0 rfl (lv_at hl 1 rfl) ?_
  refine kJi (wr := [(x, .inr (10, [.ref nw, .ref kp, .ref fu, .ref ra, .ref kr, .ref rd, .ref wd, .ref ld, .ref mt, .ref vo, .ref sh, .ref fd, .int im])), (nw, .inr (9, [.ref w0, .ref w1, .ref w2, .ref w3, .ref w4, .ref w5, .int wt, .int re, .int 0])), (fd, .inl (cI, 6, .inl ff))]) (va_runS (As := [.int a]) (rest := []) ⟨hx, hb, hml, hown, hT⟩ (c_X10_isDay l D cI s.heap.size a) (cwS 1 hT (gS_in mw_849 mw_847 mw_848 mw_1) rfl rfl rfl (by decide +kernel) ⟨Nat.le_of_ble_eq_true rfl, Nat.le_of_ble_eq_true rfl⟩) (kStat hK hP hD hN [] rfl (by decide)) rfl rfl hl.1 rfl (lv_room (Nat.le_of_ble_eq_true rfl)) dX10_owed_1 ⟨Nat.le_of_ble_eq_true rfl, Nat.le_of_ble_eq_true rfl⟩) hP hD hS hA [] [0, 1, 2] rfl rfl (by decide) (by decide) (fun r_1 u_3 H locs w_2 hP hD hS => ?_)
  have hP : va_P D vwCl [(x, .inr (10, [.ref nw, .ref kp, .ref fu, .ref ra, .ref kr, .ref rd, .ref wd, .ref ld, .ref mt, .ref vo, .ref sh, .ref fd, .int im])), (nw, .inr (9, [.ref w0, .ref w1, .ref w2, .ref w3, .ref w4, .ref w5, .int wt, .int re, .int 0])), (fd, .inl (cI, 6, .inl ff))] H := hP
  have hD : va_D A [(x, .inr (10, [.ref nw, .ref kp, .ref fu, .ref ra, .ref kr, .ref rd, .ref wd, .ref ld, .ref mt, .ref vo, .ref sh, .ref fd, .int im])), (nw, .inr (9, [.ref w0, .ref w1, .ref w2, .ref w3, .ref w4, .ref w5, .int wt, .int re, .int 0])), (fd, .inl (cI, 6, .inl ff))] := hD
  rcases w_2 with ⟨hr_1, h_4, h_5⟩ | ⟨hr_1, h_6⟩
  · have h_4 : 0 ≤ a.toInt := h_4
    have h_5 : a.toInt ≤ 2000 := h_5
    obtain rfl : r_1 = 1 := hr_1.trans (by decide)
    refine b_if_ne hx hb zl_1 (tgt := 13) dX10_owed_4 (by decide) (fun c_7 => ?_) (fun c_7 => by exfalso; omega)
    refine lv_aload_n hx hb dX10_owed_13 rfl (lv_at hl 0 rfl) ?_
    refine va_get (D := D) (ci := 10) (v := .ref nw) (C := RX10) (T := TX10) (N := 13) hx hb hT giX10 hown hK hP 0 rfl rfl 0 (by decide) (hT (Cond.fieldLink RX10 12 "DesertWire" "now" "LDesertWire$World;") mw_291) (fun _ h9 => h9) rfl dX10_owed_14 ?_
    refine va_get (D := D) (ci := 9) (v := .int 0) (C := RX9) (T := TX9) (N := 9) hx hb hT giX9 hown hK hP 1 rfl rfl 8 (by decide) (hT (Cond.fieldLink RX10 109 "DesertWire$World" "day" "I") mw_110) (fun _ h9 => h9) rfl dX10_owed_17 ?_
    refine lv_iload_n hx hb dX10_owed_20 rfl (lv_at hl 1 rfl) ?_
    refine b_icmp_le hx hb zl_0 rfl (tgt := 49) dX10_owed_21 (by decide) (fun c_8 => ?_) (fun c_8 => by exfalso; omega)
    refine lv_iconst (v := 0) hx hb dX10_owed_49 (by decide) ?_
    exact hRet () [] (by unfold sp_owed; repeat (first | rw [if_pos (by omega)] | rw [if_neg (by omega)])) hP hD (by decide) rfl hS rfl dX10_owed_50
  · have h_6 : a.toInt < 0 ∨ 2000 < a.toInt := h_6
    obtain rfl : r_1 = 0 := hr_1.trans (by decide)
    refine b_if_ne hx hb zl_0 (tgt := 13) dX10_owed_4 (by decide) (fun c_9 => by exfalso; omega) (fun c_9 => ?_)
    refine lv_aload_n hx hb dX10_owed_7 rfl (lv_at hl 0 rfl) ?_
    refine lv_iconst (v := 1) hx hb dX10_owed_8 (by decide) ?_
    refine kJi (wr := [(nw, .inr (9, [.ref w0, .ref w1, .ref w2, .ref w3, .ref w4, .ref w5, .int wt, .int re, .int 0]))]) (va_runV (As := [.int 1]) (rest := []) ⟨hx, hb, hml, hown, hT⟩ (c_X10_finding l D cI x nw kp fu ra kr rd wd ld mt vo sh fd H.size im ff 1 (by first | omega | (simp only [zl_1] <;> omega) | decide | assumption | rfl) (by first | omega | (simp only [zl_1] <;> omega) | decide | assumption | rfl)) (cwV 1 hT (gV_in mw_338 mw_335 mw_337 mw_p1_0 mw_1) rfl rfl rfl (by decide +kernel) ⟨Nat.le_of_ble_eq_true rfl, Nat.le_of_ble_eq_true rfl⟩) (kRecv (own := "") (q0 := 0) (ci := 10) hK hP hD hN rfl rfl [0, 2] rfl (by decide)) rfl rfl hl.1 rfl (lv_room (Nat.le_of_ble_eq_true rfl)) dX10_owed_9 ⟨Nat.le_of_ble_eq_true rfl, Nat.le_of_ble_eq_true rfl⟩) hP hD hS hA [0, 2] [1] rfl rfl (by decide) (by decide) (fun r_10 u_12 H locs w_11 hP hD hS => ?_)
    have hP : va_P D vwCl [(nw, .inr (9, [.ref w0, .ref w1, .ref w2, .ref w3, .ref w4, .ref w5, .int wt, .int re, .int 0]))] H := hP
    have hD : va_D A [(nw, .inr (9, [.ref w0, .ref w1, .ref w2, .ref w3, .ref w4, .ref w5, .int wt, .int re, .int 0]))] := hD
    have hr_10 := w_11
    obtain rfl : r_10 = (-1000001) := hr_10.trans (by decide)
    exact hRet () [] (by unfold sp_owed; repeat (first | rw [if_pos (by omega)] | rw [if_neg (by omega)])) hP hD (by decide) rfl hS rfl dX10_owed_12
set_option maxHeartbeats 4000000 in
set_option maxRecDepth 100000 in
theorem c_X10_days (l : Launch) (D : va_G) (cI : ClassId) (x nw kp fu ra kr rd wd ld mt vo sh fd w0 w1 w2 w3 w4 w5 k0 k1 k2 k3 k4 k5 k6 k7 k8 pf : Nat) (sz : Nat) (im : Int32) (ff : Nat → Int32) (wt : Int32) (re : Int32) (a : Int32) : Met l yX10_days (gW yX10_days cX10_days 3 (some .int)) ({ frames := 2, cells := 0, slots := 0, locals := 42 } : Room) (kPre D cI [.ref x, .int a] [(x, .inr (10, [.ref nw, .ref kp, .ref fu, .ref ra, .ref kr, .ref rd, .ref wd, .ref ld, .ref mt, .ref vo, .ref sh, .ref fd, .int im])), (nw, .inr (9, [.ref w0, .ref w1, .ref w2, .ref w3, .ref w4, .ref w5, .int wt, .int re, .int 0])), (w4, .inr (8, [.ref k0, .ref k1, .ref k2, .ref k3, .ref k4, .ref k5, .ref k6, .ref k7, .ref k8, .int 0])), (w5, .inr (3, [.ref pf, .int 0])), (fd, .inl (cI, 6, .inl ff))] sz) (va_Qi (fun (r : Int32) (u : Unit) => r = sp_days a) (fun u t => kWd D cI (va_A [(x, .inr (10, [.ref nw, .ref kp, .ref fu, .ref ra, .ref kr, .ref rd, .ref wd, .ref ld, .ref mt, .ref vo, .ref sh, .ref fd, .int im])), (nw, .inr (9, [.ref w0, .ref w1, .ref w2, .ref w3, .ref w4, .ref w5, .int wt, .int re, .int 0])), (w4, .inr (8, [.ref k0, .ref k1, .ref k2, .ref k3, .ref k4, .ref k5, .ref k6, .ref k7, .ref k8, .int 0])), (w5, .inr (3, [.ref pf, .int 0])), (fd, .inl (cI, 6, .inl ff))] sz) [] t) (va_A [(x, .inr (10, [.ref nw, .ref kp, .ref fu, .ref ra, .ref kr, .ref rd, .ref wd, .ref ld, .ref mt, .ref vo, .ref sh, .ref fd, .int im])), (nw, .inr (9, [.ref w0, .ref w1, .ref w2, .ref w3, .ref w4, .ref w5, .int wt, .int re, .int 0])), (w4, .inr (8, [.ref k0, .ref k1, .ref k2, .ref k3, .ref k4, .ref k5, .ref k6, .ref k7, .ref k8, .int 0])), (w5, .inr (3, [.ref pf, .int 0])), (fd, .inl (cI, 6, .inl ff))] sz)) 0 0 (va_A [(x, .inr (10, [.ref nw, .ref kp, .ref fu, .ref ra, .ref kr, .ref rd, .ref wd, .ref ld, .ref mt, .ref vo, .ref sh, .ref fd, .int im])), (nw, .inr (9, [.ref w0, .ref w1, .ref w2, .ref w3, .ref w4, .ref w5, .int wt, .int re, .int 0])), (w4, .inr (8, [.ref k0, .ref k1, .ref k2, .ref k3, .ref k4, .ref k5, .ref k6, .ref k7, .ref k8, .int 0])), (w5, .inr (3, [.ref pf, .int 0])), (fd, .inl (cI, 6, .inl ff))] sz) := by
  refine kMetI (own := RX10) (by decide) rfl (Nat.le_of_ble_eq_true rfl) ?_
  intro p e s m args below meth c hx hb hT hown hname hml A Q hK hP hD hS hA hN hRet ls hl
  have hl : lv_has ls 3 [(0, .ref x), (1, .int a)] := hl
  have lo_a := k_lo a
  have hi_a := k_hi a
  have lo_im := k_lo im
  have hi_im := k_hi im
  have lo_wt := k_lo wt
  have hi_wt := k_hi wt
  have lo_re := k_lo re
  have hi_re := k_hi re
  refine lv_iload_n hx hb dX10_days_0 rfl (lv_at hl 1 rfl) ?_
  refine lv_iconst (v := 1) hx hb dX10_days_1 (by decide) ?_
  refine b_icmp_lt hx hb rfl zl_1 (tgt := 27) dX10_days_2 (by decide) (fun c_1 => ?_) (fun c_1 => ?_)
  · refine lv_aload_n hx hb dX10_days_27 rfl (lv_at hl 0 rfl) ?_
    refine lv_iconst (v := 1) hx hb dX10_days_28 (by decide) ?_
    refine kJi (wr := [(nw, .inr (9, [.ref w0, .ref w1, .ref w2, .ref w3, .ref w4, .ref w5, .int wt, .int re, .int 0])), (w4, .inr (8, [.ref k0, .ref k1, .ref k2, .ref k3, .ref k4, .ref k5, .ref k6, .ref k7, .ref k8, .int 0])), (w5, .inr (3, [.ref pf, .int 0]))]) (va_runV (As := [.int 1]) (rest := []) ⟨hx, hb, hml, hown, hT⟩ (c_X10_finding l D cI x nw kp fu ra kr rd wd ld mt vo sh fd s.heap.size im ff 1 (by first | omega | (simp only [zl_1] <;> omega) | decide | assumption | rfl) (by first | omega | (simp only [zl_1] <;> omega) | decide | assumption | rfl)) (cwV 1 hT (gV_in mw_338 mw_335 mw_337 mw_p1_0 mw_1) rfl rfl rfl (by decide +kernel) ⟨Nat.le_of_ble_eq_true rfl, Nat.le_of_ble_eq_true rfl⟩) (kRecv (own := "") (q0 := 0) (ci := 10) hK hP hD hN rfl rfl [0, 4] rfl (by decide)) rfl rfl hl.1 rfl (lv_room (Nat.le_of_ble_eq_true rfl)) dX10_days_29 ⟨Nat.le_of_ble_eq_true rfl, Nat.le_of_ble_eq_true rfl⟩) hP hD hS hA [0, 4] [1, 2, 3] rfl rfl (by decide) (by decide) (fun r_2 u_4 H locs w_3 hP hD hS => ?_)
    have hP : va_P D vwCl [(nw, .inr (9, [.ref w0, .ref w1, .ref w2, .ref w3, .ref w4, .ref w5, .int wt, .int re, .int 0])), (w4, .inr (8, [.ref k0, .ref k1, .ref k2, .ref k3, .ref k4, .ref k5, .ref k6, .ref k7, .ref k8, .int 0])), (w5, .inr (3, [.ref pf, .int 0]))] H := hP
    have hD : va_D A [(nw, .inr (9, [.ref w0, .ref w1, .ref w2, .ref w3, .ref w4, .ref w5, .int wt, .int re, .int 0])), (w4, .inr (8, [.ref k0, .ref k1, .ref k2, .ref k3, .ref k4, .ref k5, .ref k6, .ref k7, .ref k8, .int 0])), (w5, .inr (3, [.ref pf, .int 0]))] := hD
    have hr_2 := w_3
    obtain rfl : r_2 = (-1000001) := hr_2.trans (by decide)
    exact hRet () [] (by unfold sp_days; first | (rw [if_pos (by omega)]; exact k_inj (by omega)) | rw [if_neg (by omega)]) hP hD (by decide) rfl hS rfl dX10_days_32
  · refine lv_iload_n hx hb dX10_days_5 rfl (lv_at hl 1 rfl) ?_
    refine lv_sipush (v := 200) hx hb dX10_days_6 (by decide) ?_
    refine b_icmp_gt hx hb rfl zl_200 (tgt := 27) dX10_days_9 (by decide) (fun c_5 => ?_) (fun c_5 => ?_)
    · refine lv_aload_n hx hb dX10_days_27 rfl (lv_at hl 0 rfl) ?_
      refine lv_iconst (v := 1) hx hb dX10_days_28 (by decide) ?_
      refine kJi (wr := [(nw, .inr (9, [.ref w0, .ref w1, .ref w2, .ref w3, .ref w4, .ref w5, .int wt, .int re, .int 0])), (w4, .inr (8, [.ref k0, .ref k1, .ref k2, .ref k3, .ref k4, .ref k5, .ref k6, .ref k7, .ref k8, .int 0])), (w5, .inr (3, [.ref pf, .int 0]))]) (va_runV (As := [.int 1]) (rest := []) ⟨hx, hb, hml, hown, hT⟩ (c_X10_finding l D cI x nw kp fu ra kr rd wd ld mt vo sh fd s.heap.size im ff 1 (by first | omega | (simp only [zl_1] <;> omega) | decide | assumption | rfl) (by first | omega | (simp only [zl_1] <;> omega) | decide | assumption | rfl)) (cwV 1 hT (gV_in mw_338 mw_335 mw_337 mw_p1_0 mw_1) rfl rfl rfl (by decide +kernel) ⟨Nat.le_of_ble_eq_true rfl, Nat.le_of_ble_eq_true rfl⟩) (kRecv (own := "") (q0 := 0) (ci := 10) hK hP hD hN rfl rfl [0, 4] rfl (by decide)) rfl rfl hl.1 rfl (lv_room (Nat.le_of_ble_eq_true rfl)) dX10_days_29 ⟨Nat.le_of_ble_eq_true rfl, Nat.le_of_ble_eq_true rfl⟩) hP hD hS hA [0, 4] [1, 2, 3] rfl rfl (by decide) (by decide) (fun r_6 u_8 H locs w_7 hP hD hS => ?_)
      have hP : va_P D vwCl [(nw, .inr (9, [.ref w0, .ref w1, .ref w2, .ref w3, .ref w4, .ref w5, .int wt, .int re, .int 0])), (w4, .inr (8, [.ref k0, .ref k1, .ref k2, .ref k3, .ref k4, .ref k5, .ref k6, .ref k7, .ref k8, .int 0])), (w5, .inr (3, [.ref pf, .int 0]))] H := hP
      have hD : va_D A [(nw, .inr (9, [.ref w0, .ref w1, .ref w2, .ref w3, .ref w4, .ref w5, .int wt, .int re, .int 0])), (w4, .inr (8, [.ref k0, .ref k1, .ref k2, .ref k3, .ref k4, .ref k5, .ref k6, .ref k7, .ref k8, .int 0])), (w5, .inr (3, [.ref pf, .int 0]))] := hD
      have hr_6 := w_7
      obtain rfl : r_6 = (-1000001) := hr_6.trans (by decide)
      exact hRet () [] (by unfold sp_days; first | (rw [if_pos (by omega)]; exact k_inj (by omega)) | rw [if_neg (by omega)]) hP hD (by decide) rfl hS rfl dX10_days_32
    · refine lv_aload_n hx hb dX10_days_12 rfl (lv_at hl 0 rfl) ?_
      refine va_get (D := D) (ci := 10) (v := .ref nw) (C := RX10) (T := TX10) (N := 13) hx hb hT giX10 hown hK hP 0 rfl rfl 0 (by decide) (hT (Cond.fieldLink RX10 12 "DesertWire" "now" "LDesertWire$World;") mw_291) (fun _ h9 => h9) rfl dX10_days_13 ?_
      refine va_get (D := D) (ci := 9) (v := .int 0) (C := RX9) (T := TX9) (N := 9) hx hb hT giX9 hown hK hP 1 rfl rfl 8 (by decide) (hT (Cond.fieldLink RX10 109 "DesertWire$World" "day" "I") mw_110) (fun _ h9 => h9) rfl dX10_days_16 ?_
      refine lv_iload_n hx hb dX10_days_19 rfl (lv_at hl 1 rfl) ?_
      refine lv_iadd hx hb dX10_days_20 ?_
      refine lv_topi (fun v_9 ev_9 => ?_)
      have tv_9 : v_9.toInt = 0 + a.toInt := by rw [ev_9]; exact k_addv zl_0 rfl (by omega) (by omega)
      refine lv_sipush (v := 2000) hx hb dX10_days_21 (by decide) ?_
      refine b_icmp_le hx hb rfl zl_2000 (tgt := 33) dX10_days_24 (by decide) (fun c_10 => ?_) (fun c_10 => by exfalso; omega)
      refine lv_iconst (v := 0) hx hb dX10_days_33 (by decide) ?_
      refine lv_istore_n (lv' := [(2, .int 0), (0, .ref x), (1, .int a)]) hx hb dX10_days_34 rfl hl (by decide) rfl (fun ls hl => ?_)
      have hloop_35 : ∀ (fu_ : Nat) (i : Int32) (dq : Int32), 0 ≤ i.toInt → i.toInt ≤ a.toInt → dq.toInt = i.toInt → (200 - i.toInt).toNat < fu_ → ∀ (ls : Array Slot) (H : Heap) (locs : List Loc), lv_has ls 3 [(2, .int i), (0, .ref x), (1, .int a)] → va_P D vwCl [(x, .inr (10, [.ref nw, .ref kp, .ref fu, .ref ra, .ref kr, .ref rd, .ref wd, .ref ld, .ref mt, .ref vo, .ref sh, .ref fd, .int im])), (nw, .inr (9, [.ref w0, .ref w1, .ref w2, .ref w3, .ref w4, .ref w5, .int wt, .int re, .int dq])), (w4, .inr (8, [.ref k0, .ref k1, .ref k2, .ref k3, .ref k4, .ref k5, .ref k6, .ref k7, .ref k8, .int 0])), (w5, .inr (3, [.ref pf, .int 0])), (fd, .inl (cI, 6, .inl ff))] H → va_D A [(x, .inr (10, [.ref nw, .ref kp, .ref fu, .ref ra, .ref kr, .ref rd, .ref wd, .ref ld, .ref mt, .ref vo, .ref sh, .ref fd, .int im])), (nw, .inr (9, [.ref w0, .ref w1, .ref w2, .ref w3, .ref w4, .ref w5, .int wt, .int re, .int dq])), (w4, .inr (8, [.ref k0, .ref k1, .ref k2, .ref k3, .ref k4, .ref k5, .ref k6, .ref k7, .ref k8, .int 0])), (w5, .inr (3, [.ref pf, .int 0])), (fd, .inl (cI, 6, .inl ff))] → va_S A s.heap H locs → W p l e ({ frames := 2, cells := 0, slots := 0, locals := 42 } : Room) s m args below meth c H locs 0 0 Q (F0 m 35 ls []) := by
        intro fu_; induction fu_ with
        | zero => intro i dq i35_0 i35_1 i35_2 hm; exact absurd hm (by omega)
        | succ fu_ ih35 =>
            intro i dq i35_0 i35_1 i35_2 hm ls H locs hl hP hD hS
            have lo_i := k_lo i
            have hi_i := k_hi i
            have lo_dq := k_lo dq
            have hi_dq := k_hi dq
            refine lv_iload_n hx hb dX10_days_35 rfl (lv_at hl 0 rfl) ?_
            refine lv_iload_n hx hb dX10_days_36 rfl (lv_at hl 2 rfl) ?_
            refine b_icmp_ge hx hb rfl rfl (tgt := 53) dX10_days_37 (by decide) (fun c_11 => ?_) (fun c_11 => ?_)
            · refine lv_aload_n hx hb dX10_days_53 rfl (lv_at hl 1 rfl) ?_
              refine va_get (D := D) (ci := 10) (v := .ref nw) (C := RX10) (T := TX10) (N := 13) hx hb hT giX10 hown hK hP 0 rfl rfl 0 (by decide) (hT (Cond.fieldLink RX10 12 "DesertWire" "now" "LDesertWire$World;") mw_291) (fun _ h9 => h9) rfl dX10_days_54 ?_
              refine va_get (D := D) (ci := 9) (v := .int dq) (C := RX9) (T := TX9) (N := 9) hx hb hT giX9 hown hK hP 1 rfl rfl 8 (by decide) (hT (Cond.fieldLink RX10 109 "DesertWire$World" "day" "I") mw_110) (fun _ h9 => h9) rfl dX10_days_57 ?_
              exact hRet () [] (by unfold sp_days; first | (rw [if_pos (by omega)]; exact k_inj (by omega)) | rw [if_neg (by omega)]) hP hD (by decide) rfl hS rfl dX10_days_60
            · refine lv_aload_n hx hb dX10_days_40 rfl (lv_at hl 1 rfl) ?_
              refine va_get (D := D) (ci := 10) (v := .ref nw) (C := RX10) (T := TX10) (N := 13) hx hb hT giX10 hown hK hP 0 rfl rfl 0 (by decide) (hT (Cond.fieldLink RX10 12 "DesertWire" "now" "LDesertWire$World;") mw_291) (fun _ h9 => h9) rfl dX10_days_41 ?_
              refine kJv (wr := [(x, .inr (10, [.ref nw, .ref kp, .ref fu, .ref ra, .ref kr, .ref rd, .ref wd, .ref ld, .ref mt, .ref vo, .ref sh, .ref fd, .int im])), (fd, .inl (cI, 6, .inl ff))]) (va_runV (As := []) (rest := []) ⟨hx, hb, hml, hown, hT⟩ (c_X9_endDay l D cI nw w0 w1 w2 w3 w4 w5 k0 k1 k2 k3 k4 k5 k6 k7 k8 pf H.size wt re dq (by first | omega | decide | assumption | rfl) (by first | omega | decide | assumption | rfl)) (cwV 0 hT (gV_in mw_967 mw_964 mw_965 mw_966 mw_2) rfl rfl rfl (by decide +kernel) ⟨Nat.le_of_ble_eq_true rfl, Nat.le_of_ble_eq_true rfl⟩) (kRecv (own := "") (q0 := 1) (ci := 9) hK hP hD hN rfl rfl [1, 2, 3] rfl (by decide)) rfl rfl hl.1 rfl (lv_room (Nat.le_of_ble_eq_true rfl)) dX10_days_44 ⟨Nat.le_of_ble_eq_true rfl, Nat.le_of_ble_eq_true rfl⟩) hP hD hS hA [1, 2, 3] [0, 4] rfl rfl (by decide) (by decide) (fun d2_14 H locs w_13 hP hD hS => ?_)
              have hP : va_P D vwCl [(x, .inr (10, [.ref nw, .ref kp, .ref fu, .ref ra, .ref kr, .ref rd, .ref wd, .ref ld, .ref mt, .ref vo, .ref sh, .ref fd, .int im])), (fd, .inl (cI, 6, .inl ff)), (nw, .inr (9, [.ref w0, .ref w1, .ref w2, .ref w3, .ref w4, .ref w5, .int wt, .int re, .int d2_14])), (w4, .inr (8, [.ref k0, .ref k1, .ref k2, .ref k3, .ref k4, .ref k5, .ref k6, .ref k7, .ref k8, .int 0])), (w5, .inr (3, [.ref pf, .int 0]))] H := hP
              have hD : va_D A [(x, .inr (10, [.ref nw, .ref kp, .ref fu, .ref ra, .ref kr, .ref rd, .ref wd, .ref ld, .ref mt, .ref vo, .ref sh, .ref fd, .int im])), (fd, .inl (cI, 6, .inl ff)), (nw, .inr (9, [.ref w0, .ref w1, .ref w2, .ref w3, .ref w4, .ref w5, .int wt, .int re, .int d2_14])), (w4, .inr (8, [.ref k0, .ref k1, .ref k2, .ref k3, .ref k4, .ref k5, .ref k6, .ref k7, .ref k8, .int 0])), (w5, .inr (3, [.ref pf, .int 0]))] := hD
              have lo_d2_14 := k_lo d2_14
              have hi_d2_14 := k_hi d2_14
              have h_15 := w_13
              have h_15 : d2_14.toInt = dq.toInt + 1 := h_15
              obtain ⟨v_16, ev_16⟩ : ∃ y : Int32, y = i + 1 := ⟨_, rfl⟩
              have tv_16 : v_16.toInt = i.toInt + 1 := by rw [ev_16]; exact k_addv rfl zl_1 (by omega) (by omega)
              refine lv_iinc (v := v_16) (lv' := [(2, .int v_16), (0, .ref x), (1, .int a)]) hx hb dX10_days_47 hl (k := 0) rfl (by rw [ev_16]; rfl) (by decide) rfl (fun ls hl => ?_)
              refine lv_goto (tgt := 35) hx hb dX10_days_50 (by decide) ?_
              exact ih35 v_16 d2_14 (by first | omega | decide | assumption | rfl) (by first | omega | decide | assumption | rfl) (by first | omega | decide | assumption | rfl) (by omega) ls _ _ (lv_sub hl [0, 1, 2] rfl) (hP.sub [0, 2, 3, 4, 1] rfl) (hD.sub [0, 2, 3, 4, 1] (by decide) rfl) hS
      exact hloop_35 _ 0 0 (by first | omega | (simp only [zl_0] <;> omega) | decide | assumption | rfl) (by first | omega | (simp only [zl_0] <;> omega) | decide | assumption | rfl) (by first | omega | (simp only [zl_0] <;> omega) | decide | assumption | rfl) (Nat.lt_succ_self _) ls _ _ (lv_sub hl [0, 1, 2] rfl) hP hD hS
set_option maxHeartbeats 4000000 in
set_option maxRecDepth 100000 in
theorem c_X10_ahead (l : Launch) (D : va_G) (cI : ClassId) (x nw kp fu ra kr rd wd ld mt vo sh fd w0 w1 w2 w3 w4 w5 k0 k1 k2 k3 k4 k5 k6 k7 k8 pf v0 v1 v2 v3 v4 v5 j0 j1 j2 j3 j4 j5 j6 j7 j8 po : Nat) (sz : Nat) (im : Int32) (ff : Nat → Int32) (ywt : Int32) (yre : Int32) (ydy : Int32) (ya0 : Nat → Int32) (ya1 : Nat → Int32) (ya2 : Nat → Int32) (ya3 : Nat → Int32) (yn : Int32) (yb0 : Nat → Int32) (yb1 : Nat → Int32) (yb2 : Nat → Int32) (yb3 : Nat → Int32) (yb4 : Nat → Int32) (yb5 : Nat → Int32) (yb6 : Nat → Int32) (yb7 : Nat → Int32) (yb8 : Nat → Int32) (ym : Int32) (yq : Nat → Int32) (a : Int32) (b : Int32) (d : Int32) : Met l yX10_ahead (gW yX10_ahead cX10_ahead 5 (some .int)) ({ frames := 3, cells := 0, slots := 0, locals := 106 } : Room) (kPre D cI [.ref x, .int a, .int b, .int d] [(x, .inr (10, [.ref nw, .ref kp, .ref fu, .ref ra, .ref kr, .ref rd, .ref wd, .ref ld, .ref mt, .ref vo, .ref sh, .ref fd, .int im])), (nw, .inr (9, [.ref w0, .ref w1, .ref w2, .ref w3, .ref w4, .ref w5, .int 0, .int 40, .int 0])), (w0, .inl (cI, 12, .inl (fun _ => (2 : Int32)))), (w1, .inl (cI, 40, .inl (fun _ => (0 : Int32)))), (w2, .inl (cI, 40, .inl (fun _ => (0 : Int32)))), (w3, .inl (cI, 20, .inl (fun _ => (0 : Int32)))), (w4, .inr (8, [.ref k0, .ref k1, .ref k2, .ref k3, .ref k4, .ref k5, .ref k6, .ref k7, .ref k8, .int 0])), (k0, .inl (cI, 60, .inl (fun _ => (0 : Int32)))), (k1, .inl (cI, 60, .inl (fun _ => (0 : Int32)))), (k2, .inl (cI, 60, .inl (fun _ => (0 : Int32)))), (k3, .inl (cI, 60, .inl (fun _ => (0 : Int32)))), (k4, .inl (cI, 60, .inl (fun _ => (0 : Int32)))), (k5, .inl (cI, 60, .inl (fun _ => (0 : Int32)))), (k6, .inl (cI, 40, .inl (fun _ => (0 : Int32)))), (k7, .inl (cI, 40, .inl (fun _ => (0 : Int32)))), (k8, .inl (cI, 40, .inl (fun _ => (0 : Int32)))), (w5, .inr (3, [.ref pf, .int 0])), (pf, .inl (cI, 36, .inl (fun _ => (0 : Int32)))), (fu, .inr (9, [.ref v0, .ref v1, .ref v2, .ref v3, .ref v4, .ref v5, .int ywt, .int yre, .int ydy])), (v0, .inl (cI, 12, .inl ya0)), (v1, .inl (cI, 40, .inl ya1)), (v2, .inl (cI, 40, .inl ya2)), (v3, .inl (cI, 20, .inl ya3)), (v4, .inr (8, [.ref j0, .ref j1, .ref j2, .ref j3, .ref j4, .ref j5, .ref j6, .ref j7, .ref j8, .int yn])), (j0, .inl (cI, 60, .inl yb0)), (j1, .inl (cI, 60, .inl yb1)), (j2, .inl (cI, 60, .inl yb2)), (j3, .inl (cI, 60, .inl yb3)), (j4, .inl (cI, 60, .inl yb4)), (j5, .inl (cI, 60, .inl yb5)), (j6, .inl (cI, 40, .inl yb6)), (j7, .inl (cI, 40, .inl yb7)), (j8, .inl (cI, 40, .inl yb8)), (v5, .inr (3, [.ref po, .int ym])), (po, .inl (cI, 36, .inl yq)), (fd, .inl (cI, 6, .inl ff))] sz) (va_Qi (fun (r : Int32) (u : Unit) => r = sp_ahead a b) (fun u t => kWd D cI (va_A [(x, .inr (10, [.ref nw, .ref kp, .ref fu, .ref ra, .ref kr, .ref rd, .ref wd, .ref ld, .ref mt, .ref vo, .ref sh, .ref fd, .int im])), (nw, .inr (9, [.ref w0, .ref w1, .ref w2, .ref w3, .ref w4, .ref w5, .int 0, .int 40, .int 0])), (w0, .inl (cI, 12, .inl (fun _ => (2 : Int32)))), (w1, .inl (cI, 40, .inl (fun _ => (0 : Int32)))), (w2, .inl (cI, 40, .inl (fun _ => (0 : Int32)))), (w3, .inl (cI, 20, .inl (fun _ => (0 : Int32)))), (w4, .inr (8, [.ref k0, .ref k1, .ref k2, .ref k3, .ref k4, .ref k5, .ref k6, .ref k7, .ref k8, .int 0])), (k0, .inl (cI, 60, .inl (fun _ => (0 : Int32)))), (k1, .inl (cI, 60, .inl (fun _ => (0 : Int32)))), (k2, .inl (cI, 60, .inl (fun _ => (0 : Int32)))), (k3, .inl (cI, 60, .inl (fun _ => (0 : Int32)))), (k4, .inl (cI, 60, .inl (fun _ => (0 : Int32)))), (k5, .inl (cI, 60, .inl (fun _ => (0 : Int32)))), (k6, .inl (cI, 40, .inl (fun _ => (0 : Int32)))), (k7, .inl (cI, 40, .inl (fun _ => (0 : Int32)))), (k8, .inl (cI, 40, .inl (fun _ => (0 : Int32)))), (w5, .inr (3, [.ref pf, .int 0])), (pf, .inl (cI, 36, .inl (fun _ => (0 : Int32)))), (fu, .inr (9, [.ref v0, .ref v1, .ref v2, .ref v3, .ref v4, .ref v5, .int ywt, .int yre, .int ydy])), (v0, .inl (cI, 12, .inl ya0)), (v1, .inl (cI, 40, .inl ya1)), (v2, .inl (cI, 40, .inl ya2)), (v3, .inl (cI, 20, .inl ya3)), (v4, .inr (8, [.ref j0, .ref j1, .ref j2, .ref j3, .ref j4, .ref j5, .ref j6, .ref j7, .ref j8, .int yn])), (j0, .inl (cI, 60, .inl yb0)), (j1, .inl (cI, 60, .inl yb1)), (j2, .inl (cI, 60, .inl yb2)), (j3, .inl (cI, 60, .inl yb3)), (j4, .inl (cI, 60, .inl yb4)), (j5, .inl (cI, 60, .inl yb5)), (j6, .inl (cI, 40, .inl yb6)), (j7, .inl (cI, 40, .inl yb7)), (j8, .inl (cI, 40, .inl yb8)), (v5, .inr (3, [.ref po, .int ym])), (po, .inl (cI, 36, .inl yq)), (fd, .inl (cI, 6, .inl ff))] sz) [] t) (va_A [(x, .inr (10, [.ref nw, .ref kp, .ref fu, .ref ra, .ref kr, .ref rd, .ref wd, .ref ld, .ref mt, .ref vo, .ref sh, .ref fd, .int im])), (nw, .inr (9, [.ref w0, .ref w1, .ref w2, .ref w3, .ref w4, .ref w5, .int 0, .int 40, .int 0])), (w0, .inl (cI, 12, .inl (fun _ => (2 : Int32)))), (w1, .inl (cI, 40, .inl (fun _ => (0 : Int32)))), (w2, .inl (cI, 40, .inl (fun _ => (0 : Int32)))), (w3, .inl (cI, 20, .inl (fun _ => (0 : Int32)))), (w4, .inr (8, [.ref k0, .ref k1, .ref k2, .ref k3, .ref k4, .ref k5, .ref k6, .ref k7, .ref k8, .int 0])), (k0, .inl (cI, 60, .inl (fun _ => (0 : Int32)))), (k1, .inl (cI, 60, .inl (fun _ => (0 : Int32)))), (k2, .inl (cI, 60, .inl (fun _ => (0 : Int32)))), (k3, .inl (cI, 60, .inl (fun _ => (0 : Int32)))), (k4, .inl (cI, 60, .inl (fun _ => (0 : Int32)))), (k5, .inl (cI, 60, .inl (fun _ => (0 : Int32)))), (k6, .inl (cI, 40, .inl (fun _ => (0 : Int32)))), (k7, .inl (cI, 40, .inl (fun _ => (0 : Int32)))), (k8, .inl (cI, 40, .inl (fun _ => (0 : Int32)))), (w5, .inr (3, [.ref pf, .int 0])), (pf, .inl (cI, 36, .inl (fun _ => (0 : Int32)))), (fu, .inr (9, [.ref v0, .ref v1, .ref v2, .ref v3, .ref v4, .ref v5, .int ywt, .int yre, .int ydy])), (v0, .inl (cI, 12, .inl ya0)), (v1, .inl (cI, 40, .inl ya1)), (v2, .inl (cI, 40, .inl ya2)), (v3, .inl (cI, 20, .inl ya3)), (v4, .inr (8, [.ref j0, .ref j1, .ref j2, .ref j3, .ref j4, .ref j5, .ref j6, .ref j7, .ref j8, .int yn])), (j0, .inl (cI, 60, .inl yb0)), (j1, .inl (cI, 60, .inl yb1)), (j2, .inl (cI, 60, .inl yb2)), (j3, .inl (cI, 60, .inl yb3)), (j4, .inl (cI, 60, .inl yb4)), (j5, .inl (cI, 60, .inl yb5)), (j6, .inl (cI, 40, .inl yb6)), (j7, .inl (cI, 40, .inl yb7)), (j8, .inl (cI, 40, .inl yb8)), (v5, .inr (3, [.ref po, .int ym])), (po, .inl (cI, 36, .inl yq)), (fd, .inl (cI, 6, .inl ff))] sz)) 0 0 (va_A [(x, .inr (10, [.ref nw, .ref kp, .ref fu, .ref ra, .ref kr, .ref rd, .ref wd, .ref ld, .ref mt, .ref vo, .ref sh, .ref fd, .int im])), (nw, .inr (9, [.ref w0, .ref w1, .ref w2, .ref w3, .ref w4, .ref w5, .int 0, .int 40, .int 0])), (w0, .inl (cI, 12, .inl (fun _ => (2 : Int32)))), (w1, .inl (cI, 40, .inl (fun _ => (0 : Int32)))), (w2, .inl (cI, 40, .inl (fun _ => (0 : Int32)))), (w3, .inl (cI, 20, .inl (fun _ => (0 : Int32)))), (w4, .inr (8, [.ref k0, .ref k1, .ref k2, .ref k3, .ref k4, .ref k5, .ref k6, .ref k7, .ref k8, .int 0])), (k0, .inl (cI, 60, .inl (fun _ => (0 : Int32)))), (k1, .inl (cI, 60, .inl (fun _ => (0 : Int32)))), (k2, .inl (cI, 60, .inl (fun _ => (0 : Int32)))), (k3, .inl (cI, 60, .inl (fun _ => (0 : Int32)))), (k4, .inl (cI, 60, .inl (fun _ => (0 : Int32)))), (k5, .inl (cI, 60, .inl (fun _ => (0 : Int32)))), (k6, .inl (cI, 40, .inl (fun _ => (0 : Int32)))), (k7, .inl (cI, 40, .inl (fun _ => (0 : Int32)))), (k8, .inl (cI, 40, .inl (fun _ => (0 : Int32)))), (w5, .inr (3, [.ref pf, .int 0])), (pf, .inl (cI, 36, .inl (fun _ => (0 : Int32)))), (fu, .inr (9, [.ref v0, .ref v1, .ref v2, .ref v3, .ref v4, .ref v5, .int ywt, .int yre, .int ydy])), (v0, .inl (cI, 12, .inl ya0)), (v1, .inl (cI, 40, .inl ya1)), (v2, .inl (cI, 40, .inl ya2)), (v3, .inl (cI, 20, .inl ya3)), (v4, .inr (8, [.ref j0, .ref j1, .ref j2, .ref j3, .ref j4, .ref j5, .ref j6, .ref j7, .ref j8, .int yn])), (j0, .inl (cI, 60, .inl yb0)), (j1, .inl (cI, 60, .inl yb1)), (j2, .inl (cI, 60, .inl yb2)), (j3, .inl (cI, 60, .inl yb3)), (j4, .inl (cI, 60, .inl yb4)), (j5, .inl (cI, 60, .inl yb5)), (j6, .inl (cI, 40, .inl yb6)), (j7, .inl (cI, 40, .inl yb7)), (j8, .inl (cI, 40, .inl yb8)), (v5, .inr (3, [.ref po, .int ym])), (po, .inl (cI, 36, .inl yq)), (fd, .inl (cI, 6, .inl ff))] sz) := by
  refine kMetI (own := RX10) (by decide) rfl (Nat.le_of_ble_eq_true rfl) ?_
  intro p e s m args below meth c hx hb hT hown hname hml A Q hK hP hD hS hA hN hRet ls hl
  have hl : lv_has ls 5 [(0, .ref x), (1, .int a), (2, .int b), (3, .int d)] := hl
  have lo_a := k_lo a
  have hi_a := k_hi a
  have lo_b := k_lo b
  have hi_b := k_hi b
  have lo_d := k_lo d
  have hi_d := k_hi d
  have lo_im := k_lo im
  have hi_im := k_hi im
  have lo_ywt := k_lo ywt
  have hi_ywt := k_hi ywt
  have lo_yre := k_lo yre
  have hi_yre := k_hi yre
  have lo_ydy := k_lo ydy
  have hi_ydy := k_hi ydy
  have lo_yn := k_lo yn
  have hi_yn := k_hi yn
  have lo_ym := k_lo ym
  have hi_ym := k_hi ym
  refine lv_iload_n hx hb dX10_ahead_0 rfl (lv_at hl 1 rfl) ?_
  refine b_if_lt hx hb rfl (tgt := 36) dX10_ahead_1 (by decide) (fun c_1 => ?_) (fun c_1 => ?_)
  · refine lv_aload_n hx hb dX10_ahead_36 rfl (lv_at hl 0 rfl) ?_
    refine lv_iconst (v := 1) hx hb dX10_ahead_37 (by decide) ?_
    refine kJi (wr := [(nw, .inr (9, [.ref w0, .ref w1, .ref w2, .ref w3, .ref w4, .ref w5, .int 0, .int 40, .int 0])), (w0, .inl (cI, 12, .inl (fun _ => (2 : Int32)))), (w1, .inl (cI, 40, .inl (fun _ => (0 : Int32)))), (w2, .inl (cI, 40, .inl (fun _ => (0 : Int32)))), (w3, .inl (cI, 20, .inl (fun _ => (0 : Int32)))), (w4, .inr (8, [.ref k0, .ref k1, .ref k2, .ref k3, .ref k4, .ref k5, .ref k6, .ref k7, .ref k8, .int 0])), (k0, .inl (cI, 60, .inl (fun _ => (0 : Int32)))), (k1, .inl (cI, 60, .inl (fun _ => (0 : Int32)))), (k2, .inl (cI, 60, .inl (fun _ => (0 : Int32)))), (k3, .inl (cI, 60, .inl (fun _ => (0 : Int32)))), (k4, .inl (cI, 60, .inl (fun _ => (0 : Int32)))), (k5, .inl (cI, 60, .inl (fun _ => (0 : Int32)))), (k6, .inl (cI, 40, .inl (fun _ => (0 : Int32)))), (k7, .inl (cI, 40, .inl (fun _ => (0 : Int32)))), (k8, .inl (cI, 40, .inl (fun _ => (0 : Int32)))), (w5, .inr (3, [.ref pf, .int 0])), (pf, .inl (cI, 36, .inl (fun _ => (0 : Int32)))), (fu, .inr (9, [.ref v0, .ref v1, .ref v2, .ref v3, .ref v4, .ref v5, .int ywt, .int yre, .int ydy])), (v0, .inl (cI, 12, .inl ya0)), (v1, .inl (cI, 40, .inl ya1)), (v2, .inl (cI, 40, .inl ya2)), (v3, .inl (cI, 20, .inl ya3)), (v4, .inr (8, [.ref j0, .ref j1, .ref j2, .ref j3, .ref j4, .ref j5, .ref j6, .ref j7, .ref j8, .int yn])), (j0, .inl (cI, 60, .inl yb0)), (j1, .inl (cI, 60, .inl yb1)), (j2, .inl (cI, 60, .inl yb2)), (j3, .inl (cI, 60, .inl yb3)), (j4, .inl (cI, 60, .inl yb4)), (j5, .inl (cI, 60, .inl yb5)), (j6, .inl (cI, 40, .inl yb6)), (j7, .inl (cI, 40, .inl yb7)), (j8, .inl (cI, 40, .inl yb8)), (v5, .inr (3, [.ref po, .int ym])), (po, .inl (cI, 36, .inl yq))]) (va_runV (As := [.int 1]) (rest := []) ⟨hx, hb, hml, hown, hT⟩ (c_X10_finding l D cI x nw kp fu ra kr rd wd ld mt vo sh fd s.heap.size im ff 1 (by first | omega | (simp only [zl_1] <;> omega) | decide | assumption | rfl) (by first | omega | (simp only [zl_1] <;> omega) | decide | assumption | rfl)) (cwV 1 hT (gV_in mw_338 mw_335 mw_337 mw_p1_0 mw_1) rfl rfl rfl (by decide +kernel) ⟨Nat.le_of_ble_eq_true rfl, Nat.le_of_ble_eq_true rfl⟩) (kRecv (own := "") (q0 := 0) (ci := 10) hK hP hD hN rfl rfl [0, 35] rfl (by decide)) rfl rfl hl.1 rfl (lv_room (Nat.le_of_ble_eq_true rfl)) dX10_ahead_38 ⟨Nat.le_of_ble_eq_true rfl, Nat.le_of_ble_eq_true rfl⟩) hP hD hS hA [0, 35] [1, 2, 3, 4, 5, 6, 7, 8, 9, 10, 11, 12, 13, 14, 15, 16, 17, 18, 19, 20, 21, 22, 23, 24, 25, 26, 27, 28, 29, 30, 31, 32, 33, 34] rfl rfl (by decide) (by decide) (fun r_2 u_4 H locs w_3 hP hD hS => ?_)
    have hP : va_P D vwCl [(nw, .inr (9, [.ref w0, .ref w1, .ref w2, .ref w3, .ref w4, .ref w5, .int 0, .int 40, .int 0])), (w0, .inl (cI, 12, .inl (fun _ => (2 : Int32)))), (w1, .inl (cI, 40, .inl (fun _ => (0 : Int32)))), (w2, .inl (cI, 40, .inl (fun _ => (0 : Int32)))), (w3, .inl (cI, 20, .inl (fun _ => (0 : Int32)))), (w4, .inr (8, [.ref k0, .ref k1, .ref k2, .ref k3, .ref k4, .ref k5, .ref k6, .ref k7, .ref k8, .int 0])), (k0, .inl (cI, 60, .inl (fun _ => (0 : Int32)))), (k1, .inl (cI, 60, .inl (fun _ => (0 : Int32)))), (k2, .inl (cI, 60, .inl (fun _ => (0 : Int32)))), (k3, .inl (cI, 60, .inl (fun _ => (0 : Int32)))), (k4, .inl (cI, 60, .inl (fun _ => (0 : Int32)))), (k5, .inl (cI, 60, .inl (fun _ => (0 : Int32)))), (k6, .inl (cI, 40, .inl (fun _ => (0 : Int32)))), (k7, .inl (cI, 40, .inl (fun _ => (0 : Int32)))), (k8, .inl (cI, 40, .inl (fun _ => (0 : Int32)))), (w5, .inr (3, [.ref pf, .int 0])), (pf, .inl (cI, 36, .inl (fun _ => (0 : Int32)))), (fu, .inr (9, [.ref v0, .ref v1, .ref v2, .ref v3, .ref v4, .ref v5, .int ywt, .int yre, .int ydy])), (v0, .inl (cI, 12, .inl ya0)), (v1, .inl (cI, 40, .inl ya1)), (v2, .inl (cI, 40, .inl ya2)), (v3, .inl (cI, 20, .inl ya3)), (v4, .inr (8, [.ref j0, .ref j1, .ref j2, .ref j3, .ref j4, .ref j5, .ref j6, .ref j7, .ref j8, .int yn])), (j0, .inl (cI, 60, .inl yb0)), (j1, .inl (cI, 60, .inl yb1)), (j2, .inl (cI, 60, .inl yb2)), (j3, .inl (cI, 60, .inl yb3)), (j4, .inl (cI, 60, .inl yb4)), (j5, .inl (cI, 60, .inl yb5)), (j6, .inl (cI, 40, .inl yb6)), (j7, .inl (cI, 40, .inl yb7)), (j8, .inl (cI, 40, .inl yb8)), (v5, .inr (3, [.ref po, .int ym])), (po, .inl (cI, 36, .inl yq))] H := hP
    have hD : va_D A [(nw, .inr (9, [.ref w0, .ref w1, .ref w2, .ref w3, .ref w4, .ref w5, .int 0, .int 40, .int 0])), (w0, .inl (cI, 12, .inl (fun _ => (2 : Int32)))), (w1, .inl (cI, 40, .inl (fun _ => (0 : Int32)))), (w2, .inl (cI, 40, .inl (fun _ => (0 : Int32)))), (w3, .inl (cI, 20, .inl (fun _ => (0 : Int32)))), (w4, .inr (8, [.ref k0, .ref k1, .ref k2, .ref k3, .ref k4, .ref k5, .ref k6, .ref k7, .ref k8, .int 0])), (k0, .inl (cI, 60, .inl (fun _ => (0 : Int32)))), (k1, .inl (cI, 60, .inl (fun _ => (0 : Int32)))), (k2, .inl (cI, 60, .inl (fun _ => (0 : Int32)))), (k3, .inl (cI, 60, .inl (fun _ => (0 : Int32)))), (k4, .inl (cI, 60, .inl (fun _ => (0 : Int32)))), (k5, .inl (cI, 60, .inl (fun _ => (0 : Int32)))), (k6, .inl (cI, 40, .inl (fun _ => (0 : Int32)))), (k7, .inl (cI, 40, .inl (fun _ => (0 : Int32)))), (k8, .inl (cI, 40, .inl (fun _ => (0 : Int32)))), (w5, .inr (3, [.ref pf, .int 0])), (pf, .inl (cI, 36, .inl (fun _ => (0 : Int32)))), (fu, .inr (9, [.ref v0, .ref v1, .ref v2, .ref v3, .ref v4, .ref v5, .int ywt, .int yre, .int ydy])), (v0, .inl (cI, 12, .inl ya0)), (v1, .inl (cI, 40, .inl ya1)), (v2, .inl (cI, 40, .inl ya2)), (v3, .inl (cI, 20, .inl ya3)), (v4, .inr (8, [.ref j0, .ref j1, .ref j2, .ref j3, .ref j4, .ref j5, .ref j6, .ref j7, .ref j8, .int yn])), (j0, .inl (cI, 60, .inl yb0)), (j1, .inl (cI, 60, .inl yb1)), (j2, .inl (cI, 60, .inl yb2)), (j3, .inl (cI, 60, .inl yb3)), (j4, .inl (cI, 60, .inl yb4)), (j5, .inl (cI, 60, .inl yb5)), (j6, .inl (cI, 40, .inl yb6)), (j7, .inl (cI, 40, .inl yb7)), (j8, .inl (cI, 40, .inl yb8)), (v5, .inr (3, [.ref po, .int ym])), (po, .inl (cI, 36, .inl yq))] := hD
    have hr_2 := w_3
    obtain rfl : r_2 = (-1000001) := hr_2.trans (by decide)
    exact hRet () [] (by unfold sp_ahead; repeat (first | rw [if_pos (by omega)] | rw [if_neg (by omega)])) hP hD (by decide) rfl hS rfl dX10_ahead_41
  · refine lv_iload_n hx hb dX10_ahead_4 rfl (lv_at hl 1 rfl) ?_
    refine lv_sipush (v := 200) hx hb dX10_ahead_5 (by decide) ?_
    refine b_icmp_gt hx hb rfl zl_200 (tgt := 36) dX10_ahead_8 (by decide) (fun c_5 => ?_) (fun c_5 => ?_)
    · refine lv_aload_n hx hb dX10_ahead_36 rfl (lv_at hl 0 rfl) ?_
      refine lv_iconst (v := 1) hx hb dX10_ahead_37 (by decide) ?_
      refine kJi (wr := [(nw, .inr (9, [.ref w0, .ref w1, .ref w2, .ref w3, .ref w4, .ref w5, .int 0, .int 40, .int 0])), (w0, .inl (cI, 12, .inl (fun _ => (2 : Int32)))), (w1, .inl (cI, 40, .inl (fun _ => (0 : Int32)))), (w2, .inl (cI, 40, .inl (fun _ => (0 : Int32)))), (w3, .inl (cI, 20, .inl (fun _ => (0 : Int32)))), (w4, .inr (8, [.ref k0, .ref k1, .ref k2, .ref k3, .ref k4, .ref k5, .ref k6, .ref k7, .ref k8, .int 0])), (k0, .inl (cI, 60, .inl (fun _ => (0 : Int32)))), (k1, .inl (cI, 60, .inl (fun _ => (0 : Int32)))), (k2, .inl (cI, 60, .inl (fun _ => (0 : Int32)))), (k3, .inl (cI, 60, .inl (fun _ => (0 : Int32)))), (k4, .inl (cI, 60, .inl (fun _ => (0 : Int32)))), (k5, .inl (cI, 60, .inl (fun _ => (0 : Int32)))), (k6, .inl (cI, 40, .inl (fun _ => (0 : Int32)))), (k7, .inl (cI, 40, .inl (fun _ => (0 : Int32)))), (k8, .inl (cI, 40, .inl (fun _ => (0 : Int32)))), (w5, .inr (3, [.ref pf, .int 0])), (pf, .inl (cI, 36, .inl (fun _ => (0 : Int32)))), (fu, .inr (9, [.ref v0, .ref v1, .ref v2, .ref v3, .ref v4, .ref v5, .int ywt, .int yre, .int ydy])), (v0, .inl (cI, 12, .inl ya0)), (v1, .inl (cI, 40, .inl ya1)), (v2, .inl (cI, 40, .inl ya2)), (v3, .inl (cI, 20, .inl ya3)), (v4, .inr (8, [.ref j0, .ref j1, .ref j2, .ref j3, .ref j4, .ref j5, .ref j6, .ref j7, .ref j8, .int yn])), (j0, .inl (cI, 60, .inl yb0)), (j1, .inl (cI, 60, .inl yb1)), (j2, .inl (cI, 60, .inl yb2)), (j3, .inl (cI, 60, .inl yb3)), (j4, .inl (cI, 60, .inl yb4)), (j5, .inl (cI, 60, .inl yb5)), (j6, .inl (cI, 40, .inl yb6)), (j7, .inl (cI, 40, .inl yb7)), (j8, .inl (cI, 40, .inl yb8)), (v5, .inr (3, [.ref po, .int ym])), (po, .inl (cI, 36, .inl yq))]) (va_runV (As := [.int 1]) (rest := []) ⟨hx, hb, hml, hown, hT⟩ (c_X10_finding l D cI x nw kp fu ra kr rd wd ld mt vo sh fd s.heap.size im ff 1 (by first | omega | (simp only [zl_1] <;> omega) | decide | assumption | rfl) (by first | omega | (simp only [zl_1] <;> omega) | decide | assumption | rfl)) (cwV 1 hT (gV_in mw_338 mw_335 mw_337 mw_p1_0 mw_1) rfl rfl rfl (by decide +kernel) ⟨Nat.le_of_ble_eq_true rfl, Nat.le_of_ble_eq_true rfl⟩) (kRecv (own := "") (q0 := 0) (ci := 10) hK hP hD hN rfl rfl [0, 35] rfl (by decide)) rfl rfl hl.1 rfl (lv_room (Nat.le_of_ble_eq_true rfl)) dX10_ahead_38 ⟨Nat.le_of_ble_eq_true rfl, Nat.le_of_ble_eq_true rfl⟩) hP hD hS hA [0, 35] [1, 2, 3, 4, 5, 6, 7, 8, 9, 10, 11, 12, 13, 14, 15, 16, 17, 18, 19, 20, 21, 22, 23, 24, 25, 26, 27, 28, 29, 30, 31, 32, 33, 34] rfl rfl (by decide) (by decide) (fun r_6 u_8 H locs w_7 hP hD hS => ?_)
      have hP : va_P D vwCl [(nw, .inr (9, [.ref w0, .ref w1, .ref w2, .ref w3, .ref w4, .ref w5, .int 0, .int 40, .int 0])), (w0, .inl (cI, 12, .inl (fun _ => (2 : Int32)))), (w1, .inl (cI, 40, .inl (fun _ => (0 : Int32)))), (w2, .inl (cI, 40, .inl (fun _ => (0 : Int32)))), (w3, .inl (cI, 20, .inl (fun _ => (0 : Int32)))), (w4, .inr (8, [.ref k0, .ref k1, .ref k2, .ref k3, .ref k4, .ref k5, .ref k6, .ref k7, .ref k8, .int 0])), (k0, .inl (cI, 60, .inl (fun _ => (0 : Int32)))), (k1, .inl (cI, 60, .inl (fun _ => (0 : Int32)))), (k2, .inl (cI, 60, .inl (fun _ => (0 : Int32)))), (k3, .inl (cI, 60, .inl (fun _ => (0 : Int32)))), (k4, .inl (cI, 60, .inl (fun _ => (0 : Int32)))), (k5, .inl (cI, 60, .inl (fun _ => (0 : Int32)))), (k6, .inl (cI, 40, .inl (fun _ => (0 : Int32)))), (k7, .inl (cI, 40, .inl (fun _ => (0 : Int32)))), (k8, .inl (cI, 40, .inl (fun _ => (0 : Int32)))), (w5, .inr (3, [.ref pf, .int 0])), (pf, .inl (cI, 36, .inl (fun _ => (0 : Int32)))), (fu, .inr (9, [.ref v0, .ref v1, .ref v2, .ref v3, .ref v4, .ref v5, .int ywt, .int yre, .int ydy])), (v0, .inl (cI, 12, .inl ya0)), (v1, .inl (cI, 40, .inl ya1)), (v2, .inl (cI, 40, .inl ya2)), (v3, .inl (cI, 20, .inl ya3)), (v4, .inr (8, [.ref j0, .ref j1, .ref j2, .ref j3, .ref j4, .ref j5, .ref j6, .ref j7, .ref j8, .int yn])), (j0, .inl (cI, 60, .inl yb0)), (j1, .inl (cI, 60, .inl yb1)), (j2, .inl (cI, 60, .inl yb2)), (j3, .inl (cI, 60, .inl yb3)), (j4, .inl (cI, 60, .inl yb4)), (j5, .inl (cI, 60, .inl yb5)), (j6, .inl (cI, 40, .inl yb6)), (j7, .inl (cI, 40, .inl yb7)), (j8, .inl (cI, 40, .inl yb8)), (v5, .inr (3, [.ref po, .int ym])), (po, .inl (cI, 36, .inl yq))] H := hP
      have hD : va_D A [(nw, .inr (9, [.ref w0, .ref w1, .ref w2, .ref w3, .ref w4, .ref w5, .int 0, .int 40, .int 0])), (w0, .inl (cI, 12, .inl (fun _ => (2 : Int32)))), (w1, .inl (cI, 40, .inl (fun _ => (0 : Int32)))), (w2, .inl (cI, 40, .inl (fun _ => (0 : Int32)))), (w3, .inl (cI, 20, .inl (fun _ => (0 : Int32)))), (w4, .inr (8, [.ref k0, .ref k1, .ref k2, .ref k3, .ref k4, .ref k5, .ref k6, .ref k7, .ref k8, .int 0])), (k0, .inl (cI, 60, .inl (fun _ => (0 : Int32)))), (k1, .inl (cI, 60, .inl (fun _ => (0 : Int32)))), (k2, .inl (cI, 60, .inl (fun _ => (0 : Int32)))), (k3, .inl (cI, 60, .inl (fun _ => (0 : Int32)))), (k4, .inl (cI, 60, .inl (fun _ => (0 : Int32)))), (k5, .inl (cI, 60, .inl (fun _ => (0 : Int32)))), (k6, .inl (cI, 40, .inl (fun _ => (0 : Int32)))), (k7, .inl (cI, 40, .inl (fun _ => (0 : Int32)))), (k8, .inl (cI, 40, .inl (fun _ => (0 : Int32)))), (w5, .inr (3, [.ref pf, .int 0])), (pf, .inl (cI, 36, .inl (fun _ => (0 : Int32)))), (fu, .inr (9, [.ref v0, .ref v1, .ref v2, .ref v3, .ref v4, .ref v5, .int ywt, .int yre, .int ydy])), (v0, .inl (cI, 12, .inl ya0)), (v1, .inl (cI, 40, .inl ya1)), (v2, .inl (cI, 40, .inl ya2)), (v3, .inl (cI, 20, .inl ya3)), (v4, .inr (8, [.ref j0, .ref j1, .ref j2, .ref j3, .ref j4, .ref j5, .ref j6, .ref j7, .ref j8, .int yn])), (j0, .inl (cI, 60, .inl yb0)), (j1, .inl (cI, 60, .inl yb1)), (j2, .inl (cI, 60, .inl yb2)), (j3, .inl (cI, 60, .inl yb3)), (j4, .inl (cI, 60, .inl yb4)), (j5, .inl (cI, 60, .inl yb5)), (j6, .inl (cI, 40, .inl yb6)), (j7, .inl (cI, 40, .inl yb7)), (j8, .inl (cI, 40, .inl yb8)), (v5, .inr (3, [.ref po, .int ym])), (po, .inl (cI, 36, .inl yq))] := hD
      have hr_6 := w_7
      obtain rfl : r_6 = (-1000001) := hr_6.trans (by decide)
      exact hRet () [] (by unfold sp_ahead; repeat (first | rw [if_pos (by omega)] | rw [if_neg (by omega)])) hP hD (by decide) rfl hS rfl dX10_ahead_41
    · refine lv_aload_n hx hb dX10_ahead_11 rfl (lv_at hl 0 rfl) ?_
      refine va_get (D := D) (ci := 10) (v := .ref nw) (C := RX10) (T := TX10) (N := 13) hx hb hT giX10 hown hK hP 0 rfl rfl 0 (by decide) (hT (Cond.fieldLink RX10 12 "DesertWire" "now" "LDesertWire$World;") mw_291) (fun _ h9 => h9) rfl dX10_ahead_12 ?_
      refine va_get (D := D) (ci := 9) (v := .int 0) (C := RX9) (T := TX9) (N := 9) hx hb hT giX9 hown hK hP 1 rfl rfl 8 (by decide) (hT (Cond.fieldLink RX10 109 "DesertWire$World" "day" "I") mw_110) (fun _ h9 => h9) rfl dX10_ahead_15 ?_
      refine lv_iload_n hx hb dX10_ahead_18 rfl (lv_at hl 1 rfl) ?_
      refine lv_iadd hx hb dX10_ahead_19 ?_
      refine lv_topi (fun v_9 ev_9 => ?_)
      have tv_9 : v_9.toInt = 0 + a.toInt := by rw [ev_9]; exact k_addv zl_0 rfl (by omega) (by omega)
      refine lv_sipush (v := 2000) hx hb dX10_ahead_20 (by decide) ?_
      refine b_icmp_gt hx hb rfl zl_2000 (tgt := 36) dX10_ahead_23 (by decide) (fun c_10 => by exfalso; omega) (fun c_10 => ?_)
      refine lv_iload_n hx hb dX10_ahead_26 rfl (lv_at hl 2 rfl) ?_
      refine b_if_lt hx hb rfl (tgt := 36) dX10_ahead_27 (by decide) (fun c_11 => ?_) (fun c_11 => ?_)
      · refine lv_aload_n hx hb dX10_ahead_36 rfl (lv_at hl 0 rfl) ?_
        refine lv_iconst (v := 1) hx hb dX10_ahead_37 (by decide) ?_
        refine kJi (wr := [(nw, .inr (9, [.ref w0, .ref w1, .ref w2, .ref w3, .ref w4, .ref w5, .int 0, .int 40, .int 0])), (w0, .inl (cI, 12, .inl (fun _ => (2 : Int32)))), (w1, .inl (cI, 40, .inl (fun _ => (0 : Int32)))), (w2, .inl (cI, 40, .inl (fun _ => (0 : Int32)))), (w3, .inl (cI, 20, .inl (fun _ => (0 : Int32)))), (w4, .inr (8, [.ref k0, .ref k1, .ref k2, .ref k3, .ref k4, .ref k5, .ref k6, .ref k7, .ref k8, .int 0])), (k0, .inl (cI, 60, .inl (fun _ => (0 : Int32)))), (k1, .inl (cI, 60, .inl (fun _ => (0 : Int32)))), (k2, .inl (cI, 60, .inl (fun _ => (0 : Int32)))), (k3, .inl (cI, 60, .inl (fun _ => (0 : Int32)))), (k4, .inl (cI, 60, .inl (fun _ => (0 : Int32)))), (k5, .inl (cI, 60, .inl (fun _ => (0 : Int32)))), (k6, .inl (cI, 40, .inl (fun _ => (0 : Int32)))), (k7, .inl (cI, 40, .inl (fun _ => (0 : Int32)))), (k8, .inl (cI, 40, .inl (fun _ => (0 : Int32)))), (w5, .inr (3, [.ref pf, .int 0])), (pf, .inl (cI, 36, .inl (fun _ => (0 : Int32)))), (fu, .inr (9, [.ref v0, .ref v1, .ref v2, .ref v3, .ref v4, .ref v5, .int ywt, .int yre, .int ydy])), (v0, .inl (cI, 12, .inl ya0)), (v1, .inl (cI, 40, .inl ya1)), (v2, .inl (cI, 40, .inl ya2)), (v3, .inl (cI, 20, .inl ya3)), (v4, .inr (8, [.ref j0, .ref j1, .ref j2, .ref j3, .ref j4, .ref j5, .ref j6, .ref j7, .ref j8, .int yn])), (j0, .inl (cI, 60, .inl yb0)), (j1, .inl (cI, 60, .inl yb1)), (j2, .inl (cI, 60, .inl yb2)), (j3, .inl (cI, 60, .inl yb3)), (j4, .inl (cI, 60, .inl yb4)), (j5, .inl (cI, 60, .inl yb5)), (j6, .inl (cI, 40, .inl yb6)), (j7, .inl (cI, 40, .inl yb7)), (j8, .inl (cI, 40, .inl yb8)), (v5, .inr (3, [.ref po, .int ym])), (po, .inl (cI, 36, .inl yq))]) (va_runV (As := [.int 1]) (rest := []) ⟨hx, hb, hml, hown, hT⟩ (c_X10_finding l D cI x nw kp fu ra kr rd wd ld mt vo sh fd s.heap.size im ff 1 (by first | omega | (simp only [zl_1] <;> omega) | decide | assumption | rfl) (by first | omega | (simp only [zl_1] <;> omega) | decide | assumption | rfl)) (cwV 1 hT (gV_in mw_338 mw_335 mw_337 mw_p1_0 mw_1) rfl rfl rfl (by decide +kernel) ⟨Nat.le_of_ble_eq_true rfl, Nat.le_of_ble_eq_true rfl⟩) (kRecv (own := "") (q0 := 0) (ci := 10) hK hP hD hN rfl rfl [0, 35] rfl (by decide)) rfl rfl hl.1 rfl (lv_room (Nat.le_of_ble_eq_true rfl)) dX10_ahead_38 ⟨Nat.le_of_ble_eq_true rfl, Nat.le_of_ble_eq_true rfl⟩) hP hD hS hA [0, 35] [1, 2, 3, 4, 5, 6, 7, 8, 9, 10, 11, 12, 13, 14, 15, 16, 17, 18, 19, 20, 21, 22, 23, 24, 25, 26, 27, 28, 29, 30, 31, 32, 33, 34] rfl rfl (by decide) (by decide) (fun r_12 u_14 H locs w_13 hP hD hS => ?_)
        have hP : va_P D vwCl [(nw, .inr (9, [.ref w0, .ref w1, .ref w2, .ref w3, .ref w4, .ref w5, .int 0, .int 40, .int 0])), (w0, .inl (cI, 12, .inl (fun _ => (2 : Int32)))), (w1, .inl (cI, 40, .inl (fun _ => (0 : Int32)))), (w2, .inl (cI, 40, .inl (fun _ => (0 : Int32)))), (w3, .inl (cI, 20, .inl (fun _ => (0 : Int32)))), (w4, .inr (8, [.ref k0, .ref k1, .ref k2, .ref k3, .ref k4, .ref k5, .ref k6, .ref k7, .ref k8, .int 0])), (k0, .inl (cI, 60, .inl (fun _ => (0 : Int32)))), (k1, .inl (cI, 60, .inl (fun _ => (0 : Int32)))), (k2, .inl (cI, 60, .inl (fun _ => (0 : Int32)))), (k3, .inl (cI, 60, .inl (fun _ => (0 : Int32)))), (k4, .inl (cI, 60, .inl (fun _ => (0 : Int32)))), (k5, .inl (cI, 60, .inl (fun _ => (0 : Int32)))), (k6, .inl (cI, 40, .inl (fun _ => (0 : Int32)))), (k7, .inl (cI, 40, .inl (fun _ => (0 : Int32)))), (k8, .inl (cI, 40, .inl (fun _ => (0 : Int32)))), (w5, .inr (3, [.ref pf, .int 0])), (pf, .inl (cI, 36, .inl (fun _ => (0 : Int32)))), (fu, .inr (9, [.ref v0, .ref v1, .ref v2, .ref v3, .ref v4, .ref v5, .int ywt, .int yre, .int ydy])), (v0, .inl (cI, 12, .inl ya0)), (v1, .inl (cI, 40, .inl ya1)), (v2, .inl (cI, 40, .inl ya2)), (v3, .inl (cI, 20, .inl ya3)), (v4, .inr (8, [.ref j0, .ref j1, .ref j2, .ref j3, .ref j4, .ref j5, .ref j6, .ref j7, .ref j8, .int yn])), (j0, .inl (cI, 60, .inl yb0)), (j1, .inl (cI, 60, .inl yb1)), (j2, .inl (cI, 60, .inl yb2)), (j3, .inl (cI, 60, .inl yb3)), (j4, .inl (cI, 60, .inl yb4)), (j5, .inl (cI, 60, .inl yb5)), (j6, .inl (cI, 40, .inl yb6)), (j7, .inl (cI, 40, .inl yb7)), (j8, .inl (cI, 40, .inl yb8)), (v5, .inr (3, [.ref po, .int ym])), (po, .inl (cI, 36, .inl yq))] H := hP
        have hD : va_D A [(nw, .inr (9, [.ref w0, .ref w1, .ref w2, .ref w3, .ref w4, .ref w5, .int 0, .int 40, .int 0])), (w0, .inl (cI, 12, .inl (fun _ => (2 : Int32)))), (w1, .inl (cI, 40, .inl (fun _ => (0 : Int32)))), (w2, .inl (cI, 40, .inl (fun _ => (0 : Int32)))), (w3, .inl (cI, 20, .inl (fun _ => (0 : Int32)))), (w4, .inr (8, [.ref k0, .ref k1, .ref k2, .ref k3, .ref k4, .ref k5, .ref k6, .ref k7, .ref k8, .int 0])), (k0, .inl (cI, 60, .inl (fun _ => (0 : Int32)))), (k1, .inl (cI, 60, .inl (fun _ => (0 : Int32)))), (k2, .inl (cI, 60, .inl (fun _ => (0 : Int32)))), (k3, .inl (cI, 60, .inl (fun _ => (0 : Int32)))), (k4, .inl (cI, 60, .inl (fun _ => (0 : Int32)))), (k5, .inl (cI, 60, .inl (fun _ => (0 : Int32)))), (k6, .inl (cI, 40, .inl (fun _ => (0 : Int32)))), (k7, .inl (cI, 40, .inl (fun _ => (0 : Int32)))), (k8, .inl (cI, 40, .inl (fun _ => (0 : Int32)))), (w5, .inr (3, [.ref pf, .int 0])), (pf, .inl (cI, 36, .inl (fun _ => (0 : Int32)))), (fu, .inr (9, [.ref v0, .ref v1, .ref v2, .ref v3, .ref v4, .ref v5, .int ywt, .int yre, .int ydy])), (v0, .inl (cI, 12, .inl ya0)), (v1, .inl (cI, 40, .inl ya1)), (v2, .inl (cI, 40, .inl ya2)), (v3, .inl (cI, 20, .inl ya3)), (v4, .inr (8, [.ref j0, .ref j1, .ref j2, .ref j3, .ref j4, .ref j5, .ref j6, .ref j7, .ref j8, .int yn])), (j0, .inl (cI, 60, .inl yb0)), (j1, .inl (cI, 60, .inl yb1)), (j2, .inl (cI, 60, .inl yb2)), (j3, .inl (cI, 60, .inl yb3)), (j4, .inl (cI, 60, .inl yb4)), (j5, .inl (cI, 60, .inl yb5)), (j6, .inl (cI, 40, .inl yb6)), (j7, .inl (cI, 40, .inl yb7)), (j8, .inl (cI, 40, .inl yb8)), (v5, .inr (3, [.ref po, .int ym])), (po, .inl (cI, 36, .inl yq))] := hD
        have hr_12 := w_13
        obtain rfl : r_12 = (-1000001) := hr_12.trans (by decide)
        exact hRet () [] (by unfold sp_ahead; repeat (first | rw [if_pos (by omega)] | rw [if_neg (by omega)])) hP hD (by decide) rfl hS rfl dX10_ahead_41
      · refine lv_iload_n hx hb dX10_ahead_30 rfl (lv_at hl 2 rfl) ?_
        refine lv_bipush (v := 10) hx hb dX10_ahead_31 (by decide) ?_
        refine b_icmp_le hx hb rfl zl_10 (tgt := 42) dX10_ahead_33 (by decide) (fun c_15 => ?_) (fun c_15 => ?_)
        · refine lv_iload_n hx hb dX10_ahead_42 rfl (lv_at hl 2 rfl) ?_
          refine lv_bipush (v := 9) hx hb dX10_ahead_43 (by decide) ?_
          refine b_icmp_ge hx hb rfl zl_9 (tgt := 68) dX10_ahead_45 (by decide) (fun c_16 => ?_) (fun c_16 => ?_)
          · refine lv_aload_n hx hb dX10_ahead_68 rfl (lv_at hl 0 rfl) ?_
            refine va_get (D := D) (ci := 10) (v := .ref fu) (C := RX10) (T := TX10) (N := 13) hx hb hT giX10 hown hK hP 0 rfl rfl 2 (by decide) (hT (Cond.fieldLink RX10 19 "DesertWire" "future" "LDesertWire$World;") mw_293) (fun _ h9 => h9) rfl dX10_ahead_69 ?_
            refine lv_aload_n hx hb dX10_ahead_72 rfl (lv_at hl 0 rfl) ?_
            refine va_get (D := D) (ci := 10) (v := .ref nw) (C := RX10) (T := TX10) (N := 13) hx hb hT giX10 hown hK hP 0 rfl rfl 0 (by decide) (hT (Cond.fieldLink RX10 12 "DesertWire" "now" "LDesertWire$World;") mw_291) (fun _ h9 => h9) rfl dX10_ahead_73 ?_
            refine kJv (wr := [(x, .inr (10, [.ref nw, .ref kp, .ref fu, .ref ra, .ref kr, .ref rd, .ref wd, .ref ld, .ref mt, .ref vo, .ref sh, .ref fd, .int im])), (fd, .inl (cI, 6, .inl ff))]) (va_runV (As := [.ref nw]) (rest := []) ⟨hx, hb, hml, hown, hT⟩ (c_X9_copyFrom l D cI fu v0 v1 v2 v3 v4 v5 j0 j1 j2 j3 j4 j5 j6 j7 j8 po nw w0 w1 w2 w3 w4 w5 k0 k1 k2 k3 k4 k5 k6 k7 k8 pf s.heap.size ywt yre ydy ya0 ya1 ya2 ya3 yn yb0 yb1 yb2 yb3 yb4 yb5 yb6 yb7 yb8 ym yq 0 40 0 (fun _ => (2 : Int32)) (fun _ => (0 : Int32)) (fun _ => (0 : Int32)) (fun _ => (0 : Int32)) 0 (fun _ => (0 : Int32)) (fun _ => (0 : Int32)) (fun _ => (0 : Int32)) (fun _ => (0 : Int32)) (fun _ => (0 : Int32)) (fun _ => (0 : Int32)) (fun _ => (0 : Int32)) (fun _ => (0 : Int32)) (fun _ => (0 : Int32)) 0 (fun _ => (0 : Int32))) (cwV 1 hT (gV_in mw_1014 mw_1011 mw_1012 mw_1013 mw_2) rfl rfl rfl (by decide +kernel) ⟨Nat.le_of_ble_eq_true rfl, Nat.le_of_ble_eq_true rfl⟩) (kRecv (own := "") (q0 := 18) (ci := 9) hK hP hD hN rfl rfl [18, 19, 20, 21, 22, 23, 24, 25, 26, 27, 28, 29, 30, 31, 32, 33, 34, 1, 2, 3, 4, 5, 6, 7, 8, 9, 10, 11, 12, 13, 14, 15, 16, 17] rfl (by decide)) rfl rfl hl.1 rfl (lv_room (Nat.le_of_ble_eq_true rfl)) dX10_ahead_76 ⟨Nat.le_of_ble_eq_true rfl, Nat.le_of_ble_eq_true rfl⟩) hP hD hS hA [18, 19, 20, 21, 22, 23, 24, 25, 26, 27, 28, 29, 30, 31, 32, 33, 34, 1, 2, 3, 4, 5, 6, 7, 8, 9, 10, 11, 12, 13, 14, 15, 16, 17] [0, 35] rfl rfl (by decide) (by decide) (fun u_19 H locs w_18 hP hD hS => ?_)
            have hP : va_P D vwCl [(x, .inr (10, [.ref nw, .ref kp, .ref fu, .ref ra, .ref kr, .ref rd, .ref wd, .ref ld, .ref mt, .ref vo, .ref sh, .ref fd, .int im])), (fd, .inl (cI, 6, .inl ff)), (fu, .inr (9, [.ref v0, .ref v1, .ref v2, .ref v3, .ref v4, .ref v5, .int 0, .int 40, .int 0])), (v0, .inl (cI, 12, .inl (fun _ => (2 : Int32)))), (v1, .inl (cI, 40, .inl (fun _ => (0 : Int32)))), (v2, .inl (cI, 40, .inl (fun _ => (0 : Int32)))), (v3, .inl (cI, 20, .inl (fun _ => (0 : Int32)))), (v4, .inr (8, [.ref j0, .ref j1, .ref j2, .ref j3, .ref j4, .ref j5, .ref j6, .ref j7, .ref j8, .int 0])), (j0, .inl (cI, 60, .inl (fun _ => (0 : Int32)))), (j1, .inl (cI, 60, .inl (fun _ => (0 : Int32)))), (j2, .inl (cI, 60, .inl (fun _ => (0 : Int32)))), (j3, .inl (cI, 60, .inl (fun _ => (0 : Int32)))), (j4, .inl (cI, 60, .inl (fun _ => (0 : Int32)))), (j5, .inl (cI, 60, .inl (fun _ => (0 : Int32)))), (j6, .inl (cI, 40, .inl (fun _ => (0 : Int32)))), (j7, .inl (cI, 40, .inl (fun _ => (0 : Int32)))), (j8, .inl (cI, 40, .inl (fun _ => (0 : Int32)))), (v5, .inr (3, [.ref po, .int 0])), (po, .inl (cI, 36, .inl (fun _ => (0 : Int32)))), (nw, .inr (9, [.ref w0, .ref w1, .ref w2, .ref w3, .ref w4, .ref w5, .int 0, .int 40, .int 0])), (w0, .inl (cI, 12, .inl (fun _ => (2 : Int32)))), (w1, .inl (cI, 40, .inl (fun _ => (0 : Int32)))), (w2, .inl (cI, 40, .inl (fun _ => (0 : Int32)))), (w3, .inl (cI, 20, .inl (fun _ => (0 : Int32)))), (w4, .inr (8, [.ref k0, .ref k1, .ref k2, .ref k3, .ref k4, .ref k5, .ref k6, .ref k7, .ref k8, .int 0])), (k0, .inl (cI, 60, .inl (fun _ => (0 : Int32)))), (k1, .inl (cI, 60, .inl (fun _ => (0 : Int32)))), (k2, .inl (cI, 60, .inl (fun _ => (0 : Int32)))), (k3, .inl (cI, 60, .inl (fun _ => (0 : Int32)))), (k4, .inl (cI, 60, .inl (fun _ => (0 : Int32)))), (k5, .inl (cI, 60, .inl (fun _ => (0 : Int32)))), (k6, .inl (cI, 40, .inl (fun _ => (0 : Int32)))), (k7, .inl (cI, 40, .inl (fun _ => (0 : Int32)))), (k8, .inl (cI, 40, .inl (fun _ => (0 : Int32)))), (w5, .inr (3, [.ref pf, .int 0])), (pf, .inl (cI, 36, .inl (fun _ => (0 : Int32))))] H := hP
            have hD : va_D A [(x, .inr (10, [.ref nw, .ref kp, .ref fu, .ref ra, .ref kr, .ref rd, .ref wd, .ref ld, .ref mt, .ref vo, .ref sh, .ref fd, .int im])), (fd, .inl (cI, 6, .inl ff)), (fu, .inr (9, [.ref v0, .ref v1, .ref v2, .ref v3, .ref v4, .ref v5, .int 0, .int 40, .int 0])), (v0, .inl (cI, 12, .inl (fun _ => (2 : Int32)))), (v1, .inl (cI, 40, .inl (fun _ => (0 : Int32)))), (v2, .inl (cI, 40, .inl (fun _ => (0 : Int32)))), (v3, .inl (cI, 20, .inl (fun _ => (0 : Int32)))), (v4, .inr (8, [.ref j0, .ref j1, .ref j2, .ref j3, .ref j4, .ref j5, .ref j6, .ref j7, .ref j8, .int 0])), (j0, .inl (cI, 60, .inl (fun _ => (0 : Int32)))), (j1, .inl (cI, 60, .inl (fun _ => (0 : Int32)))), (j2, .inl (cI, 60, .inl (fun _ => (0 : Int32)))), (j3, .inl (cI, 60, .inl (fun _ => (0 : Int32)))), (j4, .inl (cI, 60, .inl (fun _ => (0 : Int32)))), (j5, .inl (cI, 60, .inl (fun _ => (0 : Int32)))), (j6, .inl (cI, 40, .inl (fun _ => (0 : Int32)))), (j7, .inl (cI, 40, .inl (fun _ => (0 : Int32)))), (j8, .inl (cI, 40, .inl (fun _ => (0 : Int32)))), (v5, .inr (3, [.ref po, .int 0])), (po, .inl (cI, 36, .inl (fun _ => (0 : Int32)))), (nw, .inr (9, [.ref w0, .ref w1, .ref w2, .ref w3, .ref w4, .ref w5, .int 0, .int 40, .int 0])), (w0, .inl (cI, 12, .inl (fun _ => (2 : Int32)))), (w1, .inl (cI, 40, .inl (fun _ => (0 : Int32)))), (w2, .inl (cI, 40, .inl (fun _ => (0 : Int32)))), (w3, .inl (cI, 20, .inl (fun _ => (0 : Int32)))), (w4, .inr (8, [.ref k0, .ref k1, .ref k2, .ref k3, .ref k4, .ref k5, .ref k6, .ref k7, .ref k8, .int 0])), (k0, .inl (cI, 60, .inl (fun _ => (0 : Int32)))), (k1, .inl (cI, 60, .inl (fun _ => (0 : Int32)))), (k2, .inl (cI, 60, .inl (fun _ => (0 : Int32)))), (k3, .inl (cI, 60, .inl (fun _ => (0 : Int32)))), (k4, .inl (cI, 60, .inl (fun _ => (0 : Int32)))), (k5, .inl (cI, 60, .inl (fun _ => (0 : Int32)))), (k6, .inl (cI, 40, .inl (fun _ => (0 : Int32)))), (k7, .inl (cI, 40, .inl (fun _ => (0 : Int32)))), (k8, .inl (cI, 40, .inl (fun _ => (0 : Int32)))), (w5, .inr (3, [.ref pf, .int 0])), (pf, .inl (cI, 36, .inl (fun _ => (0 : Int32))))] := hD
            refine lv_iconst (v := 0) hx hb dX10_ahead_79 (by decide) ?_
            refine lv_istore (lv' := [(4, .int 0), (0, .ref x), (1, .int a), (2, .int b), (3, .int d)]) hx hb dX10_ahead_80 hl (by decide) rfl (fun ls hl => ?_)
            have hloop_82 : ∀ (fu_ : Nat) (i : Int32) (dq : Int32), 0 ≤ i.toInt → i.toInt ≤ a.toInt → dq.toInt = i.toInt → (200 - i.toInt).toNat < fu_ → ∀ (ls : Array Slot) (H : Heap) (locs : List Loc), lv_has ls 5 [(4, .int i), (0, .ref x), (1, .int a), (2, .int b), (3, .int d)] → va_P D vwCl [(x, .inr (10, [.ref nw, .ref kp, .ref fu, .ref ra, .ref kr, .ref rd, .ref wd, .ref ld, .ref mt, .ref vo, .ref sh, .ref fd, .int im])), (fd, .inl (cI, 6, .inl ff)), (fu, .inr (9, [.ref v0, .ref v1, .ref v2, .ref v3, .ref v4, .ref v5, .int 0, .int 40, .int dq])), (v0, .inl (cI, 12, .inl (fun _ => (2 : Int32)))), (v1, .inl (cI, 40, .inl (fun _ => (0 : Int32)))), (v2, .inl (cI, 40, .inl (fun _ => (0 : Int32)))), (v3, .inl (cI, 20, .inl (fun _ => (0 : Int32)))), (v4, .inr (8, [.ref j0, .ref j1, .ref j2, .ref j3, .ref j4, .ref j5, .ref j6, .ref j7, .ref j8, .int 0])), (j0, .inl (cI, 60, .inl (fun _ => (0 : Int32)))), (j1, .inl (cI, 60, .inl (fun _ => (0 : Int32)))), (j2, .inl (cI, 60, .inl (fun _ => (0 : Int32)))), (j3, .inl (cI, 60, .inl (fun _ => (0 : Int32)))), (j4, .inl (cI, 60, .inl (fun _ => (0 : Int32)))), (j5, .inl (cI, 60, .inl (fun _ => (0 : Int32)))), (j6, .inl (cI, 40, .inl (fun _ => (0 : Int32)))), (j7, .inl (cI, 40, .inl (fun _ => (0 : Int32)))), (j8, .inl (cI, 40, .inl (fun _ => (0 : Int32)))), (v5, .inr (3, [.ref po, .int 0])), (po, .inl (cI, 36, .inl (fun _ => (0 : Int32)))), (nw, .inr (9, [.ref w0, .ref w1, .ref w2, .ref w3, .ref w4, .ref w5, .int 0, .int 40, .int 0])), (w0, .inl (cI, 12, .inl (fun _ => (2 : Int32)))), (w1, .inl (cI, 40, .inl (fun _ => (0 : Int32)))), (w2, .inl (cI, 40, .inl (fun _ => (0 : Int32)))), (w3, .inl (cI, 20, .inl (fun _ => (0 : Int32)))), (w4, .inr (8, [.ref k0, .ref k1, .ref k2, .ref k3, .ref k4, .ref k5, .ref k6, .ref k7, .ref k8, .int 0])), (k0, .inl (cI, 60, .inl (fun _ => (0 : Int32)))), (k1, .inl (cI, 60, .inl (fun _ => (0 : Int32)))), (k2, .inl (cI, 60, .inl (fun _ => (0 : Int32)))), (k3, .inl (cI, 60, .inl (fun _ => (0 : Int32)))), (k4, .inl (cI, 60, .inl (fun _ => (0 : Int32)))), (k5, .inl (cI, 60, .inl (fun _ => (0 : Int32)))), (k6, .inl (cI, 40, .inl (fun _ => (0 : Int32)))), (k7, .inl (cI, 40, .inl (fun _ => (0 : Int32)))), (k8, .inl (cI, 40, .inl (fun _ => (0 : Int32)))), (w5, .inr (3, [.ref pf, .int 0])), (pf, .inl (cI, 36, .inl (fun _ => (0 : Int32))))] H → va_D A [(x, .inr (10, [.ref nw, .ref kp, .ref fu, .ref ra, .ref kr, .ref rd, .ref wd, .ref ld, .ref mt, .ref vo, .ref sh, .ref fd, .int im])), (fd, .inl (cI, 6, .inl ff)), (fu, .inr (9, [.ref v0, .ref v1, .ref v2, .ref v3, .ref v4, .ref v5, .int 0, .int 40, .int dq])), (v0, .inl (cI, 12, .inl (fun _ => (2 : Int32)))), (v1, .inl (cI, 40, .inl (fun _ => (0 : Int32)))), (v2, .inl (cI, 40, .inl (fun _ => (0 : Int32)))), (v3, .inl (cI, 20, .inl (fun _ => (0 : Int32)))), (v4, .inr (8, [.ref j0, .ref j1, .ref j2, .ref j3, .ref j4, .ref j5, .ref j6, .ref j7, .ref j8, .int 0])), (j0, .inl (cI, 60, .inl (fun _ => (0 : Int32)))), (j1, .inl (cI, 60, .inl (fun _ => (0 : Int32)))), (j2, .inl (cI, 60, .inl (fun _ => (0 : Int32)))), (j3, .inl (cI, 60, .inl (fun _ => (0 : Int32)))), (j4, .inl (cI, 60, .inl (fun _ => (0 : Int32)))), (j5, .inl (cI, 60, .inl (fun _ => (0 : Int32)))), (j6, .inl (cI, 40, .inl (fun _ => (0 : Int32)))), (j7, .inl (cI, 40, .inl (fun _ => (0 : Int32)))), (j8, .inl (cI, 40, .inl (fun _ => (0 : Int32)))), (v5, .inr (3, [.ref po, .int 0])), (po, .inl (cI, 36, .inl (fun _ => (0 : Int32)))), (nw, .inr (9, [.ref w0, .ref w1, .ref w2, .ref w3, .ref w4, .ref w5, .int 0, .int 40, .int 0])), (w0, .inl (cI, 12, .inl (fun _ => (2 : Int32)))), (w1, .inl (cI, 40, .inl (fun _ => (0 : Int32)))), (w2, .inl (cI, 40, .inl (fun _ => (0 : Int32)))), (w3, .inl (cI, 20, .inl (fun _ => (0 : Int32)))), (w4, .inr (8, [.ref k0, .ref k1, .ref k2, .ref k3, .ref k4, .ref k5, .ref k6, .ref k7, .ref k8, .int 0])), (k0, .inl (cI, 60, .inl (fun _ => (0 : Int32)))), (k1, .inl (cI, 60, .inl (fun _ => (0 : Int32)))), (k2, .inl (cI, 60, .inl (fun _ => (0 : Int32)))), (k3, .inl (cI, 60, .inl (fun _ => (0 : Int32)))), (k4, .inl (cI, 60, .inl (fun _ => (0 : Int32)))), (k5, .inl (cI, 60, .inl (fun _ => (0 : Int32)))), (k6, .inl (cI, 40, .inl (fun _ => (0 : Int32)))), (k7, .inl (cI, 40, .inl (fun _ => (0 : Int32)))), (k8, .inl (cI, 40, .inl (fun _ => (0 : Int32)))), (w5, .inr (3, [.ref pf, .int 0])), (pf, .inl (cI, 36, .inl (fun _ => (0 : Int32))))] → va_S A s.heap H locs → W p l e ({ frames := 3, cells := 0, slots := 0, locals := 106 } : Room) s m args below meth c H locs 0 0 Q (F0 m 82 ls []) := by
              intro fu_; induction fu_ with
              | zero => intro i dq i82_0 i82_1 i82_2 hm; exact absurd hm (by omega)
              | succ fu_ ih82 =>
                  intro i dq i82_0 i82_1 i82_2 hm ls H locs hl hP hD hS
                  have lo_i := k_lo i
                  have hi_i := k_hi i
                  have lo_dq := k_lo dq
                  have hi_dq := k_hi dq
                  refine lv_iload hx hb dX10_ahead_82 (lv_at hl 0 rfl) ?_
                  refine lv_iload_n hx hb dX10_ahead_84 rfl (lv_at hl 2 rfl) ?_
                  refine b_icmp_ge hx hb rfl rfl (tgt := 101) dX10_ahead_85 (by decide) (fun c_20 => ?_) (fun c_20 => ?_)
                  · refine lv_iload_n hx hb dX10_ahead_101 rfl (lv_at hl 3 rfl) ?_
                    refine lv_bipush (v := 9) hx hb dX10_ahead_102 (by decide) ?_
                    refine b_icmp_ne hx hb rfl zl_9 (tgt := 118) dX10_ahead_104 (by decide) (fun c_21 => ?_) (fun c_21 => ?_)
                    · refine lv_iload_n hx hb dX10_ahead_118 rfl (lv_at hl 3 rfl) ?_
                      refine lv_bipush (v := 9) hx hb dX10_ahead_119 (by decide) ?_
                      refine b_icmp_ge hx hb rfl zl_9 (tgt := 139) dX10_ahead_121 (by decide) (fun c_22 => ?_) (fun c_22 => by exfalso; omega)
                      refine lv_aload_n hx hb dX10_ahead_139 rfl (lv_at hl 1 rfl) ?_
                      refine va_get (D := D) (ci := 10) (v := .ref fu) (C := RX10) (T := TX10) (N := 13) hx hb hT giX10 hown hK hP 0 rfl rfl 2 (by decide) (hT (Cond.fieldLink RX10 19 "DesertWire" "future" "LDesertWire$World;") mw_293) (fun _ h9 => h9) rfl dX10_ahead_140 ?_
                      refine va_get (D := D) (ci := 9) (v := .ref v4) (C := RX9) (T := TX9) (N := 9) hx hb hT giX9 hown hK hP 2 rfl rfl 4 (by decide) (hT (Cond.fieldLink RX10 99 "DesertWire$World" "works" "LDesertWire$Works;") mw_99) (fun _ h9 => h9) rfl dX10_ahead_143 ?_
                      refine va_get (D := D) (ci := 8) (v := .int 0) (C := RX8) (T := TX8) (N := 10) hx hb hT giX8 hown hK hP 7 rfl rfl 9 (by decide) (hT (Cond.fieldLink RX10 343 "DesertWire$Works" "number" "I") mw_51) (fun _ h9 => h9) rfl dX10_ahead_146 ?_
                      exact hRet () [] (by unfold sp_ahead; repeat (first | rw [if_pos (by omega)] | rw [if_neg (by omega)])) hP hD (by decide) rfl hS rfl dX10_ahead_149
                    · refine lv_aload_n hx hb dX10_ahead_107 rfl (lv_at hl 1 rfl) ?_
                      refine va_get (D := D) (ci := 10) (v := .ref fu) (C := RX10) (T := TX10) (N := 13) hx hb hT giX10 hown hK hP 0 rfl rfl 2 (by decide) (hT (Cond.fieldLink RX10 19 "DesertWire" "future" "LDesertWire$World;") mw_293) (fun _ h9 => h9) rfl dX10_ahead_108 ?_
                      refine va_get (D := D) (ci := 9) (v := .ref v4) (C := RX9) (T := TX9) (N := 9) hx hb hT giX9 hown hK hP 2 rfl rfl 4 (by decide) (hT (Cond.fieldLink RX10 99 "DesertWire$World" "works" "LDesertWire$Works;") mw_99) (fun _ h9 => h9) rfl dX10_ahead_111 ?_
                      refine kJi (wr := [(x, .inr (10, [.ref nw, .ref kp, .ref fu, .ref ra, .ref kr, .ref rd, .ref wd, .ref ld, .ref mt, .ref vo, .ref sh, .ref fd, .int im])), (fd, .inl (cI, 6, .inl ff)), (fu, .inr (9, [.ref v0, .ref v1, .ref v2, .ref v3, .ref v4, .ref v5, .int 0, .int 40, .int dq])), (v0, .inl (cI, 12, .inl (fun _ => (2 : Int32)))), (v1, .inl (cI, 40, .inl (fun _ => (0 : Int32)))), (v2, .inl (cI, 40, .inl (fun _ => (0 : Int32)))), (v3, .inl (cI, 20, .inl (fun _ => (0 : Int32)))), (j0, .inl (cI, 60, .inl (fun _ => (0 : Int32)))), (j1, .inl (cI, 60, .inl (fun _ => (0 : Int32)))), (j2, .inl (cI, 60, .inl (fun _ => (0 : Int32)))), (j3, .inl (cI, 60, .inl (fun _ => (0 : Int32)))), (j4, .inl (cI, 60, .inl (fun _ => (0 : Int32)))), (j5, .inl (cI, 60, .inl (fun _ => (0 : Int32)))), (j7, .inl (cI, 40, .inl (fun _ => (0 : Int32)))), (j8, .inl (cI, 40, .inl (fun _ => (0 : Int32)))), (v5, .inr (3, [.ref po, .int 0])), (po, .inl (cI, 36, .inl (fun _ => (0 : Int32)))), (nw, .inr (9, [.ref w0, .ref w1, .ref w2, .ref w3, .ref w4, .ref w5, .int 0, .int 40, .int 0])), (w0, .inl (cI, 12, .inl (fun _ => (2 : Int32)))), (w1, .inl (cI, 40, .inl (fun _ => (0 : Int32)))), (w2, .inl (cI, 40, .inl (fun _ => (0 : Int32)))), (w3, .inl (cI, 20, .inl (fun _ => (0 : Int32)))), (w4, .inr (8, [.ref k0, .ref k1, .ref k2, .ref k3, .ref k4, .ref k5, .ref k6, .ref k7, .ref k8, .int 0])), (k0, .inl (cI, 60, .inl (fun _ => (0 : Int32)))), (k1, .inl (cI, 60, .inl (fun _ => (0 : Int32)))), (k2, .inl (cI, 60, .inl (fun _ => (0 : Int32)))), (k3, .inl (cI, 60, .inl (fun _ => (0 : Int32)))), (k4, .inl (cI, 60, .inl (fun _ => (0 : Int32)))), (k5, .inl (cI, 60, .inl (fun _ => (0 : Int32)))), (k6, .inl (cI, 40, .inl (fun _ => (0 : Int32)))), (k7, .inl (cI, 40, .inl (fun _ => (0 : Int32)))), (k8, .inl (cI, 40, .inl (fun _ => (0 : Int32)))), (w5, .inr (3, [.ref pf, .int 0])), (pf, .inl (cI, 36, .inl (fun _ => (0 : Int32))))]) (va_runV (As := []) (rest := []) ⟨hx, hb, hml, hown, hT⟩ (c_X8_wiredMiles l D cI v4 j0 j1 j2 j3 j4 j5 j6 j7 j8 H.size 0) (cwV 0 hT (gV_in mw_1029 mw_1026 mw_1027 mw_1028 mw_3) rfl rfl rfl (by decide +kernel) ⟨Nat.le_of_ble_eq_true rfl, Nat.le_of_ble_eq_true rfl⟩) (kRecv (own := "") (q0 := 7) (ci := 8) hK hP hD hN rfl rfl [7, 14] rfl (by decide)) rfl rfl hl.1 rfl (lv_room (Nat.le_of_ble_eq_true rfl)) dX10_ahead_114 ⟨Nat.le_of_ble_eq_true rfl, Nat.le_of_ble_eq_true rfl⟩) hP hD hS hA [7, 14] [0, 1, 2, 3, 4, 5, 6, 8, 9, 10, 11, 12, 13, 15, 16, 17, 18, 19, 20, 21, 22, 23, 24, 25, 26, 27, 28, 29, 30, 31, 32, 33, 34, 35] rfl rfl (by decide) (by decide) (fun r_23 u_25 H locs w_24 hP hD hS => ?_)
                      have hP : va_P D vwCl [(x, .inr (10, [.ref nw, .ref kp, .ref fu, .ref ra, .ref kr, .ref rd, .ref wd, .ref ld, .ref mt, .ref vo, .ref sh, .ref fd, .int im])), (fd, .inl (cI, 6, .inl ff)), (fu, .inr (9, [.ref v0, .ref v1, .ref v2, .ref v3, .ref v4, .ref v5, .int 0, .int 40, .int dq])), (v0, .inl (cI, 12, .inl (fun _ => (2 : Int32)))), (v1, .inl (cI, 40, .inl (fun _ => (0 : Int32)))), (v2, .inl (cI, 40, .inl (fun _ => (0 : Int32)))), (v3, .inl (cI, 20, .inl (fun _ => (0 : Int32)))), (j0, .inl (cI, 60, .inl (fun _ => (0 : Int32)))), (j1, .inl (cI, 60, .inl (fun _ => (0 : Int32)))), (j2, .inl (cI, 60, .inl (fun _ => (0 : Int32)))), (j3, .inl (cI, 60, .inl (fun _ => (0 : Int32)))), (j4, .inl (cI, 60, .inl (fun _ => (0 : Int32)))), (j5, .inl (cI, 60, .inl (fun _ => (0 : Int32)))), (j7, .inl (cI, 40, .inl (fun _ => (0 : Int32)))), (j8, .inl (cI, 40, .inl (fun _ => (0 : Int32)))), (v5, .inr (3, [.ref po, .int 0])), (po, .inl (cI, 36, .inl (fun _ => (0 : Int32)))), (nw, .inr (9, [.ref w0, .ref w1, .ref w2, .ref w3, .ref w4, .ref w5, .int 0, .int 40, .int 0])), (w0, .inl (cI, 12, .inl (fun _ => (2 : Int32)))), (w1, .inl (cI, 40, .inl (fun _ => (0 : Int32)))), (w2, .inl (cI, 40, .inl (fun _ => (0 : Int32)))), (w3, .inl (cI, 20, .inl (fun _ => (0 : Int32)))), (w4, .inr (8, [.ref k0, .ref k1, .ref k2, .ref k3, .ref k4, .ref k5, .ref k6, .ref k7, .ref k8, .int 0])), (k0, .inl (cI, 60, .inl (fun _ => (0 : Int32)))), (k1, .inl (cI, 60, .inl (fun _ => (0 : Int32)))), (k2, .inl (cI, 60, .inl (fun _ => (0 : Int32)))), (k3, .inl (cI, 60, .inl (fun _ => (0 : Int32)))), (k4, .inl (cI, 60, .inl (fun _ => (0 : Int32)))), (k5, .inl (cI, 60, .inl (fun _ => (0 : Int32)))), (k6, .inl (cI, 40, .inl (fun _ => (0 : Int32)))), (k7, .inl (cI, 40, .inl (fun _ => (0 : Int32)))), (k8, .inl (cI, 40, .inl (fun _ => (0 : Int32)))), (w5, .inr (3, [.ref pf, .int 0])), (pf, .inl (cI, 36, .inl (fun _ => (0 : Int32)))), (v4, .inr (8, [.ref j0, .ref j1, .ref j2, .ref j3, .ref j4, .ref j5, .ref j6, .ref j7, .ref j8, .int 0])), (j6, .inl (cI, 40, .inl (fun _ => (0 : Int32))))] H := hP
                      have hD : va_D A [(x, .inr (10, [.ref nw, .ref kp, .ref fu, .ref ra, .ref kr, .ref rd, .ref wd, .ref ld, .ref mt, .ref vo, .ref sh, .ref fd, .int im])), (fd, .inl (cI, 6, .inl ff)), (fu, .inr (9, [.ref v0, .ref v1, .ref v2, .ref v3, .ref v4, .ref v5, .int 0, .int 40, .int dq])), (v0, .inl (cI, 12, .inl (fun _ => (2 : Int32)))), (v1, .inl (cI, 40, .inl (fun _ => (0 : Int32)))), (v2, .inl (cI, 40, .inl (fun _ => (0 : Int32)))), (v3, .inl (cI, 20, .inl (fun _ => (0 : Int32)))), (j0, .inl (cI, 60, .inl (fun _ => (0 : Int32)))), (j1, .inl (cI, 60, .inl (fun _ => (0 : Int32)))), (j2, .inl (cI, 60, .inl (fun _ => (0 : Int32)))), (j3, .inl (cI, 60, .inl (fun _ => (0 : Int32)))), (j4, .inl (cI, 60, .inl (fun _ => (0 : Int32)))), (j5, .inl (cI, 60, .inl (fun _ => (0 : Int32)))), (j7, .inl (cI, 40, .inl (fun _ => (0 : Int32)))), (j8, .inl (cI, 40, .inl (fun _ => (0 : Int32)))), (v5, .inr (3, [.ref po, .int 0])), (po, .inl (cI, 36, .inl (fun _ => (0 : Int32)))), (nw, .inr (9, [.ref w0, .ref w1, .ref w2, .ref w3, .ref w4, .ref w5, .int 0, .int 40, .int 0])), (w0, .inl (cI, 12, .inl (fun _ => (2 : Int32)))), (w1, .inl (cI, 40, .inl (fun _ => (0 : Int32)))), (w2, .inl (cI, 40, .inl (fun _ => (0 : Int32)))), (w3, .inl (cI, 20, .inl (fun _ => (0 : Int32)))), (w4, .inr (8, [.ref k0, .ref k1, .ref k2, .ref k3, .ref k4, .ref k5, .ref k6, .ref k7, .ref k8, .int 0])), (k0, .inl (cI, 60, .inl (fun _ => (0 : Int32)))), (k1, .inl (cI, 60, .inl (fun _ => (0 : Int32)))), (k2, .inl (cI, 60, .inl (fun _ => (0 : Int32)))), (k3, .inl (cI, 60, .inl (fun _ => (0 : Int32)))), (k4, .inl (cI, 60, .inl (fun _ => (0 : Int32)))), (k5, .inl (cI, 60, .inl (fun _ => (0 : Int32)))), (k6, .inl (cI, 40, .inl (fun _ => (0 : Int32)))), (k7, .inl (cI, 40, .inl (fun _ => (0 : Int32)))), (k8, .inl (cI, 40, .inl (fun _ => (0 : Int32)))), (w5, .inr (3, [.ref pf, .int 0])), (pf, .inl (cI, 36, .inl (fun _ => (0 : Int32)))), (v4, .inr (8, [.ref j0, .ref j1, .ref j2, .ref j3, .ref j4, .ref j5, .ref j6, .ref j7, .ref j8, .int 0])), (j6, .inl (cI, 40, .inl (fun _ => (0 : Int32))))] := hD
                      have hr_23 := w_24
                      obtain rfl : r_23 = 0 := hr_23.trans (by decide)
                      exact hRet () [] (by unfold sp_ahead; repeat (first | rw [if_pos (by omega)] | rw [if_neg (by omega)])) hP hD (by decide) rfl hS rfl dX10_ahead_117
                  · refine lv_aload_n hx hb dX10_ahead_88 rfl (lv_at hl 1 rfl) ?_
                    refine va_get (D := D) (ci := 10) (v := .ref fu) (C := RX10) (T := TX10) (N := 13) hx hb hT giX10 hown hK hP 0 rfl rfl 2 (by decide) (hT (Cond.fieldLink RX10 19 "DesertWire" "future" "LDesertWire$World;") mw_293) (fun _ h9 => h9) rfl dX10_ahead_89 ?_
                    refine kJv (wr := [(x, .inr (10, [.ref nw, .ref kp, .ref fu, .ref ra, .ref kr, .ref rd, .ref wd, .ref ld, .ref mt, .ref vo, .ref sh, .ref fd, .int im])), (fd, .inl (cI, 6, .inl ff)), (v0, .inl (cI, 12, .inl (fun _ => (2 : Int32)))), (v1, .inl (cI, 40, .inl (fun _ => (0 : Int32)))), (v2, .inl (cI, 40, .inl (fun _ => (0 : Int32)))), (v3, .inl (cI, 20, .inl (fun _ => (0 : Int32)))), (j0, .inl (cI, 60, .inl (fun _ => (0 : Int32)))), (j1, .inl (cI, 60, .inl (fun _ => (0 : Int32)))), (j2, .inl (cI, 60, .inl (fun _ => (0 : Int32)))), (j3, .inl (cI, 60, .inl (fun _ => (0 : Int32)))), (j4, .inl (cI, 60, .inl (fun _ => (0 : Int32)))), (j5, .inl (cI, 60, .inl (fun _ => (0 : Int32)))), (j6, .inl (cI, 40, .inl (fun _ => (0 : Int32)))), (j7, .inl (cI, 40, .inl (fun _ => (0 : Int32)))), (j8, .inl (cI, 40, .inl (fun _ => (0 : Int32)))), (po, .inl (cI, 36, .inl (fun _ => (0 : Int32)))), (nw, .inr (9, [.ref w0, .ref w1, .ref w2, .ref w3, .ref w4, .ref w5, .int 0, .int 40, .int 0])), (w0, .inl (cI, 12, .inl (fun _ => (2 : Int32)))), (w1, .inl (cI, 40, .inl (fun _ => (0 : Int32)))), (w2, .inl (cI, 40, .inl (fun _ => (0 : Int32)))), (w3, .inl (cI, 20, .inl (fun _ => (0 : Int32)))), (w4, .inr (8, [.ref k0, .ref k1, .ref k2, .ref k3, .ref k4, .ref k5, .ref k6, .ref k7, .ref k8, .int 0])), (k0, .inl (cI, 60, .inl (fun _ => (0 : Int32)))), (k1, .inl (cI, 60, .inl (fun _ => (0 : Int32)))), (k2, .inl (cI, 60, .inl (fun _ => (0 : Int32)))), (k3, .inl (cI, 60, .inl (fun _ => (0 : Int32)))), (k4, .inl (cI, 60, .inl (fun _ => (0 : Int32)))), (k5, .inl (cI, 60, .inl (fun _ => (0 : Int32)))), (k6, .inl (cI, 40, .inl (fun _ => (0 : Int32)))), (k7, .inl (cI, 40, .inl (fun _ => (0 : Int32)))), (k8, .inl (cI, 40, .inl (fun _ => (0 : Int32)))), (w5, .inr (3, [.ref pf, .int 0])), (pf, .inl (cI, 36, .inl (fun _ => (0 : Int32))))]) (va_runV (As := []) (rest := []) ⟨hx, hb, hml, hown, hT⟩ (c_X9_endDay l D cI fu v0 v1 v2 v3 v4 v5 j0 j1 j2 j3 j4 j5 j6 j7 j8 po H.size 0 40 dq (by first | omega | (simp only [zl_0, zl_40] <;> omega) | decide | assumption | rfl) (by first | omega | (simp only [zl_0, zl_40] <;> omega) | decide | assumption | rfl)) (cwV 0 hT (gV_in mw_967 mw_964 mw_965 mw_966 mw_2) rfl rfl rfl (by decide +kernel) ⟨Nat.le_of_ble_eq_true rfl, Nat.le_of_ble_eq_true rfl⟩) (kRecv (own := "") (q0 := 2) (ci := 9) hK hP hD hN rfl rfl [2, 7, 17] rfl (by decide)) rfl rfl hl.1 rfl (lv_room (Nat.le_of_ble_eq_true rfl)) dX10_ahead_92 ⟨Nat.le_of_ble_eq_true rfl, Nat.le_of_ble_eq_true rfl⟩) hP hD hS hA [2, 7, 17] [0, 1, 3, 4, 5, 6, 8, 9, 10, 11, 12, 13, 14, 15, 16, 18, 19, 20, 21, 22, 23, 24, 25, 26, 27, 28, 29, 30, 31, 32, 33, 34, 35] rfl rfl (by decide) (by decide) (fun d2_28 H locs w_27 hP hD hS => ?_)
                    have hP : va_P D vwCl [(x, .inr (10, [.ref nw, .ref kp, .ref fu, .ref ra, .ref kr, .ref rd, .ref wd, .ref ld, .ref mt, .ref vo, .ref sh, .ref fd, .int im])), (fd, .inl (cI, 6, .inl ff)), (v0, .inl (cI, 12, .inl (fun _ => (2 : Int32)))), (v1, .inl (cI, 40, .inl (fun _ => (0 : Int32)))), (v2, .inl (cI, 40, .inl (fun _ => (0 : Int32)))), (v3, .inl (cI, 20, .inl (fun _ => (0 : Int32)))), (j0, .inl (cI, 60, .inl (fun _ => (0 : Int32)))), (j1, .inl (cI, 60, .inl (fun _ => (0 : Int32)))), (j2, .inl (cI, 60, .inl (fun _ => (0 : Int32)))), (j3, .inl (cI, 60, .inl (fun _ => (0 : Int32)))), (j4, .inl (cI, 60, .inl (fun _ => (0 : Int32)))), (j5, .inl (cI, 60, .inl (fun _ => (0 : Int32)))), (j6, .inl (cI, 40, .inl (fun _ => (0 : Int32)))), (j7, .inl (cI, 40, .inl (fun _ => (0 : Int32)))), (j8, .inl (cI, 40, .inl (fun _ => (0 : Int32)))), (po, .inl (cI, 36, .inl (fun _ => (0 : Int32)))), (nw, .inr (9, [.ref w0, .ref w1, .ref w2, .ref w3, .ref w4, .ref w5, .int 0, .int 40, .int 0])), (w0, .inl (cI, 12, .inl (fun _ => (2 : Int32)))), (w1, .inl (cI, 40, .inl (fun _ => (0 : Int32)))), (w2, .inl (cI, 40, .inl (fun _ => (0 : Int32)))), (w3, .inl (cI, 20, .inl (fun _ => (0 : Int32)))), (w4, .inr (8, [.ref k0, .ref k1, .ref k2, .ref k3, .ref k4, .ref k5, .ref k6, .ref k7, .ref k8, .int 0])), (k0, .inl (cI, 60, .inl (fun _ => (0 : Int32)))), (k1, .inl (cI, 60, .inl (fun _ => (0 : Int32)))), (k2, .inl (cI, 60, .inl (fun _ => (0 : Int32)))), (k3, .inl (cI, 60, .inl (fun _ => (0 : Int32)))), (k4, .inl (cI, 60, .inl (fun _ => (0 : Int32)))), (k5, .inl (cI, 60, .inl (fun _ => (0 : Int32)))), (k6, .inl (cI, 40, .inl (fun _ => (0 : Int32)))), (k7, .inl (cI, 40, .inl (fun _ => (0 : Int32)))), (k8, .inl (cI, 40, .inl (fun _ => (0 : Int32)))), (w5, .inr (3, [.ref pf, .int 0])), (pf, .inl (cI, 36, .inl (fun _ => (0 : Int32)))), (fu, .inr (9, [.ref v0, .ref v1, .ref v2, .ref v3, .ref v4, .ref v5, .int 0, .int 40, .int d2_28])), (v4, .inr (8, [.ref j0, .ref j1, .ref j2, .ref j3, .ref j4, .ref j5, .ref j6, .ref j7, .ref j8, .int 0])), (v5, .inr (3, [.ref po, .int 0]))] H := hP
                    have hD : va_D A [(x, .inr (10, [.ref nw, .ref kp, .ref fu, .ref ra, .ref kr, .ref rd, .ref wd, .ref ld, .ref mt, .ref vo, .ref sh, .ref fd, .int im])), (fd, .inl (cI, 6, .inl ff)), (v0, .inl (cI, 12, .inl (fun _ => (2 : Int32)))), (v1, .inl (cI, 40, .inl (fun _ => (0 : Int32)))), (v2, .inl (cI, 40, .inl (fun _ => (0 : Int32)))), (v3, .inl (cI, 20, .inl (fun _ => (0 : Int32)))), (j0, .inl (cI, 60, .inl (fun _ => (0 : Int32)))), (j1, .inl (cI, 60, .inl (fun _ => (0 : Int32)))), (j2, .inl (cI, 60, .inl (fun _ => (0 : Int32)))), (j3, .inl (cI, 60, .inl (fun _ => (0 : Int32)))), (j4, .inl (cI, 60, .inl (fun _ => (0 : Int32)))), (j5, .inl (cI, 60, .inl (fun _ => (0 : Int32)))), (j6, .inl (cI, 40, .inl (fun _ => (0 : Int32)))), (j7, .inl (cI, 40, .inl (fun _ => (0 : Int32)))), (j8, .inl (cI, 40, .inl (fun _ => (0 : Int32)))), (po, .inl (cI, 36, .inl (fun _ => (0 : Int32)))), (nw, .inr (9, [.ref w0, .ref w1, .ref w2, .ref w3, .ref w4, .ref w5, .int 0, .int 40, .int 0])), (w0, .inl (cI, 12, .inl (fun _ => (2 : Int32)))), (w1, .inl (cI, 40, .inl (fun _ => (0 : Int32)))), (w2, .inl (cI, 40, .inl (fun _ => (0 : Int32)))), (w3, .inl (cI, 20, .inl (fun _ => (0 : Int32)))), (w4, .inr (8, [.ref k0, .ref k1, .ref k2, .ref k3, .ref k4, .ref k5, .ref k6, .ref k7, .ref k8, .int 0])), (k0, .inl (cI, 60, .inl (fun _ => (0 : Int32)))), (k1, .inl (cI, 60, .inl (fun _ => (0 : Int32)))), (k2, .inl (cI, 60, .inl (fun _ => (0 : Int32)))), (k3, .inl (cI, 60, .inl (fun _ => (0 : Int32)))), (k4, .inl (cI, 60, .inl (fun _ => (0 : Int32)))), (k5, .inl (cI, 60, .inl (fun _ => (0 : Int32)))), (k6, .inl (cI, 40, .inl (fun _ => (0 : Int32)))), (k7, .inl (cI, 40, .inl (fun _ => (0 : Int32)))), (k8, .inl (cI, 40, .inl (fun _ => (0 : Int32)))), (w5, .inr (3, [.ref pf, .int 0])), (pf, .inl (cI, 36, .inl (fun _ => (0 : Int32)))), (fu, .inr (9, [.ref v0, .ref v1, .ref v2, .ref v3, .ref v4, .ref v5, .int 0, .int 40, .int d2_28])), (v4, .inr (8, [.ref j0, .ref j1, .ref j2, .ref j3, .ref j4, .ref j5, .ref j6, .ref j7, .ref j8, .int 0])), (v5, .inr (3, [.ref po, .int 0]))] := hD
                    have lo_d2_28 := k_lo d2_28
                    have hi_d2_28 := k_hi d2_28
                    have h_29 := w_27
                    try simp only [zl_0, zl_40] at h_29
                    have h_29 : d2_28.toInt = dq.toInt + 1 := h_29
                    obtain ⟨v_30, ev_30⟩ : ∃ y : Int32, y = i + 1 := ⟨_, rfl⟩
                    have tv_30 : v_30.toInt = i.toInt + 1 := by rw [ev_30]; exact k_addv rfl zl_1 (by omega) (by omega)
                    refine lv_iinc (v := v_30) (lv' := [(4, .int v_30), (0, .ref x), (1, .int a), (2, .int b), (3, .int d)]) hx hb dX10_ahead_95 hl (k := 0) rfl (by rw [ev_30]; rfl) (by decide) rfl (fun ls hl => ?_)
                    refine lv_goto (tgt := 82) hx hb dX10_ahead_98 (by decide) ?_
                    exact ih82 v_30 d2_28 (by first | omega | decide | assumption | rfl) (by first | omega | decide | assumption | rfl) (by first | omega | decide | assumption | rfl) (by omega) ls _ _ (lv_sub hl [0, 1, 2, 3, 4] rfl) (hP.sub [0, 1, 33, 2, 3, 4, 5, 34, 6, 7, 8, 9, 10, 11, 12, 13, 14, 35, 15, 16, 17, 18, 19, 20, 21, 22, 23, 24, 25, 26, 27, 28, 29, 30, 31, 32] rfl) (hD.sub [0, 1, 33, 2, 3, 4, 5, 34, 6, 7, 8, 9, 10, 11, 12, 13, 14, 35, 15, 16, 17, 18, 19, 20, 21, 22, 23, 24, 25, 26, 27, 28, 29, 30, 31, 32] (by decide) rfl) hS
            exact hloop_82 _ 0 0 (by first | omega | (simp only [zl_0] <;> omega) | decide | assumption | rfl) (by first | omega | (simp only [zl_0] <;> omega) | decide | assumption | rfl) (by first | omega | (simp only [zl_0] <;> omega) | decide | assumption | rfl) (Nat.lt_succ_self _) ls _ _ (lv_sub hl [0, 1, 2, 3, 4] rfl) hP hD hS
          · refine lv_aload_n hx hb dX10_ahead_48 rfl (lv_at hl 0 rfl) ?_
            refine va_get (D := D) (ci := 10) (v := .ref nw) (C := RX10) (T := TX10) (N := 13) hx hb hT giX10 hown hK hP 0 rfl rfl 0 (by decide) (hT (Cond.fieldLink RX10 12 "DesertWire" "now" "LDesertWire$World;") mw_291) (fun _ h9 => h9) rfl dX10_ahead_49 ?_
            refine va_get (D := D) (ci := 9) (v := .ref w5) (C := RX9) (T := TX9) (N := 9) hx hb hT giX9 hown hK hP 1 rfl rfl 5 (by decide) (hT (Cond.fieldLink RX10 193 "DesertWire$World" "parties" "LDesertWire$Parties;") mw_102) (fun _ h9 => h9) rfl dX10_ahead_52 ?_
            refine lv_iload_n hx hb dX10_ahead_55 rfl (lv_at hl 3 rfl) ?_
            refine kJi (wr := [(x, .inr (10, [.ref nw, .ref kp, .ref fu, .ref ra, .ref kr, .ref rd, .ref wd, .ref ld, .ref mt, .ref vo, .ref sh, .ref fd, .int im])), (nw, .inr (9, [.ref w0, .ref w1, .ref w2, .ref w3, .ref w4, .ref w5, .int 0, .int 40, .int 0])), (w0, .inl (cI, 12, .inl (fun _ => (2 : Int32)))), (w1, .inl (cI, 40, .inl (fun _ => (0 : Int32)))), (w2, .inl (cI, 40, .inl (fun _ => (0 : Int32)))), (w3, .inl (cI, 20, .inl (fun _ => (0 : Int32)))), (w4, .inr (8, [.ref k0, .ref k1, .ref k2, .ref k3, .ref k4, .ref k5, .ref k6, .ref k7, .ref k8, .int 0])), (k0, .inl (cI, 60, .inl (fun _ => (0 : Int32)))), (k1, .inl (cI, 60, .inl (fun _ => (0 : Int32)))), (k2, .inl (cI, 60, .inl (fun _ => (0 : Int32)))), (k3, .inl (cI, 60, .inl (fun _ => (0 : Int32)))), (k4, .inl (cI, 60, .inl (fun _ => (0 : Int32)))), (k5, .inl (cI, 60, .inl (fun _ => (0 : Int32)))), (k6, .inl (cI, 40, .inl (fun _ => (0 : Int32)))), (k7, .inl (cI, 40, .inl (fun _ => (0 : Int32)))), (k8, .inl (cI, 40, .inl (fun _ => (0 : Int32)))), (pf, .inl (cI, 36, .inl (fun _ => (0 : Int32)))), (fu, .inr (9, [.ref v0, .ref v1, .ref v2, .ref v3, .ref v4, .ref v5, .int ywt, .int yre, .int ydy])), (v0, .inl (cI, 12, .inl ya0)), (v1, .inl (cI, 40, .inl ya1)), (v2, .inl (cI, 40, .inl ya2)), (v3, .inl (cI, 20, .inl ya3)), (v4, .inr (8, [.ref j0, .ref j1, .ref j2, .ref j3, .ref j4, .ref j5, .ref j6, .ref j7, .ref j8, .int yn])), (j0, .inl (cI, 60, .inl yb0)), (j1, .inl (cI, 60, .inl yb1)), (j2, .inl (cI, 60, .inl yb2)), (j3, .inl (cI, 60, .inl yb3)), (j4, .inl (cI, 60, .inl yb4)), (j5, .inl (cI, 60, .inl yb5)), (j6, .inl (cI, 40, .inl yb6)), (j7, .inl (cI, 40, .inl yb7)), (j8, .inl (cI, 40, .inl yb8)), (v5, .inr (3, [.ref po, .int ym])), (po, .inl (cI, 36, .inl yq)), (fd, .inl (cI, 6, .inl ff))]) (va_runV (As := [.int d]) (rest := []) ⟨hx, hb, hml, hown, hT⟩ (c_X3_has l D cI w5 pf s.heap.size 0 d) (cwV 1 hT (gV_in mw_717 mw_722 mw_715 mw_716 mw_4) rfl rfl rfl (by decide +kernel) ⟨Nat.le_of_ble_eq_true rfl, Nat.le_of_ble_eq_true rfl⟩) (kRecv (own := "") (q0 := 16) (ci := 3) hK hP hD hN rfl rfl [16] rfl (by decide)) rfl rfl hl.1 rfl (lv_room (Nat.le_of_ble_eq_true rfl)) dX10_ahead_56 ⟨Nat.le_of_ble_eq_true rfl, Nat.le_of_ble_eq_true rfl⟩) hP hD hS hA [16] [0, 1, 2, 3, 4, 5, 6, 7, 8, 9, 10, 11, 12, 13, 14, 15, 17, 18, 19, 20, 21, 22, 23, 24, 25, 26, 27, 28, 29, 30, 31, 32, 33, 34, 35] rfl rfl (by decide) (by decide) (fun r_31 u_33 H locs w_32 hP hD hS => ?_)
            have hP : va_P D vwCl [(x, .inr (10, [.ref nw, .ref kp, .ref fu, .ref ra, .ref kr, .ref rd, .ref wd, .ref ld, .ref mt, .ref vo, .ref sh, .ref fd, .int im])), (nw, .inr (9, [.ref w0, .ref w1, .ref w2, .ref w3, .ref w4, .ref w5, .int 0, .int 40, .int 0])), (w0, .inl (cI, 12, .inl (fun _ => (2 : Int32)))), (w1, .inl (cI, 40, .inl (fun _ => (0 : Int32)))), (w2, .inl (cI, 40, .inl (fun _ => (0 : Int32)))), (w3, .inl (cI, 20, .inl (fun _ => (0 : Int32)))), (w4, .inr (8, [.ref k0, .ref k1, .ref k2, .ref k3, .ref k4, .ref k5, .ref k6, .ref k7, .ref k8, .int 0])), (k0, .inl (cI, 60, .inl (fun _ => (0 : Int32)))), (k1, .inl (cI, 60, .inl (fun _ => (0 : Int32)))), (k2, .inl (cI, 60, .inl (fun _ => (0 : Int32)))), (k3, .inl (cI, 60, .inl (fun _ => (0 : Int32)))), (k4, .inl (cI, 60, .inl (fun _ => (0 : Int32)))), (k5, .inl (cI, 60, .inl (fun _ => (0 : Int32)))), (k6, .inl (cI, 40, .inl (fun _ => (0 : Int32)))), (k7, .inl (cI, 40, .inl (fun _ => (0 : Int32)))), (k8, .inl (cI, 40, .inl (fun _ => (0 : Int32)))), (pf, .inl (cI, 36, .inl (fun _ => (0 : Int32)))), (fu, .inr (9, [.ref v0, .ref v1, .ref v2, .ref v3, .ref v4, .ref v5, .int ywt, .int yre, .int ydy])), (v0, .inl (cI, 12, .inl ya0)), (v1, .inl (cI, 40, .inl ya1)), (v2, .inl (cI, 40, .inl ya2)), (v3, .inl (cI, 20, .inl ya3)), (v4, .inr (8, [.ref j0, .ref j1, .ref j2, .ref j3, .ref j4, .ref j5, .ref j6, .ref j7, .ref j8, .int yn])), (j0, .inl (cI, 60, .inl yb0)), (j1, .inl (cI, 60, .inl yb1)), (j2, .inl (cI, 60, .inl yb2)), (j3, .inl (cI, 60, .inl yb3)), (j4, .inl (cI, 60, .inl yb4)), (j5, .inl (cI, 60, .inl yb5)), (j6, .inl (cI, 40, .inl yb6)), (j7, .inl (cI, 40, .inl yb7)), (j8, .inl (cI, 40, .inl yb8)), (v5, .inr (3, [.ref po, .int ym])), (po, .inl (cI, 36, .inl yq)), (fd, .inl (cI, 6, .inl ff)), (w5, .inr (3, [.ref pf, .int 0]))] H := hP
            have hD : va_D A [(x, .inr (10, [.ref nw, .ref kp, .ref fu, .ref ra, .ref kr, .ref rd, .ref wd, .ref ld, .ref mt, .ref vo, .ref sh, .ref fd, .int im])), (nw, .inr (9, [.ref w0, .ref w1, .ref w2, .ref w3, .ref w4, .ref w5, .int 0, .int 40, .int 0])), (w0, .inl (cI, 12, .inl (fun _ => (2 : Int32)))), (w1, .inl (cI, 40, .inl (fun _ => (0 : Int32)))), (w2, .inl (cI, 40, .inl (fun _ => (0 : Int32)))), (w3, .inl (cI, 20, .inl (fun _ => (0 : Int32)))), (w4, .inr (8, [.ref k0, .ref k1, .ref k2, .ref k3, .ref k4, .ref k5, .ref k6, .ref k7, .ref k8, .int 0])), (k0, .inl (cI, 60, .inl (fun _ => (0 : Int32)))), (k1, .inl (cI, 60, .inl (fun _ => (0 : Int32)))), (k2, .inl (cI, 60, .inl (fun _ => (0 : Int32)))), (k3, .inl (cI, 60, .inl (fun _ => (0 : Int32)))), (k4, .inl (cI, 60, .inl (fun _ => (0 : Int32)))), (k5, .inl (cI, 60, .inl (fun _ => (0 : Int32)))), (k6, .inl (cI, 40, .inl (fun _ => (0 : Int32)))), (k7, .inl (cI, 40, .inl (fun _ => (0 : Int32)))), (k8, .inl (cI, 40, .inl (fun _ => (0 : Int32)))), (pf, .inl (cI, 36, .inl (fun _ => (0 : Int32)))), (fu, .inr (9, [.ref v0, .ref v1, .ref v2, .ref v3, .ref v4, .ref v5, .int ywt, .int yre, .int ydy])), (v0, .inl (cI, 12, .inl ya0)), (v1, .inl (cI, 40, .inl ya1)), (v2, .inl (cI, 40, .inl ya2)), (v3, .inl (cI, 20, .inl ya3)), (v4, .inr (8, [.ref j0, .ref j1, .ref j2, .ref j3, .ref j4, .ref j5, .ref j6, .ref j7, .ref j8, .int yn])), (j0, .inl (cI, 60, .inl yb0)), (j1, .inl (cI, 60, .inl yb1)), (j2, .inl (cI, 60, .inl yb2)), (j3, .inl (cI, 60, .inl yb3)), (j4, .inl (cI, 60, .inl yb4)), (j5, .inl (cI, 60, .inl yb5)), (j6, .inl (cI, 40, .inl yb6)), (j7, .inl (cI, 40, .inl yb7)), (j8, .inl (cI, 40, .inl yb8)), (v5, .inr (3, [.ref po, .int ym])), (po, .inl (cI, 36, .inl yq)), (fd, .inl (cI, 6, .inl ff)), (w5, .inr (3, [.ref pf, .int 0]))] := hD
            rcases w_32 with ⟨hr_31, h_34, h_35, h_36⟩ | ⟨hr_31, h_37⟩
            · (try simp only [zl_0] at h_34 h_35 h_36); exfalso; omega
            · try simp only [zl_0] at h_37
              have h_37 : d.toInt < 0 ∨ 0 ≤ d.toInt ∨ 4 ≤ d.toInt := h_37
              obtain rfl : r_31 = 0 := hr_31.trans (by decide)
              refine b_if_ne hx hb zl_0 (tgt := 68) dX10_ahead_59 (by decide) (fun c_38 => by exfalso; omega) (fun c_38 => ?_)
              refine lv_aload_n hx hb dX10_ahead_62 rfl (lv_at hl 0 rfl) ?_
              refine lv_iconst (v := 1) hx hb dX10_ahead_63 (by decide) ?_
              refine kJi (wr := [(nw, .inr (9, [.ref w0, .ref w1, .ref w2, .ref w3, .ref w4, .ref w5, .int 0, .int 40, .int 0])), (w0, .inl (cI, 12, .inl (fun _ => (2 : Int32)))), (w1, .inl (cI, 40, .inl (fun _ => (0 : Int32)))), (w2, .inl (cI, 40, .inl (fun _ => (0 : Int32)))), (w3, .inl (cI, 20, .inl (fun _ => (0 : Int32)))), (w4, .inr (8, [.ref k0, .ref k1, .ref k2, .ref k3, .ref k4, .ref k5, .ref k6, .ref k7, .ref k8, .int 0])), (k0, .inl (cI, 60, .inl (fun _ => (0 : Int32)))), (k1, .inl (cI, 60, .inl (fun _ => (0 : Int32)))), (k2, .inl (cI, 60, .inl (fun _ => (0 : Int32)))), (k3, .inl (cI, 60, .inl (fun _ => (0 : Int32)))), (k4, .inl (cI, 60, .inl (fun _ => (0 : Int32)))), (k5, .inl (cI, 60, .inl (fun _ => (0 : Int32)))), (k6, .inl (cI, 40, .inl (fun _ => (0 : Int32)))), (k7, .inl (cI, 40, .inl (fun _ => (0 : Int32)))), (k8, .inl (cI, 40, .inl (fun _ => (0 : Int32)))), (pf, .inl (cI, 36, .inl (fun _ => (0 : Int32)))), (fu, .inr (9, [.ref v0, .ref v1, .ref v2, .ref v3, .ref v4, .ref v5, .int ywt, .int yre, .int ydy])), (v0, .inl (cI, 12, .inl ya0)), (v1, .inl (cI, 40, .inl ya1)), (v2, .inl (cI, 40, .inl ya2)), (v3, .inl (cI, 20, .inl ya3)), (v4, .inr (8, [.ref j0, .ref j1, .ref j2, .ref j3, .ref j4, .ref j5, .ref j6, .ref j7, .ref j8, .int yn])), (j0, .inl (cI, 60, .inl yb0)), (j1, .inl (cI, 60, .inl yb1)), (j2, .inl (cI, 60, .inl yb2)), (j3, .inl (cI, 60, .inl yb3)), (j4, .inl (cI, 60, .inl yb4)), (j5, .inl (cI, 60, .inl yb5)), (j6, .inl (cI, 40, .inl yb6)), (j7, .inl (cI, 40, .inl yb7)), (j8, .inl (cI, 40, .inl yb8)), (v5, .inr (3, [.ref po, .int ym])), (po, .inl (cI, 36, .inl yq)), (w5, .inr (3, [.ref pf, .int 0]))]) (va_runV (As := [.int 1]) (rest := []) ⟨hx, hb, hml, hown, hT⟩ (c_X10_finding l D cI x nw kp fu ra kr rd wd ld mt vo sh fd H.size im ff 1 (by first | omega | (simp only [zl_1] <;> omega) | decide | assumption | rfl) (by first | omega | (simp only [zl_1] <;> omega) | decide | assumption | rfl)) (cwV 1 hT (gV_in mw_338 mw_335 mw_337 mw_p1_0 mw_1) rfl rfl rfl (by decide +kernel) ⟨Nat.le_of_ble_eq_true rfl, Nat.le_of_ble_eq_true rfl⟩) (kRecv (own := "") (q0 := 0) (ci := 10) hK hP hD hN rfl rfl [0, 34] rfl (by decide)) rfl rfl hl.1 rfl (lv_room (Nat.le_of_ble_eq_true rfl)) dX10_ahead_64 ⟨Nat.le_of_ble_eq_true rfl, Nat.le_of_ble_eq_true rfl⟩) hP hD hS hA [0, 34] [1, 2, 3, 4, 5, 6, 7, 8, 9, 10, 11, 12, 13, 14, 15, 16, 17, 18, 19, 20, 21, 22, 23, 24, 25, 26, 27, 28, 29, 30, 31, 32, 33, 35] rfl rfl (by decide) (by decide) (fun r_39 u_41 H locs w_40 hP hD hS => ?_)
              have hP : va_P D vwCl [(nw, .inr (9, [.ref w0, .ref w1, .ref w2, .ref w3, .ref w4, .ref w5, .int 0, .int 40, .int 0])), (w0, .inl (cI, 12, .inl (fun _ => (2 : Int32)))), (w1, .inl (cI, 40, .inl (fun _ => (0 : Int32)))), (w2, .inl (cI, 40, .inl (fun _ => (0 : Int32)))), (w3, .inl (cI, 20, .inl (fun _ => (0 : Int32)))), (w4, .inr (8, [.ref k0, .ref k1, .ref k2, .ref k3, .ref k4, .ref k5, .ref k6, .ref k7, .ref k8, .int 0])), (k0, .inl (cI, 60, .inl (fun _ => (0 : Int32)))), (k1, .inl (cI, 60, .inl (fun _ => (0 : Int32)))), (k2, .inl (cI, 60, .inl (fun _ => (0 : Int32)))), (k3, .inl (cI, 60, .inl (fun _ => (0 : Int32)))), (k4, .inl (cI, 60, .inl (fun _ => (0 : Int32)))), (k5, .inl (cI, 60, .inl (fun _ => (0 : Int32)))), (k6, .inl (cI, 40, .inl (fun _ => (0 : Int32)))), (k7, .inl (cI, 40, .inl (fun _ => (0 : Int32)))), (k8, .inl (cI, 40, .inl (fun _ => (0 : Int32)))), (pf, .inl (cI, 36, .inl (fun _ => (0 : Int32)))), (fu, .inr (9, [.ref v0, .ref v1, .ref v2, .ref v3, .ref v4, .ref v5, .int ywt, .int yre, .int ydy])), (v0, .inl (cI, 12, .inl ya0)), (v1, .inl (cI, 40, .inl ya1)), (v2, .inl (cI, 40, .inl ya2)), (v3, .inl (cI, 20, .inl ya3)), (v4, .inr (8, [.ref j0, .ref j1, .ref j2, .ref j3, .ref j4, .ref j5, .ref j6, .ref j7, .ref j8, .int yn])), (j0, .inl (cI, 60, .inl yb0)), (j1, .inl (cI, 60, .inl yb1)), (j2, .inl (cI, 60, .inl yb2)), (j3, .inl (cI, 60, .inl yb3)), (j4, .inl (cI, 60, .inl yb4)), (j5, .inl (cI, 60, .inl yb5)), (j6, .inl (cI, 40, .inl yb6)), (j7, .inl (cI, 40, .inl yb7)), (j8, .inl (cI, 40, .inl yb8)), (v5, .inr (3, [.ref po, .int ym])), (po, .inl (cI, 36, .inl yq)), (w5, .inr (3, [.ref pf, .int 0]))] H := hP
              have hD : va_D A [(nw, .inr (9, [.ref w0, .ref w1, .ref w2, .ref w3, .ref w4, .ref w5, .int 0, .int 40, .int 0])), (w0, .inl (cI, 12, .inl (fun _ => (2 : Int32)))), (w1, .inl (cI, 40, .inl (fun _ => (0 : Int32)))), (w2, .inl (cI, 40, .inl (fun _ => (0 : Int32)))), (w3, .inl (cI, 20, .inl (fun _ => (0 : Int32)))), (w4, .inr (8, [.ref k0, .ref k1, .ref k2, .ref k3, .ref k4, .ref k5, .ref k6, .ref k7, .ref k8, .int 0])), (k0, .inl (cI, 60, .inl (fun _ => (0 : Int32)))), (k1, .inl (cI, 60, .inl (fun _ => (0 : Int32)))), (k2, .inl (cI, 60, .inl (fun _ => (0 : Int32)))), (k3, .inl (cI, 60, .inl (fun _ => (0 : Int32)))), (k4, .inl (cI, 60, .inl (fun _ => (0 : Int32)))), (k5, .inl (cI, 60, .inl (fun _ => (0 : Int32)))), (k6, .inl (cI, 40, .inl (fun _ => (0 : Int32)))), (k7, .inl (cI, 40, .inl (fun _ => (0 : Int32)))), (k8, .inl (cI, 40, .inl (fun _ => (0 : Int32)))), (pf, .inl (cI, 36, .inl (fun _ => (0 : Int32)))), (fu, .inr (9, [.ref v0, .ref v1, .ref v2, .ref v3, .ref v4, .ref v5, .int ywt, .int yre, .int ydy])), (v0, .inl (cI, 12, .inl ya0)), (v1, .inl (cI, 40, .inl ya1)), (v2, .inl (cI, 40, .inl ya2)), (v3, .inl (cI, 20, .inl ya3)), (v4, .inr (8, [.ref j0, .ref j1, .ref j2, .ref j3, .ref j4, .ref j5, .ref j6, .ref j7, .ref j8, .int yn])), (j0, .inl (cI, 60, .inl yb0)), (j1, .inl (cI, 60, .inl yb1)), (j2, .inl (cI, 60, .inl yb2)), (j3, .inl (cI, 60, .inl yb3)), (j4, .inl (cI, 60, .inl yb4)), (j5, .inl (cI, 60, .inl yb5)), (j6, .inl (cI, 40, .inl yb6)), (j7, .inl (cI, 40, .inl yb7)), (j8, .inl (cI, 40, .inl yb8)), (v5, .inr (3, [.ref po, .int ym])), (po, .inl (cI, 36, .inl yq)), (w5, .inr (3, [.ref pf, .int 0]))] := hD
              have hr_39 := w_40
              obtain rfl : r_39 = (-1000001) := hr_39.trans (by decide)
              exact hRet () [] (by unfold sp_ahead; repeat (first | rw [if_pos (by omega)] | rw [if_neg (by omega)])) hP hD (by decide) rfl hS rfl dX10_ahead_67
        · refine lv_aload_n hx hb dX10_ahead_36 rfl (lv_at hl 0 rfl) ?_
          refine lv_iconst (v := 1) hx hb dX10_ahead_37 (by decide) ?_
          refine kJi (wr := [(nw, .inr (9, [.ref w0, .ref w1, .ref w2, .ref w3, .ref w4, .ref w5, .int 0, .int 40, .int 0])), (w0, .inl (cI, 12, .inl (fun _ => (2 : Int32)))), (w1, .inl (cI, 40, .inl (fun _ => (0 : Int32)))), (w2, .inl (cI, 40, .inl (fun _ => (0 : Int32)))), (w3, .inl (cI, 20, .inl (fun _ => (0 : Int32)))), (w4, .inr (8, [.ref k0, .ref k1, .ref k2, .ref k3, .ref k4, .ref k5, .ref k6, .ref k7, .ref k8, .int 0])), (k0, .inl (cI, 60, .inl (fun _ => (0 : Int32)))), (k1, .inl (cI, 60, .inl (fun _ => (0 : Int32)))), (k2, .inl (cI, 60, .inl (fun _ => (0 : Int32)))), (k3, .inl (cI, 60, .inl (fun _ => (0 : Int32)))), (k4, .inl (cI, 60, .inl (fun _ => (0 : Int32)))), (k5, .inl (cI, 60, .inl (fun _ => (0 : Int32)))), (k6, .inl (cI, 40, .inl (fun _ => (0 : Int32)))), (k7, .inl (cI, 40, .inl (fun _ => (0 : Int32)))), (k8, .inl (cI, 40, .inl (fun _ => (0 : Int32)))), (w5, .inr (3, [.ref pf, .int 0])), (pf, .inl (cI, 36, .inl (fun _ => (0 : Int32)))), (fu, .inr (9, [.ref v0, .ref v1, .ref v2, .ref v3, .ref v4, .ref v5, .int ywt, .int yre, .int ydy])), (v0, .inl (cI, 12, .inl ya0)), (v1, .inl (cI, 40, .inl ya1)), (v2, .inl (cI, 40, .inl ya2)), (v3, .inl (cI, 20, .inl ya3)), (v4, .inr (8, [.ref j0, .ref j1, .ref j2, .ref j3, .ref j4, .ref j5, .ref j6, .ref j7, .ref j8, .int yn])), (j0, .inl (cI, 60, .inl yb0)), (j1, .inl (cI, 60, .inl yb1)), (j2, .inl (cI, 60, .inl yb2)), (j3, .inl (cI, 60, .inl yb3)), (j4, .inl (cI, 60, .inl yb4)), (j5, .inl (cI, 60, .inl yb5)), (j6, .inl (cI, 40, .inl yb6)), (j7, .inl (cI, 40, .inl yb7)), (j8, .inl (cI, 40, .inl yb8)), (v5, .inr (3, [.ref po, .int ym])), (po, .inl (cI, 36, .inl yq))]) (va_runV (As := [.int 1]) (rest := []) ⟨hx, hb, hml, hown, hT⟩ (c_X10_finding l D cI x nw kp fu ra kr rd wd ld mt vo sh fd s.heap.size im ff 1 (by first | omega | (simp only [zl_1] <;> omega) | decide | assumption | rfl) (by first | omega | (simp only [zl_1] <;> omega) | decide | assumption | rfl)) (cwV 1 hT (gV_in mw_338 mw_335 mw_337 mw_p1_0 mw_1) rfl rfl rfl (by decide +kernel) ⟨Nat.le_of_ble_eq_true rfl, Nat.le_of_ble_eq_true rfl⟩) (kRecv (own := "") (q0 := 0) (ci := 10) hK hP hD hN rfl rfl [0, 35] rfl (by decide)) rfl rfl hl.1 rfl (lv_room (Nat.le_of_ble_eq_true rfl)) dX10_ahead_38 ⟨Nat.le_of_ble_eq_true rfl, Nat.le_of_ble_eq_true rfl⟩) hP hD hS hA [0, 35] [1, 2, 3, 4, 5, 6, 7, 8, 9, 10, 11, 12, 13, 14, 15, 16, 17, 18, 19, 20, 21, 22, 23, 24, 25, 26, 27, 28, 29, 30, 31, 32, 33, 34] rfl rfl (by decide) (by decide) (fun r_42 u_44 H locs w_43 hP hD hS => ?_)
          have hP : va_P D vwCl [(nw, .inr (9, [.ref w0, .ref w1, .ref w2, .ref w3, .ref w4, .ref w5, .int 0, .int 40, .int 0])), (w0, .inl (cI, 12, .inl (fun _ => (2 : Int32)))), (w1, .inl (cI, 40, .inl (fun _ => (0 : Int32)))), (w2, .inl (cI, 40, .inl (fun _ => (0 : Int32)))), (w3, .inl (cI, 20, .inl (fun _ => (0 : Int32)))), (w4, .inr (8, [.ref k0, .ref k1, .ref k2, .ref k3, .ref k4, .ref k5, .ref k6, .ref k7, .ref k8, .int 0])), (k0, .inl (cI, 60, .inl (fun _ => (0 : Int32)))), (k1, .inl (cI, 60, .inl (fun _ => (0 : Int32)))), (k2, .inl (cI, 60, .inl (fun _ => (0 : Int32)))), (k3, .inl (cI, 60, .inl (fun _ => (0 : Int32)))), (k4, .inl (cI, 60, .inl (fun _ => (0 : Int32)))), (k5, .inl (cI, 60, .inl (fun _ => (0 : Int32)))), (k6, .inl (cI, 40, .inl (fun _ => (0 : Int32)))), (k7, .inl (cI, 40, .inl (fun _ => (0 : Int32)))), (k8, .inl (cI, 40, .inl (fun _ => (0 : Int32)))), (w5, .inr (3, [.ref pf, .int 0])), (pf, .inl (cI, 36, .inl (fun _ => (0 : Int32)))), (fu, .inr (9, [.ref v0, .ref v1, .ref v2, .ref v3, .ref v4, .ref v5, .int ywt, .int yre, .int ydy])), (v0, .inl (cI, 12, .inl ya0)), (v1, .inl (cI, 40, .inl ya1)), (v2, .inl (cI, 40, .inl ya2)), (v3, .inl (cI, 20, .inl ya3)), (v4, .inr (8, [.ref j0, .ref j1, .ref j2, .ref j3, .ref j4, .ref j5, .ref j6, .ref j7, .ref j8, .int yn])), (j0, .inl (cI, 60, .inl yb0)), (j1, .inl (cI, 60, .inl yb1)), (j2, .inl (cI, 60, .inl yb2)), (j3, .inl (cI, 60, .inl yb3)), (j4, .inl (cI, 60, .inl yb4)), (j5, .inl (cI, 60, .inl yb5)), (j6, .inl (cI, 40, .inl yb6)), (j7, .inl (cI, 40, .inl yb7)), (j8, .inl (cI, 40, .inl yb8)), (v5, .inr (3, [.ref po, .int ym])), (po, .inl (cI, 36, .inl yq))] H := hP
          have hD : va_D A [(nw, .inr (9, [.ref w0, .ref w1, .ref w2, .ref w3, .ref w4, .ref w5, .int 0, .int 40, .int 0])), (w0, .inl (cI, 12, .inl (fun _ => (2 : Int32)))), (w1, .inl (cI, 40, .inl (fun _ => (0 : Int32)))), (w2, .inl (cI, 40, .inl (fun _ => (0 : Int32)))), (w3, .inl (cI, 20, .inl (fun _ => (0 : Int32)))), (w4, .inr (8, [.ref k0, .ref k1, .ref k2, .ref k3, .ref k4, .ref k5, .ref k6, .ref k7, .ref k8, .int 0])), (k0, .inl (cI, 60, .inl (fun _ => (0 : Int32)))), (k1, .inl (cI, 60, .inl (fun _ => (0 : Int32)))), (k2, .inl (cI, 60, .inl (fun _ => (0 : Int32)))), (k3, .inl (cI, 60, .inl (fun _ => (0 : Int32)))), (k4, .inl (cI, 60, .inl (fun _ => (0 : Int32)))), (k5, .inl (cI, 60, .inl (fun _ => (0 : Int32)))), (k6, .inl (cI, 40, .inl (fun _ => (0 : Int32)))), (k7, .inl (cI, 40, .inl (fun _ => (0 : Int32)))), (k8, .inl (cI, 40, .inl (fun _ => (0 : Int32)))), (w5, .inr (3, [.ref pf, .int 0])), (pf, .inl (cI, 36, .inl (fun _ => (0 : Int32)))), (fu, .inr (9, [.ref v0, .ref v1, .ref v2, .ref v3, .ref v4, .ref v5, .int ywt, .int yre, .int ydy])), (v0, .inl (cI, 12, .inl ya0)), (v1, .inl (cI, 40, .inl ya1)), (v2, .inl (cI, 40, .inl ya2)), (v3, .inl (cI, 20, .inl ya3)), (v4, .inr (8, [.ref j0, .ref j1, .ref j2, .ref j3, .ref j4, .ref j5, .ref j6, .ref j7, .ref j8, .int yn])), (j0, .inl (cI, 60, .inl yb0)), (j1, .inl (cI, 60, .inl yb1)), (j2, .inl (cI, 60, .inl yb2)), (j3, .inl (cI, 60, .inl yb3)), (j4, .inl (cI, 60, .inl yb4)), (j5, .inl (cI, 60, .inl yb5)), (j6, .inl (cI, 40, .inl yb6)), (j7, .inl (cI, 40, .inl yb7)), (j8, .inl (cI, 40, .inl yb8)), (v5, .inr (3, [.ref po, .int ym])), (po, .inl (cI, 36, .inl yq))] := hD
          have hr_42 := w_43
          obtain rfl : r_42 = (-1000001) := hr_42.trans (by decide)
          exact hRet () [] (by unfold sp_ahead; repeat (first | rw [if_pos (by omega)] | rw [if_neg (by omega)])) hP hD (by decide) rfl hS rfl dX10_ahead_41
set_option maxHeartbeats 4000000 in
set_option maxRecDepth 100000 in
theorem c_X10_joined (l : Launch) (D : va_G) (cI : ClassId) (x nw kp fu ra kr rd wd ld mt vo sh fd w0 w1 w2 w3 w4 w5 k0 k1 k2 k3 k4 k5 k6 k7 k8 pf v0 v1 v2 v3 v4 v5 j0 j1 j2 j3 j4 j5 j6 j7 j8 po : Nat) (sz : Nat) (im : Int32) (ff : Nat → Int32) (ywt : Int32) (yre : Int32) (ydy : Int32) (ya0 : Nat → Int32) (ya1 : Nat → Int32) (ya2 : Nat → Int32) (ya3 : Nat → Int32) (yn : Int32) (yb0 : Nat → Int32) (yb1 : Nat → Int32) (yb2 : Nat → Int32) (yb3 : Nat → Int32) (yb4 : Nat → Int32) (yb5 : Nat → Int32) (yb6 : Nat → Int32) (yb7 : Nat → Int32) (yb8 : Nat → Int32) (ym : Int32) (yq : Nat → Int32) (a : Int32) (b : Int32) : Met l yX10_joined (gW yX10_joined cX10_joined 5 (some .int)) ({ frames := 3, cells := 0, slots := 0, locals := 106 } : Room) (kPre D cI [.ref x, .int a, .int b] [(x, .inr (10, [.ref nw, .ref kp, .ref fu, .ref ra, .ref kr, .ref rd, .ref wd, .ref ld, .ref mt, .ref vo, .ref sh, .ref fd, .int im])), (nw, .inr (9, [.ref w0, .ref w1, .ref w2, .ref w3, .ref w4, .ref w5, .int 0, .int 40, .int 0])), (w0, .inl (cI, 12, .inl (fun _ => (2 : Int32)))), (w1, .inl (cI, 40, .inl (fun _ => (0 : Int32)))), (w2, .inl (cI, 40, .inl (fun _ => (0 : Int32)))), (w3, .inl (cI, 20, .inl (fun _ => (0 : Int32)))), (w4, .inr (8, [.ref k0, .ref k1, .ref k2, .ref k3, .ref k4, .ref k5, .ref k6, .ref k7, .ref k8, .int 0])), (k0, .inl (cI, 60, .inl (fun _ => (0 : Int32)))), (k1, .inl (cI, 60, .inl (fun _ => (0 : Int32)))), (k2, .inl (cI, 60, .inl (fun _ => (0 : Int32)))), (k3, .inl (cI, 60, .inl (fun _ => (0 : Int32)))), (k4, .inl (cI, 60, .inl (fun _ => (0 : Int32)))), (k5, .inl (cI, 60, .inl (fun _ => (0 : Int32)))), (k6, .inl (cI, 40, .inl (fun _ => (0 : Int32)))), (k7, .inl (cI, 40, .inl (fun _ => (0 : Int32)))), (k8, .inl (cI, 40, .inl (fun _ => (0 : Int32)))), (w5, .inr (3, [.ref pf, .int 0])), (pf, .inl (cI, 36, .inl (fun _ => (0 : Int32)))), (fu, .inr (9, [.ref v0, .ref v1, .ref v2, .ref v3, .ref v4, .ref v5, .int ywt, .int yre, .int ydy])), (v0, .inl (cI, 12, .inl ya0)), (v1, .inl (cI, 40, .inl ya1)), (v2, .inl (cI, 40, .inl ya2)), (v3, .inl (cI, 20, .inl ya3)), (v4, .inr (8, [.ref j0, .ref j1, .ref j2, .ref j3, .ref j4, .ref j5, .ref j6, .ref j7, .ref j8, .int yn])), (j0, .inl (cI, 60, .inl yb0)), (j1, .inl (cI, 60, .inl yb1)), (j2, .inl (cI, 60, .inl yb2)), (j3, .inl (cI, 60, .inl yb3)), (j4, .inl (cI, 60, .inl yb4)), (j5, .inl (cI, 60, .inl yb5)), (j6, .inl (cI, 40, .inl yb6)), (j7, .inl (cI, 40, .inl yb7)), (j8, .inl (cI, 40, .inl yb8)), (v5, .inr (3, [.ref po, .int ym])), (po, .inl (cI, 36, .inl yq)), (fd, .inl (cI, 6, .inl ff))] sz) (va_Qi (fun (r : Int32) (u : Unit) => r = sp_joined a b) (fun u t => kWd D cI (va_A [(x, .inr (10, [.ref nw, .ref kp, .ref fu, .ref ra, .ref kr, .ref rd, .ref wd, .ref ld, .ref mt, .ref vo, .ref sh, .ref fd, .int im])), (nw, .inr (9, [.ref w0, .ref w1, .ref w2, .ref w3, .ref w4, .ref w5, .int 0, .int 40, .int 0])), (w0, .inl (cI, 12, .inl (fun _ => (2 : Int32)))), (w1, .inl (cI, 40, .inl (fun _ => (0 : Int32)))), (w2, .inl (cI, 40, .inl (fun _ => (0 : Int32)))), (w3, .inl (cI, 20, .inl (fun _ => (0 : Int32)))), (w4, .inr (8, [.ref k0, .ref k1, .ref k2, .ref k3, .ref k4, .ref k5, .ref k6, .ref k7, .ref k8, .int 0])), (k0, .inl (cI, 60, .inl (fun _ => (0 : Int32)))), (k1, .inl (cI, 60, .inl (fun _ => (0 : Int32)))), (k2, .inl (cI, 60, .inl (fun _ => (0 : Int32)))), (k3, .inl (cI, 60, .inl (fun _ => (0 : Int32)))), (k4, .inl (cI, 60, .inl (fun _ => (0 : Int32)))), (k5, .inl (cI, 60, .inl (fun _ => (0 : Int32)))), (k6, .inl (cI, 40, .inl (fun _ => (0 : Int32)))), (k7, .inl (cI, 40, .inl (fun _ => (0 : Int32)))), (k8, .inl (cI, 40, .inl (fun _ => (0 : Int32)))), (w5, .inr (3, [.ref pf, .int 0])), (pf, .inl (cI, 36, .inl (fun _ => (0 : Int32)))), (fu, .inr (9, [.ref v0, .ref v1, .ref v2, .ref v3, .ref v4, .ref v5, .int ywt, .int yre, .int ydy])), (v0, .inl (cI, 12, .inl ya0)), (v1, .inl (cI, 40, .inl ya1)), (v2, .inl (cI, 40, .inl ya2)), (v3, .inl (cI, 20, .inl ya3)), (v4, .inr (8, [.ref j0, .ref j1, .ref j2, .ref j3, .ref j4, .ref j5, .ref j6, .ref j7, .ref j8, .int yn])), (j0, .inl (cI, 60, .inl yb0)), (j1, .inl (cI, 60, .inl yb1)), (j2, .inl (cI, 60, .inl yb2)), (j3, .inl (cI, 60, .inl yb3)), (j4, .inl (cI, 60, .inl yb4)), (j5, .inl (cI, 60, .inl yb5)), (j6, .inl (cI, 40, .inl yb6)), (j7, .inl (cI, 40, .inl yb7)), (j8, .inl (cI, 40, .inl yb8)), (v5, .inr (3, [.ref po, .int ym])), (po, .inl (cI, 36, .inl yq)), (fd, .inl (cI, 6, .inl ff))] sz) [] t) (va_A [(x, .inr (10, [.ref nw, .ref kp, .ref fu, .ref ra, .ref kr, .ref rd, .ref wd, .ref ld, .ref mt, .ref vo, .ref sh, .ref fd, .int im])), (nw, .inr (9, [.ref w0, .ref w1, .ref w2, .ref w3, .ref w4, .ref w5, .int 0, .int 40, .int 0])), (w0, .inl (cI, 12, .inl (fun _ => (2 : Int32)))), (w1, .inl (cI, 40, .inl (fun _ => (0 : Int32)))), (w2, .inl (cI, 40, .inl (fun _ => (0 : Int32)))), (w3, .inl (cI, 20, .inl (fun _ => (0 : Int32)))), (w4, .inr (8, [.ref k0, .ref k1, .ref k2, .ref k3, .ref k4, .ref k5, .ref k6, .ref k7, .ref k8, .int 0])), (k0, .inl (cI, 60, .inl (fun _ => (0 : Int32)))), (k1, .inl (cI, 60, .inl (fun _ => (0 : Int32)))), (k2, .inl (cI, 60, .inl (fun _ => (0 : Int32)))), (k3, .inl (cI, 60, .inl (fun _ => (0 : Int32)))), (k4, .inl (cI, 60, .inl (fun _ => (0 : Int32)))), (k5, .inl (cI, 60, .inl (fun _ => (0 : Int32)))), (k6, .inl (cI, 40, .inl (fun _ => (0 : Int32)))), (k7, .inl (cI, 40, .inl (fun _ => (0 : Int32)))), (k8, .inl (cI, 40, .inl (fun _ => (0 : Int32)))), (w5, .inr (3, [.ref pf, .int 0])), (pf, .inl (cI, 36, .inl (fun _ => (0 : Int32)))), (fu, .inr (9, [.ref v0, .ref v1, .ref v2, .ref v3, .ref v4, .ref v5, .int ywt, .int yre, .int ydy])), (v0, .inl (cI, 12, .inl ya0)), (v1, .inl (cI, 40, .inl ya1)), (v2, .inl (cI, 40, .inl ya2)), (v3, .inl (cI, 20, .inl ya3)), (v4, .inr (8, [.ref j0, .ref j1, .ref j2, .ref j3, .ref j4, .ref j5, .ref j6, .ref j7, .ref j8, .int yn])), (j0, .inl (cI, 60, .inl yb0)), (j1, .inl (cI, 60, .inl yb1)), (j2, .inl (cI, 60, .inl yb2)), (j3, .inl (cI, 60, .inl yb3)), (j4, .inl (cI, 60, .inl yb4)), (j5, .inl (cI, 60, .inl yb5)), (j6, .inl (cI, 40, .inl yb6)), (j7, .inl (cI, 40, .inl yb7)), (j8, .inl (cI, 40, .inl yb8)), (v5, .inr (3, [.ref po, .int ym])), (po, .inl (cI, 36, .inl yq)), (fd, .inl (cI, 6, .inl ff))] sz)) 0 0 (va_A [(x, .inr (10, [.ref nw, .ref kp, .ref fu, .ref ra, .ref kr, .ref rd, .ref wd, .ref ld, .ref mt, .ref vo, .ref sh, .ref fd, .int im])), (nw, .inr (9, [.ref w0, .ref w1, .ref w2, .ref w3, .ref w4, .ref w5, .int 0, .int 40, .int 0])), (w0, .inl (cI, 12, .inl (fun _ => (2 : Int32)))), (w1, .inl (cI, 40, .inl (fun _ => (0 : Int32)))), (w2, .inl (cI, 40, .inl (fun _ => (0 : Int32)))), (w3, .inl (cI, 20, .inl (fun _ => (0 : Int32)))), (w4, .inr (8, [.ref k0, .ref k1, .ref k2, .ref k3, .ref k4, .ref k5, .ref k6, .ref k7, .ref k8, .int 0])), (k0, .inl (cI, 60, .inl (fun _ => (0 : Int32)))), (k1, .inl (cI, 60, .inl (fun _ => (0 : Int32)))), (k2, .inl (cI, 60, .inl (fun _ => (0 : Int32)))), (k3, .inl (cI, 60, .inl (fun _ => (0 : Int32)))), (k4, .inl (cI, 60, .inl (fun _ => (0 : Int32)))), (k5, .inl (cI, 60, .inl (fun _ => (0 : Int32)))), (k6, .inl (cI, 40, .inl (fun _ => (0 : Int32)))), (k7, .inl (cI, 40, .inl (fun _ => (0 : Int32)))), (k8, .inl (cI, 40, .inl (fun _ => (0 : Int32)))), (w5, .inr (3, [.ref pf, .int 0])), (pf, .inl (cI, 36, .inl (fun _ => (0 : Int32)))), (fu, .inr (9, [.ref v0, .ref v1, .ref v2, .ref v3, .ref v4, .ref v5, .int ywt, .int yre, .int ydy])), (v0, .inl (cI, 12, .inl ya0)), (v1, .inl (cI, 40, .inl ya1)), (v2, .inl (cI, 40, .inl ya2)), (v3, .inl (cI, 20, .inl ya3)), (v4, .inr (8, [.ref j0, .ref j1, .ref j2, .ref j3, .ref j4, .ref j5, .ref j6, .ref j7, .ref j8, .int yn])), (j0, .inl (cI, 60, .inl yb0)), (j1, .inl (cI, 60, .inl yb1)), (j2, .inl (cI, 60, .inl yb2)), (j3, .inl (cI, 60, .inl yb3)), (j4, .inl (cI, 60, .inl yb4)), (j5, .inl (cI, 60, .inl yb5)), (j6, .inl (cI, 40, .inl yb6)), (j7, .inl (cI, 40, .inl yb7)), (j8, .inl (cI, 40, .inl yb8)), (v5, .inr (3, [.ref po, .int ym])), (po, .inl (cI, 36, .inl yq)), (fd, .inl (cI, 6, .inl ff))] sz) := by
  refine kMetI (own := RX10) (by decide) rfl (Nat.le_of_ble_eq_true rfl) ?_
  intro p e s m args below meth c hx hb hT hown hname hml A Q hK hP hD hS hA hN hRet ls hl
  have hl : lv_has ls 5 [(0, .ref x), (1, .int a), (2, .int b)] := hl
  have lo_a := k_lo a
  have hi_a := k_hi a
  have lo_b := k_lo b
  have hi_b := k_hi b
  have lo_im := k_lo im
  have hi_im := k_hi im
  have lo_ywt := k_lo ywt
  have hi_ywt := k_hi ywt
  have lo_yre := k_lo yre
  have hi_yre := k_hi yre
  have lo_ydy := k_lo ydy
  have hi_ydy := k_hi ydy
  have lo_yn := k_lo yn
  have hi_yn := k_hi yn
  have lo_ym := k_lo ym
  have hi_ym := k_hi ym
  refine lv_iload_n hx hb dX10_joined_0 rfl (lv_at hl 1 rfl) ?_
  refine kJi (wr := [(x, .inr (10, [.ref nw, .ref kp, .ref fu, .ref ra, .ref kr, .ref rd, .ref wd, .ref ld, .ref mt, .ref vo, .ref sh, .ref fd, .int im])), (nw, .inr (9, [.ref w0, .ref w1, .ref w2, .ref w3, .ref w4, .ref w5, .int 0, .int 40, .int 0])), (w0, .inl (cI, 12, .inl (fun _ => (2 : Int32)))), (w1, .inl (cI, 40, .inl (fun _ => (0 : Int32)))), (w2, .inl (cI, 40, .inl (fun _ => (0 : Int32)))), (w3, .inl (cI, 20, .inl (fun _ => (0 : Int32)))), (w4, .inr (8, [.ref k0, .ref k1, .ref k2, .ref k3, .ref k4, .ref k5, .ref k6, .ref k7, .ref k8, .int 0])), (k0, .inl (cI, 60, .inl (fun _ => (0 : Int32)))), (k1, .inl (cI, 60, .inl (fun _ => (0 : Int32)))), (k2, .inl (cI, 60, .inl (fun _ => (0 : Int32)))), (k3, .inl (cI, 60, .inl (fun _ => (0 : Int32)))), (k4, .inl (cI, 60, .inl (fun _ => (0 : Int32)))), (k5, .inl (cI, 60, .inl (fun _ => (0 : Int32)))), (k6, .inl (cI, 40, .inl (fun _ => (0 : Int32)))), (k7, .inl (cI, 40, .inl (fun _ => (0 : Int32)))), (k8, .inl (cI, 40, .inl (fun _ => (0 : Int32)))), (w5, .inr (3, [.ref pf, .int 0])), (pf, .inl (cI, 36, .inl (fun _ => (0 : Int32)))), (fu, .inr (9, [.ref v0, .ref v1, .ref v2, .ref v3, .ref v4, .ref v5, .int ywt, .int yre, .int ydy])), (v0, .inl (cI, 12, .inl ya0)), (v1, .inl (cI, 40, .inl ya1)), (v2, .inl (cI, 40, .inl ya2)), (v3, .inl (cI, 20, .inl ya3)), (v4, .inr (8, [.ref j0, .ref j1, .ref j2, .ref j3, .ref j4, .ref j5, .ref j6, .ref j7, .ref j8, .int yn])), (j0, .inl (cI, 60, .inl yb0)), (j1, .inl (cI, 60, .inl yb1)), (j2, .inl (cI, 60, .inl yb2)), (j3, .inl (cI, 60, .inl yb3)), (j4, .inl (cI, 60, .inl yb4)), (j5, .inl (cI, 60, .inl yb5)), (j6, .inl (cI, 40, .inl yb6)), (j7, .inl (cI, 40, .inl yb7)), (j8, .inl (cI, 40, .inl yb8)), (v5, .inr (3, [.ref po, .int ym])), (po, .inl (cI, 36, .inl yq)), (fd, .inl (cI, 6, .inl ff))]) (va_runS (As := [.int a]) (rest := []) ⟨hx, hb, hml, hown, hT⟩ (c_X10_isMile l D cI s.heap.size a) (cwS 1 hT (gS_in mw_346 mw_344 mw_345 mw_1) rfl rfl rfl (by decide +kernel) ⟨Nat.le_of_ble_eq_true rfl, Nat.le_of_ble_eq_true rfl⟩) (kStat hK hP hD hN [] rfl (by decide)) rfl rfl hl.1 rfl (lv_room (Nat.le_of_ble_eq_true rfl)) dX10_joined_1 ⟨Nat.le_of_ble_eq_true rfl, Nat.le_of_ble_eq_true rfl⟩) hP hD hS hA [] [0, 1, 2, 3, 4, 5, 6, 7, 8, 9, 10, 11, 12, 13, 14, 15, 16, 17, 18, 19, 20, 21, 22, 23, 24, 25, 26, 27, 28, 29, 30, 31, 32, 33, 34, 35] rfl rfl (by decide) (by decide) (fun r_1 u_3 H locs w_2 hP hD hS => ?_)
  have hP : va_P D vwCl [(x, .inr (10, [.ref nw, .ref kp, .ref fu, .ref ra, .ref kr, .ref rd, .ref wd, .ref ld, .ref mt, .ref vo, .ref sh, .ref fd, .int im])), (nw, .inr (9, [.ref w0, .ref w1, .ref w2, .ref w3, .ref w4, .ref w5, .int 0, .int 40, .int 0])), (w0, .inl (cI, 12, .inl (fun _ => (2 : Int32)))), (w1, .inl (cI, 40, .inl (fun _ => (0 : Int32)))), (w2, .inl (cI, 40, .inl (fun _ => (0 : Int32)))), (w3, .inl (cI, 20, .inl (fun _ => (0 : Int32)))), (w4, .inr (8, [.ref k0, .ref k1, .ref k2, .ref k3, .ref k4, .ref k5, .ref k6, .ref k7, .ref k8, .int 0])), (k0, .inl (cI, 60, .inl (fun _ => (0 : Int32)))), (k1, .inl (cI, 60, .inl (fun _ => (0 : Int32)))), (k2, .inl (cI, 60, .inl (fun _ => (0 : Int32)))), (k3, .inl (cI, 60, .inl (fun _ => (0 : Int32)))), (k4, .inl (cI, 60, .inl (fun _ => (0 : Int32)))), (k5, .inl (cI, 60, .inl (fun _ => (0 : Int32)))), (k6, .inl (cI, 40, .inl (fun _ => (0 : Int32)))), (k7, .inl (cI, 40, .inl (fun _ => (0 : Int32)))), (k8, .inl (cI, 40, .inl (fun _ => (0 : Int32)))), (w5, .inr (3, [.ref pf, .int 0])), (pf, .inl (cI, 36, .inl (fun _ => (0 : Int32)))), (fu, .inr (9, [.ref v0, .ref v1, .ref v2, .ref v3, .ref v4, .ref v5, .int ywt, .int yre, .int ydy])), (v0, .inl (cI, 12, .inl ya0)), (v1, .inl (cI, 40, .inl ya1)), (v2, .inl (cI, 40, .inl ya2)), (v3, .inl (cI, 20, .inl ya3)), (v4, .inr (8, [.ref j0, .ref j1, .ref j2, .ref j3, .ref j4, .ref j5, .ref j6, .ref j7, .ref j8, .int yn])), (j0, .inl (cI, 60, .inl yb0)), (j1, .inl (cI, 60, .inl yb1)), (j2, .inl (cI, 60, .inl yb2)), (j3, .inl (cI, 60, .inl yb3)), (j4, .inl (cI, 60, .inl yb4)), (j5, .inl (cI, 60, .inl yb5)), (j6, .inl (cI, 40, .inl yb6)), (j7, .inl (cI, 40, .inl yb7)), (j8, .inl (cI, 40, .inl yb8)), (v5, .inr (3, [.ref po, .int ym])), (po, .inl (cI, 36, .inl yq)), (fd, .inl (cI, 6, .inl ff))] H := hP
  have hD : va_D A [(x, .inr (10, [.ref nw, .ref kp, .ref fu, .ref ra, .ref kr, .ref rd, .ref wd, .ref ld, .ref mt, .ref vo, .ref sh, .ref fd, .int im])), (nw, .inr (9, [.ref w0, .ref w1, .ref w2, .ref w3, .ref w4, .ref w5, .int 0, .int 40, .int 0])), (w0, .inl (cI, 12, .inl (fun _ => (2 : Int32)))), (w1, .inl (cI, 40, .inl (fun _ => (0 : Int32)))), (w2, .inl (cI, 40, .inl (fun _ => (0 : Int32)))), (w3, .inl (cI, 20, .inl (fun _ => (0 : Int32)))), (w4, .inr (8, [.ref k0, .ref k1, .ref k2, .ref k3, .ref k4, .ref k5, .ref k6, .ref k7, .ref k8, .int 0])), (k0, .inl (cI, 60, .inl (fun _ => (0 : Int32)))), (k1, .inl (cI, 60, .inl (fun _ => (0 : Int32)))), (k2, .inl (cI, 60, .inl (fun _ => (0 : Int32)))), (k3, .inl (cI, 60, .inl (fun _ => (0 : Int32)))), (k4, .inl (cI, 60, .inl (fun _ => (0 : Int32)))), (k5, .inl (cI, 60, .inl (fun _ => (0 : Int32)))), (k6, .inl (cI, 40, .inl (fun _ => (0 : Int32)))), (k7, .inl (cI, 40, .inl (fun _ => (0 : Int32)))), (k8, .inl (cI, 40, .inl (fun _ => (0 : Int32)))), (w5, .inr (3, [.ref pf, .int 0])), (pf, .inl (cI, 36, .inl (fun _ => (0 : Int32)))), (fu, .inr (9, [.ref v0, .ref v1, .ref v2, .ref v3, .ref v4, .ref v5, .int ywt, .int yre, .int ydy])), (v0, .inl (cI, 12, .inl ya0)), (v1, .inl (cI, 40, .inl ya1)), (v2, .inl (cI, 40, .inl ya2)), (v3, .inl (cI, 20, .inl ya3)), (v4, .inr (8, [.ref j0, .ref j1, .ref j2, .ref j3, .ref j4, .ref j5, .ref j6, .ref j7, .ref j8, .int yn])), (j0, .inl (cI, 60, .inl yb0)), (j1, .inl (cI, 60, .inl yb1)), (j2, .inl (cI, 60, .inl yb2)), (j3, .inl (cI, 60, .inl yb3)), (j4, .inl (cI, 60, .inl yb4)), (j5, .inl (cI, 60, .inl yb5)), (j6, .inl (cI, 40, .inl yb6)), (j7, .inl (cI, 40, .inl yb7)), (j8, .inl (cI, 40, .inl yb8)), (v5, .inr (3, [.ref po, .int ym])), (po, .inl (cI, 36, .inl yq)), (fd, .inl (cI, 6, .inl ff))] := hD
  rcases w_2 with ⟨hr_1, h_4, h_5⟩ | ⟨hr_1, h_6⟩
  · have h_4 : 0 ≤ a.toInt := h_4
    have h_5 : a.toInt ≤ 39 := h_5
    obtain rfl : r_1 = 1 := hr_1.trans (by decide)
    refine b_if_eq hx hb zl_1 (tgt := 19) dX10_joined_4 (by decide) (fun c_7 => by exfalso; omega) (fun c_7 => ?_)
    refine lv_iload_n hx hb dX10_joined_7 rfl (lv_at hl 2 rfl) ?_
    refine kJi (wr := [(x, .inr (10, [.ref nw, .ref kp, .ref fu, .ref ra, .ref kr, .ref rd, .ref wd, .ref ld, .ref mt, .ref vo, .ref sh, .ref fd, .int im])), (nw, .inr (9, [.ref w0, .ref w1, .ref w2, .ref w3, .ref w4, .ref w5, .int 0, .int 40, .int 0])), (w0, .inl (cI, 12, .inl (fun _ => (2 : Int32)))), (w1, .inl (cI, 40, .inl (fun _ => (0 : Int32)))), (w2, .inl (cI, 40, .inl (fun _ => (0 : Int32)))), (w3, .inl (cI, 20, .inl (fun _ => (0 : Int32)))), (w4, .inr (8, [.ref k0, .ref k1, .ref k2, .ref k3, .ref k4, .ref k5, .ref k6, .ref k7, .ref k8, .int 0])), (k0, .inl (cI, 60, .inl (fun _ => (0 : Int32)))), (k1, .inl (cI, 60, .inl (fun _ => (0 : Int32)))), (k2, .inl (cI, 60, .inl (fun _ => (0 : Int32)))), (k3, .inl (cI, 60, .inl (fun _ => (0 : Int32)))), (k4, .inl (cI, 60, .inl (fun _ => (0 : Int32)))), (k5, .inl (cI, 60, .inl (fun _ => (0 : Int32)))), (k6, .inl (cI, 40, .inl (fun _ => (0 : Int32)))), (k7, .inl (cI, 40, .inl (fun _ => (0 : Int32)))), (k8, .inl (cI, 40, .inl (fun _ => (0 : Int32)))), (w5, .inr (3, [.ref pf, .int 0])), (pf, .inl (cI, 36, .inl (fun _ => (0 : Int32)))), (fu, .inr (9, [.ref v0, .ref v1, .ref v2, .ref v3, .ref v4, .ref v5, .int ywt, .int yre, .int ydy])), (v0, .inl (cI, 12, .inl ya0)), (v1, .inl (cI, 40, .inl ya1)), (v2, .inl (cI, 40, .inl ya2)), (v3, .inl (cI, 20, .inl ya3)), (v4, .inr (8, [.ref j0, .ref j1, .ref j2, .ref j3, .ref j4, .ref j5, .ref j6, .ref j7, .ref j8, .int yn])), (j0, .inl (cI, 60, .inl yb0)), (j1, .inl (cI, 60, .inl yb1)), (j2, .inl (cI, 60, .inl yb2)), (j3, .inl (cI, 60, .inl yb3)), (j4, .inl (cI, 60, .inl yb4)), (j5, .inl (cI, 60, .inl yb5)), (j6, .inl (cI, 40, .inl yb6)), (j7, .inl (cI, 40, .inl yb7)), (j8, .inl (cI, 40, .inl yb8)), (v5, .inr (3, [.ref po, .int ym])), (po, .inl (cI, 36, .inl yq)), (fd, .inl (cI, 6, .inl ff))]) (va_runS (As := [.int b]) (rest := []) ⟨hx, hb, hml, hown, hT⟩ (c_X10_isMile l D cI H.size b) (cwS 1 hT (gS_in mw_346 mw_344 mw_345 mw_1) rfl rfl rfl (by decide +kernel) ⟨Nat.le_of_ble_eq_true rfl, Nat.le_of_ble_eq_true rfl⟩) (kStat hK hP hD hN [] rfl (by decide)) rfl rfl hl.1 rfl (lv_room (Nat.le_of_ble_eq_true rfl)) dX10_joined_8 ⟨Nat.le_of_ble_eq_true rfl, Nat.le_of_ble_eq_true rfl⟩) hP hD hS hA [] [0, 1, 2, 3, 4, 5, 6, 7, 8, 9, 10, 11, 12, 13, 14, 15, 16, 17, 18, 19, 20, 21, 22, 23, 24, 25, 26, 27, 28, 29, 30, 31, 32, 33, 34, 35] rfl rfl (by decide) (by decide) (fun r_8 u_10 H locs w_9 hP hD hS => ?_)
    have hP : va_P D vwCl [(x, .inr (10, [.ref nw, .ref kp, .ref fu, .ref ra, .ref kr, .ref rd, .ref wd, .ref ld, .ref mt, .ref vo, .ref sh, .ref fd, .int im])), (nw, .inr (9, [.ref w0, .ref w1, .ref w2, .ref w3, .ref w4, .ref w5, .int 0, .int 40, .int 0])), (w0, .inl (cI, 12, .inl (fun _ => (2 : Int32)))), (w1, .inl (cI, 40, .inl (fun _ => (0 : Int32)))), (w2, .inl (cI, 40, .inl (fun _ => (0 : Int32)))), (w3, .inl (cI, 20, .inl (fun _ => (0 : Int32)))), (w4, .inr (8, [.ref k0, .ref k1, .ref k2, .ref k3, .ref k4, .ref k5, .ref k6, .ref k7, .ref k8, .int 0])), (k0, .inl (cI, 60, .inl (fun _ => (0 : Int32)))), (k1, .inl (cI, 60, .inl (fun _ => (0 : Int32)))), (k2, .inl (cI, 60, .inl (fun _ => (0 : Int32)))), (k3, .inl (cI, 60, .inl (fun _ => (0 : Int32)))), (k4, .inl (cI, 60, .inl (fun _ => (0 : Int32)))), (k5, .inl (cI, 60, .inl (fun _ => (0 : Int32)))), (k6, .inl (cI, 40, .inl (fun _ => (0 : Int32)))), (k7, .inl (cI, 40, .inl (fun _ => (0 : Int32)))), (k8, .inl (cI, 40, .inl (fun _ => (0 : Int32)))), (w5, .inr (3, [.ref pf, .int 0])), (pf, .inl (cI, 36, .inl (fun _ => (0 : Int32)))), (fu, .inr (9, [.ref v0, .ref v1, .ref v2, .ref v3, .ref v4, .ref v5, .int ywt, .int yre, .int ydy])), (v0, .inl (cI, 12, .inl ya0)), (v1, .inl (cI, 40, .inl ya1)), (v2, .inl (cI, 40, .inl ya2)), (v3, .inl (cI, 20, .inl ya3)), (v4, .inr (8, [.ref j0, .ref j1, .ref j2, .ref j3, .ref j4, .ref j5, .ref j6, .ref j7, .ref j8, .int yn])), (j0, .inl (cI, 60, .inl yb0)), (j1, .inl (cI, 60, .inl yb1)), (j2, .inl (cI, 60, .inl yb2)), (j3, .inl (cI, 60, .inl yb3)), (j4, .inl (cI, 60, .inl yb4)), (j5, .inl (cI, 60, .inl yb5)), (j6, .inl (cI, 40, .inl yb6)), (j7, .inl (cI, 40, .inl yb7)), (j8, .inl (cI, 40, .inl yb8)), (v5, .inr (3, [.ref po, .int ym])), (po, .inl (cI, 36, .inl yq)), (fd, .inl (cI, 6, .inl ff))] H := hP
    have hD : va_D A [(x, .inr (10, [.ref nw, .ref kp, .ref fu, .ref ra, .ref kr, .ref rd, .ref wd, .ref ld, .ref mt, .ref vo, .ref sh, .ref fd, .int im])), (nw, .inr (9, [.ref w0, .ref w1, .ref w2, .ref w3, .ref w4, .ref w5, .int 0, .int 40, .int 0])), (w0, .inl (cI, 12, .inl (fun _ => (2 : Int32)))), (w1, .inl (cI, 40, .inl (fun _ => (0 : Int32)))), (w2, .inl (cI, 40, .inl (fun _ => (0 : Int32)))), (w3, .inl (cI, 20, .inl (fun _ => (0 : Int32)))), (w4, .inr (8, [.ref k0, .ref k1, .ref k2, .ref k3, .ref k4, .ref k5, .ref k6, .ref k7, .ref k8, .int 0])), (k0, .inl (cI, 60, .inl (fun _ => (0 : Int32)))), (k1, .inl (cI, 60, .inl (fun _ => (0 : Int32)))), (k2, .inl (cI, 60, .inl (fun _ => (0 : Int32)))), (k3, .inl (cI, 60, .inl (fun _ => (0 : Int32)))), (k4, .inl (cI, 60, .inl (fun _ => (0 : Int32)))), (k5, .inl (cI, 60, .inl (fun _ => (0 : Int32)))), (k6, .inl (cI, 40, .inl (fun _ => (0 : Int32)))), (k7, .inl (cI, 40, .inl (fun _ => (0 : Int32)))), (k8, .inl (cI, 40, .inl (fun _ => (0 : Int32)))), (w5, .inr (3, [.ref pf, .int 0])), (pf, .inl (cI, 36, .inl (fun _ => (0 : Int32)))), (fu, .inr (9, [.ref v0, .ref v1, .ref v2, .ref v3, .ref v4, .ref v5, .int ywt, .int yre, .int ydy])), (v0, .inl (cI, 12, .inl ya0)), (v1, .inl (cI, 40, .inl ya1)), (v2, .inl (cI, 40, .inl ya2)), (v3, .inl (cI, 20, .inl ya3)), (v4, .inr (8, [.ref j0, .ref j1, .ref j2, .ref j3, .ref j4, .ref j5, .ref j6, .ref j7, .ref j8, .int yn])), (j0, .inl (cI, 60, .inl yb0)), (j1, .inl (cI, 60, .inl yb1)), (j2, .inl (cI, 60, .inl yb2)), (j3, .inl (cI, 60, .inl yb3)), (j4, .inl (cI, 60, .inl yb4)), (j5, .inl (cI, 60, .inl yb5)), (j6, .inl (cI, 40, .inl yb6)), (j7, .inl (cI, 40, .inl yb7)), (j8, .inl (cI, 40, .inl yb8)), (v5, .inr (3, [.ref po, .int ym])), (po, .inl (cI, 36, .inl yq)), (fd, .inl (cI, 6, .inl ff))] := hD
    rcases w_9 with ⟨hr_8, h_11, h_12⟩ | ⟨hr_8, h_13⟩
    · have h_11 : 0 ≤ b.toInt := h_11
      have h_12 : b.toInt ≤ 39 := h_12
      obtain rfl : r_8 = 1 := hr_8.trans (by decide)
      refine b_if_eq hx hb zl_1 (tgt := 19) dX10_joined_11 (by decide) (fun c_14 => by exfalso; omega) (fun c_14 => ?_)
      refine lv_iload_n hx hb dX10_joined_14 rfl (lv_at hl 1 rfl) ?_
      refine lv_iload_n hx hb dX10_joined_15 rfl (lv_at hl 2 rfl) ?_
      refine b_icmp_le hx hb rfl rfl (tgt := 25) dX10_joined_16 (by decide) (fun c_15 => ?_) (fun c_15 => ?_)
      · refine lv_aload_n hx hb dX10_joined_25 rfl (lv_at hl 0 rfl) ?_
        refine va_get (D := D) (ci := 10) (v := .ref fu) (C := RX10) (T := TX10) (N := 13) hx hb hT giX10 hown hK hP 0 rfl rfl 2 (by decide) (hT (Cond.fieldLink RX10 19 "DesertWire" "future" "LDesertWire$World;") mw_293) (fun _ h9 => h9) rfl dX10_joined_26 ?_
        refine lv_aload_n hx hb dX10_joined_29 rfl (lv_at hl 0 rfl) ?_
        refine va_get (D := D) (ci := 10) (v := .ref nw) (C := RX10) (T := TX10) (N := 13) hx hb hT giX10 hown hK hP 0 rfl rfl 0 (by decide) (hT (Cond.fieldLink RX10 12 "DesertWire" "now" "LDesertWire$World;") mw_291) (fun _ h9 => h9) rfl dX10_joined_30 ?_
        refine kJv (wr := [(x, .inr (10, [.ref nw, .ref kp, .ref fu, .ref ra, .ref kr, .ref rd, .ref wd, .ref ld, .ref mt, .ref vo, .ref sh, .ref fd, .int im])), (fd, .inl (cI, 6, .inl ff))]) (va_runV (As := [.ref nw]) (rest := []) ⟨hx, hb, hml, hown, hT⟩ (c_X9_copyFrom l D cI fu v0 v1 v2 v3 v4 v5 j0 j1 j2 j3 j4 j5 j6 j7 j8 po nw w0 w1 w2 w3 w4 w5 k0 k1 k2 k3 k4 k5 k6 k7 k8 pf H.size ywt yre ydy ya0 ya1 ya2 ya3 yn yb0 yb1 yb2 yb3 yb4 yb5 yb6 yb7 yb8 ym yq 0 40 0 (fun _ => (2 : Int32)) (fun _ => (0 : Int32)) (fun _ => (0 : Int32)) (fun _ => (0 : Int32)) 0 (fun _ => (0 : Int32)) (fun _ => (0 : Int32)) (fun _ => (0 : Int32)) (fun _ => (0 : Int32)) (fun _ => (0 : Int32)) (fun _ => (0 : Int32)) (fun _ => (0 : Int32)) (fun _ => (0 : Int32)) (fun _ => (0 : Int32)) 0 (fun _ => (0 : Int32))) (cwV 1 hT (gV_in mw_1014 mw_1011 mw_1012 mw_1013 mw_2) rfl rfl rfl (by decide +kernel) ⟨Nat.le_of_ble_eq_true rfl, Nat.le_of_ble_eq_true rfl⟩) (kRecv (own := "") (q0 := 18) (ci := 9) hK hP hD hN rfl rfl [18, 19, 20, 21, 22, 23, 24, 25, 26, 27, 28, 29, 30, 31, 32, 33, 34, 1, 2, 3, 4, 5, 6, 7, 8, 9, 10, 11, 12, 13, 14, 15, 16, 17] rfl (by decide)) rfl rfl hl.1 rfl (lv_room (Nat.le_of_ble_eq_true rfl)) dX10_joined_33 ⟨Nat.le_of_ble_eq_true rfl, Nat.le_of_ble_eq_true rfl⟩) hP hD hS hA [18, 19, 20, 21, 22, 23, 24, 25, 26, 27, 28, 29, 30, 31, 32, 33, 34, 1, 2, 3, 4, 5, 6, 7, 8, 9, 10, 11, 12, 13, 14, 15, 16, 17] [0, 35] rfl rfl (by decide) (by decide) (fun u_18 H locs w_17 hP hD hS => ?_)
        have hP : va_P D vwCl [(x, .inr (10, [.ref nw, .ref kp, .ref fu, .ref ra, .ref kr, .ref rd, .ref wd, .ref ld, .ref mt, .ref vo, .ref sh, .ref fd, .int im])), (fd, .inl (cI, 6, .inl ff)), (fu, .inr (9, [.ref v0, .ref v1, .ref v2, .ref v3, .ref v4, .ref v5, .int 0, .int 40, .int 0])), (v0, .inl (cI, 12, .inl (fun _ => (2 : Int32)))), (v1, .inl (cI, 40, .inl (fun _ => (0 : Int32)))), (v2, .inl (cI, 40, .inl (fun _ => (0 : Int32)))), (v3, .inl (cI, 20, .inl (fun _ => (0 : Int32)))), (v4, .inr (8, [.ref j0, .ref j1, .ref j2, .ref j3, .ref j4, .ref j5, .ref j6, .ref j7, .ref j8, .int 0])), (j0, .inl (cI, 60, .inl (fun _ => (0 : Int32)))), (j1, .inl (cI, 60, .inl (fun _ => (0 : Int32)))), (j2, .inl (cI, 60, .inl (fun _ => (0 : Int32)))), (j3, .inl (cI, 60, .inl (fun _ => (0 : Int32)))), (j4, .inl (cI, 60, .inl (fun _ => (0 : Int32)))), (j5, .inl (cI, 60, .inl (fun _ => (0 : Int32)))), (j6, .inl (cI, 40, .inl (fun _ => (0 : Int32)))), (j7, .inl (cI, 40, .inl (fun _ => (0 : Int32)))), (j8, .inl (cI, 40, .inl (fun _ => (0 : Int32)))), (v5, .inr (3, [.ref po, .int 0])), (po, .inl (cI, 36, .inl (fun _ => (0 : Int32)))), (nw, .inr (9, [.ref w0, .ref w1, .ref w2, .ref w3, .ref w4, .ref w5, .int 0, .int 40, .int 0])), (w0, .inl (cI, 12, .inl (fun _ => (2 : Int32)))), (w1, .inl (cI, 40, .inl (fun _ => (0 : Int32)))), (w2, .inl (cI, 40, .inl (fun _ => (0 : Int32)))), (w3, .inl (cI, 20, .inl (fun _ => (0 : Int32)))), (w4, .inr (8, [.ref k0, .ref k1, .ref k2, .ref k3, .ref k4, .ref k5, .ref k6, .ref k7, .ref k8, .int 0])), (k0, .inl (cI, 60, .inl (fun _ => (0 : Int32)))), (k1, .inl (cI, 60, .inl (fun _ => (0 : Int32)))), (k2, .inl (cI, 60, .inl (fun _ => (0 : Int32)))), (k3, .inl (cI, 60, .inl (fun _ => (0 : Int32)))), (k4, .inl (cI, 60, .inl (fun _ => (0 : Int32)))), (k5, .inl (cI, 60, .inl (fun _ => (0 : Int32)))), (k6, .inl (cI, 40, .inl (fun _ => (0 : Int32)))), (k7, .inl (cI, 40, .inl (fun _ => (0 : Int32)))), (k8, .inl (cI, 40, .inl (fun _ => (0 : Int32)))), (w5, .inr (3, [.ref pf, .int 0])), (pf, .inl (cI, 36, .inl (fun _ => (0 : Int32))))] H := hP
        have hD : va_D A [(x, .inr (10, [.ref nw, .ref kp, .ref fu, .ref ra, .ref kr, .ref rd, .ref wd, .ref ld, .ref mt, .ref vo, .ref sh, .ref fd, .int im])), (fd, .inl (cI, 6, .inl ff)), (fu, .inr (9, [.ref v0, .ref v1, .ref v2, .ref v3, .ref v4, .ref v5, .int 0, .int 40, .int 0])), (v0, .inl (cI, 12, .inl (fun _ => (2 : Int32)))), (v1, .inl (cI, 40, .inl (fun _ => (0 : Int32)))), (v2, .inl (cI, 40, .inl (fun _ => (0 : Int32)))), (v3, .inl (cI, 20, .inl (fun _ => (0 : Int32)))), (v4, .inr (8, [.ref j0, .ref j1, .ref j2, .ref j3, .ref j4, .ref j5, .ref j6, .ref j7, .ref j8, .int 0])), (j0, .inl (cI, 60, .inl (fun _ => (0 : Int32)))), (j1, .inl (cI, 60, .inl (fun _ => (0 : Int32)))), (j2, .inl (cI, 60, .inl (fun _ => (0 : Int32)))), (j3, .inl (cI, 60, .inl (fun _ => (0 : Int32)))), (j4, .inl (cI, 60, .inl (fun _ => (0 : Int32)))), (j5, .inl (cI, 60, .inl (fun _ => (0 : Int32)))), (j6, .inl (cI, 40, .inl (fun _ => (0 : Int32)))), (j7, .inl (cI, 40, .inl (fun _ => (0 : Int32)))), (j8, .inl (cI, 40, .inl (fun _ => (0 : Int32)))), (v5, .inr (3, [.ref po, .int 0])), (po, .inl (cI, 36, .inl (fun _ => (0 : Int32)))), (nw, .inr (9, [.ref w0, .ref w1, .ref w2, .ref w3, .ref w4, .ref w5, .int 0, .int 40, .int 0])), (w0, .inl (cI, 12, .inl (fun _ => (2 : Int32)))), (w1, .inl (cI, 40, .inl (fun _ => (0 : Int32)))), (w2, .inl (cI, 40, .inl (fun _ => (0 : Int32)))), (w3, .inl (cI, 20, .inl (fun _ => (0 : Int32)))), (w4, .inr (8, [.ref k0, .ref k1, .ref k2, .ref k3, .ref k4, .ref k5, .ref k6, .ref k7, .ref k8, .int 0])), (k0, .inl (cI, 60, .inl (fun _ => (0 : Int32)))), (k1, .inl (cI, 60, .inl (fun _ => (0 : Int32)))), (k2, .inl (cI, 60, .inl (fun _ => (0 : Int32)))), (k3, .inl (cI, 60, .inl (fun _ => (0 : Int32)))), (k4, .inl (cI, 60, .inl (fun _ => (0 : Int32)))), (k5, .inl (cI, 60, .inl (fun _ => (0 : Int32)))), (k6, .inl (cI, 40, .inl (fun _ => (0 : Int32)))), (k7, .inl (cI, 40, .inl (fun _ => (0 : Int32)))), (k8, .inl (cI, 40, .inl (fun _ => (0 : Int32)))), (w5, .inr (3, [.ref pf, .int 0])), (pf, .inl (cI, 36, .inl (fun _ => (0 : Int32))))] := hD
        refine lv_aload_n hx hb dX10_joined_36 rfl (lv_at hl 0 rfl) ?_
        refine va_get (D := D) (ci := 10) (v := .ref nw) (C := RX10) (T := TX10) (N := 13) hx hb hT giX10 hown hK hP 0 rfl rfl 0 (by decide) (hT (Cond.fieldLink RX10 12 "DesertWire" "now" "LDesertWire$World;") mw_291) (fun _ h9 => h9) rfl dX10_joined_37 ?_
        refine va_get (D := D) (ci := 9) (v := .int 0) (C := RX9) (T := TX9) (N := 9) hx hb hT giX9 hown hK hP 19 rfl rfl 8 (by decide) (hT (Cond.fieldLink RX10 109 "DesertWire$World" "day" "I") mw_110) (fun _ h9 => h9) rfl dX10_joined_40 ?_
        refine lv_sipush (v := 200) hx hb dX10_joined_43 (by decide) ?_
        refine k_iadd (v := 200) hx hb dX10_joined_46 (by decide) ?_
        refine lv_sipush (v := 2000) hx hb dX10_joined_47 (by decide) ?_
        refine va_mmin hx hb (hml.trans hl.1.symm) hown (hT _ mw_830) (hT _ mw_538) (hT _ mw_13) (hT _ mw_539) (Nat.le_of_ble_eq_true rfl) (Nat.le_of_ble_eq_true rfl) (Nat.le_of_ble_eq_true rfl) (Nat.le_of_ble_eq_true rfl) dX10_joined_50 ?_
        rw [show (if (2000 : Int32) < 200 then (2000 : Int32) else 200 : Int32) = 200 from by decide]
        refine lv_istore_n (lv' := [(3, .int 200), (0, .ref x), (1, .int a), (2, .int b)]) hx hb dX10_joined_53 rfl hl (by decide) rfl (fun ls hl => ?_)
        refine lv_aload_n hx hb dX10_joined_54 rfl (lv_at hl 1 rfl) ?_
        refine va_get (D := D) (ci := 10) (v := .ref nw) (C := RX10) (T := TX10) (N := 13) hx hb hT giX10 hown hK hP 0 rfl rfl 0 (by decide) (hT (Cond.fieldLink RX10 12 "DesertWire" "now" "LDesertWire$World;") mw_291) (fun _ h9 => h9) rfl dX10_joined_55 ?_
        refine va_get (D := D) (ci := 9) (v := .int 0) (C := RX9) (T := TX9) (N := 9) hx hb hT giX9 hown hK hP 19 rfl rfl 8 (by decide) (hT (Cond.fieldLink RX10 109 "DesertWire$World" "day" "I") mw_110) (fun _ h9 => h9) rfl dX10_joined_58 ?_
        refine lv_istore (lv' := [(4, .int 0), (3, .int 200), (0, .ref x), (1, .int a), (2, .int b)]) hx hb dX10_joined_61 hl (by decide) rfl (fun ls hl => ?_)
        have hloop_63 : ∀ (fu_ : Nat) (i : Int32) (dq : Int32), 0 ≤ i.toInt → i.toInt ≤ 201 → dq.toInt = i.toInt → (201 - i.toInt).toNat < fu_ → ∀ (ls : Array Slot) (H : Heap) (locs : List Loc), lv_has ls 5 [(4, .int i), (3, .int 200), (0, .ref x), (1, .int a), (2, .int b)] → va_P D vwCl [(x, .inr (10, [.ref nw, .ref kp, .ref fu, .ref ra, .ref kr, .ref rd, .ref wd, .ref ld, .ref mt, .ref vo, .ref sh, .ref fd, .int im])), (fd, .inl (cI, 6, .inl ff)), (fu, .inr (9, [.ref v0, .ref v1, .ref v2, .ref v3, .ref v4, .ref v5, .int 0, .int 40, .int dq])), (v0, .inl (cI, 12, .inl (fun _ => (2 : Int32)))), (v1, .inl (cI, 40, .inl (fun _ => (0 : Int32)))), (v2, .inl (cI, 40, .inl (fun _ => (0 : Int32)))), (v3, .inl (cI, 20, .inl (fun _ => (0 : Int32)))), (v4, .inr (8, [.ref j0, .ref j1, .ref j2, .ref j3, .ref j4, .ref j5, .ref j6, .ref j7, .ref j8, .int 0])), (j0, .inl (cI, 60, .inl (fun _ => (0 : Int32)))), (j1, .inl (cI, 60, .inl (fun _ => (0 : Int32)))), (j2, .inl (cI, 60, .inl (fun _ => (0 : Int32)))), (j3, .inl (cI, 60, .inl (fun _ => (0 : Int32)))), (j4, .inl (cI, 60, .inl (fun _ => (0 : Int32)))), (j5, .inl (cI, 60, .inl (fun _ => (0 : Int32)))), (j6, .inl (cI, 40, .inl (fun _ => (0 : Int32)))), (j7, .inl (cI, 40, .inl (fun _ => (0 : Int32)))), (j8, .inl (cI, 40, .inl (fun _ => (0 : Int32)))), (v5, .inr (3, [.ref po, .int 0])), (po, .inl (cI, 36, .inl (fun _ => (0 : Int32)))), (nw, .inr (9, [.ref w0, .ref w1, .ref w2, .ref w3, .ref w4, .ref w5, .int 0, .int 40, .int 0])), (w0, .inl (cI, 12, .inl (fun _ => (2 : Int32)))), (w1, .inl (cI, 40, .inl (fun _ => (0 : Int32)))), (w2, .inl (cI, 40, .inl (fun _ => (0 : Int32)))), (w3, .inl (cI, 20, .inl (fun _ => (0 : Int32)))), (w4, .inr (8, [.ref k0, .ref k1, .ref k2, .ref k3, .ref k4, .ref k5, .ref k6, .ref k7, .ref k8, .int 0])), (k0, .inl (cI, 60, .inl (fun _ => (0 : Int32)))), (k1, .inl (cI, 60, .inl (fun _ => (0 : Int32)))), (k2, .inl (cI, 60, .inl (fun _ => (0 : Int32)))), (k3, .inl (cI, 60, .inl (fun _ => (0 : Int32)))), (k4, .inl (cI, 60, .inl (fun _ => (0 : Int32)))), (k5, .inl (cI, 60, .inl (fun _ => (0 : Int32)))), (k6, .inl (cI, 40, .inl (fun _ => (0 : Int32)))), (k7, .inl (cI, 40, .inl (fun _ => (0 : Int32)))), (k8, .inl (cI, 40, .inl (fun _ => (0 : Int32)))), (w5, .inr (3, [.ref pf, .int 0])), (pf, .inl (cI, 36, .inl (fun _ => (0 : Int32))))] H → va_D A [(x, .inr (10, [.ref nw, .ref kp, .ref fu, .ref ra, .ref kr, .ref rd, .ref wd, .ref ld, .ref mt, .ref vo, .ref sh, .ref fd, .int im])), (fd, .inl (cI, 6, .inl ff)), (fu, .inr (9, [.ref v0, .ref v1, .ref v2, .ref v3, .ref v4, .ref v5, .int 0, .int 40, .int dq])), (v0, .inl (cI, 12, .inl (fun _ => (2 : Int32)))), (v1, .inl (cI, 40, .inl (fun _ => (0 : Int32)))), (v2, .inl (cI, 40, .inl (fun _ => (0 : Int32)))), (v3, .inl (cI, 20, .inl (fun _ => (0 : Int32)))), (v4, .inr (8, [.ref j0, .ref j1, .ref j2, .ref j3, .ref j4, .ref j5, .ref j6, .ref j7, .ref j8, .int 0])), (j0, .inl (cI, 60, .inl (fun _ => (0 : Int32)))), (j1, .inl (cI, 60, .inl (fun _ => (0 : Int32)))), (j2, .inl (cI, 60, .inl (fun _ => (0 : Int32)))), (j3, .inl (cI, 60, .inl (fun _ => (0 : Int32)))), (j4, .inl (cI, 60, .inl (fun _ => (0 : Int32)))), (j5, .inl (cI, 60, .inl (fun _ => (0 : Int32)))), (j6, .inl (cI, 40, .inl (fun _ => (0 : Int32)))), (j7, .inl (cI, 40, .inl (fun _ => (0 : Int32)))), (j8, .inl (cI, 40, .inl (fun _ => (0 : Int32)))), (v5, .inr (3, [.ref po, .int 0])), (po, .inl (cI, 36, .inl (fun _ => (0 : Int32)))), (nw, .inr (9, [.ref w0, .ref w1, .ref w2, .ref w3, .ref w4, .ref w5, .int 0, .int 40, .int 0])), (w0, .inl (cI, 12, .inl (fun _ => (2 : Int32)))), (w1, .inl (cI, 40, .inl (fun _ => (0 : Int32)))), (w2, .inl (cI, 40, .inl (fun _ => (0 : Int32)))), (w3, .inl (cI, 20, .inl (fun _ => (0 : Int32)))), (w4, .inr (8, [.ref k0, .ref k1, .ref k2, .ref k3, .ref k4, .ref k5, .ref k6, .ref k7, .ref k8, .int 0])), (k0, .inl (cI, 60, .inl (fun _ => (0 : Int32)))), (k1, .inl (cI, 60, .inl (fun _ => (0 : Int32)))), (k2, .inl (cI, 60, .inl (fun _ => (0 : Int32)))), (k3, .inl (cI, 60, .inl (fun _ => (0 : Int32)))), (k4, .inl (cI, 60, .inl (fun _ => (0 : Int32)))), (k5, .inl (cI, 60, .inl (fun _ => (0 : Int32)))), (k6, .inl (cI, 40, .inl (fun _ => (0 : Int32)))), (k7, .inl (cI, 40, .inl (fun _ => (0 : Int32)))), (k8, .inl (cI, 40, .inl (fun _ => (0 : Int32)))), (w5, .inr (3, [.ref pf, .int 0])), (pf, .inl (cI, 36, .inl (fun _ => (0 : Int32))))] → va_S A s.heap H locs → W p l e ({ frames := 3, cells := 0, slots := 0, locals := 106 } : Room) s m args below meth c H locs 0 0 Q (F0 m 63 ls []) := by
          intro fu_; induction fu_ with
          | zero => intro i dq i63_0 i63_1 i63_2 hm; exact absurd hm (by omega)
          | succ fu_ ih63 =>
              intro i dq i63_0 i63_1 i63_2 hm ls H locs hl hP hD hS
              have lo_i := k_lo i
              have hi_i := k_hi i
              have lo_dq := k_lo dq
              have hi_dq := k_hi dq
              refine lv_iload hx hb dX10_joined_63 (lv_at hl 0 rfl) ?_
              refine lv_iload_n hx hb dX10_joined_65 rfl (lv_at hl 1 rfl) ?_
              refine b_icmp_gt hx hb rfl zl_200 (tgt := 100) dX10_joined_66 (by decide) (fun c_19 => ?_) (fun c_19 => ?_)
              · refine lv_aload_n hx hb dX10_joined_100 rfl (lv_at hl 2 rfl) ?_
                refine lv_iconst (v := 2) hx hb dX10_joined_101 (by decide) ?_
                refine kJi (wr := [(fu, .inr (9, [.ref v0, .ref v1, .ref v2, .ref v3, .ref v4, .ref v5, .int 0, .int 40, .int dq])), (v0, .inl (cI, 12, .inl (fun _ => (2 : Int32)))), (v1, .inl (cI, 40, .inl (fun _ => (0 : Int32)))), (v2, .inl (cI, 40, .inl (fun _ => (0 : Int32)))), (v3, .inl (cI, 20, .inl (fun _ => (0 : Int32)))), (v4, .inr (8, [.ref j0, .ref j1, .ref j2, .ref j3, .ref j4, .ref j5, .ref j6, .ref j7, .ref j8, .int 0])), (j0, .inl (cI, 60, .inl (fun _ => (0 : Int32)))), (j1, .inl (cI, 60, .inl (fun _ => (0 : Int32)))), (j2, .inl (cI, 60, .inl (fun _ => (0 : Int32)))), (j3, .inl (cI, 60, .inl (fun _ => (0 : Int32)))), (j4, .inl (cI, 60, .inl (fun _ => (0 : Int32)))), (j5, .inl (cI, 60, .inl (fun _ => (0 : Int32)))), (j6, .inl (cI, 40, .inl (fun _ => (0 : Int32)))), (j7, .inl (cI, 40, .inl (fun _ => (0 : Int32)))), (j8, .inl (cI, 40, .inl (fun _ => (0 : Int32)))), (v5, .inr (3, [.ref po, .int 0])), (po, .inl (cI, 36, .inl (fun _ => (0 : Int32)))), (nw, .inr (9, [.ref w0, .ref w1, .ref w2, .ref w3, .ref w4, .ref w5, .int 0, .int 40, .int 0])), (w0, .inl (cI, 12, .inl (fun _ => (2 : Int32)))), (w1, .inl (cI, 40, .inl (fun _ => (0 : Int32)))), (w2, .inl (cI, 40, .inl (fun _ => (0 : Int32)))), (w3, .inl (cI, 20, .inl (fun _ => (0 : Int32)))), (w4, .inr (8, [.ref k0, .ref k1, .ref k2, .ref k3, .ref k4, .ref k5, .ref k6, .ref k7, .ref k8, .int 0])), (k0, .inl (cI, 60, .inl (fun _ => (0 : Int32)))), (k1, .inl (cI, 60, .inl (fun _ => (0 : Int32)))), (k2, .inl (cI, 60, .inl (fun _ => (0 : Int32)))), (k3, .inl (cI, 60, .inl (fun _ => (0 : Int32)))), (k4, .inl (cI, 60, .inl (fun _ => (0 : Int32)))), (k5, .inl (cI, 60, .inl (fun _ => (0 : Int32)))), (k6, .inl (cI, 40, .inl (fun _ => (0 : Int32)))), (k7, .inl (cI, 40, .inl (fun _ => (0 : Int32)))), (k8, .inl (cI, 40, .inl (fun _ => (0 : Int32)))), (w5, .inr (3, [.ref pf, .int 0])), (pf, .inl (cI, 36, .inl (fun _ => (0 : Int32))))]) (va_runV (As := [.int 2]) (rest := []) ⟨hx, hb, hml, hown, hT⟩ (c_X10_finding l D cI x nw kp fu ra kr rd wd ld mt vo sh fd H.size im ff 2 (by first | omega | (simp only [zl_2] <;> omega) | decide | assumption | rfl) (by first | omega | (simp only [zl_2] <;> omega) | decide | assumption | rfl)) (cwV 1 hT (gV_in mw_338 mw_335 mw_337 mw_p1_0 mw_1) rfl rfl rfl (by decide +kernel) ⟨Nat.le_of_ble_eq_true rfl, Nat.le_of_ble_eq_true rfl⟩) (kRecv (own := "") (q0 := 0) (ci := 10) hK hP hD hN rfl rfl [0, 1] rfl (by decide)) rfl rfl hl.1 rfl (lv_room (Nat.le_of_ble_eq_true rfl)) dX10_joined_102 ⟨Nat.le_of_ble_eq_true rfl, Nat.le_of_ble_eq_true rfl⟩) hP hD hS hA [0, 1] [2, 3, 4, 5, 6, 7, 8, 9, 10, 11, 12, 13, 14, 15, 16, 17, 18, 19, 20, 21, 22, 23, 24, 25, 26, 27, 28, 29, 30, 31, 32, 33, 34, 35] rfl rfl (by decide) (by decide) (fun r_20 u_22 H locs w_21 hP hD hS => ?_)
                have hP : va_P D vwCl [(fu, .inr (9, [.ref v0, .ref v1, .ref v2, .ref v3, .ref v4, .ref v5, .int 0, .int 40, .int dq])), (v0, .inl (cI, 12, .inl (fun _ => (2 : Int32)))), (v1, .inl (cI, 40, .inl (fun _ => (0 : Int32)))), (v2, .inl (cI, 40, .inl (fun _ => (0 : Int32)))), (v3, .inl (cI, 20, .inl (fun _ => (0 : Int32)))), (v4, .inr (8, [.ref j0, .ref j1, .ref j2, .ref j3, .ref j4, .ref j5, .ref j6, .ref j7, .ref j8, .int 0])), (j0, .inl (cI, 60, .inl (fun _ => (0 : Int32)))), (j1, .inl (cI, 60, .inl (fun _ => (0 : Int32)))), (j2, .inl (cI, 60, .inl (fun _ => (0 : Int32)))), (j3, .inl (cI, 60, .inl (fun _ => (0 : Int32)))), (j4, .inl (cI, 60, .inl (fun _ => (0 : Int32)))), (j5, .inl (cI, 60, .inl (fun _ => (0 : Int32)))), (j6, .inl (cI, 40, .inl (fun _ => (0 : Int32)))), (j7, .inl (cI, 40, .inl (fun _ => (0 : Int32)))), (j8, .inl (cI, 40, .inl (fun _ => (0 : Int32)))), (v5, .inr (3, [.ref po, .int 0])), (po, .inl (cI, 36, .inl (fun _ => (0 : Int32)))), (nw, .inr (9, [.ref w0, .ref w1, .ref w2, .ref w3, .ref w4, .ref w5, .int 0, .int 40, .int 0])), (w0, .inl (cI, 12, .inl (fun _ => (2 : Int32)))), (w1, .inl (cI, 40, .inl (fun _ => (0 : Int32)))), (w2, .inl (cI, 40, .inl (fun _ => (0 : Int32)))), (w3, .inl (cI, 20, .inl (fun _ => (0 : Int32)))), (w4, .inr (8, [.ref k0, .ref k1, .ref k2, .ref k3, .ref k4, .ref k5, .ref k6, .ref k7, .ref k8, .int 0])), (k0, .inl (cI, 60, .inl (fun _ => (0 : Int32)))), (k1, .inl (cI, 60, .inl (fun _ => (0 : Int32)))), (k2, .inl (cI, 60, .inl (fun _ => (0 : Int32)))), (k3, .inl (cI, 60, .inl (fun _ => (0 : Int32)))), (k4, .inl (cI, 60, .inl (fun _ => (0 : Int32)))), (k5, .inl (cI, 60, .inl (fun _ => (0 : Int32)))), (k6, .inl (cI, 40, .inl (fun _ => (0 : Int32)))), (k7, .inl (cI, 40, .inl (fun _ => (0 : Int32)))), (k8, .inl (cI, 40, .inl (fun _ => (0 : Int32)))), (w5, .inr (3, [.ref pf, .int 0])), (pf, .inl (cI, 36, .inl (fun _ => (0 : Int32))))] H := hP
                have hD : va_D A [(fu, .inr (9, [.ref v0, .ref v1, .ref v2, .ref v3, .ref v4, .ref v5, .int 0, .int 40, .int dq])), (v0, .inl (cI, 12, .inl (fun _ => (2 : Int32)))), (v1, .inl (cI, 40, .inl (fun _ => (0 : Int32)))), (v2, .inl (cI, 40, .inl (fun _ => (0 : Int32)))), (v3, .inl (cI, 20, .inl (fun _ => (0 : Int32)))), (v4, .inr (8, [.ref j0, .ref j1, .ref j2, .ref j3, .ref j4, .ref j5, .ref j6, .ref j7, .ref j8, .int 0])), (j0, .inl (cI, 60, .inl (fun _ => (0 : Int32)))), (j1, .inl (cI, 60, .inl (fun _ => (0 : Int32)))), (j2, .inl (cI, 60, .inl (fun _ => (0 : Int32)))), (j3, .inl (cI, 60, .inl (fun _ => (0 : Int32)))), (j4, .inl (cI, 60, .inl (fun _ => (0 : Int32)))), (j5, .inl (cI, 60, .inl (fun _ => (0 : Int32)))), (j6, .inl (cI, 40, .inl (fun _ => (0 : Int32)))), (j7, .inl (cI, 40, .inl (fun _ => (0 : Int32)))), (j8, .inl (cI, 40, .inl (fun _ => (0 : Int32)))), (v5, .inr (3, [.ref po, .int 0])), (po, .inl (cI, 36, .inl (fun _ => (0 : Int32)))), (nw, .inr (9, [.ref w0, .ref w1, .ref w2, .ref w3, .ref w4, .ref w5, .int 0, .int 40, .int 0])), (w0, .inl (cI, 12, .inl (fun _ => (2 : Int32)))), (w1, .inl (cI, 40, .inl (fun _ => (0 : Int32)))), (w2, .inl (cI, 40, .inl (fun _ => (0 : Int32)))), (w3, .inl (cI, 20, .inl (fun _ => (0 : Int32)))), (w4, .inr (8, [.ref k0, .ref k1, .ref k2, .ref k3, .ref k4, .ref k5, .ref k6, .ref k7, .ref k8, .int 0])), (k0, .inl (cI, 60, .inl (fun _ => (0 : Int32)))), (k1, .inl (cI, 60, .inl (fun _ => (0 : Int32)))), (k2, .inl (cI, 60, .inl (fun _ => (0 : Int32)))), (k3, .inl (cI, 60, .inl (fun _ => (0 : Int32)))), (k4, .inl (cI, 60, .inl (fun _ => (0 : Int32)))), (k5, .inl (cI, 60, .inl (fun _ => (0 : Int32)))), (k6, .inl (cI, 40, .inl (fun _ => (0 : Int32)))), (k7, .inl (cI, 40, .inl (fun _ => (0 : Int32)))), (k8, .inl (cI, 40, .inl (fun _ => (0 : Int32)))), (w5, .inr (3, [.ref pf, .int 0])), (pf, .inl (cI, 36, .inl (fun _ => (0 : Int32))))] := hD
                have hr_20 := w_21
                obtain rfl : r_20 = (-1000002) := hr_20.trans (by decide)
                exact hRet () [] (by unfold sp_joined; repeat (first | rw [if_pos (by omega)] | rw [if_neg (by omega)])) hP hD (by decide) rfl hS rfl dX10_joined_105
              · refine lv_aload_n hx hb dX10_joined_69 rfl (lv_at hl 2 rfl) ?_
                refine va_get (D := D) (ci := 10) (v := .ref fu) (C := RX10) (T := TX10) (N := 13) hx hb hT giX10 hown hK hP 0 rfl rfl 2 (by decide) (hT (Cond.fieldLink RX10 19 "DesertWire" "future" "LDesertWire$World;") mw_293) (fun _ h9 => h9) rfl dX10_joined_70 ?_
                refine va_get (D := D) (ci := 9) (v := .ref v4) (C := RX9) (T := TX9) (N := 9) hx hb hT giX9 hown hK hP 2 rfl rfl 4 (by decide) (hT (Cond.fieldLink RX10 99 "DesertWire$World" "works" "LDesertWire$Works;") mw_99) (fun _ h9 => h9) rfl dX10_joined_73 ?_
                refine lv_iload_n hx hb dX10_joined_76 rfl (lv_at hl 3 rfl) ?_
                refine lv_iload_n hx hb dX10_joined_77 rfl (lv_at hl 4 rfl) ?_
                refine kJi (wr := [(x, .inr (10, [.ref nw, .ref kp, .ref fu, .ref ra, .ref kr, .ref rd, .ref wd, .ref ld, .ref mt, .ref vo, .ref sh, .ref fd, .int im])), (fd, .inl (cI, 6, .inl ff)), (fu, .inr (9, [.ref v0, .ref v1, .ref v2, .ref v3, .ref v4, .ref v5, .int 0, .int 40, .int dq])), (v0, .inl (cI, 12, .inl (fun _ => (2 : Int32)))), (v1, .inl (cI, 40, .inl (fun _ => (0 : Int32)))), (v2, .inl (cI, 40, .inl (fun _ => (0 : Int32)))), (v3, .inl (cI, 20, .inl (fun _ => (0 : Int32)))), (j0, .inl (cI, 60, .inl (fun _ => (0 : Int32)))), (j1, .inl (cI, 60, .inl (fun _ => (0 : Int32)))), (j2, .inl (cI, 60, .inl (fun _ => (0 : Int32)))), (j3, .inl (cI, 60, .inl (fun _ => (0 : Int32)))), (j4, .inl (cI, 60, .inl (fun _ => (0 : Int32)))), (j5, .inl (cI, 60, .inl (fun _ => (0 : Int32)))), (j7, .inl (cI, 40, .inl (fun _ => (0 : Int32)))), (j8, .inl (cI, 40, .inl (fun _ => (0 : Int32)))), (v5, .inr (3, [.ref po, .int 0])), (po, .inl (cI, 36, .inl (fun _ => (0 : Int32)))), (nw, .inr (9, [.ref w0, .ref w1, .ref w2, .ref w3, .ref w4, .ref w5, .int 0, .int 40, .int 0])), (w0, .inl (cI, 12, .inl (fun _ => (2 : Int32)))), (w1, .inl (cI, 40, .inl (fun _ => (0 : Int32)))), (w2, .inl (cI, 40, .inl (fun _ => (0 : Int32)))), (w3, .inl (cI, 20, .inl (fun _ => (0 : Int32)))), (w4, .inr (8, [.ref k0, .ref k1, .ref k2, .ref k3, .ref k4, .ref k5, .ref k6, .ref k7, .ref k8, .int 0])), (k0, .inl (cI, 60, .inl (fun _ => (0 : Int32)))), (k1, .inl (cI, 60, .inl (fun _ => (0 : Int32)))), (k2, .inl (cI, 60, .inl (fun _ => (0 : Int32)))), (k3, .inl (cI, 60, .inl (fun _ => (0 : Int32)))), (k4, .inl (cI, 60, .inl (fun _ => (0 : Int32)))), (k5, .inl (cI, 60, .inl (fun _ => (0 : Int32)))), (k6, .inl (cI, 40, .inl (fun _ => (0 : Int32)))), (k7, .inl (cI, 40, .inl (fun _ => (0 : Int32)))), (k8, .inl (cI, 40, .inl (fun _ => (0 : Int32)))), (w5, .inr (3, [.ref pf, .int 0])), (pf, .inl (cI, 36, .inl (fun _ => (0 : Int32))))]) (va_runV (As := [.int a, .int b]) (rest := []) ⟨hx, hb, hml, hown, hT⟩ (c_X8_isWiredFrom l D cI v4 j0 j1 j2 j3 j4 j5 j6 j7 j8 H.size 0 a b (by first | omega | (simp only [zl_0] <;> omega) | decide | assumption | rfl) (by first | omega | (simp only [zl_0] <;> omega) | decide | assumption | rfl) (by first | omega | (simp only [zl_0] <;> omega) | decide | assumption | rfl)) (cwV 2 hT (gV_in mw_1037 mw_1034 mw_1035 mw_1036 mw_3) rfl rfl rfl (by decide +kernel) ⟨Nat.le_of_ble_eq_true rfl, Nat.le_of_ble_eq_true rfl⟩) (kRecv (own := "") (q0 := 7) (ci := 8) hK hP hD hN rfl rfl [7, 14] rfl (by decide)) rfl rfl hl.1 rfl (lv_room (Nat.le_of_ble_eq_true rfl)) dX10_joined_78 ⟨Nat.le_of_ble_eq_true rfl, Nat.le_of_ble_eq_true rfl⟩) hP hD hS hA [7, 14] [0, 1, 2, 3, 4, 5, 6, 8, 9, 10, 11, 12, 13, 15, 16, 17, 18, 19, 20, 21, 22, 23, 24, 25, 26, 27, 28, 29, 30, 31, 32, 33, 34, 35] rfl rfl (by decide) (by decide) (fun r_23 u_25 H locs w_24 hP hD hS => ?_)
                have hP : va_P D vwCl [(x, .inr (10, [.ref nw, .ref kp, .ref fu, .ref ra, .ref kr, .ref rd, .ref wd, .ref ld, .ref mt, .ref vo, .ref sh, .ref fd, .int im])), (fd, .inl (cI, 6, .inl ff)), (fu, .inr (9, [.ref v0, .ref v1, .ref v2, .ref v3, .ref v4, .ref v5, .int 0, .int 40, .int dq])), (v0, .inl (cI, 12, .inl (fun _ => (2 : Int32)))), (v1, .inl (cI, 40, .inl (fun _ => (0 : Int32)))), (v2, .inl (cI, 40, .inl (fun _ => (0 : Int32)))), (v3, .inl (cI, 20, .inl (fun _ => (0 : Int32)))), (j0, .inl (cI, 60, .inl (fun _ => (0 : Int32)))), (j1, .inl (cI, 60, .inl (fun _ => (0 : Int32)))), (j2, .inl (cI, 60, .inl (fun _ => (0 : Int32)))), (j3, .inl (cI, 60, .inl (fun _ => (0 : Int32)))), (j4, .inl (cI, 60, .inl (fun _ => (0 : Int32)))), (j5, .inl (cI, 60, .inl (fun _ => (0 : Int32)))), (j7, .inl (cI, 40, .inl (fun _ => (0 : Int32)))), (j8, .inl (cI, 40, .inl (fun _ => (0 : Int32)))), (v5, .inr (3, [.ref po, .int 0])), (po, .inl (cI, 36, .inl (fun _ => (0 : Int32)))), (nw, .inr (9, [.ref w0, .ref w1, .ref w2, .ref w3, .ref w4, .ref w5, .int 0, .int 40, .int 0])), (w0, .inl (cI, 12, .inl (fun _ => (2 : Int32)))), (w1, .inl (cI, 40, .inl (fun _ => (0 : Int32)))), (w2, .inl (cI, 40, .inl (fun _ => (0 : Int32)))), (w3, .inl (cI, 20, .inl (fun _ => (0 : Int32)))), (w4, .inr (8, [.ref k0, .ref k1, .ref k2, .ref k3, .ref k4, .ref k5, .ref k6, .ref k7, .ref k8, .int 0])), (k0, .inl (cI, 60, .inl (fun _ => (0 : Int32)))), (k1, .inl (cI, 60, .inl (fun _ => (0 : Int32)))), (k2, .inl (cI, 60, .inl (fun _ => (0 : Int32)))), (k3, .inl (cI, 60, .inl (fun _ => (0 : Int32)))), (k4, .inl (cI, 60, .inl (fun _ => (0 : Int32)))), (k5, .inl (cI, 60, .inl (fun _ => (0 : Int32)))), (k6, .inl (cI, 40, .inl (fun _ => (0 : Int32)))), (k7, .inl (cI, 40, .inl (fun _ => (0 : Int32)))), (k8, .inl (cI, 40, .inl (fun _ => (0 : Int32)))), (w5, .inr (3, [.ref pf, .int 0])), (pf, .inl (cI, 36, .inl (fun _ => (0 : Int32)))), (v4, .inr (8, [.ref j0, .ref j1, .ref j2, .ref j3, .ref j4, .ref j5, .ref j6, .ref j7, .ref j8, .int 0])), (j6, .inl (cI, 40, .inl (fun _ => (0 : Int32))))] H := hP
                have hD : va_D A [(x, .inr (10, [.ref nw, .ref kp, .ref fu, .ref ra, .ref kr, .ref rd, .ref wd, .ref ld, .ref mt, .ref vo, .ref sh, .ref fd, .int im])), (fd, .inl (cI, 6, .inl ff)), (fu, .inr (9, [.ref v0, .ref v1, .ref v2, .ref v3, .ref v4, .ref v5, .int 0, .int 40, .int dq])), (v0, .inl (cI, 12, .inl (fun _ => (2 : Int32)))), (v1, .inl (cI, 40, .inl (fun _ => (0 : Int32)))), (v2, .inl (cI, 40, .inl (fun _ => (0 : Int32)))), (v3, .inl (cI, 20, .inl (fun _ => (0 : Int32)))), (j0, .inl (cI, 60, .inl (fun _ => (0 : Int32)))), (j1, .inl (cI, 60, .inl (fun _ => (0 : Int32)))), (j2, .inl (cI, 60, .inl (fun _ => (0 : Int32)))), (j3, .inl (cI, 60, .inl (fun _ => (0 : Int32)))), (j4, .inl (cI, 60, .inl (fun _ => (0 : Int32)))), (j5, .inl (cI, 60, .inl (fun _ => (0 : Int32)))), (j7, .inl (cI, 40, .inl (fun _ => (0 : Int32)))), (j8, .inl (cI, 40, .inl (fun _ => (0 : Int32)))), (v5, .inr (3, [.ref po, .int 0])), (po, .inl (cI, 36, .inl (fun _ => (0 : Int32)))), (nw, .inr (9, [.ref w0, .ref w1, .ref w2, .ref w3, .ref w4, .ref w5, .int 0, .int 40, .int 0])), (w0, .inl (cI, 12, .inl (fun _ => (2 : Int32)))), (w1, .inl (cI, 40, .inl (fun _ => (0 : Int32)))), (w2, .inl (cI, 40, .inl (fun _ => (0 : Int32)))), (w3, .inl (cI, 20, .inl (fun _ => (0 : Int32)))), (w4, .inr (8, [.ref k0, .ref k1, .ref k2, .ref k3, .ref k4, .ref k5, .ref k6, .ref k7, .ref k8, .int 0])), (k0, .inl (cI, 60, .inl (fun _ => (0 : Int32)))), (k1, .inl (cI, 60, .inl (fun _ => (0 : Int32)))), (k2, .inl (cI, 60, .inl (fun _ => (0 : Int32)))), (k3, .inl (cI, 60, .inl (fun _ => (0 : Int32)))), (k4, .inl (cI, 60, .inl (fun _ => (0 : Int32)))), (k5, .inl (cI, 60, .inl (fun _ => (0 : Int32)))), (k6, .inl (cI, 40, .inl (fun _ => (0 : Int32)))), (k7, .inl (cI, 40, .inl (fun _ => (0 : Int32)))), (k8, .inl (cI, 40, .inl (fun _ => (0 : Int32)))), (w5, .inr (3, [.ref pf, .int 0])), (pf, .inl (cI, 36, .inl (fun _ => (0 : Int32)))), (v4, .inr (8, [.ref j0, .ref j1, .ref j2, .ref j3, .ref j4, .ref j5, .ref j6, .ref j7, .ref j8, .int 0])), (j6, .inl (cI, 40, .inl (fun _ => (0 : Int32))))] := hD
                have hr_23 := w_24
                obtain rfl : r_23 = 0 := hr_23.trans (by decide)
                refine b_if_eq hx hb zl_0 (tgt := 87) dX10_joined_81 (by decide) (fun c_26 => ?_) (fun c_26 => by exfalso; omega)
                refine lv_aload_n hx hb dX10_joined_87 rfl (lv_at hl 2 rfl) ?_
                refine va_get (D := D) (ci := 10) (v := .ref fu) (C := RX10) (T := TX10) (N := 13) hx hb hT giX10 hown hK hP 0 rfl rfl 2 (by decide) (hT (Cond.fieldLink RX10 19 "DesertWire" "future" "LDesertWire$World;") mw_293) (fun _ h9 => h9) rfl dX10_joined_88 ?_
                refine kJv (wr := [(x, .inr (10, [.ref nw, .ref kp, .ref fu, .ref ra, .ref kr, .ref rd, .ref wd, .ref ld, .ref mt, .ref vo, .ref sh, .ref fd, .int im])), (fd, .inl (cI, 6, .inl ff)), (v0, .inl (cI, 12, .inl (fun _ => (2 : Int32)))), (v1, .inl (cI, 40, .inl (fun _ => (0 : Int32)))), (v2, .inl (cI, 40, .inl (fun _ => (0 : Int32)))), (v3, .inl (cI, 20, .inl (fun _ => (0 : Int32)))), (j0, .inl (cI, 60, .inl (fun _ => (0 : Int32)))), (j1, .inl (cI, 60, .inl (fun _ => (0 : Int32)))), (j2, .inl (cI, 60, .inl (fun _ => (0 : Int32)))), (j3, .inl (cI, 60, .inl (fun _ => (0 : Int32)))), (j4, .inl (cI, 60, .inl (fun _ => (0 : Int32)))), (j5, .inl (cI, 60, .inl (fun _ => (0 : Int32)))), (j7, .inl (cI, 40, .inl (fun _ => (0 : Int32)))), (j8, .inl (cI, 40, .inl (fun _ => (0 : Int32)))), (po, .inl (cI, 36, .inl (fun _ => (0 : Int32)))), (nw, .inr (9, [.ref w0, .ref w1, .ref w2, .ref w3, .ref w4, .ref w5, .int 0, .int 40, .int 0])), (w0, .inl (cI, 12, .inl (fun _ => (2 : Int32)))), (w1, .inl (cI, 40, .inl (fun _ => (0 : Int32)))), (w2, .inl (cI, 40, .inl (fun _ => (0 : Int32)))), (w3, .inl (cI, 20, .inl (fun _ => (0 : Int32)))), (w4, .inr (8, [.ref k0, .ref k1, .ref k2, .ref k3, .ref k4, .ref k5, .ref k6, .ref k7, .ref k8, .int 0])), (k0, .inl (cI, 60, .inl (fun _ => (0 : Int32)))), (k1, .inl (cI, 60, .inl (fun _ => (0 : Int32)))), (k2, .inl (cI, 60, .inl (fun _ => (0 : Int32)))), (k3, .inl (cI, 60, .inl (fun _ => (0 : Int32)))), (k4, .inl (cI, 60, .inl (fun _ => (0 : Int32)))), (k5, .inl (cI, 60, .inl (fun _ => (0 : Int32)))), (k6, .inl (cI, 40, .inl (fun _ => (0 : Int32)))), (k7, .inl (cI, 40, .inl (fun _ => (0 : Int32)))), (k8, .inl (cI, 40, .inl (fun _ => (0 : Int32)))), (w5, .inr (3, [.ref pf, .int 0])), (pf, .inl (cI, 36, .inl (fun _ => (0 : Int32)))), (j6, .inl (cI, 40, .inl (fun _ => (0 : Int32))))]) (va_runV (As := []) (rest := []) ⟨hx, hb, hml, hown, hT⟩ (c_X9_endDay l D cI fu v0 v1 v2 v3 v4 v5 j0 j1 j2 j3 j4 j5 j6 j7 j8 po H.size 0 40 dq (by first | omega | (simp only [zl_0, zl_40] <;> omega) | decide | assumption | rfl) (by first | omega | (simp only [zl_0, zl_40] <;> omega) | decide | assumption | rfl)) (cwV 0 hT (gV_in mw_967 mw_964 mw_965 mw_966 mw_2) rfl rfl rfl (by decide +kernel) ⟨Nat.le_of_ble_eq_true rfl, Nat.le_of_ble_eq_true rfl⟩) (kRecv (own := "") (q0 := 2) (ci := 9) hK hP hD hN rfl rfl [2, 34, 15] rfl (by decide)) rfl rfl hl.1 rfl (lv_room (Nat.le_of_ble_eq_true rfl)) dX10_joined_91 ⟨Nat.le_of_ble_eq_true rfl, Nat.le_of_ble_eq_true rfl⟩) hP hD hS hA [2, 34, 15] [0, 1, 3, 4, 5, 6, 7, 8, 9, 10, 11, 12, 13, 14, 16, 17, 18, 19, 20, 21, 22, 23, 24, 25, 26, 27, 28, 29, 30, 31, 32, 33, 35] rfl rfl (by decide) (by decide) (fun d2_29 H locs w_28 hP hD hS => ?_)
                have hP : va_P D vwCl [(x, .inr (10, [.ref nw, .ref kp, .ref fu, .ref ra, .ref kr, .ref rd, .ref wd, .ref ld, .ref mt, .ref vo, .ref sh, .ref fd, .int im])), (fd, .inl (cI, 6, .inl ff)), (v0, .inl (cI, 12, .inl (fun _ => (2 : Int32)))), (v1, .inl (cI, 40, .inl (fun _ => (0 : Int32)))), (v2, .inl (cI, 40, .inl (fun _ => (0 : Int32)))), (v3, .inl (cI, 20, .inl (fun _ => (0 : Int32)))), (j0, .inl (cI, 60, .inl (fun _ => (0 : Int32)))), (j1, .inl (cI, 60, .inl (fun _ => (0 : Int32)))), (j2, .inl (cI, 60, .inl (fun _ => (0 : Int32)))), (j3, .inl (cI, 60, .inl (fun _ => (0 : Int32)))), (j4, .inl (cI, 60, .inl (fun _ => (0 : Int32)))), (j5, .inl (cI, 60, .inl (fun _ => (0 : Int32)))), (j7, .inl (cI, 40, .inl (fun _ => (0 : Int32)))), (j8, .inl (cI, 40, .inl (fun _ => (0 : Int32)))), (po, .inl (cI, 36, .inl (fun _ => (0 : Int32)))), (nw, .inr (9, [.ref w0, .ref w1, .ref w2, .ref w3, .ref w4, .ref w5, .int 0, .int 40, .int 0])), (w0, .inl (cI, 12, .inl (fun _ => (2 : Int32)))), (w1, .inl (cI, 40, .inl (fun _ => (0 : Int32)))), (w2, .inl (cI, 40, .inl (fun _ => (0 : Int32)))), (w3, .inl (cI, 20, .inl (fun _ => (0 : Int32)))), (w4, .inr (8, [.ref k0, .ref k1, .ref k2, .ref k3, .ref k4, .ref k5, .ref k6, .ref k7, .ref k8, .int 0])), (k0, .inl (cI, 60, .inl (fun _ => (0 : Int32)))), (k1, .inl (cI, 60, .inl (fun _ => (0 : Int32)))), (k2, .inl (cI, 60, .inl (fun _ => (0 : Int32)))), (k3, .inl (cI, 60, .inl (fun _ => (0 : Int32)))), (k4, .inl (cI, 60, .inl (fun _ => (0 : Int32)))), (k5, .inl (cI, 60, .inl (fun _ => (0 : Int32)))), (k6, .inl (cI, 40, .inl (fun _ => (0 : Int32)))), (k7, .inl (cI, 40, .inl (fun _ => (0 : Int32)))), (k8, .inl (cI, 40, .inl (fun _ => (0 : Int32)))), (w5, .inr (3, [.ref pf, .int 0])), (pf, .inl (cI, 36, .inl (fun _ => (0 : Int32)))), (j6, .inl (cI, 40, .inl (fun _ => (0 : Int32)))), (fu, .inr (9, [.ref v0, .ref v1, .ref v2, .ref v3, .ref v4, .ref v5, .int 0, .int 40, .int d2_29])), (v4, .inr (8, [.ref j0, .ref j1, .ref j2, .ref j3, .ref j4, .ref j5, .ref j6, .ref j7, .ref j8, .int 0])), (v5, .inr (3, [.ref po, .int 0]))] H := hP
                have hD : va_D A [(x, .inr (10, [.ref nw, .ref kp, .ref fu, .ref ra, .ref kr, .ref rd, .ref wd, .ref ld, .ref mt, .ref vo, .ref sh, .ref fd, .int im])), (fd, .inl (cI, 6, .inl ff)), (v0, .inl (cI, 12, .inl (fun _ => (2 : Int32)))), (v1, .inl (cI, 40, .inl (fun _ => (0 : Int32)))), (v2, .inl (cI, 40, .inl (fun _ => (0 : Int32)))), (v3, .inl (cI, 20, .inl (fun _ => (0 : Int32)))), (j0, .inl (cI, 60, .inl (fun _ => (0 : Int32)))), (j1, .inl (cI, 60, .inl (fun _ => (0 : Int32)))), (j2, .inl (cI, 60, .inl (fun _ => (0 : Int32)))), (j3, .inl (cI, 60, .inl (fun _ => (0 : Int32)))), (j4, .inl (cI, 60, .inl (fun _ => (0 : Int32)))), (j5, .inl (cI, 60, .inl (fun _ => (0 : Int32)))), (j7, .inl (cI, 40, .inl (fun _ => (0 : Int32)))), (j8, .inl (cI, 40, .inl (fun _ => (0 : Int32)))), (po, .inl (cI, 36, .inl (fun _ => (0 : Int32)))), (nw, .inr (9, [.ref w0, .ref w1, .ref w2, .ref w3, .ref w4, .ref w5, .int 0, .int 40, .int 0])), (w0, .inl (cI, 12, .inl (fun _ => (2 : Int32)))), (w1, .inl (cI, 40, .inl (fun _ => (0 : Int32)))), (w2, .inl (cI, 40, .inl (fun _ => (0 : Int32)))), (w3, .inl (cI, 20, .inl (fun _ => (0 : Int32)))), (w4, .inr (8, [.ref k0, .ref k1, .ref k2, .ref k3, .ref k4, .ref k5, .ref k6, .ref k7, .ref k8, .int 0])), (k0, .inl (cI, 60, .inl (fun _ => (0 : Int32)))), (k1, .inl (cI, 60, .inl (fun _ => (0 : Int32)))), (k2, .inl (cI, 60, .inl (fun _ => (0 : Int32)))), (k3, .inl (cI, 60, .inl (fun _ => (0 : Int32)))), (k4, .inl (cI, 60, .inl (fun _ => (0 : Int32)))), (k5, .inl (cI, 60, .inl (fun _ => (0 : Int32)))), (k6, .inl (cI, 40, .inl (fun _ => (0 : Int32)))), (k7, .inl (cI, 40, .inl (fun _ => (0 : Int32)))), (k8, .inl (cI, 40, .inl (fun _ => (0 : Int32)))), (w5, .inr (3, [.ref pf, .int 0])), (pf, .inl (cI, 36, .inl (fun _ => (0 : Int32)))), (j6, .inl (cI, 40, .inl (fun _ => (0 : Int32)))), (fu, .inr (9, [.ref v0, .ref v1, .ref v2, .ref v3, .ref v4, .ref v5, .int 0, .int 40, .int d2_29])), (v4, .inr (8, [.ref j0, .ref j1, .ref j2, .ref j3, .ref j4, .ref j5, .ref j6, .ref j7, .ref j8, .int 0])), (v5, .inr (3, [.ref po, .int 0]))] := hD
                have lo_d2_29 := k_lo d2_29
                have hi_d2_29 := k_hi d2_29
                have h_30 := w_28
                try simp only [zl_0, zl_40] at h_30
                have h_30 : d2_29.toInt = dq.toInt + 1 := h_30
                obtain ⟨v_31, ev_31⟩ : ∃ y : Int32, y = i + 1 := ⟨_, rfl⟩
                have tv_31 : v_31.toInt = i.toInt + 1 := by rw [ev_31]; exact k_addv rfl zl_1 (by omega) (by omega)
                refine lv_iinc (v := v_31) (lv' := [(4, .int v_31), (3, .int 200), (0, .ref x), (1, .int a), (2, .int b)]) hx hb dX10_joined_94 hl (k := 0) rfl (by rw [ev_31]; rfl) (by decide) rfl (fun ls hl => ?_)
                refine lv_goto (tgt := 63) hx hb dX10_joined_97 (by decide) ?_
                exact ih63 v_31 d2_29 (by first | omega | decide | assumption | rfl) (by first | omega | decide | assumption | rfl) (by first | omega | decide | assumption | rfl) (by omega) ls _ _ (lv_sub hl [0, 1, 2, 3, 4] rfl) (hP.sub [0, 1, 33, 2, 3, 4, 5, 34, 6, 7, 8, 9, 10, 11, 32, 12, 13, 35, 14, 15, 16, 17, 18, 19, 20, 21, 22, 23, 24, 25, 26, 27, 28, 29, 30, 31] rfl) (hD.sub [0, 1, 33, 2, 3, 4, 5, 34, 6, 7, 8, 9, 10, 11, 32, 12, 13, 35, 14, 15, 16, 17, 18, 19, 20, 21, 22, 23, 24, 25, 26, 27, 28, 29, 30, 31] (by decide) rfl) hS
        exact hloop_63 _ 0 0 (by first | omega | (simp only [zl_0] <;> omega) | decide | assumption | rfl) (by first | omega | (simp only [zl_0] <;> omega) | decide | assumption | rfl) (by first | omega | (simp only [zl_0] <;> omega) | decide | assumption | rfl) (Nat.lt_succ_self _) ls _ _ (lv_sub hl [0, 1, 2, 3, 4] rfl) hP hD hS
      · refine lv_aload_n hx hb dX10_joined_19 rfl (lv_at hl 0 rfl) ?_
        refine lv_iconst (v := 1) hx hb dX10_joined_20 (by decide) ?_
        refine kJi (wr := [(nw, .inr (9, [.ref w0, .ref w1, .ref w2, .ref w3, .ref w4, .ref w5, .int 0, .int 40, .int 0])), (w0, .inl (cI, 12, .inl (fun _ => (2 : Int32)))), (w1, .inl (cI, 40, .inl (fun _ => (0 : Int32)))), (w2, .inl (cI, 40, .inl (fun _ => (0 : Int32)))), (w3, .inl (cI, 20, .inl (fun _ => (0 : Int32)))), (w4, .inr (8, [.ref k0, .ref k1, .ref k2, .ref k3, .ref k4, .ref k5, .ref k6, .ref k7, .ref k8, .int 0])), (k0, .inl (cI, 60, .inl (fun _ => (0 : Int32)))), (k1, .inl (cI, 60, .inl (fun _ => (0 : Int32)))), (k2, .inl (cI, 60, .inl (fun _ => (0 : Int32)))), (k3, .inl (cI, 60, .inl (fun _ => (0 : Int32)))), (k4, .inl (cI, 60, .inl (fun _ => (0 : Int32)))), (k5, .inl (cI, 60, .inl (fun _ => (0 : Int32)))), (k6, .inl (cI, 40, .inl (fun _ => (0 : Int32)))), (k7, .inl (cI, 40, .inl (fun _ => (0 : Int32)))), (k8, .inl (cI, 40, .inl (fun _ => (0 : Int32)))), (w5, .inr (3, [.ref pf, .int 0])), (pf, .inl (cI, 36, .inl (fun _ => (0 : Int32)))), (fu, .inr (9, [.ref v0, .ref v1, .ref v2, .ref v3, .ref v4, .ref v5, .int ywt, .int yre, .int ydy])), (v0, .inl (cI, 12, .inl ya0)), (v1, .inl (cI, 40, .inl ya1)), (v2, .inl (cI, 40, .inl ya2)), (v3, .inl (cI, 20, .inl ya3)), (v4, .inr (8, [.ref j0, .ref j1, .ref j2, .ref j3, .ref j4, .ref j5, .ref j6, .ref j7, .ref j8, .int yn])), (j0, .inl (cI, 60, .inl yb0)), (j1, .inl (cI, 60, .inl yb1)), (j2, .inl (cI, 60, .inl yb2)), (j3, .inl (cI, 60, .inl yb3)), (j4, .inl (cI, 60, .inl yb4)), (j5, .inl (cI, 60, .inl yb5)), (j6, .inl (cI, 40, .inl yb6)), (j7, .inl (cI, 40, .inl yb7)), (j8, .inl (cI, 40, .inl yb8)), (v5, .inr (3, [.ref po, .int ym])), (po, .inl (cI, 36, .inl yq))]) (va_runV (As := [.int 1]) (rest := []) ⟨hx, hb, hml, hown, hT⟩ (c_X10_finding l D cI x nw kp fu ra kr rd wd ld mt vo sh fd H.size im ff 1 (by first | omega | (simp only [zl_1] <;> omega) | decide | assumption | rfl) (by first | omega | (simp only [zl_1] <;> omega) | decide | assumption | rfl)) (cwV 1 hT (gV_in mw_338 mw_335 mw_337 mw_p1_0 mw_1) rfl rfl rfl (by decide +kernel) ⟨Nat.le_of_ble_eq_true rfl, Nat.le_of_ble_eq_true rfl⟩) (kRecv (own := "") (q0 := 0) (ci := 10) hK hP hD hN rfl rfl [0, 35] rfl (by decide)) rfl rfl hl.1 rfl (lv_room (Nat.le_of_ble_eq_true rfl)) dX10_joined_21 ⟨Nat.le_of_ble_eq_true rfl, Nat.le_of_ble_eq_true rfl⟩) hP hD hS hA [0, 35] [1, 2, 3, 4, 5, 6, 7, 8, 9, 10, 11, 12, 13, 14, 15, 16, 17, 18, 19, 20, 21, 22, 23, 24, 25, 26, 27, 28, 29, 30, 31, 32, 33, 34] rfl rfl (by decide) (by decide) (fun r_32 u_34 H locs w_33 hP hD hS => ?_)
        have hP : va_P D vwCl [(nw, .inr (9, [.ref w0, .ref w1, .ref w2, .ref w3, .ref w4, .ref w5, .int 0, .int 40, .int 0])), (w0, .inl (cI, 12, .inl (fun _ => (2 : Int32)))), (w1, .inl (cI, 40, .inl (fun _ => (0 : Int32)))), (w2, .inl (cI, 40, .inl (fun _ => (0 : Int32)))), (w3, .inl (cI, 20, .inl (fun _ => (0 : Int32)))), (w4, .inr (8, [.ref k0, .ref k1, .ref k2, .ref k3, .ref k4, .ref k5, .ref k6, .ref k7, .ref k8, .int 0])), (k0, .inl (cI, 60, .inl (fun _ => (0 : Int32)))), (k1, .inl (cI, 60, .inl (fun _ => (0 : Int32)))), (k2, .inl (cI, 60, .inl (fun _ => (0 : Int32)))), (k3, .inl (cI, 60, .inl (fun _ => (0 : Int32)))), (k4, .inl (cI, 60, .inl (fun _ => (0 : Int32)))), (k5, .inl (cI, 60, .inl (fun _ => (0 : Int32)))), (k6, .inl (cI, 40, .inl (fun _ => (0 : Int32)))), (k7, .inl (cI, 40, .inl (fun _ => (0 : Int32)))), (k8, .inl (cI, 40, .inl (fun _ => (0 : Int32)))), (w5, .inr (3, [.ref pf, .int 0])), (pf, .inl (cI, 36, .inl (fun _ => (0 : Int32)))), (fu, .inr (9, [.ref v0, .ref v1, .ref v2, .ref v3, .ref v4, .ref v5, .int ywt, .int yre, .int ydy])), (v0, .inl (cI, 12, .inl ya0)), (v1, .inl (cI, 40, .inl ya1)), (v2, .inl (cI, 40, .inl ya2)), (v3, .inl (cI, 20, .inl ya3)), (v4, .inr (8, [.ref j0, .ref j1, .ref j2, .ref j3, .ref j4, .ref j5, .ref j6, .ref j7, .ref j8, .int yn])), (j0, .inl (cI, 60, .inl yb0)), (j1, .inl (cI, 60, .inl yb1)), (j2, .inl (cI, 60, .inl yb2)), (j3, .inl (cI, 60, .inl yb3)), (j4, .inl (cI, 60, .inl yb4)), (j5, .inl (cI, 60, .inl yb5)), (j6, .inl (cI, 40, .inl yb6)), (j7, .inl (cI, 40, .inl yb7)), (j8, .inl (cI, 40, .inl yb8)), (v5, .inr (3, [.ref po, .int ym])), (po, .inl (cI, 36, .inl yq))] H := hP
        have hD : va_D A [(nw, .inr (9, [.ref w0, .ref w1, .ref w2, .ref w3, .ref w4, .ref w5, .int 0, .int 40, .int 0])), (w0, .inl (cI, 12, .inl (fun _ => (2 : Int32)))), (w1, .inl (cI, 40, .inl (fun _ => (0 : Int32)))), (w2, .inl (cI, 40, .inl (fun _ => (0 : Int32)))), (w3, .inl (cI, 20, .inl (fun _ => (0 : Int32)))), (w4, .inr (8, [.ref k0, .ref k1, .ref k2, .ref k3, .ref k4, .ref k5, .ref k6, .ref k7, .ref k8, .int 0])), (k0, .inl (cI, 60, .inl (fun _ => (0 : Int32)))), (k1, .inl (cI, 60, .inl (fun _ => (0 : Int32)))), (k2, .inl (cI, 60, .inl (fun _ => (0 : Int32)))), (k3, .inl (cI, 60, .inl (fun _ => (0 : Int32)))), (k4, .inl (cI, 60, .inl (fun _ => (0 : Int32)))), (k5, .inl (cI, 60, .inl (fun _ => (0 : Int32)))), (k6, .inl (cI, 40, .inl (fun _ => (0 : Int32)))), (k7, .inl (cI, 40, .inl (fun _ => (0 : Int32)))), (k8, .inl (cI, 40, .inl (fun _ => (0 : Int32)))), (w5, .inr (3, [.ref pf, .int 0])), (pf, .inl (cI, 36, .inl (fun _ => (0 : Int32)))), (fu, .inr (9, [.ref v0, .ref v1, .ref v2, .ref v3, .ref v4, .ref v5, .int ywt, .int yre, .int ydy])), (v0, .inl (cI, 12, .inl ya0)), (v1, .inl (cI, 40, .inl ya1)), (v2, .inl (cI, 40, .inl ya2)), (v3, .inl (cI, 20, .inl ya3)), (v4, .inr (8, [.ref j0, .ref j1, .ref j2, .ref j3, .ref j4, .ref j5, .ref j6, .ref j7, .ref j8, .int yn])), (j0, .inl (cI, 60, .inl yb0)), (j1, .inl (cI, 60, .inl yb1)), (j2, .inl (cI, 60, .inl yb2)), (j3, .inl (cI, 60, .inl yb3)), (j4, .inl (cI, 60, .inl yb4)), (j5, .inl (cI, 60, .inl yb5)), (j6, .inl (cI, 40, .inl yb6)), (j7, .inl (cI, 40, .inl yb7)), (j8, .inl (cI, 40, .inl yb8)), (v5, .inr (3, [.ref po, .int ym])), (po, .inl (cI, 36, .inl yq))] := hD
        have hr_32 := w_33
        obtain rfl : r_32 = (-1000001) := hr_32.trans (by decide)
        exact hRet () [] (by unfold sp_joined; repeat (first | rw [if_pos (by omega)] | rw [if_neg (by omega)])) hP hD (by decide) rfl hS rfl dX10_joined_24
    · have h_13 : b.toInt < 0 ∨ 39 < b.toInt := h_13
      obtain rfl : r_8 = 0 := hr_8.trans (by decide)
      refine b_if_eq hx hb zl_0 (tgt := 19) dX10_joined_11 (by decide) (fun c_35 => ?_) (fun c_35 => by exfalso; omega)
      refine lv_aload_n hx hb dX10_joined_19 rfl (lv_at hl 0 rfl) ?_
      refine lv_iconst (v := 1) hx hb dX10_joined_20 (by decide) ?_
      refine kJi (wr := [(nw, .inr (9, [.ref w0, .ref w1, .ref w2, .ref w3, .ref w4, .ref w5, .int 0, .int 40, .int 0])), (w0, .inl (cI, 12, .inl (fun _ => (2 : Int32)))), (w1, .inl (cI, 40, .inl (fun _ => (0 : Int32)))), (w2, .inl (cI, 40, .inl (fun _ => (0 : Int32)))), (w3, .inl (cI, 20, .inl (fun _ => (0 : Int32)))), (w4, .inr (8, [.ref k0, .ref k1, .ref k2, .ref k3, .ref k4, .ref k5, .ref k6, .ref k7, .ref k8, .int 0])), (k0, .inl (cI, 60, .inl (fun _ => (0 : Int32)))), (k1, .inl (cI, 60, .inl (fun _ => (0 : Int32)))), (k2, .inl (cI, 60, .inl (fun _ => (0 : Int32)))), (k3, .inl (cI, 60, .inl (fun _ => (0 : Int32)))), (k4, .inl (cI, 60, .inl (fun _ => (0 : Int32)))), (k5, .inl (cI, 60, .inl (fun _ => (0 : Int32)))), (k6, .inl (cI, 40, .inl (fun _ => (0 : Int32)))), (k7, .inl (cI, 40, .inl (fun _ => (0 : Int32)))), (k8, .inl (cI, 40, .inl (fun _ => (0 : Int32)))), (w5, .inr (3, [.ref pf, .int 0])), (pf, .inl (cI, 36, .inl (fun _ => (0 : Int32)))), (fu, .inr (9, [.ref v0, .ref v1, .ref v2, .ref v3, .ref v4, .ref v5, .int ywt, .int yre, .int ydy])), (v0, .inl (cI, 12, .inl ya0)), (v1, .inl (cI, 40, .inl ya1)), (v2, .inl (cI, 40, .inl ya2)), (v3, .inl (cI, 20, .inl ya3)), (v4, .inr (8, [.ref j0, .ref j1, .ref j2, .ref j3, .ref j4, .ref j5, .ref j6, .ref j7, .ref j8, .int yn])), (j0, .inl (cI, 60, .inl yb0)), (j1, .inl (cI, 60, .inl yb1)), (j2, .inl (cI, 60, .inl yb2)), (j3, .inl (cI, 60, .inl yb3)), (j4, .inl (cI, 60, .inl yb4)), (j5, .inl (cI, 60, .inl yb5)), (j6, .inl (cI, 40, .inl yb6)), (j7, .inl (cI, 40, .inl yb7)), (j8, .inl (cI, 40, .inl yb8)), (v5, .inr (3, [.ref po, .int ym])), (po, .inl (cI, 36, .inl yq))]) (va_runV (As := [.int 1]) (rest := []) ⟨hx, hb, hml, hown, hT⟩ (c_X10_finding l D cI x nw kp fu ra kr rd wd ld mt vo sh fd H.size im ff 1 (by first | omega | (simp only [zl_1] <;> omega) | decide | assumption | rfl) (by first | omega | (simp only [zl_1] <;> omega) | decide | assumption | rfl)) (cwV 1 hT (gV_in mw_338 mw_335 mw_337 mw_p1_0 mw_1) rfl rfl rfl (by decide +kernel) ⟨Nat.le_of_ble_eq_true rfl, Nat.le_of_ble_eq_true rfl⟩) (kRecv (own := "") (q0 := 0) (ci := 10) hK hP hD hN rfl rfl [0, 35] rfl (by decide)) rfl rfl hl.1 rfl (lv_room (Nat.le_of_ble_eq_true rfl)) dX10_joined_21 ⟨Nat.le_of_ble_eq_true rfl, Nat.le_of_ble_eq_true rfl⟩) hP hD hS hA [0, 35] [1, 2, 3, 4, 5, 6, 7, 8, 9, 10, 11, 12, 13, 14, 15, 16, 17, 18, 19, 20, 21, 22, 23, 24, 25, 26, 27, 28, 29, 30, 31, 32, 33, 34] rfl rfl (by decide) (by decide) (fun r_36 u_38 H locs w_37 hP hD hS => ?_)
      have hP : va_P D vwCl [(nw, .inr (9, [.ref w0, .ref w1, .ref w2, .ref w3, .ref w4, .ref w5, .int 0, .int 40, .int 0])), (w0, .inl (cI, 12, .inl (fun _ => (2 : Int32)))), (w1, .inl (cI, 40, .inl (fun _ => (0 : Int32)))), (w2, .inl (cI, 40, .inl (fun _ => (0 : Int32)))), (w3, .inl (cI, 20, .inl (fun _ => (0 : Int32)))), (w4, .inr (8, [.ref k0, .ref k1, .ref k2, .ref k3, .ref k4, .ref k5, .ref k6, .ref k7, .ref k8, .int 0])), (k0, .inl (cI, 60, .inl (fun _ => (0 : Int32)))), (k1, .inl (cI, 60, .inl (fun _ => (0 : Int32)))), (k2, .inl (cI, 60, .inl (fun _ => (0 : Int32)))), (k3, .inl (cI, 60, .inl (fun _ => (0 : Int32)))), (k4, .inl (cI, 60, .inl (fun _ => (0 : Int32)))), (k5, .inl (cI, 60, .inl (fun _ => (0 : Int32)))), (k6, .inl (cI, 40, .inl (fun _ => (0 : Int32)))), (k7, .inl (cI, 40, .inl (fun _ => (0 : Int32)))), (k8, .inl (cI, 40, .inl (fun _ => (0 : Int32)))), (w5, .inr (3, [.ref pf, .int 0])), (pf, .inl (cI, 36, .inl (fun _ => (0 : Int32)))), (fu, .inr (9, [.ref v0, .ref v1, .ref v2, .ref v3, .ref v4, .ref v5, .int ywt, .int yre, .int ydy])), (v0, .inl (cI, 12, .inl ya0)), (v1, .inl (cI, 40, .inl ya1)), (v2, .inl (cI, 40, .inl ya2)), (v3, .inl (cI, 20, .inl ya3)), (v4, .inr (8, [.ref j0, .ref j1, .ref j2, .ref j3, .ref j4, .ref j5, .ref j6, .ref j7, .ref j8, .int yn])), (j0, .inl (cI, 60, .inl yb0)), (j1, .inl (cI, 60, .inl yb1)), (j2, .inl (cI, 60, .inl yb2)), (j3, .inl (cI, 60, .inl yb3)), (j4, .inl (cI, 60, .inl yb4)), (j5, .inl (cI, 60, .inl yb5)), (j6, .inl (cI, 40, .inl yb6)), (j7, .inl (cI, 40, .inl yb7)), (j8, .inl (cI, 40, .inl yb8)), (v5, .inr (3, [.ref po, .int ym])), (po, .inl (cI, 36, .inl yq))] H := hP
      have hD : va_D A [(nw, .inr (9, [.ref w0, .ref w1, .ref w2, .ref w3, .ref w4, .ref w5, .int 0, .int 40, .int 0])), (w0, .inl (cI, 12, .inl (fun _ => (2 : Int32)))), (w1, .inl (cI, 40, .inl (fun _ => (0 : Int32)))), (w2, .inl (cI, 40, .inl (fun _ => (0 : Int32)))), (w3, .inl (cI, 20, .inl (fun _ => (0 : Int32)))), (w4, .inr (8, [.ref k0, .ref k1, .ref k2, .ref k3, .ref k4, .ref k5, .ref k6, .ref k7, .ref k8, .int 0])), (k0, .inl (cI, 60, .inl (fun _ => (0 : Int32)))), (k1, .inl (cI, 60, .inl (fun _ => (0 : Int32)))), (k2, .inl (cI, 60, .inl (fun _ => (0 : Int32)))), (k3, .inl (cI, 60, .inl (fun _ => (0 : Int32)))), (k4, .inl (cI, 60, .inl (fun _ => (0 : Int32)))), (k5, .inl (cI, 60, .inl (fun _ => (0 : Int32)))), (k6, .inl (cI, 40, .inl (fun _ => (0 : Int32)))), (k7, .inl (cI, 40, .inl (fun _ => (0 : Int32)))), (k8, .inl (cI, 40, .inl (fun _ => (0 : Int32)))), (w5, .inr (3, [.ref pf, .int 0])), (pf, .inl (cI, 36, .inl (fun _ => (0 : Int32)))), (fu, .inr (9, [.ref v0, .ref v1, .ref v2, .ref v3, .ref v4, .ref v5, .int ywt, .int yre, .int ydy])), (v0, .inl (cI, 12, .inl ya0)), (v1, .inl (cI, 40, .inl ya1)), (v2, .inl (cI, 40, .inl ya2)), (v3, .inl (cI, 20, .inl ya3)), (v4, .inr (8, [.ref j0, .ref j1, .ref j2, .ref j3, .ref j4, .ref j5, .ref j6, .ref j7, .ref j8, .int yn])), (j0, .inl (cI, 60, .inl yb0)), (j1, .inl (cI, 60, .inl yb1)), (j2, .inl (cI, 60, .inl yb2)), (j3, .inl (cI, 60, .inl yb3)), (j4, .inl (cI, 60, .inl yb4)), (j5, .inl (cI, 60, .inl yb5)), (j6, .inl (cI, 40, .inl yb6)), (j7, .inl (cI, 40, .inl yb7)), (j8, .inl (cI, 40, .inl yb8)), (v5, .inr (3, [.ref po, .int ym])), (po, .inl (cI, 36, .inl yq))] := hD
      have hr_36 := w_37
      obtain rfl : r_36 = (-1000001) := hr_36.trans (by decide)
      exact hRet () [] (by unfold sp_joined; repeat (first | rw [if_pos (by omega)] | rw [if_neg (by omega)])) hP hD (by decide) rfl hS rfl dX10_joined_24
  · have h_6 : a.toInt < 0 ∨ 39 < a.toInt := h_6
    obtain rfl : r_1 = 0 := hr_1.trans (by decide)
    refine b_if_eq hx hb zl_0 (tgt := 19) dX10_joined_4 (by decide) (fun c_39 => ?_) (fun c_39 => by exfalso; omega)
    refine lv_aload_n hx hb dX10_joined_19 rfl (lv_at hl 0 rfl) ?_
    refine lv_iconst (v := 1) hx hb dX10_joined_20 (by decide) ?_
    refine kJi (wr := [(nw, .inr (9, [.ref w0, .ref w1, .ref w2, .ref w3, .ref w4, .ref w5, .int 0, .int 40, .int 0])), (w0, .inl (cI, 12, .inl (fun _ => (2 : Int32)))), (w1, .inl (cI, 40, .inl (fun _ => (0 : Int32)))), (w2, .inl (cI, 40, .inl (fun _ => (0 : Int32)))), (w3, .inl (cI, 20, .inl (fun _ => (0 : Int32)))), (w4, .inr (8, [.ref k0, .ref k1, .ref k2, .ref k3, .ref k4, .ref k5, .ref k6, .ref k7, .ref k8, .int 0])), (k0, .inl (cI, 60, .inl (fun _ => (0 : Int32)))), (k1, .inl (cI, 60, .inl (fun _ => (0 : Int32)))), (k2, .inl (cI, 60, .inl (fun _ => (0 : Int32)))), (k3, .inl (cI, 60, .inl (fun _ => (0 : Int32)))), (k4, .inl (cI, 60, .inl (fun _ => (0 : Int32)))), (k5, .inl (cI, 60, .inl (fun _ => (0 : Int32)))), (k6, .inl (cI, 40, .inl (fun _ => (0 : Int32)))), (k7, .inl (cI, 40, .inl (fun _ => (0 : Int32)))), (k8, .inl (cI, 40, .inl (fun _ => (0 : Int32)))), (w5, .inr (3, [.ref pf, .int 0])), (pf, .inl (cI, 36, .inl (fun _ => (0 : Int32)))), (fu, .inr (9, [.ref v0, .ref v1, .ref v2, .ref v3, .ref v4, .ref v5, .int ywt, .int yre, .int ydy])), (v0, .inl (cI, 12, .inl ya0)), (v1, .inl (cI, 40, .inl ya1)), (v2, .inl (cI, 40, .inl ya2)), (v3, .inl (cI, 20, .inl ya3)), (v4, .inr (8, [.ref j0, .ref j1, .ref j2, .ref j3, .ref j4, .ref j5, .ref j6, .ref j7, .ref j8, .int yn])), (j0, .inl (cI, 60, .inl yb0)), (j1, .inl (cI, 60, .inl yb1)), (j2, .inl (cI, 60, .inl yb2)), (j3, .inl (cI, 60, .inl yb3)), (j4, .inl (cI, 60, .inl yb4)), (j5, .inl (cI, 60, .inl yb5)), (j6, .inl (cI, 40, .inl yb6)), (j7, .inl (cI, 40, .inl yb7)), (j8, .inl (cI, 40, .inl yb8)), (v5, .inr (3, [.ref po, .int ym])), (po, .inl (cI, 36, .inl yq))]) (va_runV (As := [.int 1]) (rest := []) ⟨hx, hb, hml, hown, hT⟩ (c_X10_finding l D cI x nw kp fu ra kr rd wd ld mt vo sh fd H.size im ff 1 (by first | omega | (simp only [zl_1] <;> omega) | decide | assumption | rfl) (by first | omega | (simp only [zl_1] <;> omega) | decide | assumption | rfl)) (cwV 1 hT (gV_in mw_338 mw_335 mw_337 mw_p1_0 mw_1) rfl rfl rfl (by decide +kernel) ⟨Nat.le_of_ble_eq_true rfl, Nat.le_of_ble_eq_true rfl⟩) (kRecv (own := "") (q0 := 0) (ci := 10) hK hP hD hN rfl rfl [0, 35] rfl (by decide)) rfl rfl hl.1 rfl (lv_room (Nat.le_of_ble_eq_true rfl)) dX10_joined_21 ⟨Nat.le_of_ble_eq_true rfl, Nat.le_of_ble_eq_true rfl⟩) hP hD hS hA [0, 35] [1, 2, 3, 4, 5, 6, 7, 8, 9, 10, 11, 12, 13, 14, 15, 16, 17, 18, 19, 20, 21, 22, 23, 24, 25, 26, 27, 28, 29, 30, 31, 32, 33, 34] rfl rfl (by decide) (by decide) (fun r_40 u_42 H locs w_41 hP hD hS => ?_)
    have hP : va_P D vwCl [(nw, .inr (9, [.ref w0, .ref w1, .ref w2, .ref w3, .ref w4, .ref w5, .int 0, .int 40, .int 0])), (w0, .inl (cI, 12, .inl (fun _ => (2 : Int32)))), (w1, .inl (cI, 40, .inl (fun _ => (0 : Int32)))), (w2, .inl (cI, 40, .inl (fun _ => (0 : Int32)))), (w3, .inl (cI, 20, .inl (fun _ => (0 : Int32)))), (w4, .inr (8, [.ref k0, .ref k1, .ref k2, .ref k3, .ref k4, .ref k5, .ref k6, .ref k7, .ref k8, .int 0])), (k0, .inl (cI, 60, .inl (fun _ => (0 : Int32)))), (k1, .inl (cI, 60, .inl (fun _ => (0 : Int32)))), (k2, .inl (cI, 60, .inl (fun _ => (0 : Int32)))), (k3, .inl (cI, 60, .inl (fun _ => (0 : Int32)))), (k4, .inl (cI, 60, .inl (fun _ => (0 : Int32)))), (k5, .inl (cI, 60, .inl (fun _ => (0 : Int32)))), (k6, .inl (cI, 40, .inl (fun _ => (0 : Int32)))), (k7, .inl (cI, 40, .inl (fun _ => (0 : Int32)))), (k8, .inl (cI, 40, .inl (fun _ => (0 : Int32)))), (w5, .inr (3, [.ref pf, .int 0])), (pf, .inl (cI, 36, .inl (fun _ => (0 : Int32)))), (fu, .inr (9, [.ref v0, .ref v1, .ref v2, .ref v3, .ref v4, .ref v5, .int ywt, .int yre, .int ydy])), (v0, .inl (cI, 12, .inl ya0)), (v1, .inl (cI, 40, .inl ya1)), (v2, .inl (cI, 40, .inl ya2)), (v3, .inl (cI, 20, .inl ya3)), (v4, .inr (8, [.ref j0, .ref j1, .ref j2, .ref j3, .ref j4, .ref j5, .ref j6, .ref j7, .ref j8, .int yn])), (j0, .inl (cI, 60, .inl yb0)), (j1, .inl (cI, 60, .inl yb1)), (j2, .inl (cI, 60, .inl yb2)), (j3, .inl (cI, 60, .inl yb3)), (j4, .inl (cI, 60, .inl yb4)), (j5, .inl (cI, 60, .inl yb5)), (j6, .inl (cI, 40, .inl yb6)), (j7, .inl (cI, 40, .inl yb7)), (j8, .inl (cI, 40, .inl yb8)), (v5, .inr (3, [.ref po, .int ym])), (po, .inl (cI, 36, .inl yq))] H := hP
    have hD : va_D A [(nw, .inr (9, [.ref w0, .ref w1, .ref w2, .ref w3, .ref w4, .ref w5, .int 0, .int 40, .int 0])), (w0, .inl (cI, 12, .inl (fun _ => (2 : Int32)))), (w1, .inl (cI, 40, .inl (fun _ => (0 : Int32)))), (w2, .inl (cI, 40, .inl (fun _ => (0 : Int32)))), (w3, .inl (cI, 20, .inl (fun _ => (0 : Int32)))), (w4, .inr (8, [.ref k0, .ref k1, .ref k2, .ref k3, .ref k4, .ref k5, .ref k6, .ref k7, .ref k8, .int 0])), (k0, .inl (cI, 60, .inl (fun _ => (0 : Int32)))), (k1, .inl (cI, 60, .inl (fun _ => (0 : Int32)))), (k2, .inl (cI, 60, .inl (fun _ => (0 : Int32)))), (k3, .inl (cI, 60, .inl (fun _ => (0 : Int32)))), (k4, .inl (cI, 60, .inl (fun _ => (0 : Int32)))), (k5, .inl (cI, 60, .inl (fun _ => (0 : Int32)))), (k6, .inl (cI, 40, .inl (fun _ => (0 : Int32)))), (k7, .inl (cI, 40, .inl (fun _ => (0 : Int32)))), (k8, .inl (cI, 40, .inl (fun _ => (0 : Int32)))), (w5, .inr (3, [.ref pf, .int 0])), (pf, .inl (cI, 36, .inl (fun _ => (0 : Int32)))), (fu, .inr (9, [.ref v0, .ref v1, .ref v2, .ref v3, .ref v4, .ref v5, .int ywt, .int yre, .int ydy])), (v0, .inl (cI, 12, .inl ya0)), (v1, .inl (cI, 40, .inl ya1)), (v2, .inl (cI, 40, .inl ya2)), (v3, .inl (cI, 20, .inl ya3)), (v4, .inr (8, [.ref j0, .ref j1, .ref j2, .ref j3, .ref j4, .ref j5, .ref j6, .ref j7, .ref j8, .int yn])), (j0, .inl (cI, 60, .inl yb0)), (j1, .inl (cI, 60, .inl yb1)), (j2, .inl (cI, 60, .inl yb2)), (j3, .inl (cI, 60, .inl yb3)), (j4, .inl (cI, 60, .inl yb4)), (j5, .inl (cI, 60, .inl yb5)), (j6, .inl (cI, 40, .inl yb6)), (j7, .inl (cI, 40, .inl yb7)), (j8, .inl (cI, 40, .inl yb8)), (v5, .inr (3, [.ref po, .int ym])), (po, .inl (cI, 36, .inl yq))] := hD
    have hr_40 := w_41
    obtain rfl : r_40 = (-1000001) := hr_40.trans (by decide)
    exact hRet () [] (by unfold sp_joined; repeat (first | rw [if_pos (by omega)] | rw [if_neg (by omega)])) hP hD (by decide) rfl hS rfl dX10_joined_24
set_option maxHeartbeats 4000000 in
set_option maxRecDepth 100000 in
theorem c_X10_trace (l : Launch) (D : va_G) (cI : ClassId) (x nw kp fu ra kr rd wd ld mt vo sh fd vb : Nat) (sz : Nat) (im : Int32) (ff : Nat → Int32) (a : Int32) : Met l yX10_trace (gW yX10_trace cX10_trace 2 (some .int)) ({ frames := 1, cells := 0, slots := 0, locals := 21 } : Room) (kPre D cI [.ref x, .int a] [(x, .inr (10, [.ref nw, .ref kp, .ref fu, .ref ra, .ref kr, .ref rd, .ref wd, .ref ld, .ref mt, .ref vo, .ref sh, .ref fd, .int im])), (vo, .inr (7, [.ref vb, .int 0, .int 0, .int 0, .int 0])), (fd, .inl (cI, 6, .inl ff))] sz) (va_Qi (fun (r : Int32) (u : Unit) => r = (-1000002)) (fun u t => kWd D cI (va_A [(x, .inr (10, [.ref nw, .ref kp, .ref fu, .ref ra, .ref kr, .ref rd, .ref wd, .ref ld, .ref mt, .ref vo, .ref sh, .ref fd, .int im])), (vo, .inr (7, [.ref vb, .int 0, .int 0, .int 0, .int 0])), (fd, .inl (cI, 6, .inl ff))] sz) [] t) (va_A [(x, .inr (10, [.ref nw, .ref kp, .ref fu, .ref ra, .ref kr, .ref rd, .ref wd, .ref ld, .ref mt, .ref vo, .ref sh, .ref fd, .int im])), (vo, .inr (7, [.ref vb, .int 0, .int 0, .int 0, .int 0])), (fd, .inl (cI, 6, .inl ff))] sz)) 0 0 (va_A [(x, .inr (10, [.ref nw, .ref kp, .ref fu, .ref ra, .ref kr, .ref rd, .ref wd, .ref ld, .ref mt, .ref vo, .ref sh, .ref fd, .int im])), (vo, .inr (7, [.ref vb, .int 0, .int 0, .int 0, .int 0])), (fd, .inl (cI, 6, .inl ff))] sz) := by
  refine kMetI (own := RX10) (by decide) rfl (Nat.le_of_ble_eq_true rfl) ?_
  intro p e s m args below meth c hx hb hT hown hname hml A Q hK hP hD hS hA hN hRet ls hl
  have hl : lv_has ls 2 [(0, .ref x), (1, .int a)] := hl
  have lo_a := k_lo a
  have hi_a := k_hi a
  have lo_im := k_lo im
  have hi_im := k_hi im
  refine lv_iload_n hx hb dX10_trace_0 rfl (lv_at hl 1 rfl) ?_
  refine b_if_lt hx hb rfl (tgt := 15) dX10_trace_1 (by decide) (fun c_1 => ?_) (fun c_1 => ?_)
  · refine lv_aload_n hx hb dX10_trace_15 rfl (lv_at hl 0 rfl) ?_
    refine lv_iconst (v := 2) hx hb dX10_trace_16 (by decide) ?_
    refine kJi (wr := [(vo, .inr (7, [.ref vb, .int 0, .int 0, .int 0, .int 0]))]) (va_runV (As := [.int 2]) (rest := []) ⟨hx, hb, hml, hown, hT⟩ (c_X10_finding l D cI x nw kp fu ra kr rd wd ld mt vo sh fd s.heap.size im ff 2 (by first | omega | (simp only [zl_2] <;> omega) | decide | assumption | rfl) (by first | omega | (simp only [zl_2] <;> omega) | decide | assumption | rfl)) (cwV 1 hT (gV_in mw_338 mw_335 mw_337 mw_p1_0 mw_1) rfl rfl rfl (by decide +kernel) ⟨Nat.le_of_ble_eq_true rfl, Nat.le_of_ble_eq_true rfl⟩) (kRecv (own := "") (q0 := 0) (ci := 10) hK hP hD hN rfl rfl [0, 2] rfl (by decide)) rfl rfl hl.1 rfl (lv_room (Nat.le_of_ble_eq_true rfl)) dX10_trace_17 ⟨Nat.le_of_ble_eq_true rfl, Nat.le_of_ble_eq_true rfl⟩) hP hD hS hA [0, 2] [1] rfl rfl (by decide) (by decide) (fun r_2 u_4 H locs w_3 hP hD hS => ?_)
    have hP : va_P D vwCl [(vo, .inr (7, [.ref vb, .int 0, .int 0, .int 0, .int 0]))] H := hP
    have hD : va_D A [(vo, .inr (7, [.ref vb, .int 0, .int 0, .int 0, .int 0]))] := hD
    have hr_2 := w_3
    obtain rfl : r_2 = (-1000002) := hr_2.trans (by decide)
    exact hRet () [] rfl hP hD (by decide) rfl hS rfl dX10_trace_20
  · refine lv_iload_n hx hb dX10_trace_4 rfl (lv_at hl 1 rfl) ?_
    refine lv_aload_n hx hb dX10_trace_5 rfl (lv_at hl 0 rfl) ?_
    refine va_get (D := D) (ci := 10) (v := .ref vo) (C := RX10) (T := TX10) (N := 13) hx hb hT giX10 hown hK hP 0 rfl rfl 9 (by decide) (hT (Cond.fieldLink RX10 63 "DesertWire" "voices" "LDesertWire$Voices;") mw_300) (fun _ h9 => h9) rfl dX10_trace_6 ?_
    refine va_get (D := D) (ci := 7) (v := .int 0) (C := RX7) (T := TX7) (N := 5) hx hb hT giX7 hown hK hP 1 rfl rfl 1 (by decide) (hT (Cond.fieldLink RX10 353 "DesertWire$Voices" "begun" "I") mw_260) (fun _ h9 => h9) rfl dX10_trace_9 ?_
    refine b_icmp_lt hx hb rfl zl_0 (tgt := 21) dX10_trace_12 (by decide) (fun c_5 => by exfalso; omega) (fun c_5 => ?_)
    refine lv_aload_n hx hb dX10_trace_15 rfl (lv_at hl 0 rfl) ?_
    refine lv_iconst (v := 2) hx hb dX10_trace_16 (by decide) ?_
    refine kJi (wr := [(vo, .inr (7, [.ref vb, .int 0, .int 0, .int 0, .int 0]))]) (va_runV (As := [.int 2]) (rest := []) ⟨hx, hb, hml, hown, hT⟩ (c_X10_finding l D cI x nw kp fu ra kr rd wd ld mt vo sh fd s.heap.size im ff 2 (by first | omega | (simp only [zl_2] <;> omega) | decide | assumption | rfl) (by first | omega | (simp only [zl_2] <;> omega) | decide | assumption | rfl)) (cwV 1 hT (gV_in mw_338 mw_335 mw_337 mw_p1_0 mw_1) rfl rfl rfl (by decide +kernel) ⟨Nat.le_of_ble_eq_true rfl, Nat.le_of_ble_eq_true rfl⟩) (kRecv (own := "") (q0 := 0) (ci := 10) hK hP hD hN rfl rfl [0, 2] rfl (by decide)) rfl rfl hl.1 rfl (lv_room (Nat.le_of_ble_eq_true rfl)) dX10_trace_17 ⟨Nat.le_of_ble_eq_true rfl, Nat.le_of_ble_eq_true rfl⟩) hP hD hS hA [0, 2] [1] rfl rfl (by decide) (by decide) (fun r_6 u_8 H locs w_7 hP hD hS => ?_)
    have hP : va_P D vwCl [(vo, .inr (7, [.ref vb, .int 0, .int 0, .int 0, .int 0]))] H := hP
    have hD : va_D A [(vo, .inr (7, [.ref vb, .int 0, .int 0, .int 0, .int 0]))] := hD
    have hr_6 := w_7
    obtain rfl : r_6 = (-1000002) := hr_6.trans (by decide)
    exact hRet () [] rfl hP hD (by decide) rfl hS rfl dX10_trace_20
set_option maxHeartbeats 4000000 in
set_option maxRecDepth 100000 in
theorem c_X10_sheet (l : Launch) (D : va_G) (cI : ClassId) (x nw kp fu ra kr rd wd ld mt vo sh fd sb sl sn : Nat) (sz : Nat) (im : Int32) (ff : Nat → Int32) (f0 : Nat → Int32) (f1 : Nat → Int32) (f2 : Nat → Int32) (a : Int32) (b : Int32) (d : Int32) : Met l yX10_sheet (gW yX10_sheet cX10_sheet 4 (some .int)) ({ frames := 2, cells := 0, slots := 0, locals := 44 } : Room) (kPre D cI [.ref x, .int a, .int b, .int d] [(x, .inr (10, [.ref nw, .ref kp, .ref fu, .ref ra, .ref kr, .ref rd, .ref wd, .ref ld, .ref mt, .ref vo, .ref sh, .ref fd, .int im])), (sh, .inr (6, [.ref sb, .ref sl, .ref sn])), (sb, .inl (cI, 4, .inl f0)), (sl, .inl (cI, 4, .inl f1)), (sn, .inl (cI, 144, .inl f2)), (fd, .inl (cI, 6, .inl ff))] sz) (va_Qi (fun (r : Int32) (u : Unit) => r = sp_sheet a b d) (fun u t => kWd D cI (va_A [(x, .inr (10, [.ref nw, .ref kp, .ref fu, .ref ra, .ref kr, .ref rd, .ref wd, .ref ld, .ref mt, .ref vo, .ref sh, .ref fd, .int im])), (sh, .inr (6, [.ref sb, .ref sl, .ref sn])), (sb, .inl (cI, 4, .inl f0)), (sl, .inl (cI, 4, .inl f1)), (sn, .inl (cI, 144, .inl f2)), (fd, .inl (cI, 6, .inl ff))] sz) [] t) (va_A [(x, .inr (10, [.ref nw, .ref kp, .ref fu, .ref ra, .ref kr, .ref rd, .ref wd, .ref ld, .ref mt, .ref vo, .ref sh, .ref fd, .int im])), (sh, .inr (6, [.ref sb, .ref sl, .ref sn])), (sb, .inl (cI, 4, .inl f0)), (sl, .inl (cI, 4, .inl f1)), (sn, .inl (cI, 144, .inl f2)), (fd, .inl (cI, 6, .inl ff))] sz)) 0 0 (va_A [(x, .inr (10, [.ref nw, .ref kp, .ref fu, .ref ra, .ref kr, .ref rd, .ref wd, .ref ld, .ref mt, .ref vo, .ref sh, .ref fd, .int im])), (sh, .inr (6, [.ref sb, .ref sl, .ref sn])), (sb, .inl (cI, 4, .inl f0)), (sl, .inl (cI, 4, .inl f1)), (sn, .inl (cI, 144, .inl f2)), (fd, .inl (cI, 6, .inl ff))] sz) := by
  refine kMetI (own := RX10) (by decide) rfl (Nat.le_of_ble_eq_true rfl) ?_
  intro p e s m args below meth c hx hb hT hown hname hml A Q hK hP hD hS hA hN hRet ls hl
  have hl : lv_has ls 4 [(0, .ref x), (1, .int a), (2, .int b), (3, .int d)] := hl
  have lo_a := k_lo a
  have hi_a := k_hi a
  have lo_b := k_lo b
  have hi_b := k_hi b
  have lo_d := k_lo d
  have hi_d := k_hi d
  have lo_im := k_lo im
  have hi_im := k_hi im
  refine lv_iload_n hx hb dX10_sheet_0 rfl (lv_at hl 1 rfl) ?_
  refine kJi (wr := [(x, .inr (10, [.ref nw, .ref kp, .ref fu, .ref ra, .ref kr, .ref rd, .ref wd, .ref ld, .ref mt, .ref vo, .ref sh, .ref fd, .int im])), (sh, .inr (6, [.ref sb, .ref sl, .ref sn])), (sb, .inl (cI, 4, .inl f0)), (sl, .inl (cI, 4, .inl f1)), (sn, .inl (cI, 144, .inl f2)), (fd, .inl (cI, 6, .inl ff))]) (va_runS (As := [.int a]) (rest := []) ⟨hx, hb, hml, hown, hT⟩ (c_X10_isSheet l D cI s.heap.size a) (cwS 1 hT (gS_in mw_662 mw_660 mw_661 mw_1) rfl rfl rfl (by decide +kernel) ⟨Nat.le_of_ble_eq_true rfl, Nat.le_of_ble_eq_true rfl⟩) (kStat hK hP hD hN [] rfl (by decide)) rfl rfl hl.1 rfl (lv_room (Nat.le_of_ble_eq_true rfl)) dX10_sheet_1 ⟨Nat.le_of_ble_eq_true rfl, Nat.le_of_ble_eq_true rfl⟩) hP hD hS hA [] [0, 1, 2, 3, 4, 5] rfl rfl (by decide) (by decide) (fun r_1 u_3 H locs w_2 hP hD hS => ?_)
  have hP : va_P D vwCl [(x, .inr (10, [.ref nw, .ref kp, .ref fu, .ref ra, .ref kr, .ref rd, .ref wd, .ref ld, .ref mt, .ref vo, .ref sh, .ref fd, .int im])), (sh, .inr (6, [.ref sb, .ref sl, .ref sn])), (sb, .inl (cI, 4, .inl f0)), (sl, .inl (cI, 4, .inl f1)), (sn, .inl (cI, 144, .inl f2)), (fd, .inl (cI, 6, .inl ff))] H := hP
  have hD : va_D A [(x, .inr (10, [.ref nw, .ref kp, .ref fu, .ref ra, .ref kr, .ref rd, .ref wd, .ref ld, .ref mt, .ref vo, .ref sh, .ref fd, .int im])), (sh, .inr (6, [.ref sb, .ref sl, .ref sn])), (sb, .inl (cI, 4, .inl f0)), (sl, .inl (cI, 4, .inl f1)), (sn, .inl (cI, 144, .inl f2)), (fd, .inl (cI, 6, .inl ff))] := hD
  rcases w_2 with ⟨hr_1, h_4, h_5⟩ | ⟨hr_1, h_6⟩
  · have h_4 : 0 ≤ a.toInt := h_4
    have h_5 : a.toInt ≤ 3 := h_5
    obtain rfl : r_1 = 1 := hr_1.trans (by decide)
    refine b_if_eq hx hb zl_1 (tgt := 29) dX10_sheet_4 (by decide) (fun c_7 => by exfalso; omega) (fun c_7 => ?_)
    refine lv_iload_n hx hb dX10_sheet_7 rfl (lv_at hl 2 rfl) ?_
    refine b_if_eq hx hb rfl (tgt := 35) dX10_sheet_8 (by decide) (fun c_8 => ?_) (fun c_8 => ?_)
    · refine lv_iload_n hx hb dX10_sheet_35 rfl (lv_at hl 2 rfl) ?_
      refine b_if_eq hx hb rfl (tgt := 49) dX10_sheet_36 (by decide) (fun c_9 => ?_) (fun c_9 => by exfalso; omega)
      refine lv_iload_n hx hb dX10_sheet_49 rfl (lv_at hl 2 rfl) ?_
      refine b_if_eq hx hb rfl (tgt := 65) dX10_sheet_50 (by decide) (fun c_10 => ?_) (fun c_10 => by exfalso; omega)
      refine lv_aload_n hx hb dX10_sheet_65 rfl (lv_at hl 0 rfl) ?_
      refine va_get (D := D) (ci := 10) (v := .ref sh) (C := RX10) (T := TX10) (N := 13) hx hb hT giX10 hown hK hP 0 rfl rfl 10 (by decide) (hT (Cond.fieldLink RX10 70 "DesertWire" "sheets" "LDesertWire$Sheets;") mw_301) (fun _ h9 => h9) rfl dX10_sheet_66 ?_
      refine lv_iload_n hx hb dX10_sheet_69 rfl (lv_at hl 1 rfl) ?_
      refine lv_iload_n hx hb dX10_sheet_70 rfl (lv_at hl 2 rfl) ?_
      refine lv_iload_n hx hb dX10_sheet_71 rfl (lv_at hl 2 rfl) ?_
      refine b_if_ne hx hb rfl (tgt := 79) dX10_sheet_72 (by decide) (fun c_11 => by exfalso; omega) (fun c_11 => ?_)
      refine lv_iconst (v := 0) hx hb dX10_sheet_75 (by decide) ?_
      refine lv_goto (tgt := 80) hx hb dX10_sheet_76 (by decide) ?_
      refine kJv (wr := [(x, .inr (10, [.ref nw, .ref kp, .ref fu, .ref ra, .ref kr, .ref rd, .ref wd, .ref ld, .ref mt, .ref vo, .ref sh, .ref fd, .int im])), (fd, .inl (cI, 6, .inl ff))]) (va_runV (As := [.int a, .int b, .int 0]) (rest := []) ⟨hx, hb, hml, hown, hT⟩ (c_X6_blank l D cI sh sb sl sn H.size f0 f1 f2 a b 0 (by first | omega | (simp only [zl_0] <;> omega) | decide | assumption | rfl) (by first | omega | (simp only [zl_0] <;> omega) | decide | assumption | rfl)) (cwV 3 hT (gV_in mw_1076 mw_1073 mw_1074 mw_1075 mw_11) rfl rfl rfl (by decide +kernel) ⟨Nat.le_of_ble_eq_true rfl, Nat.le_of_ble_eq_true rfl⟩) (kRecv (own := "") (q0 := 1) (ci := 6) hK hP hD hN rfl rfl [1, 2, 3, 4] rfl (by decide)) rfl rfl hl.1 rfl (lv_room (Nat.le_of_ble_eq_true rfl)) dX10_sheet_80 ⟨Nat.le_of_ble_eq_true rfl, Nat.le_of_ble_eq_true rfl⟩) hP hD hS hA [1, 2, 3, 4] [0, 5] rfl rfl (by decide) (by decide) (fun u_14 H locs w_13 hP hD hS => ?_)
      have hP : va_P D vwCl [(x, .inr (10, [.ref nw, .ref kp, .ref fu, .ref ra, .ref kr, .ref rd, .ref wd, .ref ld, .ref mt, .ref vo, .ref sh, .ref fd, .int im])), (fd, .inl (cI, 6, .inl ff))] H := hP
      have hD : va_D A [(x, .inr (10, [.ref nw, .ref kp, .ref fu, .ref ra, .ref kr, .ref rd, .ref wd, .ref ld, .ref mt, .ref vo, .ref sh, .ref fd, .int im])), (fd, .inl (cI, 6, .inl ff))] := hD
      refine lv_iconst (v := 1) hx hb dX10_sheet_83 (by decide) ?_
      exact hRet () [] (by unfold sp_sheet; repeat (first | rw [if_pos (by omega)] | rw [if_neg (by omega)])) hP hD (by decide) rfl hS rfl dX10_sheet_84
    · refine lv_iload_n hx hb dX10_sheet_11 rfl (lv_at hl 2 rfl) ?_
      refine lv_bipush (v := 8) hx hb dX10_sheet_12 (by decide) ?_
      refine b_icmp_eq hx hb rfl zl_8 (tgt := 35) dX10_sheet_14 (by decide) (fun c_15 => ?_) (fun c_15 => ?_)
      · refine lv_iload_n hx hb dX10_sheet_35 rfl (lv_at hl 2 rfl) ?_
        refine b_if_eq hx hb rfl (tgt := 49) dX10_sheet_36 (by decide) (fun c_16 => by exfalso; omega) (fun c_16 => ?_)
        refine lv_iload_n hx hb dX10_sheet_39 rfl (lv_at hl 3 rfl) ?_
        refine b_if_ge hx hb rfl (tgt := 49) dX10_sheet_40 (by decide) (fun c_17 => ?_) (fun c_17 => ?_)
        · refine lv_iload_n hx hb dX10_sheet_49 rfl (lv_at hl 2 rfl) ?_
          refine b_if_eq hx hb rfl (tgt := 65) dX10_sheet_50 (by decide) (fun c_18 => by exfalso; omega) (fun c_18 => ?_)
          refine lv_iload_n hx hb dX10_sheet_53 rfl (lv_at hl 3 rfl) ?_
          refine lv_bipush (v := 36) hx hb dX10_sheet_54 (by decide) ?_
          refine b_icmp_le hx hb rfl zl_36 (tgt := 65) dX10_sheet_56 (by decide) (fun c_19 => ?_) (fun c_19 => ?_)
          · refine lv_aload_n hx hb dX10_sheet_65 rfl (lv_at hl 0 rfl) ?_
            refine va_get (D := D) (ci := 10) (v := .ref sh) (C := RX10) (T := TX10) (N := 13) hx hb hT giX10 hown hK hP 0 rfl rfl 10 (by decide) (hT (Cond.fieldLink RX10 70 "DesertWire" "sheets" "LDesertWire$Sheets;") mw_301) (fun _ h9 => h9) rfl dX10_sheet_66 ?_
            refine lv_iload_n hx hb dX10_sheet_69 rfl (lv_at hl 1 rfl) ?_
            refine lv_iload_n hx hb dX10_sheet_70 rfl (lv_at hl 2 rfl) ?_
            refine lv_iload_n hx hb dX10_sheet_71 rfl (lv_at hl 2 rfl) ?_
            refine b_if_ne hx hb rfl (tgt := 79) dX10_sheet_72 (by decide) (fun c_20 => ?_) (fun c_20 => by exfalso; omega)
            refine lv_iload_n hx hb dX10_sheet_79 rfl (lv_at hl 3 rfl) ?_
            refine kJv (wr := [(x, .inr (10, [.ref nw, .ref kp, .ref fu, .ref ra, .ref kr, .ref rd, .ref wd, .ref ld, .ref mt, .ref vo, .ref sh, .ref fd, .int im])), (fd, .inl (cI, 6, .inl ff))]) (va_runV (As := [.int a, .int b, .int d]) (rest := []) ⟨hx, hb, hml, hown, hT⟩ (c_X6_blank l D cI sh sb sl sn H.size f0 f1 f2 a b d (by first | omega | decide | assumption | rfl) (by first | omega | decide | assumption | rfl)) (cwV 3 hT (gV_in mw_1076 mw_1073 mw_1074 mw_1075 mw_11) rfl rfl rfl (by decide +kernel) ⟨Nat.le_of_ble_eq_true rfl, Nat.le_of_ble_eq_true rfl⟩) (kRecv (own := "") (q0 := 1) (ci := 6) hK hP hD hN rfl rfl [1, 2, 3, 4] rfl (by decide)) rfl rfl hl.1 rfl (lv_room (Nat.le_of_ble_eq_true rfl)) dX10_sheet_80 ⟨Nat.le_of_ble_eq_true rfl, Nat.le_of_ble_eq_true rfl⟩) hP hD hS hA [1, 2, 3, 4] [0, 5] rfl rfl (by decide) (by decide) (fun u_23 H locs w_22 hP hD hS => ?_)
            have hP : va_P D vwCl [(x, .inr (10, [.ref nw, .ref kp, .ref fu, .ref ra, .ref kr, .ref rd, .ref wd, .ref ld, .ref mt, .ref vo, .ref sh, .ref fd, .int im])), (fd, .inl (cI, 6, .inl ff))] H := hP
            have hD : va_D A [(x, .inr (10, [.ref nw, .ref kp, .ref fu, .ref ra, .ref kr, .ref rd, .ref wd, .ref ld, .ref mt, .ref vo, .ref sh, .ref fd, .int im])), (fd, .inl (cI, 6, .inl ff))] := hD
            refine lv_iconst (v := 1) hx hb dX10_sheet_83 (by decide) ?_
            exact hRet () [] (by unfold sp_sheet; repeat (first | rw [if_pos (by omega)] | rw [if_neg (by omega)])) hP hD (by decide) rfl hS rfl dX10_sheet_84
          · refine lv_aload_n hx hb dX10_sheet_59 rfl (lv_at hl 0 rfl) ?_
            refine lv_iconst (v := 1) hx hb dX10_sheet_60 (by decide) ?_
            refine kJi (wr := [(sh, .inr (6, [.ref sb, .ref sl, .ref sn])), (sb, .inl (cI, 4, .inl f0)), (sl, .inl (cI, 4, .inl f1)), (sn, .inl (cI, 144, .inl f2))]) (va_runV (As := [.int 1]) (rest := []) ⟨hx, hb, hml, hown, hT⟩ (c_X10_finding l D cI x nw kp fu ra kr rd wd ld mt vo sh fd H.size im ff 1 (by first | omega | (simp only [zl_1] <;> omega) | decide | assumption | rfl) (by first | omega | (simp only [zl_1] <;> omega) | decide | assumption | rfl)) (cwV 1 hT (gV_in mw_338 mw_335 mw_337 mw_p1_0 mw_1) rfl rfl rfl (by decide +kernel) ⟨Nat.le_of_ble_eq_true rfl, Nat.le_of_ble_eq_true rfl⟩) (kRecv (own := "") (q0 := 0) (ci := 10) hK hP hD hN rfl rfl [0, 5] rfl (by decide)) rfl rfl hl.1 rfl (lv_room (Nat.le_of_ble_eq_true rfl)) dX10_sheet_61 ⟨Nat.le_of_ble_eq_true rfl, Nat.le_of_ble_eq_true rfl⟩) hP hD hS hA [0, 5] [1, 2, 3, 4] rfl rfl (by decide) (by decide) (fun r_24 u_26 H locs w_25 hP hD hS => ?_)
            have hP : va_P D vwCl [(sh, .inr (6, [.ref sb, .ref sl, .ref sn])), (sb, .inl (cI, 4, .inl f0)), (sl, .inl (cI, 4, .inl f1)), (sn, .inl (cI, 144, .inl f2))] H := hP
            have hD : va_D A [(sh, .inr (6, [.ref sb, .ref sl, .ref sn])), (sb, .inl (cI, 4, .inl f0)), (sl, .inl (cI, 4, .inl f1)), (sn, .inl (cI, 144, .inl f2))] := hD
            have hr_24 := w_25
            obtain rfl : r_24 = (-1000001) := hr_24.trans (by decide)
            exact hRet () [] (by unfold sp_sheet; repeat (first | rw [if_pos (by omega)] | rw [if_neg (by omega)])) hP hD (by decide) rfl hS rfl dX10_sheet_64
        · refine lv_aload_n hx hb dX10_sheet_43 rfl (lv_at hl 0 rfl) ?_
          refine lv_iconst (v := 3) hx hb dX10_sheet_44 (by decide) ?_
          refine kJi (wr := [(sh, .inr (6, [.ref sb, .ref sl, .ref sn])), (sb, .inl (cI, 4, .inl f0)), (sl, .inl (cI, 4, .inl f1)), (sn, .inl (cI, 144, .inl f2))]) (va_runV (As := [.int 3]) (rest := []) ⟨hx, hb, hml, hown, hT⟩ (c_X10_finding l D cI x nw kp fu ra kr rd wd ld mt vo sh fd H.size im ff 3 (by first | omega | (simp only [zl_3] <;> omega) | decide | assumption | rfl) (by first | omega | (simp only [zl_3] <;> omega) | decide | assumption | rfl)) (cwV 1 hT (gV_in mw_338 mw_335 mw_337 mw_p1_0 mw_1) rfl rfl rfl (by decide +kernel) ⟨Nat.le_of_ble_eq_true rfl, Nat.le_of_ble_eq_true rfl⟩) (kRecv (own := "") (q0 := 0) (ci := 10) hK hP hD hN rfl rfl [0, 5] rfl (by decide)) rfl rfl hl.1 rfl (lv_room (Nat.le_of_ble_eq_true rfl)) dX10_sheet_45 ⟨Nat.le_of_ble_eq_true rfl, Nat.le_of_ble_eq_true rfl⟩) hP hD hS hA [0, 5] [1, 2, 3, 4] rfl rfl (by decide) (by decide) (fun r_27 u_29 H locs w_28 hP hD hS => ?_)
          have hP : va_P D vwCl [(sh, .inr (6, [.ref sb, .ref sl, .ref sn])), (sb, .inl (cI, 4, .inl f0)), (sl, .inl (cI, 4, .inl f1)), (sn, .inl (cI, 144, .inl f2))] H := hP
          have hD : va_D A [(sh, .inr (6, [.ref sb, .ref sl, .ref sn])), (sb, .inl (cI, 4, .inl f0)), (sl, .inl (cI, 4, .inl f1)), (sn, .inl (cI, 144, .inl f2))] := hD
          have hr_27 := w_28
          obtain rfl : r_27 = (-1000003) := hr_27.trans (by decide)
          exact hRet () [] (by unfold sp_sheet; repeat (first | rw [if_pos (by omega)] | rw [if_neg (by omega)])) hP hD (by decide) rfl hS rfl dX10_sheet_48
      · refine lv_iload_n hx hb dX10_sheet_17 rfl (lv_at hl 2 rfl) ?_
        refine lv_bipush (v := 16) hx hb dX10_sheet_18 (by decide) ?_
        refine b_icmp_eq hx hb rfl zl_16 (tgt := 35) dX10_sheet_20 (by decide) (fun c_30 => ?_) (fun c_30 => ?_)
        · refine lv_iload_n hx hb dX10_sheet_35 rfl (lv_at hl 2 rfl) ?_
          refine b_if_eq hx hb rfl (tgt := 49) dX10_sheet_36 (by decide) (fun c_31 => by exfalso; omega) (fun c_31 => ?_)
          refine lv_iload_n hx hb dX10_sheet_39 rfl (lv_at hl 3 rfl) ?_
          refine b_if_ge hx hb rfl (tgt := 49) dX10_sheet_40 (by decide) (fun c_32 => ?_) (fun c_32 => ?_)
          · refine lv_iload_n hx hb dX10_sheet_49 rfl (lv_at hl 2 rfl) ?_
            refine b_if_eq hx hb rfl (tgt := 65) dX10_sheet_50 (by decide) (fun c_33 => by exfalso; omega) (fun c_33 => ?_)
            refine lv_iload_n hx hb dX10_sheet_53 rfl (lv_at hl 3 rfl) ?_
            refine lv_bipush (v := 36) hx hb dX10_sheet_54 (by decide) ?_
            refine b_icmp_le hx hb rfl zl_36 (tgt := 65) dX10_sheet_56 (by decide) (fun c_34 => ?_) (fun c_34 => ?_)
            · refine lv_aload_n hx hb dX10_sheet_65 rfl (lv_at hl 0 rfl) ?_
              refine va_get (D := D) (ci := 10) (v := .ref sh) (C := RX10) (T := TX10) (N := 13) hx hb hT giX10 hown hK hP 0 rfl rfl 10 (by decide) (hT (Cond.fieldLink RX10 70 "DesertWire" "sheets" "LDesertWire$Sheets;") mw_301) (fun _ h9 => h9) rfl dX10_sheet_66 ?_
              refine lv_iload_n hx hb dX10_sheet_69 rfl (lv_at hl 1 rfl) ?_
              refine lv_iload_n hx hb dX10_sheet_70 rfl (lv_at hl 2 rfl) ?_
              refine lv_iload_n hx hb dX10_sheet_71 rfl (lv_at hl 2 rfl) ?_
              refine b_if_ne hx hb rfl (tgt := 79) dX10_sheet_72 (by decide) (fun c_35 => ?_) (fun c_35 => by exfalso; omega)
              refine lv_iload_n hx hb dX10_sheet_79 rfl (lv_at hl 3 rfl) ?_
              refine kJv (wr := [(x, .inr (10, [.ref nw, .ref kp, .ref fu, .ref ra, .ref kr, .ref rd, .ref wd, .ref ld, .ref mt, .ref vo, .ref sh, .ref fd, .int im])), (fd, .inl (cI, 6, .inl ff))]) (va_runV (As := [.int a, .int b, .int d]) (rest := []) ⟨hx, hb, hml, hown, hT⟩ (c_X6_blank l D cI sh sb sl sn H.size f0 f1 f2 a b d (by first | omega | decide | assumption | rfl) (by first | omega | decide | assumption | rfl)) (cwV 3 hT (gV_in mw_1076 mw_1073 mw_1074 mw_1075 mw_11) rfl rfl rfl (by decide +kernel) ⟨Nat.le_of_ble_eq_true rfl, Nat.le_of_ble_eq_true rfl⟩) (kRecv (own := "") (q0 := 1) (ci := 6) hK hP hD hN rfl rfl [1, 2, 3, 4] rfl (by decide)) rfl rfl hl.1 rfl (lv_room (Nat.le_of_ble_eq_true rfl)) dX10_sheet_80 ⟨Nat.le_of_ble_eq_true rfl, Nat.le_of_ble_eq_true rfl⟩) hP hD hS hA [1, 2, 3, 4] [0, 5] rfl rfl (by decide) (by decide) (fun u_38 H locs w_37 hP hD hS => ?_)
              have hP : va_P D vwCl [(x, .inr (10, [.ref nw, .ref kp, .ref fu, .ref ra, .ref kr, .ref rd, .ref wd, .ref ld, .ref mt, .ref vo, .ref sh, .ref fd, .int im])), (fd, .inl (cI, 6, .inl ff))] H := hP
              have hD : va_D A [(x, .inr (10, [.ref nw, .ref kp, .ref fu, .ref ra, .ref kr, .ref rd, .ref wd, .ref ld, .ref mt, .ref vo, .ref sh, .ref fd, .int im])), (fd, .inl (cI, 6, .inl ff))] := hD
              refine lv_iconst (v := 1) hx hb dX10_sheet_83 (by decide) ?_
              exact hRet () [] (by unfold sp_sheet; repeat (first | rw [if_pos (by omega)] | rw [if_neg (by omega)])) hP hD (by decide) rfl hS rfl dX10_sheet_84
            · refine lv_aload_n hx hb dX10_sheet_59 rfl (lv_at hl 0 rfl) ?_
              refine lv_iconst (v := 1) hx hb dX10_sheet_60 (by decide) ?_
              refine kJi (wr := [(sh, .inr (6, [.ref sb, .ref sl, .ref sn])), (sb, .inl (cI, 4, .inl f0)), (sl, .inl (cI, 4, .inl f1)), (sn, .inl (cI, 144, .inl f2))]) (va_runV (As := [.int 1]) (rest := []) ⟨hx, hb, hml, hown, hT⟩ (c_X10_finding l D cI x nw kp fu ra kr rd wd ld mt vo sh fd H.size im ff 1 (by first | omega | (simp only [zl_1] <;> omega) | decide | assumption | rfl) (by first | omega | (simp only [zl_1] <;> omega) | decide | assumption | rfl)) (cwV 1 hT (gV_in mw_338 mw_335 mw_337 mw_p1_0 mw_1) rfl rfl rfl (by decide +kernel) ⟨Nat.le_of_ble_eq_true rfl, Nat.le_of_ble_eq_true rfl⟩) (kRecv (own := "") (q0 := 0) (ci := 10) hK hP hD hN rfl rfl [0, 5] rfl (by decide)) rfl rfl hl.1 rfl (lv_room (Nat.le_of_ble_eq_true rfl)) dX10_sheet_61 ⟨Nat.le_of_ble_eq_true rfl, Nat.le_of_ble_eq_true rfl⟩) hP hD hS hA [0, 5] [1, 2, 3, 4] rfl rfl (by decide) (by decide) (fun r_39 u_41 H locs w_40 hP hD hS => ?_)
              have hP : va_P D vwCl [(sh, .inr (6, [.ref sb, .ref sl, .ref sn])), (sb, .inl (cI, 4, .inl f0)), (sl, .inl (cI, 4, .inl f1)), (sn, .inl (cI, 144, .inl f2))] H := hP
              have hD : va_D A [(sh, .inr (6, [.ref sb, .ref sl, .ref sn])), (sb, .inl (cI, 4, .inl f0)), (sl, .inl (cI, 4, .inl f1)), (sn, .inl (cI, 144, .inl f2))] := hD
              have hr_39 := w_40
              obtain rfl : r_39 = (-1000001) := hr_39.trans (by decide)
              exact hRet () [] (by unfold sp_sheet; repeat (first | rw [if_pos (by omega)] | rw [if_neg (by omega)])) hP hD (by decide) rfl hS rfl dX10_sheet_64
          · refine lv_aload_n hx hb dX10_sheet_43 rfl (lv_at hl 0 rfl) ?_
            refine lv_iconst (v := 3) hx hb dX10_sheet_44 (by decide) ?_
            refine kJi (wr := [(sh, .inr (6, [.ref sb, .ref sl, .ref sn])), (sb, .inl (cI, 4, .inl f0)), (sl, .inl (cI, 4, .inl f1)), (sn, .inl (cI, 144, .inl f2))]) (va_runV (As := [.int 3]) (rest := []) ⟨hx, hb, hml, hown, hT⟩ (c_X10_finding l D cI x nw kp fu ra kr rd wd ld mt vo sh fd H.size im ff 3 (by first | omega | (simp only [zl_3] <;> omega) | decide | assumption | rfl) (by first | omega | (simp only [zl_3] <;> omega) | decide | assumption | rfl)) (cwV 1 hT (gV_in mw_338 mw_335 mw_337 mw_p1_0 mw_1) rfl rfl rfl (by decide +kernel) ⟨Nat.le_of_ble_eq_true rfl, Nat.le_of_ble_eq_true rfl⟩) (kRecv (own := "") (q0 := 0) (ci := 10) hK hP hD hN rfl rfl [0, 5] rfl (by decide)) rfl rfl hl.1 rfl (lv_room (Nat.le_of_ble_eq_true rfl)) dX10_sheet_45 ⟨Nat.le_of_ble_eq_true rfl, Nat.le_of_ble_eq_true rfl⟩) hP hD hS hA [0, 5] [1, 2, 3, 4] rfl rfl (by decide) (by decide) (fun r_42 u_44 H locs w_43 hP hD hS => ?_)
            have hP : va_P D vwCl [(sh, .inr (6, [.ref sb, .ref sl, .ref sn])), (sb, .inl (cI, 4, .inl f0)), (sl, .inl (cI, 4, .inl f1)), (sn, .inl (cI, 144, .inl f2))] H := hP
            have hD : va_D A [(sh, .inr (6, [.ref sb, .ref sl, .ref sn])), (sb, .inl (cI, 4, .inl f0)), (sl, .inl (cI, 4, .inl f1)), (sn, .inl (cI, 144, .inl f2))] := hD
            have hr_42 := w_43
            obtain rfl : r_42 = (-1000003) := hr_42.trans (by decide)
            exact hRet () [] (by unfold sp_sheet; repeat (first | rw [if_pos (by omega)] | rw [if_neg (by omega)])) hP hD (by decide) rfl hS rfl dX10_sheet_48
        · refine lv_iload_n hx hb dX10_sheet_23 rfl (lv_at hl 2 rfl) ?_
          refine lv_bipush (v := 32) hx hb dX10_sheet_24 (by decide) ?_
          refine b_icmp_eq hx hb rfl zl_32 (tgt := 35) dX10_sheet_26 (by decide) (fun c_45 => ?_) (fun c_45 => ?_)
          · refine lv_iload_n hx hb dX10_sheet_35 rfl (lv_at hl 2 rfl) ?_
            refine b_if_eq hx hb rfl (tgt := 49) dX10_sheet_36 (by decide) (fun c_46 => by exfalso; omega) (fun c_46 => ?_)
            refine lv_iload_n hx hb dX10_sheet_39 rfl (lv_at hl 3 rfl) ?_
            refine b_if_ge hx hb rfl (tgt := 49) dX10_sheet_40 (by decide) (fun c_47 => ?_) (fun c_47 => ?_)
            · refine lv_iload_n hx hb dX10_sheet_49 rfl (lv_at hl 2 rfl) ?_
              refine b_if_eq hx hb rfl (tgt := 65) dX10_sheet_50 (by decide) (fun c_48 => by exfalso; omega) (fun c_48 => ?_)
              refine lv_iload_n hx hb dX10_sheet_53 rfl (lv_at hl 3 rfl) ?_
              refine lv_bipush (v := 36) hx hb dX10_sheet_54 (by decide) ?_
              refine b_icmp_le hx hb rfl zl_36 (tgt := 65) dX10_sheet_56 (by decide) (fun c_49 => ?_) (fun c_49 => ?_)
              · refine lv_aload_n hx hb dX10_sheet_65 rfl (lv_at hl 0 rfl) ?_
                refine va_get (D := D) (ci := 10) (v := .ref sh) (C := RX10) (T := TX10) (N := 13) hx hb hT giX10 hown hK hP 0 rfl rfl 10 (by decide) (hT (Cond.fieldLink RX10 70 "DesertWire" "sheets" "LDesertWire$Sheets;") mw_301) (fun _ h9 => h9) rfl dX10_sheet_66 ?_
                refine lv_iload_n hx hb dX10_sheet_69 rfl (lv_at hl 1 rfl) ?_
                refine lv_iload_n hx hb dX10_sheet_70 rfl (lv_at hl 2 rfl) ?_
                refine lv_iload_n hx hb dX10_sheet_71 rfl (lv_at hl 2 rfl) ?_
                refine b_if_ne hx hb rfl (tgt := 79) dX10_sheet_72 (by decide) (fun c_50 => ?_) (fun c_50 => by exfalso; omega)
                refine lv_iload_n hx hb dX10_sheet_79 rfl (lv_at hl 3 rfl) ?_
                refine kJv (wr := [(x, .inr (10, [.ref nw, .ref kp, .ref fu, .ref ra, .ref kr, .ref rd, .ref wd, .ref ld, .ref mt, .ref vo, .ref sh, .ref fd, .int im])), (fd, .inl (cI, 6, .inl ff))]) (va_runV (As := [.int a, .int b, .int d]) (rest := []) ⟨hx, hb, hml, hown, hT⟩ (c_X6_blank l D cI sh sb sl sn H.size f0 f1 f2 a b d (by first | omega | decide | assumption | rfl) (by first | omega | decide | assumption | rfl)) (cwV 3 hT (gV_in mw_1076 mw_1073 mw_1074 mw_1075 mw_11) rfl rfl rfl (by decide +kernel) ⟨Nat.le_of_ble_eq_true rfl, Nat.le_of_ble_eq_true rfl⟩) (kRecv (own := "") (q0 := 1) (ci := 6) hK hP hD hN rfl rfl [1, 2, 3, 4] rfl (by decide)) rfl rfl hl.1 rfl (lv_room (Nat.le_of_ble_eq_true rfl)) dX10_sheet_80 ⟨Nat.le_of_ble_eq_true rfl, Nat.le_of_ble_eq_true rfl⟩) hP hD hS hA [1, 2, 3, 4] [0, 5] rfl rfl (by decide) (by decide) (fun u_53 H locs w_52 hP hD hS => ?_)
                have hP : va_P D vwCl [(x, .inr (10, [.ref nw, .ref kp, .ref fu, .ref ra, .ref kr, .ref rd, .ref wd, .ref ld, .ref mt, .ref vo, .ref sh, .ref fd, .int im])), (fd, .inl (cI, 6, .inl ff))] H := hP
                have hD : va_D A [(x, .inr (10, [.ref nw, .ref kp, .ref fu, .ref ra, .ref kr, .ref rd, .ref wd, .ref ld, .ref mt, .ref vo, .ref sh, .ref fd, .int im])), (fd, .inl (cI, 6, .inl ff))] := hD
                refine lv_iconst (v := 1) hx hb dX10_sheet_83 (by decide) ?_
                exact hRet () [] (by unfold sp_sheet; repeat (first | rw [if_pos (by omega)] | rw [if_neg (by omega)])) hP hD (by decide) rfl hS rfl dX10_sheet_84
              · refine lv_aload_n hx hb dX10_sheet_59 rfl (lv_at hl 0 rfl) ?_
                refine lv_iconst (v := 1) hx hb dX10_sheet_60 (by decide) ?_
                refine kJi (wr := [(sh, .inr (6, [.ref sb, .ref sl, .ref sn])), (sb, .inl (cI, 4, .inl f0)), (sl, .inl (cI, 4, .inl f1)), (sn, .inl (cI, 144, .inl f2))]) (va_runV (As := [.int 1]) (rest := []) ⟨hx, hb, hml, hown, hT⟩ (c_X10_finding l D cI x nw kp fu ra kr rd wd ld mt vo sh fd H.size im ff 1 (by first | omega | (simp only [zl_1] <;> omega) | decide | assumption | rfl) (by first | omega | (simp only [zl_1] <;> omega) | decide | assumption | rfl)) (cwV 1 hT (gV_in mw_338 mw_335 mw_337 mw_p1_0 mw_1) rfl rfl rfl (by decide +kernel) ⟨Nat.le_of_ble_eq_true rfl, Nat.le_of_ble_eq_true rfl⟩) (kRecv (own := "") (q0 := 0) (ci := 10) hK hP hD hN rfl rfl [0, 5] rfl (by decide)) rfl rfl hl.1 rfl (lv_room (Nat.le_of_ble_eq_true rfl)) dX10_sheet_61 ⟨Nat.le_of_ble_eq_true rfl, Nat.le_of_ble_eq_true rfl⟩) hP hD hS hA [0, 5] [1, 2, 3, 4] rfl rfl (by decide) (by decide) (fun r_54 u_56 H locs w_55 hP hD hS => ?_)
                have hP : va_P D vwCl [(sh, .inr (6, [.ref sb, .ref sl, .ref sn])), (sb, .inl (cI, 4, .inl f0)), (sl, .inl (cI, 4, .inl f1)), (sn, .inl (cI, 144, .inl f2))] H := hP
                have hD : va_D A [(sh, .inr (6, [.ref sb, .ref sl, .ref sn])), (sb, .inl (cI, 4, .inl f0)), (sl, .inl (cI, 4, .inl f1)), (sn, .inl (cI, 144, .inl f2))] := hD
                have hr_54 := w_55
                obtain rfl : r_54 = (-1000001) := hr_54.trans (by decide)
                exact hRet () [] (by unfold sp_sheet; repeat (first | rw [if_pos (by omega)] | rw [if_neg (by omega)])) hP hD (by decide) rfl hS rfl dX10_sheet_64
            · refine lv_aload_n hx hb dX10_sheet_43 rfl (lv_at hl 0 rfl) ?_
              refine lv_iconst (v := 3) hx hb dX10_sheet_44 (by decide) ?_
              refine kJi (wr := [(sh, .inr (6, [.ref sb, .ref sl, .ref sn])), (sb, .inl (cI, 4, .inl f0)), (sl, .inl (cI, 4, .inl f1)), (sn, .inl (cI, 144, .inl f2))]) (va_runV (As := [.int 3]) (rest := []) ⟨hx, hb, hml, hown, hT⟩ (c_X10_finding l D cI x nw kp fu ra kr rd wd ld mt vo sh fd H.size im ff 3 (by first | omega | (simp only [zl_3] <;> omega) | decide | assumption | rfl) (by first | omega | (simp only [zl_3] <;> omega) | decide | assumption | rfl)) (cwV 1 hT (gV_in mw_338 mw_335 mw_337 mw_p1_0 mw_1) rfl rfl rfl (by decide +kernel) ⟨Nat.le_of_ble_eq_true rfl, Nat.le_of_ble_eq_true rfl⟩) (kRecv (own := "") (q0 := 0) (ci := 10) hK hP hD hN rfl rfl [0, 5] rfl (by decide)) rfl rfl hl.1 rfl (lv_room (Nat.le_of_ble_eq_true rfl)) dX10_sheet_45 ⟨Nat.le_of_ble_eq_true rfl, Nat.le_of_ble_eq_true rfl⟩) hP hD hS hA [0, 5] [1, 2, 3, 4] rfl rfl (by decide) (by decide) (fun r_57 u_59 H locs w_58 hP hD hS => ?_)
              have hP : va_P D vwCl [(sh, .inr (6, [.ref sb, .ref sl, .ref sn])), (sb, .inl (cI, 4, .inl f0)), (sl, .inl (cI, 4, .inl f1)), (sn, .inl (cI, 144, .inl f2))] H := hP
              have hD : va_D A [(sh, .inr (6, [.ref sb, .ref sl, .ref sn])), (sb, .inl (cI, 4, .inl f0)), (sl, .inl (cI, 4, .inl f1)), (sn, .inl (cI, 144, .inl f2))] := hD
              have hr_57 := w_58
              obtain rfl : r_57 = (-1000003) := hr_57.trans (by decide)
              exact hRet () [] (by unfold sp_sheet; repeat (first | rw [if_pos (by omega)] | rw [if_neg (by omega)])) hP hD (by decide) rfl hS rfl dX10_sheet_48
          · refine lv_aload_n hx hb dX10_sheet_29 rfl (lv_at hl 0 rfl) ?_
            refine lv_iconst (v := 1) hx hb dX10_sheet_30 (by decide) ?_
            refine kJi (wr := [(sh, .inr (6, [.ref sb, .ref sl, .ref sn])), (sb, .inl (cI, 4, .inl f0)), (sl, .inl (cI, 4, .inl f1)), (sn, .inl (cI, 144, .inl f2))]) (va_runV (As := [.int 1]) (rest := []) ⟨hx, hb, hml, hown, hT⟩ (c_X10_finding l D cI x nw kp fu ra kr rd wd ld mt vo sh fd H.size im ff 1 (by first | omega | (simp only [zl_1] <;> omega) | decide | assumption | rfl) (by first | omega | (simp only [zl_1] <;> omega) | decide | assumption | rfl)) (cwV 1 hT (gV_in mw_338 mw_335 mw_337 mw_p1_0 mw_1) rfl rfl rfl (by decide +kernel) ⟨Nat.le_of_ble_eq_true rfl, Nat.le_of_ble_eq_true rfl⟩) (kRecv (own := "") (q0 := 0) (ci := 10) hK hP hD hN rfl rfl [0, 5] rfl (by decide)) rfl rfl hl.1 rfl (lv_room (Nat.le_of_ble_eq_true rfl)) dX10_sheet_31 ⟨Nat.le_of_ble_eq_true rfl, Nat.le_of_ble_eq_true rfl⟩) hP hD hS hA [0, 5] [1, 2, 3, 4] rfl rfl (by decide) (by decide) (fun r_60 u_62 H locs w_61 hP hD hS => ?_)
            have hP : va_P D vwCl [(sh, .inr (6, [.ref sb, .ref sl, .ref sn])), (sb, .inl (cI, 4, .inl f0)), (sl, .inl (cI, 4, .inl f1)), (sn, .inl (cI, 144, .inl f2))] H := hP
            have hD : va_D A [(sh, .inr (6, [.ref sb, .ref sl, .ref sn])), (sb, .inl (cI, 4, .inl f0)), (sl, .inl (cI, 4, .inl f1)), (sn, .inl (cI, 144, .inl f2))] := hD
            have hr_60 := w_61
            obtain rfl : r_60 = (-1000001) := hr_60.trans (by decide)
            exact hRet () [] (by unfold sp_sheet; repeat (first | rw [if_pos (by omega)] | rw [if_neg (by omega)])) hP hD (by decide) rfl hS rfl dX10_sheet_34
  · have h_6 : a.toInt < 0 ∨ 3 < a.toInt := h_6
    obtain rfl : r_1 = 0 := hr_1.trans (by decide)
    refine b_if_eq hx hb zl_0 (tgt := 29) dX10_sheet_4 (by decide) (fun c_63 => ?_) (fun c_63 => by exfalso; omega)
    refine lv_aload_n hx hb dX10_sheet_29 rfl (lv_at hl 0 rfl) ?_
    refine lv_iconst (v := 1) hx hb dX10_sheet_30 (by decide) ?_
    refine kJi (wr := [(sh, .inr (6, [.ref sb, .ref sl, .ref sn])), (sb, .inl (cI, 4, .inl f0)), (sl, .inl (cI, 4, .inl f1)), (sn, .inl (cI, 144, .inl f2))]) (va_runV (As := [.int 1]) (rest := []) ⟨hx, hb, hml, hown, hT⟩ (c_X10_finding l D cI x nw kp fu ra kr rd wd ld mt vo sh fd H.size im ff 1 (by first | omega | (simp only [zl_1] <;> omega) | decide | assumption | rfl) (by first | omega | (simp only [zl_1] <;> omega) | decide | assumption | rfl)) (cwV 1 hT (gV_in mw_338 mw_335 mw_337 mw_p1_0 mw_1) rfl rfl rfl (by decide +kernel) ⟨Nat.le_of_ble_eq_true rfl, Nat.le_of_ble_eq_true rfl⟩) (kRecv (own := "") (q0 := 0) (ci := 10) hK hP hD hN rfl rfl [0, 5] rfl (by decide)) rfl rfl hl.1 rfl (lv_room (Nat.le_of_ble_eq_true rfl)) dX10_sheet_31 ⟨Nat.le_of_ble_eq_true rfl, Nat.le_of_ble_eq_true rfl⟩) hP hD hS hA [0, 5] [1, 2, 3, 4] rfl rfl (by decide) (by decide) (fun r_64 u_66 H locs w_65 hP hD hS => ?_)
    have hP : va_P D vwCl [(sh, .inr (6, [.ref sb, .ref sl, .ref sn])), (sb, .inl (cI, 4, .inl f0)), (sl, .inl (cI, 4, .inl f1)), (sn, .inl (cI, 144, .inl f2))] H := hP
    have hD : va_D A [(sh, .inr (6, [.ref sb, .ref sl, .ref sn])), (sb, .inl (cI, 4, .inl f0)), (sl, .inl (cI, 4, .inl f1)), (sn, .inl (cI, 144, .inl f2))] := hD
    have hr_64 := w_65
    obtain rfl : r_64 = (-1000001) := hr_64.trans (by decide)
    exact hRet () [] (by unfold sp_sheet; repeat (first | rw [if_pos (by omega)] | rw [if_neg (by omega)])) hP hD (by decide) rfl hS rfl dX10_sheet_34
set_option maxHeartbeats 4000000 in
set_option maxRecDepth 100000 in
theorem c_X10_put (l : Launch) (D : va_G) (cI : ClassId) (x nw kp fu ra kr rd wd ld mt vo sh fd sb sl sn : Nat) (sz : Nat) (im : Int32) (ff : Nat → Int32) (a : Int32) (b : Int32) (d : Int32) : Met l yX10_put (gW yX10_put cX10_put 4 (some .int)) ({ frames := 3, cells := 0, slots := 0, locals := 62 } : Room) (kPre D cI [.ref x, .int a, .int b, .int d] [(x, .inr (10, [.ref nw, .ref kp, .ref fu, .ref ra, .ref kr, .ref rd, .ref wd, .ref ld, .ref mt, .ref vo, .ref sh, .ref fd, .int im])), (sh, .inr (6, [.ref sb, .ref sl, .ref sn])), (sb, .inl (cI, 4, .inl (fun _ => (0 : Int32)))), (fd, .inl (cI, 6, .inl ff))] sz) (va_Qi (fun (r : Int32) (u : Unit) => r = sp_put a) (fun u t => kWd D cI (va_A [(x, .inr (10, [.ref nw, .ref kp, .ref fu, .ref ra, .ref kr, .ref rd, .ref wd, .ref ld, .ref mt, .ref vo, .ref sh, .ref fd, .int im])), (sh, .inr (6, [.ref sb, .ref sl, .ref sn])), (sb, .inl (cI, 4, .inl (fun _ => (0 : Int32)))), (fd, .inl (cI, 6, .inl ff))] sz) [] t) (va_A [(x, .inr (10, [.ref nw, .ref kp, .ref fu, .ref ra, .ref kr, .ref rd, .ref wd, .ref ld, .ref mt, .ref vo, .ref sh, .ref fd, .int im])), (sh, .inr (6, [.ref sb, .ref sl, .ref sn])), (sb, .inl (cI, 4, .inl (fun _ => (0 : Int32)))), (fd, .inl (cI, 6, .inl ff))] sz)) 0 0 (va_A [(x, .inr (10, [.ref nw, .ref kp, .ref fu, .ref ra, .ref kr, .ref rd, .ref wd, .ref ld, .ref mt, .ref vo, .ref sh, .ref fd, .int im])), (sh, .inr (6, [.ref sb, .ref sl, .ref sn])), (sb, .inl (cI, 4, .inl (fun _ => (0 : Int32)))), (fd, .inl (cI, 6, .inl ff))] sz) := by
  refine kMetI (own := RX10) (by decide) rfl (Nat.le_of_ble_eq_true rfl) ?_
  intro p e s m args below meth c hx hb hT hown hname hml A Q hK hP hD hS hA hN hRet ls hl
  have hl : lv_has ls 4 [(0, .ref x), (1, .int a), (2, .int b), (3, .int d)] := hl
  have lo_a := k_lo a
  have hi_a := k_hi a
  have lo_b := k_lo b
  have hi_b := k_hi b
  have lo_d := k_lo d
  have hi_d := k_hi d
  have lo_im := k_lo im
  have hi_im := k_hi im
  refine lv_iload_n hx hb dX10_put_0 rfl (lv_at hl 1 rfl) ?_
  refine kJi (wr := [(x, .inr (10, [.ref nw, .ref kp, .ref fu, .ref ra, .ref kr, .ref rd, .ref wd, .ref ld, .ref mt, .ref vo, .ref sh, .ref fd, .int im])), (sh, .inr (6, [.ref sb, .ref sl, .ref sn])), (sb, .inl (cI, 4, .inl (fun _ => (0 : Int32)))), (fd, .inl (cI, 6, .inl ff))]) (va_runS (As := [.int a]) (rest := []) ⟨hx, hb, hml, hown, hT⟩ (c_X10_isSheet l D cI s.heap.size a) (cwS 1 hT (gS_in mw_662 mw_660 mw_661 mw_1) rfl rfl rfl (by decide +kernel) ⟨Nat.le_of_ble_eq_true rfl, Nat.le_of_ble_eq_true rfl⟩) (kStat hK hP hD hN [] rfl (by decide)) rfl rfl hl.1 rfl (lv_room (Nat.le_of_ble_eq_true rfl)) dX10_put_1 ⟨Nat.le_of_ble_eq_true rfl, Nat.le_of_ble_eq_true rfl⟩) hP hD hS hA [] [0, 1, 2, 3] rfl rfl (by decide) (by decide) (fun r_1 u_3 H locs w_2 hP hD hS => ?_)
  have hP : va_P D vwCl [(x, .inr (10, [.ref nw, .ref kp, .ref fu, .ref ra, .ref kr, .ref rd, .ref wd, .ref ld, .ref mt, .ref vo, .ref sh, .ref fd, .int im])), (sh, .inr (6, [.ref sb, .ref sl, .ref sn])), (sb, .inl (cI, 4, .inl (fun _ => (0 : Int32)))), (fd, .inl (cI, 6, .inl ff))] H := hP
  have hD : va_D A [(x, .inr (10, [.ref nw, .ref kp, .ref fu, .ref ra, .ref kr, .ref rd, .ref wd, .ref ld, .ref mt, .ref vo, .ref sh, .ref fd, .int im])), (sh, .inr (6, [.ref sb, .ref sl, .ref sn])), (sb, .inl (cI, 4, .inl (fun _ => (0 : Int32)))), (fd, .inl (cI, 6, .inl ff))] := hD
  rcases w_2 with ⟨hr_1, h_4, h_5⟩ | ⟨hr_1, h_6⟩
  · have h_4 : 0 ≤ a.toInt := h_4
    have h_5 : a.toInt ≤ 3 := h_5
    obtain rfl : r_1 = 1 := hr_1.trans (by decide)
    refine b_if_ne hx hb zl_1 (tgt := 13) dX10_put_4 (by decide) (fun c_7 => ?_) (fun c_7 => by exfalso; omega)
    refine lv_aload_n hx hb dX10_put_13 rfl (lv_at hl 0 rfl) ?_
    refine va_get (D := D) (ci := 10) (v := .ref sh) (C := RX10) (T := TX10) (N := 13) hx hb hT giX10 hown hK hP 0 rfl rfl 10 (by decide) (hT (Cond.fieldLink RX10 70 "DesertWire" "sheets" "LDesertWire$Sheets;") mw_301) (fun _ h9 => h9) rfl dX10_put_14 ?_
    refine lv_iload_n hx hb dX10_put_17 rfl (lv_at hl 1 rfl) ?_
    refine kJi (wr := [(x, .inr (10, [.ref nw, .ref kp, .ref fu, .ref ra, .ref kr, .ref rd, .ref wd, .ref ld, .ref mt, .ref vo, .ref sh, .ref fd, .int im])), (fd, .inl (cI, 6, .inl ff))]) (va_runV (As := [.int a]) (rest := []) ⟨hx, hb, hml, hown, hT⟩ (c_X6_isMissing l D cI sh sb sl sn H.size a) (cwV 1 hT (gV_in mw_666 mw_663 mw_664 mw_665 mw_11) rfl rfl rfl (by decide +kernel) ⟨Nat.le_of_ble_eq_true rfl, Nat.le_of_ble_eq_true rfl⟩) (kRecv (own := "") (q0 := 1) (ci := 6) hK hP hD hN rfl rfl [1, 2] rfl (by decide)) rfl rfl hl.1 rfl (lv_room (Nat.le_of_ble_eq_true rfl)) dX10_put_18 ⟨Nat.le_of_ble_eq_true rfl, Nat.le_of_ble_eq_true rfl⟩) hP hD hS hA [1, 2] [0, 3] rfl rfl (by decide) (by decide) (fun r_8 u_10 H locs w_9 hP hD hS => ?_)
    have hP : va_P D vwCl [(x, .inr (10, [.ref nw, .ref kp, .ref fu, .ref ra, .ref kr, .ref rd, .ref wd, .ref ld, .ref mt, .ref vo, .ref sh, .ref fd, .int im])), (fd, .inl (cI, 6, .inl ff)), (sh, .inr (6, [.ref sb, .ref sl, .ref sn])), (sb, .inl (cI, 4, .inl (fun _ => (0 : Int32))))] H := hP
    have hD : va_D A [(x, .inr (10, [.ref nw, .ref kp, .ref fu, .ref ra, .ref kr, .ref rd, .ref wd, .ref ld, .ref mt, .ref vo, .ref sh, .ref fd, .int im])), (fd, .inl (cI, 6, .inl ff)), (sh, .inr (6, [.ref sb, .ref sl, .ref sn])), (sb, .inl (cI, 4, .inl (fun _ => (0 : Int32))))] := hD
    have hr_8 := w_9
    obtain rfl : r_8 = 1 := hr_8.trans (by decide)
    refine b_if_eq hx hb zl_1 (tgt := 30) dX10_put_21 (by decide) (fun c_11 => by exfalso; omega) (fun c_11 => ?_)
    refine lv_aload_n hx hb dX10_put_24 rfl (lv_at hl 0 rfl) ?_
    refine lv_iconst (v := 2) hx hb dX10_put_25 (by decide) ?_
    refine kJi (wr := [(sh, .inr (6, [.ref sb, .ref sl, .ref sn])), (sb, .inl (cI, 4, .inl (fun _ => (0 : Int32))))]) (va_runV (As := [.int 2]) (rest := []) ⟨hx, hb, hml, hown, hT⟩ (c_X10_finding l D cI x nw kp fu ra kr rd wd ld mt vo sh fd H.size im ff 2 (by first | omega | (simp only [zl_2] <;> omega) | decide | assumption | rfl) (by first | omega | (simp only [zl_2] <;> omega) | decide | assumption | rfl)) (cwV 1 hT (gV_in mw_338 mw_335 mw_337 mw_p1_0 mw_1) rfl rfl rfl (by decide +kernel) ⟨Nat.le_of_ble_eq_true rfl, Nat.le_of_ble_eq_true rfl⟩) (kRecv (own := "") (q0 := 0) (ci := 10) hK hP hD hN rfl rfl [0, 1] rfl (by decide)) rfl rfl hl.1 rfl (lv_room (Nat.le_of_ble_eq_true rfl)) dX10_put_26 ⟨Nat.le_of_ble_eq_true rfl, Nat.le_of_ble_eq_true rfl⟩) hP hD hS hA [0, 1] [2, 3] rfl rfl (by decide) (by decide) (fun r_12 u_14 H locs w_13 hP hD hS => ?_)
    have hP : va_P D vwCl [(sh, .inr (6, [.ref sb, .ref sl, .ref sn])), (sb, .inl (cI, 4, .inl (fun _ => (0 : Int32))))] H := hP
    have hD : va_D A [(sh, .inr (6, [.ref sb, .ref sl, .ref sn])), (sb, .inl (cI, 4, .inl (fun _ => (0 : Int32))))] := hD
    have hr_12 := w_13
    obtain rfl : r_12 = (-1000002) := hr_12.trans (by decide)
    exact hRet () [] (by unfold sp_put; repeat (first | rw [if_pos (by omega)] | rw [if_neg (by omega)])) hP hD (by decide) rfl hS rfl dX10_put_29
  · have h_6 : a.toInt < 0 ∨ 3 < a.toInt := h_6
    obtain rfl : r_1 = 0 := hr_1.trans (by decide)
    refine b_if_ne hx hb zl_0 (tgt := 13) dX10_put_4 (by decide) (fun c_15 => by exfalso; omega) (fun c_15 => ?_)
    refine lv_aload_n hx hb dX10_put_7 rfl (lv_at hl 0 rfl) ?_
    refine lv_iconst (v := 1) hx hb dX10_put_8 (by decide) ?_
    refine kJi (wr := [(sh, .inr (6, [.ref sb, .ref sl, .ref sn])), (sb, .inl (cI, 4, .inl (fun _ => (0 : Int32))))]) (va_runV (As := [.int 1]) (rest := []) ⟨hx, hb, hml, hown, hT⟩ (c_X10_finding l D cI x nw kp fu ra kr rd wd ld mt vo sh fd H.size im ff 1 (by first | omega | (simp only [zl_1] <;> omega) | decide | assumption | rfl) (by first | omega | (simp only [zl_1] <;> omega) | decide | assumption | rfl)) (cwV 1 hT (gV_in mw_338 mw_335 mw_337 mw_p1_0 mw_1) rfl rfl rfl (by decide +kernel) ⟨Nat.le_of_ble_eq_true rfl, Nat.le_of_ble_eq_true rfl⟩) (kRecv (own := "") (q0 := 0) (ci := 10) hK hP hD hN rfl rfl [0, 3] rfl (by decide)) rfl rfl hl.1 rfl (lv_room (Nat.le_of_ble_eq_true rfl)) dX10_put_9 ⟨Nat.le_of_ble_eq_true rfl, Nat.le_of_ble_eq_true rfl⟩) hP hD hS hA [0, 3] [1, 2] rfl rfl (by decide) (by decide) (fun r_16 u_18 H locs w_17 hP hD hS => ?_)
    have hP : va_P D vwCl [(sh, .inr (6, [.ref sb, .ref sl, .ref sn])), (sb, .inl (cI, 4, .inl (fun _ => (0 : Int32))))] H := hP
    have hD : va_D A [(sh, .inr (6, [.ref sb, .ref sl, .ref sn])), (sb, .inl (cI, 4, .inl (fun _ => (0 : Int32))))] := hD
    have hr_16 := w_17
    obtain rfl : r_16 = (-1000001) := hr_16.trans (by decide)
    exact hRet () [] (by unfold sp_put; repeat (first | rw [if_pos (by omega)] | rw [if_neg (by omega)])) hP hD (by decide) rfl hS rfl dX10_put_12
set_option maxHeartbeats 4000000 in
set_option maxRecDepth 100000 in
theorem c_X10_move (l : Launch) (D : va_G) (cI : ClassId) (x nw kp fu ra kr rd wd ld mt vo sh fd sb sl sn : Nat) (sz : Nat) (im : Int32) (ff : Nat → Int32) (a : Int32) (b : Int32) (d : Int32) (g : Int32) (i0 : Int32) : Met l yX10_move (gW yX10_move cX10_move 6 (some .int)) ({ frames := 3, cells := 0, slots := 0, locals := 62 } : Room) (kPre D cI [.ref x, .int a, .int b, .int d, .int g, .int i0] [(x, .inr (10, [.ref nw, .ref kp, .ref fu, .ref ra, .ref kr, .ref rd, .ref wd, .ref ld, .ref mt, .ref vo, .ref sh, .ref fd, .int im])), (sh, .inr (6, [.ref sb, .ref sl, .ref sn])), (sb, .inl (cI, 4, .inl (fun _ => (0 : Int32)))), (fd, .inl (cI, 6, .inl ff))] sz) (va_Qi (fun (r : Int32) (u : Unit) => r = sp_move a d) (fun u t => kWd D cI (va_A [(x, .inr (10, [.ref nw, .ref kp, .ref fu, .ref ra, .ref kr, .ref rd, .ref wd, .ref ld, .ref mt, .ref vo, .ref sh, .ref fd, .int im])), (sh, .inr (6, [.ref sb, .ref sl, .ref sn])), (sb, .inl (cI, 4, .inl (fun _ => (0 : Int32)))), (fd, .inl (cI, 6, .inl ff))] sz) [] t) (va_A [(x, .inr (10, [.ref nw, .ref kp, .ref fu, .ref ra, .ref kr, .ref rd, .ref wd, .ref ld, .ref mt, .ref vo, .ref sh, .ref fd, .int im])), (sh, .inr (6, [.ref sb, .ref sl, .ref sn])), (sb, .inl (cI, 4, .inl (fun _ => (0 : Int32)))), (fd, .inl (cI, 6, .inl ff))] sz)) 0 0 (va_A [(x, .inr (10, [.ref nw, .ref kp, .ref fu, .ref ra, .ref kr, .ref rd, .ref wd, .ref ld, .ref mt, .ref vo, .ref sh, .ref fd, .int im])), (sh, .inr (6, [.ref sb, .ref sl, .ref sn])), (sb, .inl (cI, 4, .inl (fun _ => (0 : Int32)))), (fd, .inl (cI, 6, .inl ff))] sz) := by
  refine kMetI (own := RX10) (by decide) rfl (Nat.le_of_ble_eq_true rfl) ?_
  intro p e s m args below meth c hx hb hT hown hname hml A Q hK hP hD hS hA hN hRet ls hl
  have hl : lv_has ls 6 [(0, .ref x), (1, .int a), (2, .int b), (3, .int d), (4, .int g), (5, .int i0)] := hl
  have lo_a := k_lo a
  have hi_a := k_hi a
  have lo_b := k_lo b
  have hi_b := k_hi b
  have lo_d := k_lo d
  have hi_d := k_hi d
  have lo_g := k_lo g
  have hi_g := k_hi g
  have lo_i0 := k_lo i0
  have hi_i0 := k_hi i0
  have lo_im := k_lo im
  have hi_im := k_hi im
  refine lv_iload_n hx hb dX10_move_0 rfl (lv_at hl 1 rfl) ?_
  refine kJi (wr := [(x, .inr (10, [.ref nw, .ref kp, .ref fu, .ref ra, .ref kr, .ref rd, .ref wd, .ref ld, .ref mt, .ref vo, .ref sh, .ref fd, .int im])), (sh, .inr (6, [.ref sb, .ref sl, .ref sn])), (sb, .inl (cI, 4, .inl (fun _ => (0 : Int32)))), (fd, .inl (cI, 6, .inl ff))]) (va_runS (As := [.int a]) (rest := []) ⟨hx, hb, hml, hown, hT⟩ (c_X10_isSheet l D cI s.heap.size a) (cwS 1 hT (gS_in mw_662 mw_660 mw_661 mw_1) rfl rfl rfl (by decide +kernel) ⟨Nat.le_of_ble_eq_true rfl, Nat.le_of_ble_eq_true rfl⟩) (kStat hK hP hD hN [] rfl (by decide)) rfl rfl hl.1 rfl (lv_room (Nat.le_of_ble_eq_true rfl)) dX10_move_1 ⟨Nat.le_of_ble_eq_true rfl, Nat.le_of_ble_eq_true rfl⟩) hP hD hS hA [] [0, 1, 2, 3] rfl rfl (by decide) (by decide) (fun r_1 u_3 H locs w_2 hP hD hS => ?_)
  have hP : va_P D vwCl [(x, .inr (10, [.ref nw, .ref kp, .ref fu, .ref ra, .ref kr, .ref rd, .ref wd, .ref ld, .ref mt, .ref vo, .ref sh, .ref fd, .int im])), (sh, .inr (6, [.ref sb, .ref sl, .ref sn])), (sb, .inl (cI, 4, .inl (fun _ => (0 : Int32)))), (fd, .inl (cI, 6, .inl ff))] H := hP
  have hD : va_D A [(x, .inr (10, [.ref nw, .ref kp, .ref fu, .ref ra, .ref kr, .ref rd, .ref wd, .ref ld, .ref mt, .ref vo, .ref sh, .ref fd, .int im])), (sh, .inr (6, [.ref sb, .ref sl, .ref sn])), (sb, .inl (cI, 4, .inl (fun _ => (0 : Int32)))), (fd, .inl (cI, 6, .inl ff))] := hD
  rcases w_2 with ⟨hr_1, h_4, h_5⟩ | ⟨hr_1, h_6⟩
  · have h_4 : 0 ≤ a.toInt := h_4
    have h_5 : a.toInt ≤ 3 := h_5
    obtain rfl : r_1 = 1 := hr_1.trans (by decide)
    refine b_if_eq hx hb zl_1 (tgt := 14) dX10_move_4 (by decide) (fun c_7 => by exfalso; omega) (fun c_7 => ?_)
    refine lv_iload_n hx hb dX10_move_7 rfl (lv_at hl 3 rfl) ?_
    refine kJi (wr := [(x, .inr (10, [.ref nw, .ref kp, .ref fu, .ref ra, .ref kr, .ref rd, .ref wd, .ref ld, .ref mt, .ref vo, .ref sh, .ref fd, .int im])), (sh, .inr (6, [.ref sb, .ref sl, .ref sn])), (sb, .inl (cI, 4, .inl (fun _ => (0 : Int32)))), (fd, .inl (cI, 6, .inl ff))]) (va_runS (As := [.int d]) (rest := []) ⟨hx, hb, hml, hown, hT⟩ (c_X10_isSheet l D cI H.size d) (cwS 1 hT (gS_in mw_662 mw_660 mw_661 mw_1) rfl rfl rfl (by decide +kernel) ⟨Nat.le_of_ble_eq_true rfl, Nat.le_of_ble_eq_true rfl⟩) (kStat hK hP hD hN [] rfl (by decide)) rfl rfl hl.1 rfl (lv_room (Nat.le_of_ble_eq_true rfl)) dX10_move_8 ⟨Nat.le_of_ble_eq_true rfl, Nat.le_of_ble_eq_true rfl⟩) hP hD hS hA [] [0, 1, 2, 3] rfl rfl (by decide) (by decide) (fun r_8 u_10 H locs w_9 hP hD hS => ?_)
    have hP : va_P D vwCl [(x, .inr (10, [.ref nw, .ref kp, .ref fu, .ref ra, .ref kr, .ref rd, .ref wd, .ref ld, .ref mt, .ref vo, .ref sh, .ref fd, .int im])), (sh, .inr (6, [.ref sb, .ref sl, .ref sn])), (sb, .inl (cI, 4, .inl (fun _ => (0 : Int32)))), (fd, .inl (cI, 6, .inl ff))] H := hP
    have hD : va_D A [(x, .inr (10, [.ref nw, .ref kp, .ref fu, .ref ra, .ref kr, .ref rd, .ref wd, .ref ld, .ref mt, .ref vo, .ref sh, .ref fd, .int im])), (sh, .inr (6, [.ref sb, .ref sl, .ref sn])), (sb, .inl (cI, 4, .inl (fun _ => (0 : Int32)))), (fd, .inl (cI, 6, .inl ff))] := hD
    rcases w_9 with ⟨hr_8, h_11, h_12⟩ | ⟨hr_8, h_13⟩
    · have h_11 : 0 ≤ d.toInt := h_11
      have h_12 : d.toInt ≤ 3 := h_12
      obtain rfl : r_8 = 1 := hr_8.trans (by decide)
      refine b_if_ne hx hb zl_1 (tgt := 20) dX10_move_11 (by decide) (fun c_14 => ?_) (fun c_14 => by exfalso; omega)
      refine lv_aload_n hx hb dX10_move_20 rfl (lv_at hl 0 rfl) ?_
      refine va_get (D := D) (ci := 10) (v := .ref sh) (C := RX10) (T := TX10) (N := 13) hx hb hT giX10 hown hK hP 0 rfl rfl 10 (by decide) (hT (Cond.fieldLink RX10 70 "DesertWire" "sheets" "LDesertWire$Sheets;") mw_301) (fun _ h9 => h9) rfl dX10_move_21 ?_
      refine lv_iload_n hx hb dX10_move_24 rfl (lv_at hl 1 rfl) ?_
      refine kJi (wr := [(x, .inr (10, [.ref nw, .ref kp, .ref fu, .ref ra, .ref kr, .ref rd, .ref wd, .ref ld, .ref mt, .ref vo, .ref sh, .ref fd, .int im])), (fd, .inl (cI, 6, .inl ff))]) (va_runV (As := [.int a]) (rest := []) ⟨hx, hb, hml, hown, hT⟩ (c_X6_isMissing l D cI sh sb sl sn H.size a) (cwV 1 hT (gV_in mw_666 mw_663 mw_664 mw_665 mw_11) rfl rfl rfl (by decide +kernel) ⟨Nat.le_of_ble_eq_true rfl, Nat.le_of_ble_eq_true rfl⟩) (kRecv (own := "") (q0 := 1) (ci := 6) hK hP hD hN rfl rfl [1, 2] rfl (by decide)) rfl rfl hl.1 rfl (lv_room (Nat.le_of_ble_eq_true rfl)) dX10_move_25 ⟨Nat.le_of_ble_eq_true rfl, Nat.le_of_ble_eq_true rfl⟩) hP hD hS hA [1, 2] [0, 3] rfl rfl (by decide) (by decide) (fun r_15 u_17 H locs w_16 hP hD hS => ?_)
      have hP : va_P D vwCl [(x, .inr (10, [.ref nw, .ref kp, .ref fu, .ref ra, .ref kr, .ref rd, .ref wd, .ref ld, .ref mt, .ref vo, .ref sh, .ref fd, .int im])), (fd, .inl (cI, 6, .inl ff)), (sh, .inr (6, [.ref sb, .ref sl, .ref sn])), (sb, .inl (cI, 4, .inl (fun _ => (0 : Int32))))] H := hP
      have hD : va_D A [(x, .inr (10, [.ref nw, .ref kp, .ref fu, .ref ra, .ref kr, .ref rd, .ref wd, .ref ld, .ref mt, .ref vo, .ref sh, .ref fd, .int im])), (fd, .inl (cI, 6, .inl ff)), (sh, .inr (6, [.ref sb, .ref sl, .ref sn])), (sb, .inl (cI, 4, .inl (fun _ => (0 : Int32))))] := hD
      have hr_15 := w_16
      obtain rfl : r_15 = 1 := hr_15.trans (by decide)
      refine b_if_ne hx hb zl_1 (tgt := 42) dX10_move_28 (by decide) (fun c_18 => ?_) (fun c_18 => by exfalso; omega)
      refine lv_aload_n hx hb dX10_move_42 rfl (lv_at hl 0 rfl) ?_
      refine lv_iconst (v := 2) hx hb dX10_move_43 (by decide) ?_
      refine kJi (wr := [(sh, .inr (6, [.ref sb, .ref sl, .ref sn])), (sb, .inl (cI, 4, .inl (fun _ => (0 : Int32))))]) (va_runV (As := [.int 2]) (rest := []) ⟨hx, hb, hml, hown, hT⟩ (c_X10_finding l D cI x nw kp fu ra kr rd wd ld mt vo sh fd H.size im ff 2 (by first | omega | (simp only [zl_2] <;> omega) | decide | assumption | rfl) (by first | omega | (simp only [zl_2] <;> omega) | decide | assumption | rfl)) (cwV 1 hT (gV_in mw_338 mw_335 mw_337 mw_p1_0 mw_1) rfl rfl rfl (by decide +kernel) ⟨Nat.le_of_ble_eq_true rfl, Nat.le_of_ble_eq_true rfl⟩) (kRecv (own := "") (q0 := 0) (ci := 10) hK hP hD hN rfl rfl [0, 1] rfl (by decide)) rfl rfl hl.1 rfl (lv_room (Nat.le_of_ble_eq_true rfl)) dX10_move_44 ⟨Nat.le_of_ble_eq_true rfl, Nat.le_of_ble_eq_true rfl⟩) hP hD hS hA [0, 1] [2, 3] rfl rfl (by decide) (by decide) (fun r_19 u_21 H locs w_20 hP hD hS => ?_)
      have hP : va_P D vwCl [(sh, .inr (6, [.ref sb, .ref sl, .ref sn])), (sb, .inl (cI, 4, .inl (fun _ => (0 : Int32))))] H := hP
      have hD : va_D A [(sh, .inr (6, [.ref sb, .ref sl, .ref sn])), (sb, .inl (cI, 4, .inl (fun _ => (0 : Int32))))] := hD
      have hr_19 := w_20
      obtain rfl : r_19 = (-1000002) := hr_19.trans (by decide)
      exact hRet () [] (by unfold sp_move; repeat (first | rw [if_pos (by omega)] | rw [if_neg (by omega)])) hP hD (by decide) rfl hS rfl dX10_move_47
    · have h_13 : d.toInt < 0 ∨ 3 < d.toInt := h_13
      obtain rfl : r_8 = 0 := hr_8.trans (by decide)
      refine b_if_ne hx hb zl_0 (tgt := 20) dX10_move_11 (by decide) (fun c_22 => by exfalso; omega) (fun c_22 => ?_)
      refine lv_aload_n hx hb dX10_move_14 rfl (lv_at hl 0 rfl) ?_
      refine lv_iconst (v := 1) hx hb dX10_move_15 (by decide) ?_
      refine kJi (wr := [(sh, .inr (6, [.ref sb, .ref sl, .ref sn])), (sb, .inl (cI, 4, .inl (fun _ => (0 : Int32))))]) (va_runV (As := [.int 1]) (rest := []) ⟨hx, hb, hml, hown, hT⟩ (c_X10_finding l D cI x nw kp fu ra kr rd wd ld mt vo sh fd H.size im ff 1 (by first | omega | (simp only [zl_1] <;> omega) | decide | assumption | rfl) (by first | omega | (simp only [zl_1] <;> omega) | decide | assumption | rfl)) (cwV 1 hT (gV_in mw_338 mw_335 mw_337 mw_p1_0 mw_1) rfl rfl rfl (by decide +kernel) ⟨Nat.le_of_ble_eq_true rfl, Nat.le_of_ble_eq_true rfl⟩) (kRecv (own := "") (q0 := 0) (ci := 10) hK hP hD hN rfl rfl [0, 3] rfl (by decide)) rfl rfl hl.1 rfl (lv_room (Nat.le_of_ble_eq_true rfl)) dX10_move_16 ⟨Nat.le_of_ble_eq_true rfl, Nat.le_of_ble_eq_true rfl⟩) hP hD hS hA [0, 3] [1, 2] rfl rfl (by decide) (by decide) (fun r_23 u_25 H locs w_24 hP hD hS => ?_)
      have hP : va_P D vwCl [(sh, .inr (6, [.ref sb, .ref sl, .ref sn])), (sb, .inl (cI, 4, .inl (fun _ => (0 : Int32))))] H := hP
      have hD : va_D A [(sh, .inr (6, [.ref sb, .ref sl, .ref sn])), (sb, .inl (cI, 4, .inl (fun _ => (0 : Int32))))] := hD
      have hr_23 := w_24
      obtain rfl : r_23 = (-1000001) := hr_23.trans (by decide)
      exact hRet () [] (by unfold sp_move; repeat (first | rw [if_pos (by omega)] | rw [if_neg (by omega)])) hP hD (by decide) rfl hS rfl dX10_move_19
  · have h_6 : a.toInt < 0 ∨ 3 < a.toInt := h_6
    obtain rfl : r_1 = 0 := hr_1.trans (by decide)
    refine b_if_eq hx hb zl_0 (tgt := 14) dX10_move_4 (by decide) (fun c_26 => ?_) (fun c_26 => by exfalso; omega)
    refine lv_aload_n hx hb dX10_move_14 rfl (lv_at hl 0 rfl) ?_
    refine lv_iconst (v := 1) hx hb dX10_move_15 (by decide) ?_
    refine kJi (wr := [(sh, .inr (6, [.ref sb, .ref sl, .ref sn])), (sb, .inl (cI, 4, .inl (fun _ => (0 : Int32))))]) (va_runV (As := [.int 1]) (rest := []) ⟨hx, hb, hml, hown, hT⟩ (c_X10_finding l D cI x nw kp fu ra kr rd wd ld mt vo sh fd H.size im ff 1 (by first | omega | (simp only [zl_1] <;> omega) | decide | assumption | rfl) (by first | omega | (simp only [zl_1] <;> omega) | decide | assumption | rfl)) (cwV 1 hT (gV_in mw_338 mw_335 mw_337 mw_p1_0 mw_1) rfl rfl rfl (by decide +kernel) ⟨Nat.le_of_ble_eq_true rfl, Nat.le_of_ble_eq_true rfl⟩) (kRecv (own := "") (q0 := 0) (ci := 10) hK hP hD hN rfl rfl [0, 3] rfl (by decide)) rfl rfl hl.1 rfl (lv_room (Nat.le_of_ble_eq_true rfl)) dX10_move_16 ⟨Nat.le_of_ble_eq_true rfl, Nat.le_of_ble_eq_true rfl⟩) hP hD hS hA [0, 3] [1, 2] rfl rfl (by decide) (by decide) (fun r_27 u_29 H locs w_28 hP hD hS => ?_)
    have hP : va_P D vwCl [(sh, .inr (6, [.ref sb, .ref sl, .ref sn])), (sb, .inl (cI, 4, .inl (fun _ => (0 : Int32))))] H := hP
    have hD : va_D A [(sh, .inr (6, [.ref sb, .ref sl, .ref sn])), (sb, .inl (cI, 4, .inl (fun _ => (0 : Int32))))] := hD
    have hr_27 := w_28
    obtain rfl : r_27 = (-1000001) := hr_27.trans (by decide)
    exact hRet () [] (by unfold sp_move; repeat (first | rw [if_pos (by omega)] | rw [if_neg (by omega)])) hP hD (by decide) rfl hS rfl dX10_move_19
set_option maxHeartbeats 4000000 in
set_option maxRecDepth 100000 in
theorem c_X10_image (l : Launch) (D : va_G) (cI : ClassId) (x nw kp fu ra kr rd wd ld mt vo sh fd w0 w1 w2 w3 w4 w5 k0 k1 k2 k3 k4 k5 k6 k7 k8 pf t0 t1 t2 t3 t4 v0 v1 v2 v3 v4 v5 j0 j1 j2 j3 j4 j5 j6 j7 j8 po s0 s1 s2 s3 s4 : Nat) (sz : Nat) (ywt : Int32) (yre : Int32) (ydy : Int32) (ya0 : Nat → Int32) (ya1 : Nat → Int32) (ya2 : Nat → Int32) (ya3 : Nat → Int32) (yn : Int32) (yb0 : Nat → Int32) (yb1 : Nat → Int32) (yb2 : Nat → Int32) (yb3 : Nat → Int32) (yb4 : Nat → Int32) (yb5 : Nat → Int32) (yb6 : Nat → Int32) (yb7 : Nat → Int32) (yb8 : Nat → Int32) (ym : Int32) (yq : Nat → Int32) : Met l yX10_image (gW yX10_image cX10_image 1 (some .int)) ({ frames := 3, cells := 0, slots := 0, locals := 106 } : Room) (kPre D cI [.ref x] [(x, .inr (10, [.ref nw, .ref kp, .ref fu, .ref ra, .ref kr, .ref rd, .ref wd, .ref ld, .ref mt, .ref vo, .ref sh, .ref fd, .int 0])), (nw, .inr (9, [.ref w0, .ref w1, .ref w2, .ref w3, .ref w4, .ref w5, .int 0, .int 40, .int 0])), (w0, .inl (cI, 12, .inl (fun _ => (2 : Int32)))), (w1, .inl (cI, 40, .inl (fun _ => (0 : Int32)))), (w2, .inl (cI, 40, .inl (fun _ => (0 : Int32)))), (w3, .inl (cI, 20, .inl (fun _ => (0 : Int32)))), (w4, .inr (8, [.ref k0, .ref k1, .ref k2, .ref k3, .ref k4, .ref k5, .ref k6, .ref k7, .ref k8, .int 0])), (k0, .inl (cI, 60, .inl (fun _ => (0 : Int32)))), (k1, .inl (cI, 60, .inl (fun _ => (0 : Int32)))), (k2, .inl (cI, 60, .inl (fun _ => (0 : Int32)))), (k3, .inl (cI, 60, .inl (fun _ => (0 : Int32)))), (k4, .inl (cI, 60, .inl (fun _ => (0 : Int32)))), (k5, .inl (cI, 60, .inl (fun _ => (0 : Int32)))), (k6, .inl (cI, 40, .inl (fun _ => (0 : Int32)))), (k7, .inl (cI, 40, .inl (fun _ => (0 : Int32)))), (k8, .inl (cI, 40, .inl (fun _ => (0 : Int32)))), (w5, .inr (3, [.ref pf, .int 0])), (pf, .inl (cI, 36, .inl (fun _ => (0 : Int32)))), (kp, .inr (9, [.ref v0, .ref v1, .ref v2, .ref v3, .ref v4, .ref v5, .int ywt, .int yre, .int ydy])), (v0, .inl (cI, 12, .inl ya0)), (v1, .inl (cI, 40, .inl ya1)), (v2, .inl (cI, 40, .inl ya2)), (v3, .inl (cI, 20, .inl ya3)), (v4, .inr (8, [.ref j0, .ref j1, .ref j2, .ref j3, .ref j4, .ref j5, .ref j6, .ref j7, .ref j8, .int yn])), (j0, .inl (cI, 60, .inl yb0)), (j1, .inl (cI, 60, .inl yb1)), (j2, .inl (cI, 60, .inl yb2)), (j3, .inl (cI, 60, .inl yb3)), (j4, .inl (cI, 60, .inl yb4)), (j5, .inl (cI, 60, .inl yb5)), (j6, .inl (cI, 40, .inl yb6)), (j7, .inl (cI, 40, .inl yb7)), (j8, .inl (cI, 40, .inl yb8)), (v5, .inr (3, [.ref po, .int ym])), (po, .inl (cI, 36, .inl yq)), (ra, .inr (4, [.ref t0, .ref t1, .ref t2, .ref t3, .ref t4, .int 0, .int 0])), (t0, .inl (cI, 50, .inl (fun _ => (0 : Int32)))), (t1, .inl (cI, 600, .inl (fun _ => (0 : Int32)))), (t2, .inl (cI, 12, .inl (fun _ => (0 : Int32)))), (t3, .inl (cI, 12, .inl (fun _ => (0 : Int32)))), (t4, .inl (cI, 12, .inl (fun _ => (0 : Int32)))), (kr, .inr (4, [.ref s0, .ref s1, .ref s2, .ref s3, .ref s4, .int 0, .int 0])), (s0, .inl (cI, 50, .inl (fun _ => (0 : Int32)))), (s1, .inl (cI, 600, .inl (fun _ => (0 : Int32)))), (s2, .inl (cI, 12, .inl (fun _ => (0 : Int32)))), (s3, .inl (cI, 12, .inl (fun _ => (0 : Int32)))), (s4, .inl (cI, 12, .inl (fun _ => (0 : Int32))))] sz) (va_Qi (fun (r : Int32) (u : Unit) => r = 1) (fun u t => kWd D cI (va_A [(x, .inr (10, [.ref nw, .ref kp, .ref fu, .ref ra, .ref kr, .ref rd, .ref wd, .ref ld, .ref mt, .ref vo, .ref sh, .ref fd, .int 0])), (nw, .inr (9, [.ref w0, .ref w1, .ref w2, .ref w3, .ref w4, .ref w5, .int 0, .int 40, .int 0])), (w0, .inl (cI, 12, .inl (fun _ => (2 : Int32)))), (w1, .inl (cI, 40, .inl (fun _ => (0 : Int32)))), (w2, .inl (cI, 40, .inl (fun _ => (0 : Int32)))), (w3, .inl (cI, 20, .inl (fun _ => (0 : Int32)))), (w4, .inr (8, [.ref k0, .ref k1, .ref k2, .ref k3, .ref k4, .ref k5, .ref k6, .ref k7, .ref k8, .int 0])), (k0, .inl (cI, 60, .inl (fun _ => (0 : Int32)))), (k1, .inl (cI, 60, .inl (fun _ => (0 : Int32)))), (k2, .inl (cI, 60, .inl (fun _ => (0 : Int32)))), (k3, .inl (cI, 60, .inl (fun _ => (0 : Int32)))), (k4, .inl (cI, 60, .inl (fun _ => (0 : Int32)))), (k5, .inl (cI, 60, .inl (fun _ => (0 : Int32)))), (k6, .inl (cI, 40, .inl (fun _ => (0 : Int32)))), (k7, .inl (cI, 40, .inl (fun _ => (0 : Int32)))), (k8, .inl (cI, 40, .inl (fun _ => (0 : Int32)))), (w5, .inr (3, [.ref pf, .int 0])), (pf, .inl (cI, 36, .inl (fun _ => (0 : Int32)))), (kp, .inr (9, [.ref v0, .ref v1, .ref v2, .ref v3, .ref v4, .ref v5, .int ywt, .int yre, .int ydy])), (v0, .inl (cI, 12, .inl ya0)), (v1, .inl (cI, 40, .inl ya1)), (v2, .inl (cI, 40, .inl ya2)), (v3, .inl (cI, 20, .inl ya3)), (v4, .inr (8, [.ref j0, .ref j1, .ref j2, .ref j3, .ref j4, .ref j5, .ref j6, .ref j7, .ref j8, .int yn])), (j0, .inl (cI, 60, .inl yb0)), (j1, .inl (cI, 60, .inl yb1)), (j2, .inl (cI, 60, .inl yb2)), (j3, .inl (cI, 60, .inl yb3)), (j4, .inl (cI, 60, .inl yb4)), (j5, .inl (cI, 60, .inl yb5)), (j6, .inl (cI, 40, .inl yb6)), (j7, .inl (cI, 40, .inl yb7)), (j8, .inl (cI, 40, .inl yb8)), (v5, .inr (3, [.ref po, .int ym])), (po, .inl (cI, 36, .inl yq)), (ra, .inr (4, [.ref t0, .ref t1, .ref t2, .ref t3, .ref t4, .int 0, .int 0])), (t0, .inl (cI, 50, .inl (fun _ => (0 : Int32)))), (t1, .inl (cI, 600, .inl (fun _ => (0 : Int32)))), (t2, .inl (cI, 12, .inl (fun _ => (0 : Int32)))), (t3, .inl (cI, 12, .inl (fun _ => (0 : Int32)))), (t4, .inl (cI, 12, .inl (fun _ => (0 : Int32)))), (kr, .inr (4, [.ref s0, .ref s1, .ref s2, .ref s3, .ref s4, .int 0, .int 0])), (s0, .inl (cI, 50, .inl (fun _ => (0 : Int32)))), (s1, .inl (cI, 600, .inl (fun _ => (0 : Int32)))), (s2, .inl (cI, 12, .inl (fun _ => (0 : Int32)))), (s3, .inl (cI, 12, .inl (fun _ => (0 : Int32)))), (s4, .inl (cI, 12, .inl (fun _ => (0 : Int32))))] sz) [] t) (va_A [(x, .inr (10, [.ref nw, .ref kp, .ref fu, .ref ra, .ref kr, .ref rd, .ref wd, .ref ld, .ref mt, .ref vo, .ref sh, .ref fd, .int 0])), (nw, .inr (9, [.ref w0, .ref w1, .ref w2, .ref w3, .ref w4, .ref w5, .int 0, .int 40, .int 0])), (w0, .inl (cI, 12, .inl (fun _ => (2 : Int32)))), (w1, .inl (cI, 40, .inl (fun _ => (0 : Int32)))), (w2, .inl (cI, 40, .inl (fun _ => (0 : Int32)))), (w3, .inl (cI, 20, .inl (fun _ => (0 : Int32)))), (w4, .inr (8, [.ref k0, .ref k1, .ref k2, .ref k3, .ref k4, .ref k5, .ref k6, .ref k7, .ref k8, .int 0])), (k0, .inl (cI, 60, .inl (fun _ => (0 : Int32)))), (k1, .inl (cI, 60, .inl (fun _ => (0 : Int32)))), (k2, .inl (cI, 60, .inl (fun _ => (0 : Int32)))), (k3, .inl (cI, 60, .inl (fun _ => (0 : Int32)))), (k4, .inl (cI, 60, .inl (fun _ => (0 : Int32)))), (k5, .inl (cI, 60, .inl (fun _ => (0 : Int32)))), (k6, .inl (cI, 40, .inl (fun _ => (0 : Int32)))), (k7, .inl (cI, 40, .inl (fun _ => (0 : Int32)))), (k8, .inl (cI, 40, .inl (fun _ => (0 : Int32)))), (w5, .inr (3, [.ref pf, .int 0])), (pf, .inl (cI, 36, .inl (fun _ => (0 : Int32)))), (kp, .inr (9, [.ref v0, .ref v1, .ref v2, .ref v3, .ref v4, .ref v5, .int ywt, .int yre, .int ydy])), (v0, .inl (cI, 12, .inl ya0)), (v1, .inl (cI, 40, .inl ya1)), (v2, .inl (cI, 40, .inl ya2)), (v3, .inl (cI, 20, .inl ya3)), (v4, .inr (8, [.ref j0, .ref j1, .ref j2, .ref j3, .ref j4, .ref j5, .ref j6, .ref j7, .ref j8, .int yn])), (j0, .inl (cI, 60, .inl yb0)), (j1, .inl (cI, 60, .inl yb1)), (j2, .inl (cI, 60, .inl yb2)), (j3, .inl (cI, 60, .inl yb3)), (j4, .inl (cI, 60, .inl yb4)), (j5, .inl (cI, 60, .inl yb5)), (j6, .inl (cI, 40, .inl yb6)), (j7, .inl (cI, 40, .inl yb7)), (j8, .inl (cI, 40, .inl yb8)), (v5, .inr (3, [.ref po, .int ym])), (po, .inl (cI, 36, .inl yq)), (ra, .inr (4, [.ref t0, .ref t1, .ref t2, .ref t3, .ref t4, .int 0, .int 0])), (t0, .inl (cI, 50, .inl (fun _ => (0 : Int32)))), (t1, .inl (cI, 600, .inl (fun _ => (0 : Int32)))), (t2, .inl (cI, 12, .inl (fun _ => (0 : Int32)))), (t3, .inl (cI, 12, .inl (fun _ => (0 : Int32)))), (t4, .inl (cI, 12, .inl (fun _ => (0 : Int32)))), (kr, .inr (4, [.ref s0, .ref s1, .ref s2, .ref s3, .ref s4, .int 0, .int 0])), (s0, .inl (cI, 50, .inl (fun _ => (0 : Int32)))), (s1, .inl (cI, 600, .inl (fun _ => (0 : Int32)))), (s2, .inl (cI, 12, .inl (fun _ => (0 : Int32)))), (s3, .inl (cI, 12, .inl (fun _ => (0 : Int32)))), (s4, .inl (cI, 12, .inl (fun _ => (0 : Int32))))] sz)) 0 0 (va_A [(x, .inr (10, [.ref nw, .ref kp, .ref fu, .ref ra, .ref kr, .ref rd, .ref wd, .ref ld, .ref mt, .ref vo, .ref sh, .ref fd, .int 0])), (nw, .inr (9, [.ref w0, .ref w1, .ref w2, .ref w3, .ref w4, .ref w5, .int 0, .int 40, .int 0])), (w0, .inl (cI, 12, .inl (fun _ => (2 : Int32)))), (w1, .inl (cI, 40, .inl (fun _ => (0 : Int32)))), (w2, .inl (cI, 40, .inl (fun _ => (0 : Int32)))), (w3, .inl (cI, 20, .inl (fun _ => (0 : Int32)))), (w4, .inr (8, [.ref k0, .ref k1, .ref k2, .ref k3, .ref k4, .ref k5, .ref k6, .ref k7, .ref k8, .int 0])), (k0, .inl (cI, 60, .inl (fun _ => (0 : Int32)))), (k1, .inl (cI, 60, .inl (fun _ => (0 : Int32)))), (k2, .inl (cI, 60, .inl (fun _ => (0 : Int32)))), (k3, .inl (cI, 60, .inl (fun _ => (0 : Int32)))), (k4, .inl (cI, 60, .inl (fun _ => (0 : Int32)))), (k5, .inl (cI, 60, .inl (fun _ => (0 : Int32)))), (k6, .inl (cI, 40, .inl (fun _ => (0 : Int32)))), (k7, .inl (cI, 40, .inl (fun _ => (0 : Int32)))), (k8, .inl (cI, 40, .inl (fun _ => (0 : Int32)))), (w5, .inr (3, [.ref pf, .int 0])), (pf, .inl (cI, 36, .inl (fun _ => (0 : Int32)))), (kp, .inr (9, [.ref v0, .ref v1, .ref v2, .ref v3, .ref v4, .ref v5, .int ywt, .int yre, .int ydy])), (v0, .inl (cI, 12, .inl ya0)), (v1, .inl (cI, 40, .inl ya1)), (v2, .inl (cI, 40, .inl ya2)), (v3, .inl (cI, 20, .inl ya3)), (v4, .inr (8, [.ref j0, .ref j1, .ref j2, .ref j3, .ref j4, .ref j5, .ref j6, .ref j7, .ref j8, .int yn])), (j0, .inl (cI, 60, .inl yb0)), (j1, .inl (cI, 60, .inl yb1)), (j2, .inl (cI, 60, .inl yb2)), (j3, .inl (cI, 60, .inl yb3)), (j4, .inl (cI, 60, .inl yb4)), (j5, .inl (cI, 60, .inl yb5)), (j6, .inl (cI, 40, .inl yb6)), (j7, .inl (cI, 40, .inl yb7)), (j8, .inl (cI, 40, .inl yb8)), (v5, .inr (3, [.ref po, .int ym])), (po, .inl (cI, 36, .inl yq)), (ra, .inr (4, [.ref t0, .ref t1, .ref t2, .ref t3, .ref t4, .int 0, .int 0])), (t0, .inl (cI, 50, .inl (fun _ => (0 : Int32)))), (t1, .inl (cI, 600, .inl (fun _ => (0 : Int32)))), (t2, .inl (cI, 12, .inl (fun _ => (0 : Int32)))), (t3, .inl (cI, 12, .inl (fun _ => (0 : Int32)))), (t4, .inl (cI, 12, .inl (fun _ => (0 : Int32)))), (kr, .inr (4, [.ref s0, .ref s1, .ref s2, .ref s3, .ref s4, .int 0, .int 0])), (s0, .inl (cI, 50, .inl (fun _ => (0 : Int32)))), (s1, .inl (cI, 600, .inl (fun _ => (0 : Int32)))), (s2, .inl (cI, 12, .inl (fun _ => (0 : Int32)))), (s3, .inl (cI, 12, .inl (fun _ => (0 : Int32)))), (s4, .inl (cI, 12, .inl (fun _ => (0 : Int32))))] sz) := by
  refine kMetI (own := RX10) (by decide) rfl (Nat.le_of_ble_eq_true rfl) ?_
  intro p e s m args below meth c hx hb hT hown hname hml A Q hK hP hD hS hA hN hRet ls hl
  have hl : lv_has ls 1 [(0, .ref x)] := hl
  have lo_ywt := k_lo ywt
  have hi_ywt := k_hi ywt
  have lo_yre := k_lo yre
  have hi_yre := k_hi yre
  have lo_ydy := k_lo ydy
  have hi_ydy := k_hi ydy
  have lo_yn := k_lo yn
  have hi_yn := k_hi yn
  have lo_ym := k_lo ym
  have hi_ym := k_hi ym
  refine lv_aload_n hx hb dX10_image_0 rfl (lv_at hl 0 rfl) ?_
  refine va_get (D := D) (ci := 10) (v := .ref kp) (C := RX10) (T := TX10) (N := 13) hx hb hT giX10 hown hK hP 0 rfl rfl 1 (by decide) (hT (Cond.fieldLink RX10 16 "DesertWire" "kept" "LDesertWire$World;") mw_292) (fun _ h9 => h9) rfl dX10_image_1 ?_
  refine lv_aload_n hx hb dX10_image_4 rfl (lv_at hl 0 rfl) ?_
  refine va_get (D := D) (ci := 10) (v := .ref nw) (C := RX10) (T := TX10) (N := 13) hx hb hT giX10 hown hK hP 0 rfl rfl 0 (by decide) (hT (Cond.fieldLink RX10 12 "DesertWire" "now" "LDesertWire$World;") mw_291) (fun _ h9 => h9) rfl dX10_image_5 ?_
  refine kJv (wr := [(x, .inr (10, [.ref nw, .ref kp, .ref fu, .ref ra, .ref kr, .ref rd, .ref wd, .ref ld, .ref mt, .ref vo, .ref sh, .ref fd, .int 0])), (ra, .inr (4, [.ref t0, .ref t1, .ref t2, .ref t3, .ref t4, .int 0, .int 0])), (t0, .inl (cI, 50, .inl (fun _ => (0 : Int32)))), (t1, .inl (cI, 600, .inl (fun _ => (0 : Int32)))), (t2, .inl (cI, 12, .inl (fun _ => (0 : Int32)))), (t3, .inl (cI, 12, .inl (fun _ => (0 : Int32)))), (t4, .inl (cI, 12, .inl (fun _ => (0 : Int32)))), (kr, .inr (4, [.ref s0, .ref s1, .ref s2, .ref s3, .ref s4, .int 0, .int 0])), (s0, .inl (cI, 50, .inl (fun _ => (0 : Int32)))), (s1, .inl (cI, 600, .inl (fun _ => (0 : Int32)))), (s2, .inl (cI, 12, .inl (fun _ => (0 : Int32)))), (s3, .inl (cI, 12, .inl (fun _ => (0 : Int32)))), (s4, .inl (cI, 12, .inl (fun _ => (0 : Int32))))]) (va_runV (As := [.ref nw]) (rest := []) ⟨hx, hb, hml, hown, hT⟩ (c_X9_copyFrom l D cI kp v0 v1 v2 v3 v4 v5 j0 j1 j2 j3 j4 j5 j6 j7 j8 po nw w0 w1 w2 w3 w4 w5 k0 k1 k2 k3 k4 k5 k6 k7 k8 pf s.heap.size ywt yre ydy ya0 ya1 ya2 ya3 yn yb0 yb1 yb2 yb3 yb4 yb5 yb6 yb7 yb8 ym yq 0 40 0 (fun _ => (2 : Int32)) (fun _ => (0 : Int32)) (fun _ => (0 : Int32)) (fun _ => (0 : Int32)) 0 (fun _ => (0 : Int32)) (fun _ => (0 : Int32)) (fun _ => (0 : Int32)) (fun _ => (0 : Int32)) (fun _ => (0 : Int32)) (fun _ => (0 : Int32)) (fun _ => (0 : Int32)) (fun _ => (0 : Int32)) (fun _ => (0 : Int32)) 0 (fun _ => (0 : Int32))) (cwV 1 hT (gV_in mw_1014 mw_1011 mw_1012 mw_1013 mw_2) rfl rfl rfl (by decide +kernel) ⟨Nat.le_of_ble_eq_true rfl, Nat.le_of_ble_eq_true rfl⟩) (kRecv (own := "") (q0 := 18) (ci := 9) hK hP hD hN rfl rfl [18, 19, 20, 21, 22, 23, 24, 25, 26, 27, 28, 29, 30, 31, 32, 33, 34, 1, 2, 3, 4, 5, 6, 7, 8, 9, 10, 11, 12, 13, 14, 15, 16, 17] rfl (by decide)) rfl rfl hl.1 rfl (lv_room (Nat.le_of_ble_eq_true rfl)) dX10_image_8 ⟨Nat.le_of_ble_eq_true rfl, Nat.le_of_ble_eq_true rfl⟩) hP hD hS hA [18, 19, 20, 21, 22, 23, 24, 25, 26, 27, 28, 29, 30, 31, 32, 33, 34, 1, 2, 3, 4, 5, 6, 7, 8, 9, 10, 11, 12, 13, 14, 15, 16, 17] [0, 35, 36, 37, 38, 39, 40, 41, 42, 43, 44, 45, 46] rfl rfl (by decide) (by decide) (fun u_3 H locs w_2 hP hD hS => ?_)
  have hP : va_P D vwCl [(x, .inr (10, [.ref nw, .ref kp, .ref fu, .ref ra, .ref kr, .ref rd, .ref wd, .ref ld, .ref mt, .ref vo, .ref sh, .ref fd, .int 0])), (ra, .inr (4, [.ref t0, .ref t1, .ref t2, .ref t3, .ref t4, .int 0, .int 0])), (t0, .inl (cI, 50, .inl (fun _ => (0 : Int32)))), (t1, .inl (cI, 600, .inl (fun _ => (0 : Int32)))), (t2, .inl (cI, 12, .inl (fun _ => (0 : Int32)))), (t3, .inl (cI, 12, .inl (fun _ => (0 : Int32)))), (t4, .inl (cI, 12, .inl (fun _ => (0 : Int32)))), (kr, .inr (4, [.ref s0, .ref s1, .ref s2, .ref s3, .ref s4, .int 0, .int 0])), (s0, .inl (cI, 50, .inl (fun _ => (0 : Int32)))), (s1, .inl (cI, 600, .inl (fun _ => (0 : Int32)))), (s2, .inl (cI, 12, .inl (fun _ => (0 : Int32)))), (s3, .inl (cI, 12, .inl (fun _ => (0 : Int32)))), (s4, .inl (cI, 12, .inl (fun _ => (0 : Int32)))), (kp, .inr (9, [.ref v0, .ref v1, .ref v2, .ref v3, .ref v4, .ref v5, .int 0, .int 40, .int 0])), (v0, .inl (cI, 12, .inl (fun _ => (2 : Int32)))), (v1, .inl (cI, 40, .inl (fun _ => (0 : Int32)))), (v2, .inl (cI, 40, .inl (fun _ => (0 : Int32)))), (v3, .inl (cI, 20, .inl (fun _ => (0 : Int32)))), (v4, .inr (8, [.ref j0, .ref j1, .ref j2, .ref j3, .ref j4, .ref j5, .ref j6, .ref j7, .ref j8, .int 0])), (j0, .inl (cI, 60, .inl (fun _ => (0 : Int32)))), (j1, .inl (cI, 60, .inl (fun _ => (0 : Int32)))), (j2, .inl (cI, 60, .inl (fun _ => (0 : Int32)))), (j3, .inl (cI, 60, .inl (fun _ => (0 : Int32)))), (j4, .inl (cI, 60, .inl (fun _ => (0 : Int32)))), (j5, .inl (cI, 60, .inl (fun _ => (0 : Int32)))), (j6, .inl (cI, 40, .inl (fun _ => (0 : Int32)))), (j7, .inl (cI, 40, .inl (fun _ => (0 : Int32)))), (j8, .inl (cI, 40, .inl (fun _ => (0 : Int32)))), (v5, .inr (3, [.ref po, .int 0])), (po, .inl (cI, 36, .inl (fun _ => (0 : Int32)))), (nw, .inr (9, [.ref w0, .ref w1, .ref w2, .ref w3, .ref w4, .ref w5, .int 0, .int 40, .int 0])), (w0, .inl (cI, 12, .inl (fun _ => (2 : Int32)))), (w1, .inl (cI, 40, .inl (fun _ => (0 : Int32)))), (w2, .inl (cI, 40, .inl (fun _ => (0 : Int32)))), (w3, .inl (cI, 20, .inl (fun _ => (0 : Int32)))), (w4, .inr (8, [.ref k0, .ref k1, .ref k2, .ref k3, .ref k4, .ref k5, .ref k6, .ref k7, .ref k8, .int 0])), (k0, .inl (cI, 60, .inl (fun _ => (0 : Int32)))), (k1, .inl (cI, 60, .inl (fun _ => (0 : Int32)))), (k2, .inl (cI, 60, .inl (fun _ => (0 : Int32)))), (k3, .inl (cI, 60, .inl (fun _ => (0 : Int32)))), (k4, .inl (cI, 60, .inl (fun _ => (0 : Int32)))), (k5, .inl (cI, 60, .inl (fun _ => (0 : Int32)))), (k6, .inl (cI, 40, .inl (fun _ => (0 : Int32)))), (k7, .inl (cI, 40, .inl (fun _ => (0 : Int32)))), (k8, .inl (cI, 40, .inl (fun _ => (0 : Int32)))), (w5, .inr (3, [.ref pf, .int 0])), (pf, .inl (cI, 36, .inl (fun _ => (0 : Int32))))] H := hP
  have hD : va_D A [(x, .inr (10, [.ref nw, .ref kp, .ref fu, .ref ra, .ref kr, .ref rd, .ref wd, .ref ld, .ref mt, .ref vo, .ref sh, .ref fd, .int 0])), (ra, .inr (4, [.ref t0, .ref t1, .ref t2, .ref t3, .ref t4, .int 0, .int 0])), (t0, .inl (cI, 50, .inl (fun _ => (0 : Int32)))), (t1, .inl (cI, 600, .inl (fun _ => (0 : Int32)))), (t2, .inl (cI, 12, .inl (fun _ => (0 : Int32)))), (t3, .inl (cI, 12, .inl (fun _ => (0 : Int32)))), (t4, .inl (cI, 12, .inl (fun _ => (0 : Int32)))), (kr, .inr (4, [.ref s0, .ref s1, .ref s2, .ref s3, .ref s4, .int 0, .int 0])), (s0, .inl (cI, 50, .inl (fun _ => (0 : Int32)))), (s1, .inl (cI, 600, .inl (fun _ => (0 : Int32)))), (s2, .inl (cI, 12, .inl (fun _ => (0 : Int32)))), (s3, .inl (cI, 12, .inl (fun _ => (0 : Int32)))), (s4, .inl (cI, 12, .inl (fun _ => (0 : Int32)))), (kp, .inr (9, [.ref v0, .ref v1, .ref v2, .ref v3, .ref v4, .ref v5, .int 0, .int 40, .int 0])), (v0, .inl (cI, 12, .inl (fun _ => (2 : Int32)))), (v1, .inl (cI, 40, .inl (fun _ => (0 : Int32)))), (v2, .inl (cI, 40, .inl (fun _ => (0 : Int32)))), (v3, .inl (cI, 20, .inl (fun _ => (0 : Int32)))), (v4, .inr (8, [.ref j0, .ref j1, .ref j2, .ref j3, .ref j4, .ref j5, .ref j6, .ref j7, .ref j8, .int 0])), (j0, .inl (cI, 60, .inl (fun _ => (0 : Int32)))), (j1, .inl (cI, 60, .inl (fun _ => (0 : Int32)))), (j2, .inl (cI, 60, .inl (fun _ => (0 : Int32)))), (j3, .inl (cI, 60, .inl (fun _ => (0 : Int32)))), (j4, .inl (cI, 60, .inl (fun _ => (0 : Int32)))), (j5, .inl (cI, 60, .inl (fun _ => (0 : Int32)))), (j6, .inl (cI, 40, .inl (fun _ => (0 : Int32)))), (j7, .inl (cI, 40, .inl (fun _ => (0 : Int32)))), (j8, .inl (cI, 40, .inl (fun _ => (0 : Int32)))), (v5, .inr (3, [.ref po, .int 0])), (po, .inl (cI, 36, .inl (fun _ => (0 : Int32)))), (nw, .inr (9, [.ref w0, .ref w1, .ref w2, .ref w3, .ref w4, .ref w5, .int 0, .int 40, .int 0])), (w0, .inl (cI, 12, .inl (fun _ => (2 : Int32)))), (w1, .inl (cI, 40, .inl (fun _ => (0 : Int32)))), (w2, .inl (cI, 40, .inl (fun _ => (0 : Int32)))), (w3, .inl (cI, 20, .inl (fun _ => (0 : Int32)))), (w4, .inr (8, [.ref k0, .ref k1, .ref k2, .ref k3, .ref k4, .ref k5, .ref k6, .ref k7, .ref k8, .int 0])), (k0, .inl (cI, 60, .inl (fun _ => (0 : Int32)))), (k1, .inl (cI, 60, .inl (fun _ => (0 : Int32)))), (k2, .inl (cI, 60, .inl (fun _ => (0 : Int32)))), (k3, .inl (cI, 60, .inl (fun _ => (0 : Int32)))), (k4, .inl (cI, 60, .inl (fun _ => (0 : Int32)))), (k5, .inl (cI, 60, .inl (fun _ => (0 : Int32)))), (k6, .inl (cI, 40, .inl (fun _ => (0 : Int32)))), (k7, .inl (cI, 40, .inl (fun _ => (0 : Int32)))), (k8, .inl (cI, 40, .inl (fun _ => (0 : Int32)))), (w5, .inr (3, [.ref pf, .int 0])), (pf, .inl (cI, 36, .inl (fun _ => (0 : Int32))))] := hD
  refine lv_aload_n hx hb dX10_image_11 rfl (lv_at hl 0 rfl) ?_
  refine va_get (D := D) (ci := 10) (v := .ref kr) (C := RX10) (T := TX10) (N := 13) hx hb hT giX10 hown hK hP 0 rfl rfl 4 (by decide) (hT (Cond.fieldLink RX10 29 "DesertWire" "keptRates" "LDesertWire$Rates;") mw_295) (fun _ h9 => h9) rfl dX10_image_12 ?_
  refine lv_aload_n hx hb dX10_image_15 rfl (lv_at hl 0 rfl) ?_
  refine va_get (D := D) (ci := 10) (v := .ref ra) (C := RX10) (T := TX10) (N := 13) hx hb hT giX10 hown hK hP 0 rfl rfl 3 (by decide) (hT (Cond.fieldLink RX10 25 "DesertWire" "rates" "LDesertWire$Rates;") mw_294) (fun _ h9 => h9) rfl dX10_image_16 ?_
  refine kJv (wr := [(x, .inr (10, [.ref nw, .ref kp, .ref fu, .ref ra, .ref kr, .ref rd, .ref wd, .ref ld, .ref mt, .ref vo, .ref sh, .ref fd, .int 0])), (kp, .inr (9, [.ref v0, .ref v1, .ref v2, .ref v3, .ref v4, .ref v5, .int 0, .int 40, .int 0])), (v0, .inl (cI, 12, .inl (fun _ => (2 : Int32)))), (v1, .inl (cI, 40, .inl (fun _ => (0 : Int32)))), (v2, .inl (cI, 40, .inl (fun _ => (0 : Int32)))), (v3, .inl (cI, 20, .inl (fun _ => (0 : Int32)))), (v4, .inr (8, [.ref j0, .ref j1, .ref j2, .ref j3, .ref j4, .ref j5, .ref j6, .ref j7, .ref j8, .int 0])), (j0, .inl (cI, 60, .inl (fun _ => (0 : Int32)))), (j1, .inl (cI, 60, .inl (fun _ => (0 : Int32)))), (j2, .inl (cI, 60, .inl (fun _ => (0 : Int32)))), (j3, .inl (cI, 60, .inl (fun _ => (0 : Int32)))), (j4, .inl (cI, 60, .inl (fun _ => (0 : Int32)))), (j5, .inl (cI, 60, .inl (fun _ => (0 : Int32)))), (j6, .inl (cI, 40, .inl (fun _ => (0 : Int32)))), (j7, .inl (cI, 40, .inl (fun _ => (0 : Int32)))), (j8, .inl (cI, 40, .inl (fun _ => (0 : Int32)))), (v5, .inr (3, [.ref po, .int 0])), (po, .inl (cI, 36, .inl (fun _ => (0 : Int32)))), (nw, .inr (9, [.ref w0, .ref w1, .ref w2, .ref w3, .ref w4, .ref w5, .int 0, .int 40, .int 0])), (w0, .inl (cI, 12, .inl (fun _ => (2 : Int32)))), (w1, .inl (cI, 40, .inl (fun _ => (0 : Int32)))), (w2, .inl (cI, 40, .inl (fun _ => (0 : Int32)))), (w3, .inl (cI, 20, .inl (fun _ => (0 : Int32)))), (w4, .inr (8, [.ref k0, .ref k1, .ref k2, .ref k3, .ref k4, .ref k5, .ref k6, .ref k7, .ref k8, .int 0])), (k0, .inl (cI, 60, .inl (fun _ => (0 : Int32)))), (k1, .inl (cI, 60, .inl (fun _ => (0 : Int32)))), (k2, .inl (cI, 60, .inl (fun _ => (0 : Int32)))), (k3, .inl (cI, 60, .inl (fun _ => (0 : Int32)))), (k4, .inl (cI, 60, .inl (fun _ => (0 : Int32)))), (k5, .inl (cI, 60, .inl (fun _ => (0 : Int32)))), (k6, .inl (cI, 40, .inl (fun _ => (0 : Int32)))), (k7, .inl (cI, 40, .inl (fun _ => (0 : Int32)))), (k8, .inl (cI, 40, .inl (fun _ => (0 : Int32)))), (w5, .inr (3, [.ref pf, .int 0])), (pf, .inl (cI, 36, .inl (fun _ => (0 : Int32))))]) (va_runV (As := [.ref ra]) (rest := []) ⟨hx, hb, hml, hown, hT⟩ (c_X4_copyFrom l D cI kr s0 s1 s2 s3 s4 ra t0 t1 t2 t3 t4 H.size 0 0 0 0 (fun _ => (0 : Int32)) (fun _ => (0 : Int32)) (fun _ => (0 : Int32)) (fun _ => (0 : Int32)) (fun _ => (0 : Int32)) (fun _ => (0 : Int32)) (fun _ => (0 : Int32)) (fun _ => (0 : Int32)) (fun _ => (0 : Int32)) (fun _ => (0 : Int32))) (cwV 1 hT (gV_in mw_1108 mw_1105 mw_1106 mw_1107 mw_5) rfl rfl rfl (by decide +kernel) ⟨Nat.le_of_ble_eq_true rfl, Nat.le_of_ble_eq_true rfl⟩) (kRecv (own := "") (q0 := 7) (ci := 4) hK hP hD hN rfl rfl [7, 1, 8, 9, 10, 11, 12, 2, 3, 4, 5, 6] rfl (by decide)) rfl rfl hl.1 rfl (lv_room (Nat.le_of_ble_eq_true rfl)) dX10_image_19 ⟨Nat.le_of_ble_eq_true rfl, Nat.le_of_ble_eq_true rfl⟩) hP hD hS hA [7, 1, 8, 9, 10, 11, 12, 2, 3, 4, 5, 6] [0, 13, 14, 15, 16, 17, 18, 19, 20, 21, 22, 23, 24, 25, 26, 27, 28, 29, 30, 31, 32, 33, 34, 35, 36, 37, 38, 39, 40, 41, 42, 43, 44, 45, 46] rfl rfl (by decide) (by decide) (fun u_6 H locs w_5 hP hD hS => ?_)
  have hP : va_P D vwCl [(x, .inr (10, [.ref nw, .ref kp, .ref fu, .ref ra, .ref kr, .ref rd, .ref wd, .ref ld, .ref mt, .ref vo, .ref sh, .ref fd, .int 0])), (kp, .inr (9, [.ref v0, .ref v1, .ref v2, .ref v3, .ref v4, .ref v5, .int 0, .int 40, .int 0])), (v0, .inl (cI, 12, .inl (fun _ => (2 : Int32)))), (v1, .inl (cI, 40, .inl (fun _ => (0 : Int32)))), (v2, .inl (cI, 40, .inl (fun _ => (0 : Int32)))), (v3, .inl (cI, 20, .inl (fun _ => (0 : Int32)))), (v4, .inr (8, [.ref j0, .ref j1, .ref j2, .ref j3, .ref j4, .ref j5, .ref j6, .ref j7, .ref j8, .int 0])), (j0, .inl (cI, 60, .inl (fun _ => (0 : Int32)))), (j1, .inl (cI, 60, .inl (fun _ => (0 : Int32)))), (j2, .inl (cI, 60, .inl (fun _ => (0 : Int32)))), (j3, .inl (cI, 60, .inl (fun _ => (0 : Int32)))), (j4, .inl (cI, 60, .inl (fun _ => (0 : Int32)))), (j5, .inl (cI, 60, .inl (fun _ => (0 : Int32)))), (j6, .inl (cI, 40, .inl (fun _ => (0 : Int32)))), (j7, .inl (cI, 40, .inl (fun _ => (0 : Int32)))), (j8, .inl (cI, 40, .inl (fun _ => (0 : Int32)))), (v5, .inr (3, [.ref po, .int 0])), (po, .inl (cI, 36, .inl (fun _ => (0 : Int32)))), (nw, .inr (9, [.ref w0, .ref w1, .ref w2, .ref w3, .ref w4, .ref w5, .int 0, .int 40, .int 0])), (w0, .inl (cI, 12, .inl (fun _ => (2 : Int32)))), (w1, .inl (cI, 40, .inl (fun _ => (0 : Int32)))), (w2, .inl (cI, 40, .inl (fun _ => (0 : Int32)))), (w3, .inl (cI, 20, .inl (fun _ => (0 : Int32)))), (w4, .inr (8, [.ref k0, .ref k1, .ref k2, .ref k3, .ref k4, .ref k5, .ref k6, .ref k7, .ref k8, .int 0])), (k0, .inl (cI, 60, .inl (fun _ => (0 : Int32)))), (k1, .inl (cI, 60, .inl (fun _ => (0 : Int32)))), (k2, .inl (cI, 60, .inl (fun _ => (0 : Int32)))), (k3, .inl (cI, 60, .inl (fun _ => (0 : Int32)))), (k4, .inl (cI, 60, .inl (fun _ => (0 : Int32)))), (k5, .inl (cI, 60, .inl (fun _ => (0 : Int32)))), (k6, .inl (cI, 40, .inl (fun _ => (0 : Int32)))), (k7, .inl (cI, 40, .inl (fun _ => (0 : Int32)))), (k8, .inl (cI, 40, .inl (fun _ => (0 : Int32)))), (w5, .inr (3, [.ref pf, .int 0])), (pf, .inl (cI, 36, .inl (fun _ => (0 : Int32))))] H := hP
  have hD : va_D A [(x, .inr (10, [.ref nw, .ref kp, .ref fu, .ref ra, .ref kr, .ref rd, .ref wd, .ref ld, .ref mt, .ref vo, .ref sh, .ref fd, .int 0])), (kp, .inr (9, [.ref v0, .ref v1, .ref v2, .ref v3, .ref v4, .ref v5, .int 0, .int 40, .int 0])), (v0, .inl (cI, 12, .inl (fun _ => (2 : Int32)))), (v1, .inl (cI, 40, .inl (fun _ => (0 : Int32)))), (v2, .inl (cI, 40, .inl (fun _ => (0 : Int32)))), (v3, .inl (cI, 20, .inl (fun _ => (0 : Int32)))), (v4, .inr (8, [.ref j0, .ref j1, .ref j2, .ref j3, .ref j4, .ref j5, .ref j6, .ref j7, .ref j8, .int 0])), (j0, .inl (cI, 60, .inl (fun _ => (0 : Int32)))), (j1, .inl (cI, 60, .inl (fun _ => (0 : Int32)))), (j2, .inl (cI, 60, .inl (fun _ => (0 : Int32)))), (j3, .inl (cI, 60, .inl (fun _ => (0 : Int32)))), (j4, .inl (cI, 60, .inl (fun _ => (0 : Int32)))), (j5, .inl (cI, 60, .inl (fun _ => (0 : Int32)))), (j6, .inl (cI, 40, .inl (fun _ => (0 : Int32)))), (j7, .inl (cI, 40, .inl (fun _ => (0 : Int32)))), (j8, .inl (cI, 40, .inl (fun _ => (0 : Int32)))), (v5, .inr (3, [.ref po, .int 0])), (po, .inl (cI, 36, .inl (fun _ => (0 : Int32)))), (nw, .inr (9, [.ref w0, .ref w1, .ref w2, .ref w3, .ref w4, .ref w5, .int 0, .int 40, .int 0])), (w0, .inl (cI, 12, .inl (fun _ => (2 : Int32)))), (w1, .inl (cI, 40, .inl (fun _ => (0 : Int32)))), (w2, .inl (cI, 40, .inl (fun _ => (0 : Int32)))), (w3, .inl (cI, 20, .inl (fun _ => (0 : Int32)))), (w4, .inr (8, [.ref k0, .ref k1, .ref k2, .ref k3, .ref k4, .ref k5, .ref k6, .ref k7, .ref k8, .int 0])), (k0, .inl (cI, 60, .inl (fun _ => (0 : Int32)))), (k1, .inl (cI, 60, .inl (fun _ => (0 : Int32)))), (k2, .inl (cI, 60, .inl (fun _ => (0 : Int32)))), (k3, .inl (cI, 60, .inl (fun _ => (0 : Int32)))), (k4, .inl (cI, 60, .inl (fun _ => (0 : Int32)))), (k5, .inl (cI, 60, .inl (fun _ => (0 : Int32)))), (k6, .inl (cI, 40, .inl (fun _ => (0 : Int32)))), (k7, .inl (cI, 40, .inl (fun _ => (0 : Int32)))), (k8, .inl (cI, 40, .inl (fun _ => (0 : Int32)))), (w5, .inr (3, [.ref pf, .int 0])), (pf, .inl (cI, 36, .inl (fun _ => (0 : Int32))))] := hD
  refine lv_aload_n hx hb dX10_image_22 rfl (lv_at hl 0 rfl) ?_
  refine lv_dup hx hb dX10_image_23 rfl ?_
  refine va_get (D := D) (ci := 10) (v := .int 0) (C := RX10) (T := TX10) (N := 13) hx hb hT giX10 hown hK hP 0 rfl rfl 12 (by decide) (hT (Cond.fieldLink RX10 78 "DesertWire" "images" "I") mw_303) (fun _ h9 => h9) rfl dX10_image_24 ?_
  refine lv_iconst (v := 1) hx hb dX10_image_27 (by decide) ?_
  refine k_iadd (v := 1) hx hb dX10_image_28 (by decide) ?_
  refine va_put (D := D) (ci := 10) (v := .int 1) (ty := .int) (C := RX10) (T := TX10) (N := 13) hx hb hT giX10 tyX10 tyX10_ok nmX10 hown hK hP hD hS 0 rfl rfl 12 (by decide) (hT (Cond.fieldLink RX10 78 "DesertWire" "images" "I") mw_303) (fun _ h9 => h9) rfl (by decide +kernel) rfl rfl (Nat.le_of_ble_eq_true rfl) dX10_image_29 (fun H locs hP hD hS => ?_)
  have hP : va_P D vwCl [(x, .inr (10, [.ref nw, .ref kp, .ref fu, .ref ra, .ref kr, .ref rd, .ref wd, .ref ld, .ref mt, .ref vo, .ref sh, .ref fd, .int 1])), (kp, .inr (9, [.ref v0, .ref v1, .ref v2, .ref v3, .ref v4, .ref v5, .int 0, .int 40, .int 0])), (v0, .inl (cI, 12, .inl (fun _ => (2 : Int32)))), (v1, .inl (cI, 40, .inl (fun _ => (0 : Int32)))), (v2, .inl (cI, 40, .inl (fun _ => (0 : Int32)))), (v3, .inl (cI, 20, .inl (fun _ => (0 : Int32)))), (v4, .inr (8, [.ref j0, .ref j1, .ref j2, .ref j3, .ref j4, .ref j5, .ref j6, .ref j7, .ref j8, .int 0])), (j0, .inl (cI, 60, .inl (fun _ => (0 : Int32)))), (j1, .inl (cI, 60, .inl (fun _ => (0 : Int32)))), (j2, .inl (cI, 60, .inl (fun _ => (0 : Int32)))), (j3, .inl (cI, 60, .inl (fun _ => (0 : Int32)))), (j4, .inl (cI, 60, .inl (fun _ => (0 : Int32)))), (j5, .inl (cI, 60, .inl (fun _ => (0 : Int32)))), (j6, .inl (cI, 40, .inl (fun _ => (0 : Int32)))), (j7, .inl (cI, 40, .inl (fun _ => (0 : Int32)))), (j8, .inl (cI, 40, .inl (fun _ => (0 : Int32)))), (v5, .inr (3, [.ref po, .int 0])), (po, .inl (cI, 36, .inl (fun _ => (0 : Int32)))), (nw, .inr (9, [.ref w0, .ref w1, .ref w2, .ref w3, .ref w4, .ref w5, .int 0, .int 40, .int 0])), (w0, .inl (cI, 12, .inl (fun _ => (2 : Int32)))), (w1, .inl (cI, 40, .inl (fun _ => (0 : Int32)))), (w2, .inl (cI, 40, .inl (fun _ => (0 : Int32)))), (w3, .inl (cI, 20, .inl (fun _ => (0 : Int32)))), (w4, .inr (8, [.ref k0, .ref k1, .ref k2, .ref k3, .ref k4, .ref k5, .ref k6, .ref k7, .ref k8, .int 0])), (k0, .inl (cI, 60, .inl (fun _ => (0 : Int32)))), (k1, .inl (cI, 60, .inl (fun _ => (0 : Int32)))), (k2, .inl (cI, 60, .inl (fun _ => (0 : Int32)))), (k3, .inl (cI, 60, .inl (fun _ => (0 : Int32)))), (k4, .inl (cI, 60, .inl (fun _ => (0 : Int32)))), (k5, .inl (cI, 60, .inl (fun _ => (0 : Int32)))), (k6, .inl (cI, 40, .inl (fun _ => (0 : Int32)))), (k7, .inl (cI, 40, .inl (fun _ => (0 : Int32)))), (k8, .inl (cI, 40, .inl (fun _ => (0 : Int32)))), (w5, .inr (3, [.ref pf, .int 0])), (pf, .inl (cI, 36, .inl (fun _ => (0 : Int32))))] H := hP
  have hD : va_D A [(x, .inr (10, [.ref nw, .ref kp, .ref fu, .ref ra, .ref kr, .ref rd, .ref wd, .ref ld, .ref mt, .ref vo, .ref sh, .ref fd, .int 1])), (kp, .inr (9, [.ref v0, .ref v1, .ref v2, .ref v3, .ref v4, .ref v5, .int 0, .int 40, .int 0])), (v0, .inl (cI, 12, .inl (fun _ => (2 : Int32)))), (v1, .inl (cI, 40, .inl (fun _ => (0 : Int32)))), (v2, .inl (cI, 40, .inl (fun _ => (0 : Int32)))), (v3, .inl (cI, 20, .inl (fun _ => (0 : Int32)))), (v4, .inr (8, [.ref j0, .ref j1, .ref j2, .ref j3, .ref j4, .ref j5, .ref j6, .ref j7, .ref j8, .int 0])), (j0, .inl (cI, 60, .inl (fun _ => (0 : Int32)))), (j1, .inl (cI, 60, .inl (fun _ => (0 : Int32)))), (j2, .inl (cI, 60, .inl (fun _ => (0 : Int32)))), (j3, .inl (cI, 60, .inl (fun _ => (0 : Int32)))), (j4, .inl (cI, 60, .inl (fun _ => (0 : Int32)))), (j5, .inl (cI, 60, .inl (fun _ => (0 : Int32)))), (j6, .inl (cI, 40, .inl (fun _ => (0 : Int32)))), (j7, .inl (cI, 40, .inl (fun _ => (0 : Int32)))), (j8, .inl (cI, 40, .inl (fun _ => (0 : Int32)))), (v5, .inr (3, [.ref po, .int 0])), (po, .inl (cI, 36, .inl (fun _ => (0 : Int32)))), (nw, .inr (9, [.ref w0, .ref w1, .ref w2, .ref w3, .ref w4, .ref w5, .int 0, .int 40, .int 0])), (w0, .inl (cI, 12, .inl (fun _ => (2 : Int32)))), (w1, .inl (cI, 40, .inl (fun _ => (0 : Int32)))), (w2, .inl (cI, 40, .inl (fun _ => (0 : Int32)))), (w3, .inl (cI, 20, .inl (fun _ => (0 : Int32)))), (w4, .inr (8, [.ref k0, .ref k1, .ref k2, .ref k3, .ref k4, .ref k5, .ref k6, .ref k7, .ref k8, .int 0])), (k0, .inl (cI, 60, .inl (fun _ => (0 : Int32)))), (k1, .inl (cI, 60, .inl (fun _ => (0 : Int32)))), (k2, .inl (cI, 60, .inl (fun _ => (0 : Int32)))), (k3, .inl (cI, 60, .inl (fun _ => (0 : Int32)))), (k4, .inl (cI, 60, .inl (fun _ => (0 : Int32)))), (k5, .inl (cI, 60, .inl (fun _ => (0 : Int32)))), (k6, .inl (cI, 40, .inl (fun _ => (0 : Int32)))), (k7, .inl (cI, 40, .inl (fun _ => (0 : Int32)))), (k8, .inl (cI, 40, .inl (fun _ => (0 : Int32)))), (w5, .inr (3, [.ref pf, .int 0])), (pf, .inl (cI, 36, .inl (fun _ => (0 : Int32))))] := hD
  refine lv_aload_n hx hb dX10_image_32 rfl (lv_at hl 0 rfl) ?_
  refine va_get (D := D) (ci := 10) (v := .int 1) (C := RX10) (T := TX10) (N := 13) hx hb hT giX10 hown hK hP 0 rfl rfl 12 (by decide) (hT (Cond.fieldLink RX10 78 "DesertWire" "images" "I") mw_303) (fun _ h9 => h9) rfl dX10_image_33 ?_
  exact hRet () [] rfl hP hD (by decide) rfl hS rfl dX10_image_36
set_option maxHeartbeats 4000000 in
set_option maxRecDepth 100000 in
theorem c_X10_restore (l : Launch) (D : va_G) (cI : ClassId) (x nw kp fu ra kr rd wd ld mt vo sh fd : Nat) (sz : Nat) (ff : Nat → Int32) : Met l yX10_restore (gW yX10_restore cX10_restore 1 (some .int)) ({ frames := 1, cells := 0, slots := 0, locals := 21 } : Room) (kPre D cI [.ref x] [(x, .inr (10, [.ref nw, .ref kp, .ref fu, .ref ra, .ref kr, .ref rd, .ref wd, .ref ld, .ref mt, .ref vo, .ref sh, .ref fd, .int 0])), (fd, .inl (cI, 6, .inl ff))] sz) (va_Qi (fun (r : Int32) (u : Unit) => r = (-1000002)) (fun u t => kWd D cI (va_A [(x, .inr (10, [.ref nw, .ref kp, .ref fu, .ref ra, .ref kr, .ref rd, .ref wd, .ref ld, .ref mt, .ref vo, .ref sh, .ref fd, .int 0])), (fd, .inl (cI, 6, .inl ff))] sz) [] t) (va_A [(x, .inr (10, [.ref nw, .ref kp, .ref fu, .ref ra, .ref kr, .ref rd, .ref wd, .ref ld, .ref mt, .ref vo, .ref sh, .ref fd, .int 0])), (fd, .inl (cI, 6, .inl ff))] sz)) 0 0 (va_A [(x, .inr (10, [.ref nw, .ref kp, .ref fu, .ref ra, .ref kr, .ref rd, .ref wd, .ref ld, .ref mt, .ref vo, .ref sh, .ref fd, .int 0])), (fd, .inl (cI, 6, .inl ff))] sz) := by
  refine kMetI (own := RX10) (by decide) rfl (Nat.le_of_ble_eq_true rfl) ?_
  intro p e s m args below meth c hx hb hT hown hname hml A Q hK hP hD hS hA hN hRet ls hl
  have hl : lv_has ls 1 [(0, .ref x)] := hl
  refine lv_aload_n hx hb dX10_restore_0 rfl (lv_at hl 0 rfl) ?_
  refine va_get (D := D) (ci := 10) (v := .int 0) (C := RX10) (T := TX10) (N := 13) hx hb hT giX10 hown hK hP 0 rfl rfl 12 (by decide) (hT (Cond.fieldLink RX10 78 "DesertWire" "images" "I") mw_303) (fun _ h9 => h9) rfl dX10_restore_1 ?_
  refine b_if_ne hx hb zl_0 (tgt := 13) dX10_restore_4 (by decide) (fun c_1 => by exfalso; omega) (fun c_1 => ?_)
  refine lv_aload_n hx hb dX10_restore_7 rfl (lv_at hl 0 rfl) ?_
  refine lv_iconst (v := 2) hx hb dX10_restore_8 (by decide) ?_
  refine kJi (wr := []) (va_runV (As := [.int 2]) (rest := []) ⟨hx, hb, hml, hown, hT⟩ (c_X10_finding l D cI x nw kp fu ra kr rd wd ld mt vo sh fd s.heap.size 0 ff 2 (by first | omega | (simp only [zl_0, zl_2] <;> omega) | decide | assumption | rfl) (by first | omega | (simp only [zl_0, zl_2] <;> omega) | decide | assumption | rfl)) (cwV 1 hT (gV_in mw_338 mw_335 mw_337 mw_p1_0 mw_1) rfl rfl rfl (by decide +kernel) ⟨Nat.le_of_ble_eq_true rfl, Nat.le_of_ble_eq_true rfl⟩) (kRecv (own := "") (q0 := 0) (ci := 10) hK hP hD hN rfl rfl [0, 1] rfl (by decide)) rfl rfl hl.1 rfl (lv_room (Nat.le_of_ble_eq_true rfl)) dX10_restore_9 ⟨Nat.le_of_ble_eq_true rfl, Nat.le_of_ble_eq_true rfl⟩) hP hD hS hA [0, 1] [] rfl rfl (by decide) (by decide) (fun r_2 u_4 H locs w_3 hP hD hS => ?_)
  have hP : va_P D vwCl [] H := hP
  have hD : va_D A [] := hD
  have hr_2 := w_3
  obtain rfl : r_2 = (-1000002) := hr_2.trans (by decide)
  exact hRet () [] rfl hP hD (by decide) rfl hS rfl dX10_restore_12
set_option maxHeartbeats 4000000 in
set_option maxRecDepth 100000 in
theorem c_X10_tell (l : Launch) (D : va_G) (cI : ClassId) (x nw kp fu ra kr rd wd ld mt vo sh fd w0 w1 w2 w3 w4 w5 : Nat) (sz : Nat) (im : Int32) (ff : Nat → Int32) (re : Int32) (dy : Int32) (f0 : Nat → Int32) (a : Int32) : Met l yX10_tell (gW yX10_tell cX10_tell 2 (some .int)) ({ frames := 0, cells := 0, slots := 0, locals := 0 } : Room) (kPre D cI [.ref x, .int a] [(x, .inr (10, [.ref nw, .ref kp, .ref fu, .ref ra, .ref kr, .ref rd, .ref wd, .ref ld, .ref mt, .ref vo, .ref sh, .ref fd, .int im])), (nw, .inr (9, [.ref w0, .ref w1, .ref w2, .ref w3, .ref w4, .ref w5, .int 0, .int re, .int dy])), (w3, .inl (cI, 20, .inl f0)), (fd, .inl (cI, 6, .inl ff))] sz) (va_Qi (fun (r : Int32) (u : Unit) => r = 1) (fun u t => kWd D cI (va_A [(x, .inr (10, [.ref nw, .ref kp, .ref fu, .ref ra, .ref kr, .ref rd, .ref wd, .ref ld, .ref mt, .ref vo, .ref sh, .ref fd, .int im])), (nw, .inr (9, [.ref w0, .ref w1, .ref w2, .ref w3, .ref w4, .ref w5, .int 0, .int re, .int dy])), (w3, .inl (cI, 20, .inl f0)), (fd, .inl (cI, 6, .inl ff))] sz) [] t) (va_A [(x, .inr (10, [.ref nw, .ref kp, .ref fu, .ref ra, .ref kr, .ref rd, .ref wd, .ref ld, .ref mt, .ref vo, .ref sh, .ref fd, .int im])), (nw, .inr (9, [.ref w0, .ref w1, .ref w2, .ref w3, .ref w4, .ref w5, .int 0, .int re, .int dy])), (w3, .inl (cI, 20, .inl f0)), (fd, .inl (cI, 6, .inl ff))] sz)) 0 0 (va_A [(x, .inr (10, [.ref nw, .ref kp, .ref fu, .ref ra, .ref kr, .ref rd, .ref wd, .ref ld, .ref mt, .ref vo, .ref sh, .ref fd, .int im])), (nw, .inr (9, [.ref w0, .ref w1, .ref w2, .ref w3, .ref w4, .ref w5, .int 0, .int re, .int dy])), (w3, .inl (cI, 20, .inl f0)), (fd, .inl (cI, 6, .inl ff))] sz) := by
  refine kMetI (own := RX10) (by decide) rfl (Nat.le_of_ble_eq_true rfl) ?_
  intro p e s m args below meth c hx hb hT hown hname hml A Q hK hP hD hS hA hN hRet ls hl
  have hl : lv_has ls 2 [(0, .ref x), (1, .int a)] := hl
  have lo_a := k_lo a
  have hi_a := k_hi a
  have lo_im := k_lo im
  have hi_im := k_hi im
  have lo_re := k_lo re
  have hi_re := k_hi re
  have lo_dy := k_lo dy
  have hi_dy := k_hi dy
  refine lv_aload_n hx hb dX10_tell_0 rfl (lv_at hl 0 rfl) ?_
  refine va_get (D := D) (ci := 10) (v := .ref nw) (C := RX10) (T := TX10) (N := 13) hx hb hT giX10 hown hK hP 0 rfl rfl 0 (by decide) (hT (Cond.fieldLink RX10 12 "DesertWire" "now" "LDesertWire$World;") mw_291) (fun _ h9 => h9) rfl dX10_tell_1 ?_
  refine va_get (D := D) (ci := 9) (v := .int 0) (C := RX9) (T := TX9) (N := 9) hx hb hT giX9 hown hK hP 1 rfl rfl 6 (by decide) (hT (Cond.fieldLink RX10 381 "DesertWire$World" "waiting" "I") mw_104) (fun _ h9 => h9) rfl dX10_tell_4 ?_
  refine b_if_lt hx hb zl_0 (tgt := 22) dX10_tell_7 (by decide) (fun c_1 => by exfalso; omega) (fun c_1 => ?_)
  refine lv_aload_n hx hb dX10_tell_10 rfl (lv_at hl 0 rfl) ?_
  refine va_get (D := D) (ci := 10) (v := .ref nw) (C := RX10) (T := TX10) (N := 13) hx hb hT giX10 hown hK hP 0 rfl rfl 0 (by decide) (hT (Cond.fieldLink RX10 12 "DesertWire" "now" "LDesertWire$World;") mw_291) (fun _ h9 => h9) rfl dX10_tell_11 ?_
  refine va_get (D := D) (ci := 9) (v := .int 0) (C := RX9) (T := TX9) (N := 9) hx hb hT giX9 hown hK hP 1 rfl rfl 6 (by decide) (hT (Cond.fieldLink RX10 381 "DesertWire$World" "waiting" "I") mw_104) (fun _ h9 => h9) rfl dX10_tell_14 ?_
  refine lv_bipush (v := 20) hx hb dX10_tell_17 (by decide) ?_
  refine b_icmp_lt hx hb zl_0 zl_20 (tgt := 28) dX10_tell_19 (by decide) (fun c_2 => ?_) (fun c_2 => by exfalso; omega)
  refine lv_aload_n hx hb dX10_tell_28 rfl (lv_at hl 0 rfl) ?_
  refine va_get (D := D) (ci := 10) (v := .ref nw) (C := RX10) (T := TX10) (N := 13) hx hb hT giX10 hown hK hP 0 rfl rfl 0 (by decide) (hT (Cond.fieldLink RX10 12 "DesertWire" "now" "LDesertWire$World;") mw_291) (fun _ h9 => h9) rfl dX10_tell_29 ?_
  refine va_get (D := D) (ci := 9) (v := .ref w3) (C := RX9) (T := TX9) (N := 9) hx hb hT giX9 hown hK hP 1 rfl rfl 3 (by decide) (hT (Cond.fieldLink RX10 384 "DesertWire$World" "waits" "[I") mw_96) (fun _ h9 => h9) rfl dX10_tell_32 ?_
  refine lv_aload_n hx hb dX10_tell_35 rfl (lv_at hl 0 rfl) ?_
  refine va_get (D := D) (ci := 10) (v := .ref nw) (C := RX10) (T := TX10) (N := 13) hx hb hT giX10 hown hK hP 0 rfl rfl 0 (by decide) (hT (Cond.fieldLink RX10 12 "DesertWire" "now" "LDesertWire$World;") mw_291) (fun _ h9 => h9) rfl dX10_tell_36 ?_
  refine va_get (D := D) (ci := 9) (v := .int 0) (C := RX9) (T := TX9) (N := 9) hx hb hT giX9 hown hK hP 1 rfl rfl 6 (by decide) (hT (Cond.fieldLink RX10 381 "DesertWire$World" "waiting" "I") mw_104) (fun _ h9 => h9) rfl dX10_tell_39 ?_
  refine lv_iload_n hx hb dX10_tell_42 rfl (lv_at hl 1 rfl) ?_
  refine va_iast hx hb hK hP hD hS 2 0 rfl rfl (k_inl (by decide)) dX10_tell_43 (fun H locs hP hD hS => ?_)
  have hP : va_P D vwCl [(x, .inr (10, [.ref nw, .ref kp, .ref fu, .ref ra, .ref kr, .ref rd, .ref wd, .ref ld, .ref mt, .ref vo, .ref sh, .ref fd, .int im])), (nw, .inr (9, [.ref w0, .ref w1, .ref w2, .ref w3, .ref w4, .ref w5, .int 0, .int re, .int dy])), (w3, .inl (cI, 20, .inl (upd f0 0 a))), (fd, .inl (cI, 6, .inl ff))] H := hP
  have hD : va_D A [(x, .inr (10, [.ref nw, .ref kp, .ref fu, .ref ra, .ref kr, .ref rd, .ref wd, .ref ld, .ref mt, .ref vo, .ref sh, .ref fd, .int im])), (nw, .inr (9, [.ref w0, .ref w1, .ref w2, .ref w3, .ref w4, .ref w5, .int 0, .int re, .int dy])), (w3, .inl (cI, 20, .inl (upd f0 0 a))), (fd, .inl (cI, 6, .inl ff))] := hD
  obtain ⟨f_3, ef_3⟩ : ∃ g : Nat → Int32, g = upd f0 0 a := ⟨_, rfl⟩
  rw [← ef_3] at hP hD
  refine lv_aload_n hx hb dX10_tell_44 rfl (lv_at hl 0 rfl) ?_
  refine va_get (D := D) (ci := 10) (v := .ref nw) (C := RX10) (T := TX10) (N := 13) hx hb hT giX10 hown hK hP 0 rfl rfl 0 (by decide) (hT (Cond.fieldLink RX10 12 "DesertWire" "now" "LDesertWire$World;") mw_291) (fun _ h9 => h9) rfl dX10_tell_45 ?_
  refine lv_dup hx hb dX10_tell_48 rfl ?_
  refine va_get (D := D) (ci := 9) (v := .int 0) (C := RX9) (T := TX9) (N := 9) hx hb hT giX9 hown hK hP 1 rfl rfl 6 (by decide) (hT (Cond.fieldLink RX10 381 "DesertWire$World" "waiting" "I") mw_104) (fun _ h9 => h9) rfl dX10_tell_49 ?_
  refine lv_iconst (v := 1) hx hb dX10_tell_52 (by decide) ?_
  refine k_iadd (v := 1) hx hb dX10_tell_53 (by decide) ?_
  refine va_put (D := D) (ci := 9) (v := .int 1) (ty := .int) (C := RX9) (T := TX9) (N := 9) hx hb hT giX9 tyX9 tyX9_ok nmX9 hown hK hP hD hS 1 rfl rfl 6 (by decide) (hT (Cond.fieldLink RX10 381 "DesertWire$World" "waiting" "I") mw_104) (fun _ h9 => h9) rfl (by decide +kernel) rfl rfl (Nat.le_of_ble_eq_true rfl) dX10_tell_54 (fun H locs hP hD hS => ?_)
  have hP : va_P D vwCl [(x, .inr (10, [.ref nw, .ref kp, .ref fu, .ref ra, .ref kr, .ref rd, .ref wd, .ref ld, .ref mt, .ref vo, .ref sh, .ref fd, .int im])), (nw, .inr (9, [.ref w0, .ref w1, .ref w2, .ref w3, .ref w4, .ref w5, .int 1, .int re, .int dy])), (w3, .inl (cI, 20, .inl f_3)), (fd, .inl (cI, 6, .inl ff))] H := hP
  have hD : va_D A [(x, .inr (10, [.ref nw, .ref kp, .ref fu, .ref ra, .ref kr, .ref rd, .ref wd, .ref ld, .ref mt, .ref vo, .ref sh, .ref fd, .int im])), (nw, .inr (9, [.ref w0, .ref w1, .ref w2, .ref w3, .ref w4, .ref w5, .int 1, .int re, .int dy])), (w3, .inl (cI, 20, .inl f_3)), (fd, .inl (cI, 6, .inl ff))] := hD
  refine lv_aload_n hx hb dX10_tell_57 rfl (lv_at hl 0 rfl) ?_
  refine va_get (D := D) (ci := 10) (v := .ref nw) (C := RX10) (T := TX10) (N := 13) hx hb hT giX10 hown hK hP 0 rfl rfl 0 (by decide) (hT (Cond.fieldLink RX10 12 "DesertWire" "now" "LDesertWire$World;") mw_291) (fun _ h9 => h9) rfl dX10_tell_58 ?_
  refine va_get (D := D) (ci := 9) (v := .int 1) (C := RX9) (T := TX9) (N := 9) hx hb hT giX9 hown hK hP 1 rfl rfl 6 (by decide) (hT (Cond.fieldLink RX10 381 "DesertWire$World" "waiting" "I") mw_104) (fun _ h9 => h9) rfl dX10_tell_61 ?_
  exact hRet () [] rfl hP hD (by decide) rfl hS rfl dX10_tell_64
set_option maxHeartbeats 4000000 in
set_option maxRecDepth 100000 in
theorem c_X10_check (l : Launch) (D : va_G) (cI : ClassId) (x nw kp fu ra kr rd wd ld mt vo sh fd w0 w1 w2 w3 w4 w5 : Nat) (sz : Nat) (im : Int32) (re : Int32) (dy : Int32) : Met l yX10_check (gW yX10_check cX10_check 3 (some .int)) ({ frames := 0, cells := 0, slots := 0, locals := 0 } : Room) (kPre D cI [.ref x] [(x, .inr (10, [.ref nw, .ref kp, .ref fu, .ref ra, .ref kr, .ref rd, .ref wd, .ref ld, .ref mt, .ref vo, .ref sh, .ref fd, .int im])), (nw, .inr (9, [.ref w0, .ref w1, .ref w2, .ref w3, .ref w4, .ref w5, .int 0, .int re, .int dy]))] sz) (va_Qi (fun (r : Int32) (u : Unit) => r = 0) (fun u t => kWd D cI (va_A [(x, .inr (10, [.ref nw, .ref kp, .ref fu, .ref ra, .ref kr, .ref rd, .ref wd, .ref ld, .ref mt, .ref vo, .ref sh, .ref fd, .int im])), (nw, .inr (9, [.ref w0, .ref w1, .ref w2, .ref w3, .ref w4, .ref w5, .int 0, .int re, .int dy]))] sz) [] t) (va_A [(x, .inr (10, [.ref nw, .ref kp, .ref fu, .ref ra, .ref kr, .ref rd, .ref wd, .ref ld, .ref mt, .ref vo, .ref sh, .ref fd, .int im])), (nw, .inr (9, [.ref w0, .ref w1, .ref w2, .ref w3, .ref w4, .ref w5, .int 0, .int re, .int dy]))] sz)) 0 0 (va_A [(x, .inr (10, [.ref nw, .ref kp, .ref fu, .ref ra, .ref kr, .ref rd, .ref wd, .ref ld, .ref mt, .ref vo, .ref sh, .ref fd, .int im])), (nw, .inr (9, [.ref w0, .ref w1, .ref w2, .ref w3, .ref w4, .ref w5, .int 0, .int re, .int dy]))] sz) := by
  refine kMetI (own := RX10) (by decide) rfl (Nat.le_of_ble_eq_true rfl) ?_
  intro p e s m args below meth c hx hb hT hown hname hml A Q hK hP hD hS hA hN hRet ls hl
  have hl : lv_has ls 3 [(0, .ref x)] := hl
  have lo_im := k_lo im
  have hi_im := k_hi im
  have lo_re := k_lo re
  have hi_re := k_hi re
  have lo_dy := k_lo dy
  have hi_dy := k_hi dy
  refine lv_iconst (v := 0) hx hb dX10_check_0 (by decide) ?_
  refine lv_istore_n (lv' := [(1, .int 0), (0, .ref x)]) hx hb dX10_check_1 rfl hl (by decide) rfl (fun ls hl => ?_)
  refine lv_iconst (v := 0) hx hb dX10_check_2 (by decide) ?_
  refine lv_istore_n (lv' := [(2, .int 0), (1, .int 0), (0, .ref x)]) hx hb dX10_check_3 rfl hl (by decide) rfl (fun ls hl => ?_)
  refine lv_iload_n hx hb dX10_check_4 rfl (lv_at hl 1 rfl) ?_
  refine b_if_ne hx hb zl_0 (tgt := 55) dX10_check_5 (by decide) (fun c_1 => by exfalso; omega) (fun c_1 => ?_)
  refine lv_iload_n hx hb dX10_check_8 rfl (lv_at hl 0 rfl) ?_
  refine lv_aload_n hx hb dX10_check_9 rfl (lv_at hl 2 rfl) ?_
  refine va_get (D := D) (ci := 10) (v := .ref nw) (C := RX10) (T := TX10) (N := 13) hx hb hT giX10 hown hK hP 0 rfl rfl 0 (by decide) (hT (Cond.fieldLink RX10 12 "DesertWire" "now" "LDesertWire$World;") mw_291) (fun _ h9 => h9) rfl dX10_check_10 ?_
  refine va_get (D := D) (ci := 9) (v := .int 0) (C := RX9) (T := TX9) (N := 9) hx hb hT giX9 hown hK hP 1 rfl rfl 6 (by decide) (hT (Cond.fieldLink RX10 381 "DesertWire$World" "waiting" "I") mw_104) (fun _ h9 => h9) rfl dX10_check_13 ?_
  refine b_icmp_ge hx hb zl_0 zl_0 (tgt := 55) dX10_check_16 (by decide) (fun c_2 => ?_) (fun c_2 => by exfalso; omega)
  refine lv_aload_n hx hb dX10_check_55 rfl (lv_at hl 2 rfl) ?_
  refine va_get (D := D) (ci := 10) (v := .ref nw) (C := RX10) (T := TX10) (N := 13) hx hb hT giX10 hown hK hP 0 rfl rfl 0 (by decide) (hT (Cond.fieldLink RX10 12 "DesertWire" "now" "LDesertWire$World;") mw_291) (fun _ h9 => h9) rfl dX10_check_56 ?_
  refine lv_iconst (v := 0) hx hb dX10_check_59 (by decide) ?_
  refine va_put (D := D) (ci := 9) (v := .int 0) (ty := .int) (C := RX9) (T := TX9) (N := 9) hx hb hT giX9 tyX9 tyX9_ok nmX9 hown hK hP hD hS 1 rfl rfl 6 (by decide) (hT (Cond.fieldLink RX10 381 "DesertWire$World" "waiting" "I") mw_104) (fun _ h9 => h9) rfl (by decide +kernel) rfl rfl (Nat.le_of_ble_eq_true rfl) dX10_check_60 (fun H locs hP hD hS => ?_)
  have hP : va_P D vwCl [(x, .inr (10, [.ref nw, .ref kp, .ref fu, .ref ra, .ref kr, .ref rd, .ref wd, .ref ld, .ref mt, .ref vo, .ref sh, .ref fd, .int im])), (nw, .inr (9, [.ref w0, .ref w1, .ref w2, .ref w3, .ref w4, .ref w5, .int 0, .int re, .int dy]))] H := hP
  have hD : va_D A [(x, .inr (10, [.ref nw, .ref kp, .ref fu, .ref ra, .ref kr, .ref rd, .ref wd, .ref ld, .ref mt, .ref vo, .ref sh, .ref fd, .int im])), (nw, .inr (9, [.ref w0, .ref w1, .ref w2, .ref w3, .ref w4, .ref w5, .int 0, .int re, .int dy]))] := hD
  refine lv_iload_n hx hb dX10_check_63 rfl (lv_at hl 1 rfl) ?_
  exact hRet () [] rfl hP hD (by decide) rfl hS rfl dX10_check_64
set_option maxHeartbeats 4000000 in
set_option maxRecDepth 100000 in
theorem c_X10_count (l : Launch) (D : va_G) (cI : ClassId) (x nw kp fu ra kr rd wd ld mt vo sh fd w0 w1 w2 w3 w4 w5 k0 k1 k2 k3 k4 k5 k6 k7 k8 pf t0 t1 t2 t3 t4 vb : Nat) (sz : Nat) (im : Int32) (ff : Nat → Int32) (re : Int32) (a : Int32) : Met l yX10_count (gW yX10_count cX10_count 2 (some .int)) ({ frames := 1, cells := 0, slots := 0, locals := 22 } : Room) (kPre D cI [.ref x, .int a] [(x, .inr (10, [.ref nw, .ref kp, .ref fu, .ref ra, .ref kr, .ref rd, .ref wd, .ref ld, .ref mt, .ref vo, .ref sh, .ref fd, .int im])), (nw, .inr (9, [.ref w0, .ref w1, .ref w2, .ref w3, .ref w4, .ref w5, .int 0, .int re, .int 0])), (w4, .inr (8, [.ref k0, .ref k1, .ref k2, .ref k3, .ref k4, .ref k5, .ref k6, .ref k7, .ref k8, .int 0])), (k6, .inl (cI, 40, .inl (fun _ => (0 : Int32)))), (w5, .inr (3, [.ref pf, .int 0])), (ra, .inr (4, [.ref t0, .ref t1, .ref t2, .ref t3, .ref t4, .int 0, .int 0])), (vo, .inr (7, [.ref vb, .int 0, .int 0, .int 0, .int 0])), (fd, .inl (cI, 6, .inl ff))] sz) (va_Qi (fun (r : Int32) (u : Unit) => r = sp_count a) (fun u t => kWd D cI (va_A [(x, .inr (10, [.ref nw, .ref kp, .ref fu, .ref ra, .ref kr, .ref rd, .ref wd, .ref ld, .ref mt, .ref vo, .ref sh, .ref fd, .int im])), (nw, .inr (9, [.ref w0, .ref w1, .ref w2, .ref w3, .ref w4, .ref w5, .int 0, .int re, .int 0])), (w4, .inr (8, [.ref k0, .ref k1, .ref k2, .ref k3, .ref k4, .ref k5, .ref k6, .ref k7, .ref k8, .int 0])), (k6, .inl (cI, 40, .inl (fun _ => (0 : Int32)))), (w5, .inr (3, [.ref pf, .int 0])), (ra, .inr (4, [.ref t0, .ref t1, .ref t2, .ref t3, .ref t4, .int 0, .int 0])), (vo, .inr (7, [.ref vb, .int 0, .int 0, .int 0, .int 0])), (fd, .inl (cI, 6, .inl ff))] sz) [] t) (va_A [(x, .inr (10, [.ref nw, .ref kp, .ref fu, .ref ra, .ref kr, .ref rd, .ref wd, .ref ld, .ref mt, .ref vo, .ref sh, .ref fd, .int im])), (nw, .inr (9, [.ref w0, .ref w1, .ref w2, .ref w3, .ref w4, .ref w5, .int 0, .int re, .int 0])), (w4, .inr (8, [.ref k0, .ref k1, .ref k2, .ref k3, .ref k4, .ref k5, .ref k6, .ref k7, .ref k8, .int 0])), (k6, .inl (cI, 40, .inl (fun _ => (0 : Int32)))), (w5, .inr (3, [.ref pf, .int 0])), (ra, .inr (4, [.ref t0, .ref t1, .ref t2, .ref t3, .ref t4, .int 0, .int 0])), (vo, .inr (7, [.ref vb, .int 0, .int 0, .int 0, .int 0])), (fd, .inl (cI, 6, .inl ff))] sz)) 0 0 (va_A [(x, .inr (10, [.ref nw, .ref kp, .ref fu, .ref ra, .ref kr, .ref rd, .ref wd, .ref ld, .ref mt, .ref vo, .ref sh, .ref fd, .int im])), (nw, .inr (9, [.ref w0, .ref w1, .ref w2, .ref w3, .ref w4, .ref w5, .int 0, .int re, .int 0])), (w4, .inr (8, [.ref k0, .ref k1, .ref k2, .ref k3, .ref k4, .ref k5, .ref k6, .ref k7, .ref k8, .int 0])), (k6, .inl (cI, 40, .inl (fun _ => (0 : Int32)))), (w5, .inr (3, [.ref pf, .int 0])), (ra, .inr (4, [.ref t0, .ref t1, .ref t2, .ref t3, .ref t4, .int 0, .int 0])), (vo, .inr (7, [.ref vb, .int 0, .int 0, .int 0, .int 0])), (fd, .inl (cI, 6, .inl ff))] sz) := by
  refine kMetI (own := RX10) (by decide) rfl (Nat.le_of_ble_eq_true rfl) ?_
  intro p e s m args below meth c hx hb hT hown hname hml A Q hK hP hD hS hA hN hRet ls hl
  have hl : lv_has ls 2 [(0, .ref x), (1, .int a)] := hl
  have lo_a := k_lo a
  have hi_a := k_hi a
  have lo_im := k_lo im
  have hi_im := k_hi im
  have lo_re := k_lo re
  have hi_re := k_hi re
  refine lv_iload_n hx hb dX10_count_0 rfl (lv_at hl 1 rfl) ?_
  by_cases c_1 : a.toInt = 0
  · refine lv_tableIn (off := 67) (tgt := 68) hx hb dX10_count_1 (by omega) (by omega) (by rw [c_1]; decide) (by decide) ?_
    refine lv_aload_n hx hb dX10_count_68 rfl (lv_at hl 0 rfl) ?_
    refine va_get (D := D) (ci := 10) (v := .ref nw) (C := RX10) (T := TX10) (N := 13) hx hb hT giX10 hown hK hP 0 rfl rfl 0 (by decide) (hT (Cond.fieldLink RX10 12 "DesertWire" "now" "LDesertWire$World;") mw_291) (fun _ h9 => h9) rfl dX10_count_69 ?_
    refine va_get (D := D) (ci := 9) (v := .ref w4) (C := RX9) (T := TX9) (N := 9) hx hb hT giX9 hown hK hP 1 rfl rfl 4 (by decide) (hT (Cond.fieldLink RX10 99 "DesertWire$World" "works" "LDesertWire$Works;") mw_99) (fun _ h9 => h9) rfl dX10_count_72 ?_
    refine va_get (D := D) (ci := 8) (v := .int 0) (C := RX8) (T := TX8) (N := 10) hx hb hT giX8 hown hK hP 2 rfl rfl 9 (by decide) (hT (Cond.fieldLink RX10 343 "DesertWire$Works" "number" "I") mw_51) (fun _ h9 => h9) rfl dX10_count_75 ?_
    exact hRet () [] (by unfold sp_count; repeat (first | rw [if_pos (by omega)] | rw [if_neg (by omega)])) hP hD (by decide) rfl hS rfl dX10_count_78
  by_cases c_2 : a.toInt = 1
  · refine lv_tableIn (off := 78) (tgt := 79) hx hb dX10_count_1 (by omega) (by omega) (by rw [c_2]; decide) (by decide) ?_
    refine lv_aload_n hx hb dX10_count_79 rfl (lv_at hl 0 rfl) ?_
    refine va_get (D := D) (ci := 10) (v := .ref nw) (C := RX10) (T := TX10) (N := 13) hx hb hT giX10 hown hK hP 0 rfl rfl 0 (by decide) (hT (Cond.fieldLink RX10 12 "DesertWire" "now" "LDesertWire$World;") mw_291) (fun _ h9 => h9) rfl dX10_count_80 ?_
    refine va_get (D := D) (ci := 9) (v := .ref w4) (C := RX9) (T := TX9) (N := 9) hx hb hT giX9 hown hK hP 1 rfl rfl 4 (by decide) (hT (Cond.fieldLink RX10 99 "DesertWire$World" "works" "LDesertWire$Works;") mw_99) (fun _ h9 => h9) rfl dX10_count_83 ?_
    refine kJi (wr := [(x, .inr (10, [.ref nw, .ref kp, .ref fu, .ref ra, .ref kr, .ref rd, .ref wd, .ref ld, .ref mt, .ref vo, .ref sh, .ref fd, .int im])), (nw, .inr (9, [.ref w0, .ref w1, .ref w2, .ref w3, .ref w4, .ref w5, .int 0, .int re, .int 0])), (k6, .inl (cI, 40, .inl (fun _ => (0 : Int32)))), (w5, .inr (3, [.ref pf, .int 0])), (ra, .inr (4, [.ref t0, .ref t1, .ref t2, .ref t3, .ref t4, .int 0, .int 0])), (vo, .inr (7, [.ref vb, .int 0, .int 0, .int 0, .int 0])), (fd, .inl (cI, 6, .inl ff))]) (va_runV (As := []) (rest := []) ⟨hx, hb, hml, hown, hT⟩ (c_X8_fallen l D cI w4 k0 k1 k2 k3 k4 k5 k6 k7 k8 s.heap.size) (cwV 0 hT (gV_in mw_1128 mw_1125 mw_1126 mw_1127 mw_3) rfl rfl rfl (by decide +kernel) ⟨Nat.le_of_ble_eq_true rfl, Nat.le_of_ble_eq_true rfl⟩) (kRecv (own := "") (q0 := 2) (ci := 8) hK hP hD hN rfl rfl [2] rfl (by decide)) rfl rfl hl.1 rfl (lv_room (Nat.le_of_ble_eq_true rfl)) dX10_count_86 ⟨Nat.le_of_ble_eq_true rfl, Nat.le_of_ble_eq_true rfl⟩) hP hD hS hA [2] [0, 1, 3, 4, 5, 6, 7] rfl rfl (by decide) (by decide) (fun r_3 u_5 H locs w_4 hP hD hS => ?_)
    have hP : va_P D vwCl [(x, .inr (10, [.ref nw, .ref kp, .ref fu, .ref ra, .ref kr, .ref rd, .ref wd, .ref ld, .ref mt, .ref vo, .ref sh, .ref fd, .int im])), (nw, .inr (9, [.ref w0, .ref w1, .ref w2, .ref w3, .ref w4, .ref w5, .int 0, .int re, .int 0])), (k6, .inl (cI, 40, .inl (fun _ => (0 : Int32)))), (w5, .inr (3, [.ref pf, .int 0])), (ra, .inr (4, [.ref t0, .ref t1, .ref t2, .ref t3, .ref t4, .int 0, .int 0])), (vo, .inr (7, [.ref vb, .int 0, .int 0, .int 0, .int 0])), (fd, .inl (cI, 6, .inl ff)), (w4, .inr (8, [.ref k0, .ref k1, .ref k2, .ref k3, .ref k4, .ref k5, .ref k6, .ref k7, .ref k8, .int 0]))] H := hP
    have hD : va_D A [(x, .inr (10, [.ref nw, .ref kp, .ref fu, .ref ra, .ref kr, .ref rd, .ref wd, .ref ld, .ref mt, .ref vo, .ref sh, .ref fd, .int im])), (nw, .inr (9, [.ref w0, .ref w1, .ref w2, .ref w3, .ref w4, .ref w5, .int 0, .int re, .int 0])), (k6, .inl (cI, 40, .inl (fun _ => (0 : Int32)))), (w5, .inr (3, [.ref pf, .int 0])), (ra, .inr (4, [.ref t0, .ref t1, .ref t2, .ref t3, .ref t4, .int 0, .int 0])), (vo, .inr (7, [.ref vb, .int 0, .int 0, .int 0, .int 0])), (fd, .inl (cI, 6, .inl ff)), (w4, .inr (8, [.ref k0, .ref k1, .ref k2, .ref k3, .ref k4, .ref k5, .ref k6, .ref k7, .ref k8, .int 0]))] := hD
    have hr_3 := w_4
    obtain rfl : r_3 = 0 := hr_3.trans (by decide)
    exact hRet () [] (by unfold sp_count; repeat (first | rw [if_pos (by omega)] | rw [if_neg (by omega)])) hP hD (by decide) rfl hS rfl dX10_count_89
  by_cases c_6 : a.toInt = 2
  · refine lv_tableIn (off := 89) (tgt := 90) hx hb dX10_count_1 (by omega) (by omega) (by rw [c_6]; decide) (by decide) ?_
    refine lv_aload_n hx hb dX10_count_90 rfl (lv_at hl 0 rfl) ?_
    refine va_get (D := D) (ci := 10) (v := .ref nw) (C := RX10) (T := TX10) (N := 13) hx hb hT giX10 hown hK hP 0 rfl rfl 0 (by decide) (hT (Cond.fieldLink RX10 12 "DesertWire" "now" "LDesertWire$World;") mw_291) (fun _ h9 => h9) rfl dX10_count_91 ?_
    refine va_get (D := D) (ci := 9) (v := .ref w5) (C := RX9) (T := TX9) (N := 9) hx hb hT giX9 hown hK hP 1 rfl rfl 5 (by decide) (hT (Cond.fieldLink RX10 193 "DesertWire$World" "parties" "LDesertWire$Parties;") mw_102) (fun _ h9 => h9) rfl dX10_count_94 ?_
    refine va_get (D := D) (ci := 3) (v := .int 0) (C := RX3) (T := TX3) (N := 2) hx hb hT giX3 hown hK hP 4 rfl rfl 1 (by decide) (hT (Cond.fieldLink RX10 390 "DesertWire$Parties" "number" "I") mw_83) (fun _ h9 => h9) rfl dX10_count_97 ?_
    exact hRet () [] (by unfold sp_count; repeat (first | rw [if_pos (by omega)] | rw [if_neg (by omega)])) hP hD (by decide) rfl hS rfl dX10_count_100
  by_cases c_7 : a.toInt = 3
  · refine lv_tableIn (off := 100) (tgt := 101) hx hb dX10_count_1 (by omega) (by omega) (by rw [c_7]; decide) (by decide) ?_
    refine lv_aload_n hx hb dX10_count_101 rfl (lv_at hl 0 rfl) ?_
    refine va_get (D := D) (ci := 10) (v := .ref nw) (C := RX10) (T := TX10) (N := 13) hx hb hT giX10 hown hK hP 0 rfl rfl 0 (by decide) (hT (Cond.fieldLink RX10 12 "DesertWire" "now" "LDesertWire$World;") mw_291) (fun _ h9 => h9) rfl dX10_count_102 ?_
    refine va_get (D := D) (ci := 9) (v := .ref w5) (C := RX9) (T := TX9) (N := 9) hx hb hT giX9 hown hK hP 1 rfl rfl 5 (by decide) (hT (Cond.fieldLink RX10 193 "DesertWire$World" "parties" "LDesertWire$Parties;") mw_102) (fun _ h9 => h9) rfl dX10_count_105 ?_
    refine kJi (wr := [(x, .inr (10, [.ref nw, .ref kp, .ref fu, .ref ra, .ref kr, .ref rd, .ref wd, .ref ld, .ref mt, .ref vo, .ref sh, .ref fd, .int im])), (nw, .inr (9, [.ref w0, .ref w1, .ref w2, .ref w3, .ref w4, .ref w5, .int 0, .int re, .int 0])), (w4, .inr (8, [.ref k0, .ref k1, .ref k2, .ref k3, .ref k4, .ref k5, .ref k6, .ref k7, .ref k8, .int 0])), (k6, .inl (cI, 40, .inl (fun _ => (0 : Int32)))), (ra, .inr (4, [.ref t0, .ref t1, .ref t2, .ref t3, .ref t4, .int 0, .int 0])), (vo, .inr (7, [.ref vb, .int 0, .int 0, .int 0, .int 0])), (fd, .inl (cI, 6, .inl ff))]) (va_runV (As := []) (rest := []) ⟨hx, hb, hml, hown, hT⟩ (c_X3_lost l D cI w5 pf s.heap.size) (cwV 0 hT (gV_in mw_1132 mw_1129 mw_1130 mw_1131 mw_4) rfl rfl rfl (by decide +kernel) ⟨Nat.le_of_ble_eq_true rfl, Nat.le_of_ble_eq_true rfl⟩) (kRecv (own := "") (q0 := 4) (ci := 3) hK hP hD hN rfl rfl [4] rfl (by decide)) rfl rfl hl.1 rfl (lv_room (Nat.le_of_ble_eq_true rfl)) dX10_count_108 ⟨Nat.le_of_ble_eq_true rfl, Nat.le_of_ble_eq_true rfl⟩) hP hD hS hA [4] [0, 1, 2, 3, 5, 6, 7] rfl rfl (by decide) (by decide) (fun r_8 u_10 H locs w_9 hP hD hS => ?_)
    have hP : va_P D vwCl [(x, .inr (10, [.ref nw, .ref kp, .ref fu, .ref ra, .ref kr, .ref rd, .ref wd, .ref ld, .ref mt, .ref vo, .ref sh, .ref fd, .int im])), (nw, .inr (9, [.ref w0, .ref w1, .ref w2, .ref w3, .ref w4, .ref w5, .int 0, .int re, .int 0])), (w4, .inr (8, [.ref k0, .ref k1, .ref k2, .ref k3, .ref k4, .ref k5, .ref k6, .ref k7, .ref k8, .int 0])), (k6, .inl (cI, 40, .inl (fun _ => (0 : Int32)))), (ra, .inr (4, [.ref t0, .ref t1, .ref t2, .ref t3, .ref t4, .int 0, .int 0])), (vo, .inr (7, [.ref vb, .int 0, .int 0, .int 0, .int 0])), (fd, .inl (cI, 6, .inl ff)), (w5, .inr (3, [.ref pf, .int 0]))] H := hP
    have hD : va_D A [(x, .inr (10, [.ref nw, .ref kp, .ref fu, .ref ra, .ref kr, .ref rd, .ref wd, .ref ld, .ref mt, .ref vo, .ref sh, .ref fd, .int im])), (nw, .inr (9, [.ref w0, .ref w1, .ref w2, .ref w3, .ref w4, .ref w5, .int 0, .int re, .int 0])), (w4, .inr (8, [.ref k0, .ref k1, .ref k2, .ref k3, .ref k4, .ref k5, .ref k6, .ref k7, .ref k8, .int 0])), (k6, .inl (cI, 40, .inl (fun _ => (0 : Int32)))), (ra, .inr (4, [.ref t0, .ref t1, .ref t2, .ref t3, .ref t4, .int 0, .int 0])), (vo, .inr (7, [.ref vb, .int 0, .int 0, .int 0, .int 0])), (fd, .inl (cI, 6, .inl ff)), (w5, .inr (3, [.ref pf, .int 0]))] := hD
    have hr_8 := w_9
    obtain rfl : r_8 = 0 := hr_8.trans (by decide)
    exact hRet () [] (by unfold sp_count; repeat (first | rw [if_pos (by omega)] | rw [if_neg (by omega)])) hP hD (by decide) rfl hS rfl dX10_count_111
  by_cases c_11 : a.toInt = 4
  · refine lv_tableIn (off := 111) (tgt := 112) hx hb dX10_count_1 (by omega) (by omega) (by rw [c_11]; decide) (by decide) ?_
    refine lv_aload_n hx hb dX10_count_112 rfl (lv_at hl 0 rfl) ?_
    refine va_get (D := D) (ci := 10) (v := .ref ra) (C := RX10) (T := TX10) (N := 13) hx hb hT giX10 hown hK hP 0 rfl rfl 3 (by decide) (hT (Cond.fieldLink RX10 25 "DesertWire" "rates" "LDesertWire$Rates;") mw_294) (fun _ h9 => h9) rfl dX10_count_113 ?_
    refine va_get (D := D) (ci := 4) (v := .int 0) (C := RX4) (T := TX4) (N := 7) hx hb hT giX4 hown hK hP 5 rfl rfl 6 (by decide) (hT (Cond.fieldLink RX10 394 "DesertWire$Rates" "number" "I") mw_146) (fun _ h9 => h9) rfl dX10_count_116 ?_
    exact hRet () [] (by unfold sp_count; repeat (first | rw [if_pos (by omega)] | rw [if_neg (by omega)])) hP hD (by decide) rfl hS rfl dX10_count_119
  by_cases c_12 : a.toInt = 5
  · refine lv_tableIn (off := 119) (tgt := 120) hx hb dX10_count_1 (by omega) (by omega) (by rw [c_12]; decide) (by decide) ?_
    refine lv_aload_n hx hb dX10_count_120 rfl (lv_at hl 0 rfl) ?_
    refine va_get (D := D) (ci := 10) (v := .ref nw) (C := RX10) (T := TX10) (N := 13) hx hb hT giX10 hown hK hP 0 rfl rfl 0 (by decide) (hT (Cond.fieldLink RX10 12 "DesertWire" "now" "LDesertWire$World;") mw_291) (fun _ h9 => h9) rfl dX10_count_121 ?_
    refine va_get (D := D) (ci := 9) (v := .int 0) (C := RX9) (T := TX9) (N := 9) hx hb hT giX9 hown hK hP 1 rfl rfl 8 (by decide) (hT (Cond.fieldLink RX10 109 "DesertWire$World" "day" "I") mw_110) (fun _ h9 => h9) rfl dX10_count_124 ?_
    exact hRet () [] (by unfold sp_count; repeat (first | rw [if_pos (by omega)] | rw [if_neg (by omega)])) hP hD (by decide) rfl hS rfl dX10_count_127
  by_cases c_13 : a.toInt = 6
  · refine lv_tableIn (off := 127) (tgt := 128) hx hb dX10_count_1 (by omega) (by omega) (by rw [c_13]; decide) (by decide) ?_
    refine lv_aload_n hx hb dX10_count_128 rfl (lv_at hl 0 rfl) ?_
    refine va_get (D := D) (ci := 10) (v := .ref ra) (C := RX10) (T := TX10) (N := 13) hx hb hT giX10 hown hK hP 0 rfl rfl 3 (by decide) (hT (Cond.fieldLink RX10 25 "DesertWire" "rates" "LDesertWire$Rates;") mw_294) (fun _ h9 => h9) rfl dX10_count_129 ?_
    refine va_get (D := D) (ci := 4) (v := .int 0) (C := RX4) (T := TX4) (N := 7) hx hb hT giX4 hown hK hP 5 rfl rfl 5 (by decide) (hT (Cond.fieldLink RX10 255 "DesertWire$Rates" "taped" "I") mw_144) (fun _ h9 => h9) rfl dX10_count_132 ?_
    exact hRet () [] (by unfold sp_count; repeat (first | rw [if_pos (by omega)] | rw [if_neg (by omega)])) hP hD (by decide) rfl hS rfl dX10_count_135
  by_cases c_14 : a.toInt = 7
  · refine lv_tableIn (off := 135) (tgt := 136) hx hb dX10_count_1 (by omega) (by omega) (by rw [c_14]; decide) (by decide) ?_
    refine lv_aload_n hx hb dX10_count_136 rfl (lv_at hl 0 rfl) ?_
    refine va_get (D := D) (ci := 10) (v := .ref vo) (C := RX10) (T := TX10) (N := 13) hx hb hT giX10 hown hK hP 0 rfl rfl 9 (by decide) (hT (Cond.fieldLink RX10 63 "DesertWire" "voices" "LDesertWire$Voices;") mw_300) (fun _ h9 => h9) rfl dX10_count_137 ?_
    refine va_get (D := D) (ci := 7) (v := .int 0) (C := RX7) (T := TX7) (N := 5) hx hb hT giX7 hown hK hP 6 rfl rfl 1 (by decide) (hT (Cond.fieldLink RX10 353 "DesertWire$Voices" "begun" "I") mw_260) (fun _ h9 => h9) rfl dX10_count_140 ?_
    exact hRet () [] (by unfold sp_count; repeat (first | rw [if_pos (by omega)] | rw [if_neg (by omega)])) hP hD (by decide) rfl hS rfl dX10_count_143
  by_cases c_15 : a.toInt = 8
  · refine lv_tableIn (off := 143) (tgt := 144) hx hb dX10_count_1 (by omega) (by omega) (by rw [c_15]; decide) (by decide) ?_
    refine lv_aload_n hx hb dX10_count_144 rfl (lv_at hl 0 rfl) ?_
    refine va_get (D := D) (ci := 10) (v := .ref nw) (C := RX10) (T := TX10) (N := 13) hx hb hT giX10 hown hK hP 0 rfl rfl 0 (by decide) (hT (Cond.fieldLink RX10 12 "DesertWire" "now" "LDesertWire$World;") mw_291) (fun _ h9 => h9) rfl dX10_count_145 ?_
    refine va_get (D := D) (ci := 9) (v := .int 0) (C := RX9) (T := TX9) (N := 9) hx hb hT giX9 hown hK hP 1 rfl rfl 6 (by decide) (hT (Cond.fieldLink RX10 381 "DesertWire$World" "waiting" "I") mw_104) (fun _ h9 => h9) rfl dX10_count_148 ?_
    exact hRet () [] (by unfold sp_count; repeat (first | rw [if_pos (by omega)] | rw [if_neg (by omega)])) hP hD (by decide) rfl hS rfl dX10_count_151
  by_cases c_16 : a.toInt = 9
  · refine lv_tableIn (off := 151) (tgt := 152) hx hb dX10_count_1 (by omega) (by omega) (by rw [c_16]; decide) (by decide) ?_
    refine lv_aload_n hx hb dX10_count_152 rfl (lv_at hl 0 rfl) ?_
    refine va_get (D := D) (ci := 10) (v := .ref nw) (C := RX10) (T := TX10) (N := 13) hx hb hT giX10 hown hK hP 0 rfl rfl 0 (by decide) (hT (Cond.fieldLink RX10 12 "DesertWire" "now" "LDesertWire$World;") mw_291) (fun _ h9 => h9) rfl dX10_count_153 ?_
    refine va_get (D := D) (ci := 9) (v := .ref w4) (C := RX9) (T := TX9) (N := 9) hx hb hT giX9 hown hK hP 1 rfl rfl 4 (by decide) (hT (Cond.fieldLink RX10 99 "DesertWire$World" "works" "LDesertWire$Works;") mw_99) (fun _ h9 => h9) rfl dX10_count_156 ?_
    refine kJi (wr := [(x, .inr (10, [.ref nw, .ref kp, .ref fu, .ref ra, .ref kr, .ref rd, .ref wd, .ref ld, .ref mt, .ref vo, .ref sh, .ref fd, .int im])), (nw, .inr (9, [.ref w0, .ref w1, .ref w2, .ref w3, .ref w4, .ref w5, .int 0, .int re, .int 0])), (w5, .inr (3, [.ref pf, .int 0])), (ra, .inr (4, [.ref t0, .ref t1, .ref t2, .ref t3, .ref t4, .int 0, .int 0])), (vo, .inr (7, [.ref vb, .int 0, .int 0, .int 0, .int 0])), (fd, .inl (cI, 6, .inl ff))]) (va_runV (As := []) (rest := []) ⟨hx, hb, hml, hown, hT⟩ (c_X8_wiredMiles l D cI w4 k0 k1 k2 k3 k4 k5 k6 k7 k8 s.heap.size 0) (cwV 0 hT (gV_in mw_1029 mw_1026 mw_1027 mw_1028 mw_3) rfl rfl rfl (by decide +kernel) ⟨Nat.le_of_ble_eq_true rfl, Nat.le_of_ble_eq_true rfl⟩) (kRecv (own := "") (q0 := 2) (ci := 8) hK hP hD hN rfl rfl [2, 3] rfl (by decide)) rfl rfl hl.1 rfl (lv_room (Nat.le_of_ble_eq_true rfl)) dX10_count_159 ⟨Nat.le_of_ble_eq_true rfl, Nat.le_of_ble_eq_true rfl⟩) hP hD hS hA [2, 3] [0, 1, 4, 5, 6, 7] rfl rfl (by decide) (by decide) (fun r_17 u_19 H locs w_18 hP hD hS => ?_)
    have hP : va_P D vwCl [(x, .inr (10, [.ref nw, .ref kp, .ref fu, .ref ra, .ref kr, .ref rd, .ref wd, .ref ld, .ref mt, .ref vo, .ref sh, .ref fd, .int im])), (nw, .inr (9, [.ref w0, .ref w1, .ref w2, .ref w3, .ref w4, .ref w5, .int 0, .int re, .int 0])), (w5, .inr (3, [.ref pf, .int 0])), (ra, .inr (4, [.ref t0, .ref t1, .ref t2, .ref t3, .ref t4, .int 0, .int 0])), (vo, .inr (7, [.ref vb, .int 0, .int 0, .int 0, .int 0])), (fd, .inl (cI, 6, .inl ff)), (w4, .inr (8, [.ref k0, .ref k1, .ref k2, .ref k3, .ref k4, .ref k5, .ref k6, .ref k7, .ref k8, .int 0])), (k6, .inl (cI, 40, .inl (fun _ => (0 : Int32))))] H := hP
    have hD : va_D A [(x, .inr (10, [.ref nw, .ref kp, .ref fu, .ref ra, .ref kr, .ref rd, .ref wd, .ref ld, .ref mt, .ref vo, .ref sh, .ref fd, .int im])), (nw, .inr (9, [.ref w0, .ref w1, .ref w2, .ref w3, .ref w4, .ref w5, .int 0, .int re, .int 0])), (w5, .inr (3, [.ref pf, .int 0])), (ra, .inr (4, [.ref t0, .ref t1, .ref t2, .ref t3, .ref t4, .int 0, .int 0])), (vo, .inr (7, [.ref vb, .int 0, .int 0, .int 0, .int 0])), (fd, .inl (cI, 6, .inl ff)), (w4, .inr (8, [.ref k0, .ref k1, .ref k2, .ref k3, .ref k4, .ref k5, .ref k6, .ref k7, .ref k8, .int 0])), (k6, .inl (cI, 40, .inl (fun _ => (0 : Int32))))] := hD
    have hr_17 := w_18
    obtain rfl : r_17 = 0 := hr_17.trans (by decide)
    exact hRet () [] (by unfold sp_count; repeat (first | rw [if_pos (by omega)] | rw [if_neg (by omega)])) hP hD (by decide) rfl hS rfl dX10_count_162
  by_cases c_20 : a.toInt = 10
  · refine lv_tableIn (off := 162) (tgt := 163) hx hb dX10_count_1 (by omega) (by omega) (by rw [c_20]; decide) (by decide) ?_
    refine lv_aload_n hx hb dX10_count_163 rfl (lv_at hl 0 rfl) ?_
    refine va_get (D := D) (ci := 10) (v := .ref nw) (C := RX10) (T := TX10) (N := 13) hx hb hT giX10 hown hK hP 0 rfl rfl 0 (by decide) (hT (Cond.fieldLink RX10 12 "DesertWire" "now" "LDesertWire$World;") mw_291) (fun _ h9 => h9) rfl dX10_count_164 ?_
    refine va_get (D := D) (ci := 9) (v := .ref w4) (C := RX9) (T := TX9) (N := 9) hx hb hT giX9 hown hK hP 1 rfl rfl 4 (by decide) (hT (Cond.fieldLink RX10 99 "DesertWire$World" "works" "LDesertWire$Works;") mw_99) (fun _ h9 => h9) rfl dX10_count_167 ?_
    refine kJi (wr := [(x, .inr (10, [.ref nw, .ref kp, .ref fu, .ref ra, .ref kr, .ref rd, .ref wd, .ref ld, .ref mt, .ref vo, .ref sh, .ref fd, .int im])), (nw, .inr (9, [.ref w0, .ref w1, .ref w2, .ref w3, .ref w4, .ref w5, .int 0, .int re, .int 0])), (k6, .inl (cI, 40, .inl (fun _ => (0 : Int32)))), (w5, .inr (3, [.ref pf, .int 0])), (ra, .inr (4, [.ref t0, .ref t1, .ref t2, .ref t3, .ref t4, .int 0, .int 0])), (vo, .inr (7, [.ref vb, .int 0, .int 0, .int 0, .int 0])), (fd, .inl (cI, 6, .inl ff))]) (va_runV (As := []) (rest := []) ⟨hx, hb, hml, hown, hT⟩ (c_X8_stations l D cI w4 k0 k1 k2 k3 k4 k5 k6 k7 k8 s.heap.size) (cwV 0 hT (gV_in mw_1137 mw_1134 mw_1135 mw_1136 mw_3) rfl rfl rfl (by decide +kernel) ⟨Nat.le_of_ble_eq_true rfl, Nat.le_of_ble_eq_true rfl⟩) (kRecv (own := "") (q0 := 2) (ci := 8) hK hP hD hN rfl rfl [2] rfl (by decide)) rfl rfl hl.1 rfl (lv_room (Nat.le_of_ble_eq_true rfl)) dX10_count_170 ⟨Nat.le_of_ble_eq_true rfl, Nat.le_of_ble_eq_true rfl⟩) hP hD hS hA [2] [0, 1, 3, 4, 5, 6, 7] rfl rfl (by decide) (by decide) (fun r_21 u_23 H locs w_22 hP hD hS => ?_)
    have hP : va_P D vwCl [(x, .inr (10, [.ref nw, .ref kp, .ref fu, .ref ra, .ref kr, .ref rd, .ref wd, .ref ld, .ref mt, .ref vo, .ref sh, .ref fd, .int im])), (nw, .inr (9, [.ref w0, .ref w1, .ref w2, .ref w3, .ref w4, .ref w5, .int 0, .int re, .int 0])), (k6, .inl (cI, 40, .inl (fun _ => (0 : Int32)))), (w5, .inr (3, [.ref pf, .int 0])), (ra, .inr (4, [.ref t0, .ref t1, .ref t2, .ref t3, .ref t4, .int 0, .int 0])), (vo, .inr (7, [.ref vb, .int 0, .int 0, .int 0, .int 0])), (fd, .inl (cI, 6, .inl ff)), (w4, .inr (8, [.ref k0, .ref k1, .ref k2, .ref k3, .ref k4, .ref k5, .ref k6, .ref k7, .ref k8, .int 0]))] H := hP
    have hD : va_D A [(x, .inr (10, [.ref nw, .ref kp, .ref fu, .ref ra, .ref kr, .ref rd, .ref wd, .ref ld, .ref mt, .ref vo, .ref sh, .ref fd, .int im])), (nw, .inr (9, [.ref w0, .ref w1, .ref w2, .ref w3, .ref w4, .ref w5, .int 0, .int re, .int 0])), (k6, .inl (cI, 40, .inl (fun _ => (0 : Int32)))), (w5, .inr (3, [.ref pf, .int 0])), (ra, .inr (4, [.ref t0, .ref t1, .ref t2, .ref t3, .ref t4, .int 0, .int 0])), (vo, .inr (7, [.ref vb, .int 0, .int 0, .int 0, .int 0])), (fd, .inl (cI, 6, .inl ff)), (w4, .inr (8, [.ref k0, .ref k1, .ref k2, .ref k3, .ref k4, .ref k5, .ref k6, .ref k7, .ref k8, .int 0]))] := hD
    have hr_21 := w_22
    obtain rfl : r_21 = 0 := hr_21.trans (by decide)
    exact hRet () [] (by unfold sp_count; repeat (first | rw [if_pos (by omega)] | rw [if_neg (by omega)])) hP hD (by decide) rfl hS rfl dX10_count_173
  by_cases c_24 : a.toInt = 11
  · refine lv_tableIn (off := 173) (tgt := 174) hx hb dX10_count_1 (by omega) (by omega) (by rw [c_24]; decide) (by decide) ?_
    refine lv_aload_n hx hb dX10_count_174 rfl (lv_at hl 0 rfl) ?_
    refine va_get (D := D) (ci := 10) (v := .ref nw) (C := RX10) (T := TX10) (N := 13) hx hb hT giX10 hown hK hP 0 rfl rfl 0 (by decide) (hT (Cond.fieldLink RX10 12 "DesertWire" "now" "LDesertWire$World;") mw_291) (fun _ h9 => h9) rfl dX10_count_175 ?_
    refine va_get (D := D) (ci := 9) (v := .ref w5) (C := RX9) (T := TX9) (N := 9) hx hb hT giX9 hown hK hP 1 rfl rfl 5 (by decide) (hT (Cond.fieldLink RX10 193 "DesertWire$World" "parties" "LDesertWire$Parties;") mw_102) (fun _ h9 => h9) rfl dX10_count_178 ?_
    refine kJi (wr := [(x, .inr (10, [.ref nw, .ref kp, .ref fu, .ref ra, .ref kr, .ref rd, .ref wd, .ref ld, .ref mt, .ref vo, .ref sh, .ref fd, .int im])), (nw, .inr (9, [.ref w0, .ref w1, .ref w2, .ref w3, .ref w4, .ref w5, .int 0, .int re, .int 0])), (w4, .inr (8, [.ref k0, .ref k1, .ref k2, .ref k3, .ref k4, .ref k5, .ref k6, .ref k7, .ref k8, .int 0])), (k6, .inl (cI, 40, .inl (fun _ => (0 : Int32)))), (ra, .inr (4, [.ref t0, .ref t1, .ref t2, .ref t3, .ref t4, .int 0, .int 0])), (vo, .inr (7, [.ref vb, .int 0, .int 0, .int 0, .int 0])), (fd, .inl (cI, 6, .inl ff))]) (va_runV (As := []) (rest := []) ⟨hx, hb, hml, hown, hT⟩ (c_X3_allMen l D cI w5 pf s.heap.size) (cwV 0 hT (gV_in mw_1141 mw_1138 mw_1139 mw_1140 mw_4) rfl rfl rfl (by decide +kernel) ⟨Nat.le_of_ble_eq_true rfl, Nat.le_of_ble_eq_true rfl⟩) (kRecv (own := "") (q0 := 4) (ci := 3) hK hP hD hN rfl rfl [4] rfl (by decide)) rfl rfl hl.1 rfl (lv_room (Nat.le_of_ble_eq_true rfl)) dX10_count_181 ⟨Nat.le_of_ble_eq_true rfl, Nat.le_of_ble_eq_true rfl⟩) hP hD hS hA [4] [0, 1, 2, 3, 5, 6, 7] rfl rfl (by decide) (by decide) (fun r_25 u_27 H locs w_26 hP hD hS => ?_)
    have hP : va_P D vwCl [(x, .inr (10, [.ref nw, .ref kp, .ref fu, .ref ra, .ref kr, .ref rd, .ref wd, .ref ld, .ref mt, .ref vo, .ref sh, .ref fd, .int im])), (nw, .inr (9, [.ref w0, .ref w1, .ref w2, .ref w3, .ref w4, .ref w5, .int 0, .int re, .int 0])), (w4, .inr (8, [.ref k0, .ref k1, .ref k2, .ref k3, .ref k4, .ref k5, .ref k6, .ref k7, .ref k8, .int 0])), (k6, .inl (cI, 40, .inl (fun _ => (0 : Int32)))), (ra, .inr (4, [.ref t0, .ref t1, .ref t2, .ref t3, .ref t4, .int 0, .int 0])), (vo, .inr (7, [.ref vb, .int 0, .int 0, .int 0, .int 0])), (fd, .inl (cI, 6, .inl ff)), (w5, .inr (3, [.ref pf, .int 0]))] H := hP
    have hD : va_D A [(x, .inr (10, [.ref nw, .ref kp, .ref fu, .ref ra, .ref kr, .ref rd, .ref wd, .ref ld, .ref mt, .ref vo, .ref sh, .ref fd, .int im])), (nw, .inr (9, [.ref w0, .ref w1, .ref w2, .ref w3, .ref w4, .ref w5, .int 0, .int re, .int 0])), (w4, .inr (8, [.ref k0, .ref k1, .ref k2, .ref k3, .ref k4, .ref k5, .ref k6, .ref k7, .ref k8, .int 0])), (k6, .inl (cI, 40, .inl (fun _ => (0 : Int32)))), (ra, .inr (4, [.ref t0, .ref t1, .ref t2, .ref t3, .ref t4, .int 0, .int 0])), (vo, .inr (7, [.ref vb, .int 0, .int 0, .int 0, .int 0])), (fd, .inl (cI, 6, .inl ff)), (w5, .inr (3, [.ref pf, .int 0]))] := hD
    have hr_25 := w_26
    obtain rfl : r_25 = 0 := hr_25.trans (by decide)
    exact hRet () [] (by unfold sp_count; repeat (first | rw [if_pos (by omega)] | rw [if_neg (by omega)])) hP hD (by decide) rfl hS rfl dX10_count_184
  by_cases c_28 : a.toInt = 12
  · refine lv_tableIn (off := 184) (tgt := 185) hx hb dX10_count_1 (by omega) (by omega) (by rw [c_28]; decide) (by decide) ?_
    refine lv_aload_n hx hb dX10_count_185 rfl (lv_at hl 0 rfl) ?_
    refine va_get (D := D) (ci := 10) (v := .ref nw) (C := RX10) (T := TX10) (N := 13) hx hb hT giX10 hown hK hP 0 rfl rfl 0 (by decide) (hT (Cond.fieldLink RX10 12 "DesertWire" "now" "LDesertWire$World;") mw_291) (fun _ h9 => h9) rfl dX10_count_186 ?_
    refine va_get (D := D) (ci := 9) (v := .ref w4) (C := RX9) (T := TX9) (N := 9) hx hb hT giX9 hown hK hP 1 rfl rfl 4 (by decide) (hT (Cond.fieldLink RX10 99 "DesertWire$World" "works" "LDesertWire$Works;") mw_99) (fun _ h9 => h9) rfl dX10_count_189 ?_
    refine kJi (wr := [(x, .inr (10, [.ref nw, .ref kp, .ref fu, .ref ra, .ref kr, .ref rd, .ref wd, .ref ld, .ref mt, .ref vo, .ref sh, .ref fd, .int im])), (nw, .inr (9, [.ref w0, .ref w1, .ref w2, .ref w3, .ref w4, .ref w5, .int 0, .int re, .int 0])), (k6, .inl (cI, 40, .inl (fun _ => (0 : Int32)))), (w5, .inr (3, [.ref pf, .int 0])), (ra, .inr (4, [.ref t0, .ref t1, .ref t2, .ref t3, .ref t4, .int 0, .int 0])), (vo, .inr (7, [.ref vb, .int 0, .int 0, .int 0, .int 0])), (fd, .inl (cI, 6, .inl ff))]) (va_runV (As := []) (rest := []) ⟨hx, hb, hml, hown, hT⟩ (c_X8_storedFood l D cI w4 k0 k1 k2 k3 k4 k5 k6 k7 k8 s.heap.size) (cwV 0 hT (gV_in mw_1145 mw_1142 mw_1143 mw_1144 mw_3) rfl rfl rfl (by decide +kernel) ⟨Nat.le_of_ble_eq_true rfl, Nat.le_of_ble_eq_true rfl⟩) (kRecv (own := "") (q0 := 2) (ci := 8) hK hP hD hN rfl rfl [2] rfl (by decide)) rfl rfl hl.1 rfl (lv_room (Nat.le_of_ble_eq_true rfl)) dX10_count_192 ⟨Nat.le_of_ble_eq_true rfl, Nat.le_of_ble_eq_true rfl⟩) hP hD hS hA [2] [0, 1, 3, 4, 5, 6, 7] rfl rfl (by decide) (by decide) (fun r_29 u_31 H locs w_30 hP hD hS => ?_)
    have hP : va_P D vwCl [(x, .inr (10, [.ref nw, .ref kp, .ref fu, .ref ra, .ref kr, .ref rd, .ref wd, .ref ld, .ref mt, .ref vo, .ref sh, .ref fd, .int im])), (nw, .inr (9, [.ref w0, .ref w1, .ref w2, .ref w3, .ref w4, .ref w5, .int 0, .int re, .int 0])), (k6, .inl (cI, 40, .inl (fun _ => (0 : Int32)))), (w5, .inr (3, [.ref pf, .int 0])), (ra, .inr (4, [.ref t0, .ref t1, .ref t2, .ref t3, .ref t4, .int 0, .int 0])), (vo, .inr (7, [.ref vb, .int 0, .int 0, .int 0, .int 0])), (fd, .inl (cI, 6, .inl ff)), (w4, .inr (8, [.ref k0, .ref k1, .ref k2, .ref k3, .ref k4, .ref k5, .ref k6, .ref k7, .ref k8, .int 0]))] H := hP
    have hD : va_D A [(x, .inr (10, [.ref nw, .ref kp, .ref fu, .ref ra, .ref kr, .ref rd, .ref wd, .ref ld, .ref mt, .ref vo, .ref sh, .ref fd, .int im])), (nw, .inr (9, [.ref w0, .ref w1, .ref w2, .ref w3, .ref w4, .ref w5, .int 0, .int re, .int 0])), (k6, .inl (cI, 40, .inl (fun _ => (0 : Int32)))), (w5, .inr (3, [.ref pf, .int 0])), (ra, .inr (4, [.ref t0, .ref t1, .ref t2, .ref t3, .ref t4, .int 0, .int 0])), (vo, .inr (7, [.ref vb, .int 0, .int 0, .int 0, .int 0])), (fd, .inl (cI, 6, .inl ff)), (w4, .inr (8, [.ref k0, .ref k1, .ref k2, .ref k3, .ref k4, .ref k5, .ref k6, .ref k7, .ref k8, .int 0]))] := hD
    have hr_29 := w_30
    obtain rfl : r_29 = 0 := hr_29.trans (by decide)
    exact hRet () [] (by unfold sp_count; repeat (first | rw [if_pos (by omega)] | rw [if_neg (by omega)])) hP hD (by decide) rfl hS rfl dX10_count_195
  refine lv_tableOut (tgt := 196) hx hb dX10_count_1 (by omega) (by decide) ?_
  refine lv_aload_n hx hb dX10_count_196 rfl (lv_at hl 0 rfl) ?_
  refine lv_iconst (v := 1) hx hb dX10_count_197 (by decide) ?_
  refine kJi (wr := [(nw, .inr (9, [.ref w0, .ref w1, .ref w2, .ref w3, .ref w4, .ref w5, .int 0, .int re, .int 0])), (w4, .inr (8, [.ref k0, .ref k1, .ref k2, .ref k3, .ref k4, .ref k5, .ref k6, .ref k7, .ref k8, .int 0])), (k6, .inl (cI, 40, .inl (fun _ => (0 : Int32)))), (w5, .inr (3, [.ref pf, .int 0])), (ra, .inr (4, [.ref t0, .ref t1, .ref t2, .ref t3, .ref t4, .int 0, .int 0])), (vo, .inr (7, [.ref vb, .int 0, .int 0, .int 0, .int 0]))]) (va_runV (As := [.int 1]) (rest := []) ⟨hx, hb, hml, hown, hT⟩ (c_X10_finding l D cI x nw kp fu ra kr rd wd ld mt vo sh fd s.heap.size im ff 1 (by first | omega | (simp only [zl_1] <;> omega) | decide | assumption | rfl) (by first | omega | (simp only [zl_1] <;> omega) | decide | assumption | rfl)) (cwV 1 hT (gV_in mw_338 mw_335 mw_337 mw_p1_0 mw_1) rfl rfl rfl (by decide +kernel) ⟨Nat.le_of_ble_eq_true rfl, Nat.le_of_ble_eq_true rfl⟩) (kRecv (own := "") (q0 := 0) (ci := 10) hK hP hD hN rfl rfl [0, 7] rfl (by decide)) rfl rfl hl.1 rfl (lv_room (Nat.le_of_ble_eq_true rfl)) dX10_count_198 ⟨Nat.le_of_ble_eq_true rfl, Nat.le_of_ble_eq_true rfl⟩) hP hD hS hA [0, 7] [1, 2, 3, 4, 5, 6] rfl rfl (by decide) (by decide) (fun r_32 u_34 H locs w_33 hP hD hS => ?_)
  have hP : va_P D vwCl [(nw, .inr (9, [.ref w0, .ref w1, .ref w2, .ref w3, .ref w4, .ref w5, .int 0, .int re, .int 0])), (w4, .inr (8, [.ref k0, .ref k1, .ref k2, .ref k3, .ref k4, .ref k5, .ref k6, .ref k7, .ref k8, .int 0])), (k6, .inl (cI, 40, .inl (fun _ => (0 : Int32)))), (w5, .inr (3, [.ref pf, .int 0])), (ra, .inr (4, [.ref t0, .ref t1, .ref t2, .ref t3, .ref t4, .int 0, .int 0])), (vo, .inr (7, [.ref vb, .int 0, .int 0, .int 0, .int 0]))] H := hP
  have hD : va_D A [(nw, .inr (9, [.ref w0, .ref w1, .ref w2, .ref w3, .ref w4, .ref w5, .int 0, .int re, .int 0])), (w4, .inr (8, [.ref k0, .ref k1, .ref k2, .ref k3, .ref k4, .ref k5, .ref k6, .ref k7, .ref k8, .int 0])), (k6, .inl (cI, 40, .inl (fun _ => (0 : Int32)))), (w5, .inr (3, [.ref pf, .int 0])), (ra, .inr (4, [.ref t0, .ref t1, .ref t2, .ref t3, .ref t4, .int 0, .int 0])), (vo, .inr (7, [.ref vb, .int 0, .int 0, .int 0, .int 0]))] := hD
  have hr_32 := w_33
  obtain rfl : r_32 = (-1000001) := hr_32.trans (by decide)
  exact hRet () [] (by unfold sp_count; repeat (first | rw [if_pos (by omega)] | rw [if_neg (by omega)])) hP hD (by decide) rfl hS rfl dX10_count_201
set_option maxHeartbeats 4000000 in
set_option maxRecDepth 100000 in
theorem c_X10_found (l : Launch) (D : va_G) (cI : ClassId) (x nw kp fu ra kr rd wd ld mt vo sh fd : Nat) (sz : Nat) (im : Int32) (a : Int32) : Met l yX10_found (gW yX10_found cX10_found 2 (some .int)) ({ frames := 1, cells := 0, slots := 0, locals := 21 } : Room) (kPre D cI [.ref x, .int a] [(x, .inr (10, [.ref nw, .ref kp, .ref fu, .ref ra, .ref kr, .ref rd, .ref wd, .ref ld, .ref mt, .ref vo, .ref sh, .ref fd, .int im])), (fd, .inl (cI, 6, .inl (fun _ => (0 : Int32))))] sz) (va_Qi (fun (r : Int32) (u : Unit) => r = sp_found a) (fun u t => kWd D cI (va_A [(x, .inr (10, [.ref nw, .ref kp, .ref fu, .ref ra, .ref kr, .ref rd, .ref wd, .ref ld, .ref mt, .ref vo, .ref sh, .ref fd, .int im])), (fd, .inl (cI, 6, .inl (fun _ => (0 : Int32))))] sz) [] t) (va_A [(x, .inr (10, [.ref nw, .ref kp, .ref fu, .ref ra, .ref kr, .ref rd, .ref wd, .ref ld, .ref mt, .ref vo, .ref sh, .ref fd, .int im])), (fd, .inl (cI, 6, .inl (fun _ => (0 : Int32))))] sz)) 0 0 (va_A [(x, .inr (10, [.ref nw, .ref kp, .ref fu, .ref ra, .ref kr, .ref rd, .ref wd, .ref ld, .ref mt, .ref vo, .ref sh, .ref fd, .int im])), (fd, .inl (cI, 6, .inl (fun _ => (0 : Int32))))] sz) := by
  refine kMetI (own := RX10) (by decide) rfl (Nat.le_of_ble_eq_true rfl) ?_
  intro p e s m args below meth c hx hb hT hown hname hml A Q hK hP hD hS hA hN hRet ls hl
  have hl : lv_has ls 2 [(0, .ref x), (1, .int a)] := hl
  have lo_a := k_lo a
  have hi_a := k_hi a
  have lo_im := k_lo im
  have hi_im := k_hi im
  refine lv_iload_n hx hb dX10_found_0 rfl (lv_at hl 1 rfl) ?_
  refine lv_iconst (v := 1) hx hb dX10_found_1 (by decide) ?_
  refine b_icmp_lt hx hb rfl zl_1 (tgt := 10) dX10_found_2 (by decide) (fun c_1 => ?_) (fun c_1 => ?_)
  · refine lv_aload_n hx hb dX10_found_10 rfl (lv_at hl 0 rfl) ?_
    refine lv_iconst (v := 1) hx hb dX10_found_11 (by decide) ?_
    refine kJi (wr := []) (va_runV (As := [.int 1]) (rest := []) ⟨hx, hb, hml, hown, hT⟩ (c_X10_finding l D cI x nw kp fu ra kr rd wd ld mt vo sh fd s.heap.size im (fun _ => (0 : Int32)) 1 (by first | omega | (simp only [zl_1] <;> omega) | decide | assumption | rfl) (by first | omega | (simp only [zl_1] <;> omega) | decide | assumption | rfl)) (cwV 1 hT (gV_in mw_338 mw_335 mw_337 mw_p1_0 mw_1) rfl rfl rfl (by decide +kernel) ⟨Nat.le_of_ble_eq_true rfl, Nat.le_of_ble_eq_true rfl⟩) (kRecv (own := "") (q0 := 0) (ci := 10) hK hP hD hN rfl rfl [0, 1] rfl (by decide)) rfl rfl hl.1 rfl (lv_room (Nat.le_of_ble_eq_true rfl)) dX10_found_12 ⟨Nat.le_of_ble_eq_true rfl, Nat.le_of_ble_eq_true rfl⟩) hP hD hS hA [0, 1] [] rfl rfl (by decide) (by decide) (fun r_2 u_4 H locs w_3 hP hD hS => ?_)
    have hP : va_P D vwCl [] H := hP
    have hD : va_D A [] := hD
    have hr_2 := w_3
    obtain rfl : r_2 = (-1000001) := hr_2.trans (by decide)
    exact hRet () [] (by unfold sp_found; repeat (first | rw [if_pos (by omega)] | rw [if_neg (by omega)])) hP hD (by decide) rfl hS rfl dX10_found_15
  · refine lv_iload_n hx hb dX10_found_5 rfl (lv_at hl 1 rfl) ?_
    refine lv_iconst (v := 5) hx hb dX10_found_6 (by decide) ?_
    refine b_icmp_le hx hb rfl zl_5 (tgt := 16) dX10_found_7 (by decide) (fun c_5 => ?_) (fun c_5 => ?_)
    · refine lv_aload_n hx hb dX10_found_16 rfl (lv_at hl 0 rfl) ?_
      refine va_get (D := D) (ci := 10) (v := .ref fd) (C := RX10) (T := TX10) (N := 13) hx hb hT giX10 hown hK hP 0 rfl rfl 11 (by decide) (hT (Cond.fieldLink RX10 74 "DesertWire" "findings" "[I") mw_302) (fun _ h9 => h9) rfl dX10_found_17 ?_
      refine lv_iload_n hx hb dX10_found_20 rfl (lv_at hl 1 rfl) ?_
      refine k_iald (v := 0) hx hb hK hP 1 0 rfl rfl (k_in (by omega) (by omega)) rfl dX10_found_21 ?_
      exact hRet () [] (by unfold sp_found; repeat (first | rw [if_pos (by omega)] | rw [if_neg (by omega)])) hP hD (by decide) rfl hS rfl dX10_found_22
    · refine lv_aload_n hx hb dX10_found_10 rfl (lv_at hl 0 rfl) ?_
      refine lv_iconst (v := 1) hx hb dX10_found_11 (by decide) ?_
      refine kJi (wr := []) (va_runV (As := [.int 1]) (rest := []) ⟨hx, hb, hml, hown, hT⟩ (c_X10_finding l D cI x nw kp fu ra kr rd wd ld mt vo sh fd s.heap.size im (fun _ => (0 : Int32)) 1 (by first | omega | (simp only [zl_1] <;> omega) | decide | assumption | rfl) (by first | omega | (simp only [zl_1] <;> omega) | decide | assumption | rfl)) (cwV 1 hT (gV_in mw_338 mw_335 mw_337 mw_p1_0 mw_1) rfl rfl rfl (by decide +kernel) ⟨Nat.le_of_ble_eq_true rfl, Nat.le_of_ble_eq_true rfl⟩) (kRecv (own := "") (q0 := 0) (ci := 10) hK hP hD hN rfl rfl [0, 1] rfl (by decide)) rfl rfl hl.1 rfl (lv_room (Nat.le_of_ble_eq_true rfl)) dX10_found_12 ⟨Nat.le_of_ble_eq_true rfl, Nat.le_of_ble_eq_true rfl⟩) hP hD hS hA [0, 1] [] rfl rfl (by decide) (by decide) (fun r_6 u_8 H locs w_7 hP hD hS => ?_)
      have hP : va_P D vwCl [] H := hP
      have hD : va_D A [] := hD
      have hr_6 := w_7
      obtain rfl : r_6 = (-1000001) := hr_6.trans (by decide)
      exact hRet () [] (by unfold sp_found; repeat (first | rw [if_pos (by omega)] | rw [if_neg (by omega)])) hP hD (by decide) rfl hS rfl dX10_found_15
set_option maxHeartbeats 4000000 in
set_option maxRecDepth 100000 in
theorem c_X10_broke (l : Launch) (D : va_G) (cI : ClassId) (x nw kp fu ra kr rd wd ld mt vo sh fd : Nat) (sz : Nat) (im : Int32) (ff : Nat → Int32) (a : Int32) (b : Int32) (d : Int32) (g : Int32) (i0 : Int32) (j0 : Int32) : Met l yX10_broke (gW yX10_broke cX10_broke 10 (some .int)) ({ frames := 1, cells := 0, slots := 0, locals := 40 } : Room) (kPre D cI [.ref x, .int a, .int b, .int d, .int g, .int i0, .int j0] [(x, .inr (10, [.ref nw, .ref kp, .ref fu, .ref ra, .ref kr, .ref rd, .ref wd, .ref ld, .ref mt, .ref vo, .ref sh, .ref fd, .int im])), (fd, .inl (cI, 6, .inl ff))] sz) (va_Qi (fun (r : Int32) (u : Unit) => r.toInt = sp_broke a.toInt b.toInt d.toInt g.toInt i0.toInt j0.toInt) (fun u t => kWd D cI (va_A [(x, .inr (10, [.ref nw, .ref kp, .ref fu, .ref ra, .ref kr, .ref rd, .ref wd, .ref ld, .ref mt, .ref vo, .ref sh, .ref fd, .int im])), (fd, .inl (cI, 6, .inl ff))] sz) [] t) (va_A [(x, .inr (10, [.ref nw, .ref kp, .ref fu, .ref ra, .ref kr, .ref rd, .ref wd, .ref ld, .ref mt, .ref vo, .ref sh, .ref fd, .int im])), (fd, .inl (cI, 6, .inl ff))] sz)) 0 0 (va_A [(x, .inr (10, [.ref nw, .ref kp, .ref fu, .ref ra, .ref kr, .ref rd, .ref wd, .ref ld, .ref mt, .ref vo, .ref sh, .ref fd, .int im])), (fd, .inl (cI, 6, .inl ff))] sz) := by
  refine kMetI (own := RX10) (by decide) rfl (Nat.le_of_ble_eq_true rfl) ?_
  intro p e s m args below meth c hx hb hT hown hname hml A Q hK hP hD hS hA hN hRet ls hl
  have hl : lv_has ls 10 [(0, .ref x), (1, .int a), (2, .int b), (3, .int d), (4, .int g), (5, .int i0), (6, .int j0)] := hl
  have lo_a := k_lo a
  have hi_a := k_hi a
  have lo_b := k_lo b
  have hi_b := k_hi b
  have lo_d := k_lo d
  have hi_d := k_hi d
  have lo_g := k_lo g
  have hi_g := k_hi g
  have lo_i0 := k_lo i0
  have hi_i0 := k_hi i0
  have lo_j0 := k_lo j0
  have hi_j0 := k_hi j0
  have lo_im := k_lo im
  have hi_im := k_hi im
  refine lv_iload_n hx hb dX10_broke_0 rfl (lv_at hl 1 rfl) ?_
  refine kJi (wr := [(x, .inr (10, [.ref nw, .ref kp, .ref fu, .ref ra, .ref kr, .ref rd, .ref wd, .ref ld, .ref mt, .ref vo, .ref sh, .ref fd, .int im])), (fd, .inl (cI, 6, .inl ff))]) (va_runS (As := [.int a]) (rest := []) ⟨hx, hb, hml, hown, hT⟩ (c_X10_isMile l D cI s.heap.size a) (cwS 1 hT (gS_in mw_346 mw_344 mw_345 mw_1) rfl rfl rfl (by decide +kernel) ⟨Nat.le_of_ble_eq_true rfl, Nat.le_of_ble_eq_true rfl⟩) (kStat hK hP hD hN [] rfl (by decide)) rfl rfl hl.1 rfl (lv_room (Nat.le_of_ble_eq_true rfl)) dX10_broke_1 ⟨Nat.le_of_ble_eq_true rfl, Nat.le_of_ble_eq_true rfl⟩) hP hD hS hA [] [0, 1] rfl rfl (by decide) (by decide) (fun r_1 u_3 H locs w_2 hP hD hS => ?_)
  have hP : va_P D vwCl [(x, .inr (10, [.ref nw, .ref kp, .ref fu, .ref ra, .ref kr, .ref rd, .ref wd, .ref ld, .ref mt, .ref vo, .ref sh, .ref fd, .int im])), (fd, .inl (cI, 6, .inl ff))] H := hP
  have hD : va_D A [(x, .inr (10, [.ref nw, .ref kp, .ref fu, .ref ra, .ref kr, .ref rd, .ref wd, .ref ld, .ref mt, .ref vo, .ref sh, .ref fd, .int im])), (fd, .inl (cI, 6, .inl ff))] := hD
  rcases w_2 with ⟨hr_1, h_4, h_5⟩ | ⟨hr_1, h_6⟩
  · have h_4 : 0 ≤ a.toInt := h_4
    have h_5 : a.toInt ≤ 39 := h_5
    obtain rfl : r_1 = 1 := hr_1.trans (by decide)
    refine b_if_eq hx hb zl_1 (tgt := 25) dX10_broke_4 (by decide) (fun c_7 => by exfalso; omega) (fun c_7 => ?_)
    refine lv_iload hx hb dX10_broke_7 (lv_at hl 4 rfl) ?_
    refine kJi (wr := [(x, .inr (10, [.ref nw, .ref kp, .ref fu, .ref ra, .ref kr, .ref rd, .ref wd, .ref ld, .ref mt, .ref vo, .ref sh, .ref fd, .int im])), (fd, .inl (cI, 6, .inl ff))]) (va_runS (As := [.int g]) (rest := []) ⟨hx, hb, hml, hown, hT⟩ (c_X10_isMile l D cI H.size g) (cwS 1 hT (gS_in mw_346 mw_344 mw_345 mw_1) rfl rfl rfl (by decide +kernel) ⟨Nat.le_of_ble_eq_true rfl, Nat.le_of_ble_eq_true rfl⟩) (kStat hK hP hD hN [] rfl (by decide)) rfl rfl hl.1 rfl (lv_room (Nat.le_of_ble_eq_true rfl)) dX10_broke_9 ⟨Nat.le_of_ble_eq_true rfl, Nat.le_of_ble_eq_true rfl⟩) hP hD hS hA [] [0, 1] rfl rfl (by decide) (by decide) (fun r_8 u_10 H locs w_9 hP hD hS => ?_)
    have hP : va_P D vwCl [(x, .inr (10, [.ref nw, .ref kp, .ref fu, .ref ra, .ref kr, .ref rd, .ref wd, .ref ld, .ref mt, .ref vo, .ref sh, .ref fd, .int im])), (fd, .inl (cI, 6, .inl ff))] H := hP
    have hD : va_D A [(x, .inr (10, [.ref nw, .ref kp, .ref fu, .ref ra, .ref kr, .ref rd, .ref wd, .ref ld, .ref mt, .ref vo, .ref sh, .ref fd, .int im])), (fd, .inl (cI, 6, .inl ff))] := hD
    rcases w_9 with ⟨hr_8, h_11, h_12⟩ | ⟨hr_8, h_13⟩
    · have h_11 : 0 ≤ g.toInt := h_11
      have h_12 : g.toInt ≤ 39 := h_12
      obtain rfl : r_8 = 1 := hr_8.trans (by decide)
      refine b_if_eq hx hb zl_1 (tgt := 25) dX10_broke_12 (by decide) (fun c_14 => by exfalso; omega) (fun c_14 => ?_)
      refine lv_iload_n hx hb dX10_broke_15 rfl (lv_at hl 1 rfl) ?_
      refine lv_iload hx hb dX10_broke_16 (lv_at hl 4 rfl) ?_
      refine b_icmp_ge hx hb rfl rfl (tgt := 25) dX10_broke_18 (by decide) (fun c_15 => ?_) (fun c_15 => ?_)
      · refine lv_iconst (v := 0) hx hb dX10_broke_25 (by decide) ?_
        refine lv_istore (lv' := [(7, .int 0), (0, .ref x), (1, .int a), (2, .int b), (3, .int d), (4, .int g), (5, .int i0), (6, .int j0)]) hx hb dX10_broke_26 hl (by decide) rfl (fun ls hl => ?_)
        refine lv_iload hx hb dX10_broke_28 (lv_at hl 0 rfl) ?_
        refine b_if_eq hx hb zl_0 (tgt := 51) dX10_broke_30 (by decide) (fun c_16 => ?_) (fun c_16 => by exfalso; omega)
        refine lv_aload_n hx hb dX10_broke_51 rfl (lv_at hl 1 rfl) ?_
        refine lv_iconst (v := 1) hx hb dX10_broke_52 (by decide) ?_
        refine kJi (wr := []) (va_runV (As := [.int 1]) (rest := []) ⟨hx, hb, hml, hown, hT⟩ (c_X10_finding l D cI x nw kp fu ra kr rd wd ld mt vo sh fd H.size im ff 1 (by first | omega | (simp only [zl_1] <;> omega) | decide | assumption | rfl) (by first | omega | (simp only [zl_1] <;> omega) | decide | assumption | rfl)) (cwV 1 hT (gV_in mw_338 mw_335 mw_337 mw_p1_0 mw_1) rfl rfl rfl (by decide +kernel) ⟨Nat.le_of_ble_eq_true rfl, Nat.le_of_ble_eq_true rfl⟩) (kRecv (own := "") (q0 := 0) (ci := 10) hK hP hD hN rfl rfl [0, 1] rfl (by decide)) rfl rfl hl.1 rfl (lv_room (Nat.le_of_ble_eq_true rfl)) dX10_broke_53 ⟨Nat.le_of_ble_eq_true rfl, Nat.le_of_ble_eq_true rfl⟩) hP hD hS hA [0, 1] [] rfl rfl (by decide) (by decide) (fun r_17 u_19 H locs w_18 hP hD hS => ?_)
        have hP : va_P D vwCl [] H := hP
        have hD : va_D A [] := hD
        have hr_17 := w_18
        obtain rfl : r_17 = (-1000001) := hr_17.trans (by decide)
        exact hRet () [] (by unfold sp_broke; first | (rw [if_neg (by omega)]; first | decide | omega) | (rw [if_pos (by omega), if_neg (by omega)]; first | decide | omega) | (rw [if_pos (by omega), if_pos (by omega)]; omega)) hP hD (by decide) rfl hS rfl dX10_broke_56
      · refine lv_iconst (v := 1) hx hb dX10_broke_21 (by decide) ?_
        refine lv_goto (tgt := 26) hx hb dX10_broke_22 (by decide) ?_
        refine lv_istore (lv' := [(7, .int 1), (0, .ref x), (1, .int a), (2, .int b), (3, .int d), (4, .int g), (5, .int i0), (6, .int j0)]) hx hb dX10_broke_26 hl (by decide) rfl (fun ls hl => ?_)
        refine lv_iload hx hb dX10_broke_28 (lv_at hl 0 rfl) ?_
        refine b_if_eq hx hb zl_1 (tgt := 51) dX10_broke_30 (by decide) (fun c_20 => by exfalso; omega) (fun c_20 => ?_)
        refine lv_iload_n hx hb dX10_broke_33 rfl (lv_at hl 3 rfl) ?_
        refine lv_iload_n hx hb dX10_broke_34 rfl (lv_at hl 4 rfl) ?_
        refine kJi (wr := [(x, .inr (10, [.ref nw, .ref kp, .ref fu, .ref ra, .ref kr, .ref rd, .ref wd, .ref ld, .ref mt, .ref vo, .ref sh, .ref fd, .int im])), (fd, .inl (cI, 6, .inl ff))]) (va_runS (As := [.int b, .int d]) (rest := []) ⟨hx, hb, hml, hown, hT⟩ (c_X10_isSpan l D cI H.size b d) (cwS 2 hT (gS_in mw_829 mw_827 mw_828 mw_1) rfl rfl rfl (by decide +kernel) ⟨Nat.le_of_ble_eq_true rfl, Nat.le_of_ble_eq_true rfl⟩) (kStat hK hP hD hN [] rfl (by decide)) rfl rfl hl.1 rfl (lv_room (Nat.le_of_ble_eq_true rfl)) dX10_broke_35 ⟨Nat.le_of_ble_eq_true rfl, Nat.le_of_ble_eq_true rfl⟩) hP hD hS hA [] [0, 1] rfl rfl (by decide) (by decide) (fun r_21 u_23 H locs w_22 hP hD hS => ?_)
        have hP : va_P D vwCl [(x, .inr (10, [.ref nw, .ref kp, .ref fu, .ref ra, .ref kr, .ref rd, .ref wd, .ref ld, .ref mt, .ref vo, .ref sh, .ref fd, .int im])), (fd, .inl (cI, 6, .inl ff))] H := hP
        have hD : va_D A [(x, .inr (10, [.ref nw, .ref kp, .ref fu, .ref ra, .ref kr, .ref rd, .ref wd, .ref ld, .ref mt, .ref vo, .ref sh, .ref fd, .int im])), (fd, .inl (cI, 6, .inl ff))] := hD
        rcases w_22 with ⟨hr_21, h_24, h_25, h_26⟩ | ⟨hr_21, h_27⟩
        · have h_24 : 0 ≤ b.toInt := h_24
          have h_25 : b.toInt ≤ d.toInt := h_25
          have h_26 : d.toInt ≤ 39 := h_26
          obtain rfl : r_21 = 1 := hr_21.trans (by decide)
          refine b_if_eq hx hb zl_1 (tgt := 51) dX10_broke_38 (by decide) (fun c_28 => by exfalso; omega) (fun c_28 => ?_)
          refine lv_iload hx hb dX10_broke_41 (lv_at hl 6 rfl) ?_
          refine lv_iload hx hb dX10_broke_43 (lv_at hl 7 rfl) ?_
          refine kJi (wr := [(x, .inr (10, [.ref nw, .ref kp, .ref fu, .ref ra, .ref kr, .ref rd, .ref wd, .ref ld, .ref mt, .ref vo, .ref sh, .ref fd, .int im])), (fd, .inl (cI, 6, .inl ff))]) (va_runS (As := [.int i0, .int j0]) (rest := []) ⟨hx, hb, hml, hown, hT⟩ (c_X10_isSpan l D cI H.size i0 j0) (cwS 2 hT (gS_in mw_829 mw_827 mw_828 mw_1) rfl rfl rfl (by decide +kernel) ⟨Nat.le_of_ble_eq_true rfl, Nat.le_of_ble_eq_true rfl⟩) (kStat hK hP hD hN [] rfl (by decide)) rfl rfl hl.1 rfl (lv_room (Nat.le_of_ble_eq_true rfl)) dX10_broke_45 ⟨Nat.le_of_ble_eq_true rfl, Nat.le_of_ble_eq_true rfl⟩) hP hD hS hA [] [0, 1] rfl rfl (by decide) (by decide) (fun r_29 u_31 H locs w_30 hP hD hS => ?_)
          have hP : va_P D vwCl [(x, .inr (10, [.ref nw, .ref kp, .ref fu, .ref ra, .ref kr, .ref rd, .ref wd, .ref ld, .ref mt, .ref vo, .ref sh, .ref fd, .int im])), (fd, .inl (cI, 6, .inl ff))] H := hP
          have hD : va_D A [(x, .inr (10, [.ref nw, .ref kp, .ref fu, .ref ra, .ref kr, .ref rd, .ref wd, .ref ld, .ref mt, .ref vo, .ref sh, .ref fd, .int im])), (fd, .inl (cI, 6, .inl ff))] := hD
          rcases w_30 with ⟨hr_29, h_32, h_33, h_34⟩ | ⟨hr_29, h_35⟩
          · have h_32 : 0 ≤ i0.toInt := h_32
            have h_33 : i0.toInt ≤ j0.toInt := h_33
            have h_34 : j0.toInt ≤ 39 := h_34
            obtain rfl : r_29 = 1 := hr_29.trans (by decide)
            refine b_if_ne hx hb zl_1 (tgt := 57) dX10_broke_48 (by decide) (fun c_36 => ?_) (fun c_36 => by exfalso; omega)
            refine lv_iload_n hx hb dX10_broke_57 rfl (lv_at hl 2 rfl) ?_
            refine lv_iload_n hx hb dX10_broke_58 rfl (lv_at hl 3 rfl) ?_
            refine lv_iadd hx hb dX10_broke_59 ?_
            refine lv_topi (fun v_37 ev_37 => ?_)
            have tv_37 : v_37.toInt = a.toInt + b.toInt := by rw [ev_37]; exact k_addv rfl rfl (by omega) (by omega)
            refine lv_iload hx hb dX10_broke_60 (lv_at hl 5 rfl) ?_
            refine lv_iload hx hb dX10_broke_62 (lv_at hl 7 rfl) ?_
            refine lv_isub hx hb dX10_broke_64 ?_
            refine lv_topi (fun v_38 ev_38 => ?_)
            have tv_38 : v_38.toInt = g.toInt - j0.toInt := by rw [ev_38]; exact k_subv rfl rfl (by omega) (by omega)
            refine va_mmax hx hb (hml.trans hl.1.symm) hown (hT _ mw_594) (hT _ mw_426) (hT _ mw_13) (hT _ mw_427) (Nat.le_of_ble_eq_true rfl) (Nat.le_of_ble_eq_true rfl) (Nat.le_of_ble_eq_true rfl) (Nat.le_of_ble_eq_true rfl) dX10_broke_65 ?_
            refine lv_topi (fun v_39 ev_39 => ?_)
            have lo_v_39 := k_lo v_39
            have hi_v_39 := k_hi v_39
            have tv_39 : v_39.toInt = k_max v_37.toInt v_38.toInt := by rw [ev_39]; exact k_mmax rfl rfl
            try rw [tv_37] at tv_39
            try rw [tv_38] at tv_39
            have sv_39 := k_max_spec (v_37.toInt) (v_38.toInt)
            try rw [tv_37] at sv_39
            try rw [tv_38] at sv_39
            refine lv_istore (lv' := [(8, .int v_39), (7, .int 1), (0, .ref x), (1, .int a), (2, .int b), (3, .int d), (4, .int g), (5, .int i0), (6, .int j0)]) hx hb dX10_broke_68 hl (by decide) rfl (fun ls hl => ?_)
            refine lv_iload_n hx hb dX10_broke_70 rfl (lv_at hl 3 rfl) ?_
            refine lv_iload_n hx hb dX10_broke_71 rfl (lv_at hl 5 rfl) ?_
            refine lv_iadd hx hb dX10_broke_72 ?_
            refine lv_topi (fun v_40 ev_40 => ?_)
            have tv_40 : v_40.toInt = a.toInt + d.toInt := by rw [ev_40]; exact k_addv rfl rfl (by omega) (by omega)
            refine lv_iload hx hb dX10_broke_73 (lv_at hl 6 rfl) ?_
            refine lv_iload hx hb dX10_broke_75 (lv_at hl 7 rfl) ?_
            refine lv_isub hx hb dX10_broke_77 ?_
            refine lv_topi (fun v_41 ev_41 => ?_)
            have tv_41 : v_41.toInt = g.toInt - i0.toInt := by rw [ev_41]; exact k_subv rfl rfl (by omega) (by omega)
            refine va_mmin hx hb (hml.trans hl.1.symm) hown (hT _ mw_830) (hT _ mw_538) (hT _ mw_13) (hT _ mw_539) (Nat.le_of_ble_eq_true rfl) (Nat.le_of_ble_eq_true rfl) (Nat.le_of_ble_eq_true rfl) (Nat.le_of_ble_eq_true rfl) dX10_broke_78 ?_
            refine lv_topi (fun v_42 ev_42 => ?_)
            have lo_v_42 := k_lo v_42
            have hi_v_42 := k_hi v_42
            have tv_42 : v_42.toInt = k_min v_40.toInt v_41.toInt := by rw [ev_42]; exact k_mmin rfl rfl
            try rw [tv_40] at tv_42
            try rw [tv_41] at tv_42
            have sv_42 := k_min_spec (v_40.toInt) (v_41.toInt)
            try rw [tv_40] at sv_42
            try rw [tv_41] at sv_42
            refine lv_istore (lv' := [(9, .int v_42), (8, .int v_39), (7, .int 1), (0, .ref x), (1, .int a), (2, .int b), (3, .int d), (4, .int g), (5, .int i0), (6, .int j0)]) hx hb dX10_broke_81 hl (by decide) rfl (fun ls hl => ?_)
            refine lv_iload hx hb dX10_broke_83 (lv_at hl 1 rfl) ?_
            refine lv_iload hx hb dX10_broke_85 (lv_at hl 0 rfl) ?_
            refine b_icmp_le hx hb rfl rfl (tgt := 96) dX10_broke_87 (by decide) (fun c_43 => ?_) (fun c_43 => ?_)
            · refine lv_bipush (v := 100) hx hb dX10_broke_96 (by decide) ?_
              refine lv_iload hx hb dX10_broke_98 (lv_at hl 1 rfl) ?_
              refine lv_imul hx hb dX10_broke_100 ?_
              refine lv_topi (fun v_44 ev_44 => ?_)
              have tv_44 : v_44.toInt = 100 * v_39.toInt := by rw [ev_44]; exact k_mulv zl_100 rfl (by omega) (by omega)
              refine lv_iload hx hb dX10_broke_101 (lv_at hl 0 rfl) ?_
              refine lv_iadd hx hb dX10_broke_103 ?_
              refine lv_topi (fun v_45 ev_45 => ?_)
              have tv_45 : v_45.toInt = v_44.toInt + v_42.toInt := by rw [ev_45]; exact k_addv rfl rfl (by omega) (by omega)
              exact hRet () [] (by unfold sp_broke; first | (rw [if_neg (by omega)]; first | decide | omega) | (rw [if_pos (by omega), if_neg (by omega)]; first | decide | omega) | (rw [if_pos (by omega), if_pos (by omega)]; omega)) hP hD (by decide) rfl hS rfl dX10_broke_104
            · refine lv_aload_n hx hb dX10_broke_90 rfl (lv_at hl 3 rfl) ?_
              refine lv_iconst (v := 2) hx hb dX10_broke_91 (by decide) ?_
              refine kJi (wr := []) (va_runV (As := [.int 2]) (rest := []) ⟨hx, hb, hml, hown, hT⟩ (c_X10_finding l D cI x nw kp fu ra kr rd wd ld mt vo sh fd H.size im ff 2 (by first | omega | (simp only [zl_2] <;> omega) | decide | assumption | rfl) (by first | omega | (simp only [zl_2] <;> omega) | decide | assumption | rfl)) (cwV 1 hT (gV_in mw_338 mw_335 mw_337 mw_p1_0 mw_1) rfl rfl rfl (by decide +kernel) ⟨Nat.le_of_ble_eq_true rfl, Nat.le_of_ble_eq_true rfl⟩) (kRecv (own := "") (q0 := 0) (ci := 10) hK hP hD hN rfl rfl [0, 1] rfl (by decide)) rfl rfl hl.1 rfl (lv_room (Nat.le_of_ble_eq_true rfl)) dX10_broke_92 ⟨Nat.le_of_ble_eq_true rfl, Nat.le_of_ble_eq_true rfl⟩) hP hD hS hA [0, 1] [] rfl rfl (by decide) (by decide) (fun r_46 u_48 H locs w_47 hP hD hS => ?_)
              have hP : va_P D vwCl [] H := hP
              have hD : va_D A [] := hD
              have hr_46 := w_47
              obtain rfl : r_46 = (-1000002) := hr_46.trans (by decide)
              exact hRet () [] (by unfold sp_broke; first | (rw [if_neg (by omega)]; first | decide | omega) | (rw [if_pos (by omega), if_neg (by omega)]; first | decide | omega) | (rw [if_pos (by omega), if_pos (by omega)]; omega)) hP hD (by decide) rfl hS rfl dX10_broke_95
          · have h_35 : i0.toInt < 0 ∨ j0.toInt < i0.toInt ∨ 39 < j0.toInt := h_35
            obtain rfl : r_29 = 0 := hr_29.trans (by decide)
            refine b_if_ne hx hb zl_0 (tgt := 57) dX10_broke_48 (by decide) (fun c_49 => by exfalso; omega) (fun c_49 => ?_)
            refine lv_aload_n hx hb dX10_broke_51 rfl (lv_at hl 1 rfl) ?_
            refine lv_iconst (v := 1) hx hb dX10_broke_52 (by decide) ?_
            refine kJi (wr := []) (va_runV (As := [.int 1]) (rest := []) ⟨hx, hb, hml, hown, hT⟩ (c_X10_finding l D cI x nw kp fu ra kr rd wd ld mt vo sh fd H.size im ff 1 (by first | omega | (simp only [zl_1] <;> omega) | decide | assumption | rfl) (by first | omega | (simp only [zl_1] <;> omega) | decide | assumption | rfl)) (cwV 1 hT (gV_in mw_338 mw_335 mw_337 mw_p1_0 mw_1) rfl rfl rfl (by decide +kernel) ⟨Nat.le_of_ble_eq_true rfl, Nat.le_of_ble_eq_true rfl⟩) (kRecv (own := "") (q0 := 0) (ci := 10) hK hP hD hN rfl rfl [0, 1] rfl (by decide)) rfl rfl hl.1 rfl (lv_room (Nat.le_of_ble_eq_true rfl)) dX10_broke_53 ⟨Nat.le_of_ble_eq_true rfl, Nat.le_of_ble_eq_true rfl⟩) hP hD hS hA [0, 1] [] rfl rfl (by decide) (by decide) (fun r_50 u_52 H locs w_51 hP hD hS => ?_)
            have hP : va_P D vwCl [] H := hP
            have hD : va_D A [] := hD
            have hr_50 := w_51
            obtain rfl : r_50 = (-1000001) := hr_50.trans (by decide)
            exact hRet () [] (by unfold sp_broke; first | (rw [if_neg (by omega)]; first | decide | omega) | (rw [if_pos (by omega), if_neg (by omega)]; first | decide | omega) | (rw [if_pos (by omega), if_pos (by omega)]; omega)) hP hD (by decide) rfl hS rfl dX10_broke_56
        · have h_27 : b.toInt < 0 ∨ d.toInt < b.toInt ∨ 39 < d.toInt := h_27
          obtain rfl : r_21 = 0 := hr_21.trans (by decide)
          refine b_if_eq hx hb zl_0 (tgt := 51) dX10_broke_38 (by decide) (fun c_53 => ?_) (fun c_53 => by exfalso; omega)
          refine lv_aload_n hx hb dX10_broke_51 rfl (lv_at hl 1 rfl) ?_
          refine lv_iconst (v := 1) hx hb dX10_broke_52 (by decide) ?_
          refine kJi (wr := []) (va_runV (As := [.int 1]) (rest := []) ⟨hx, hb, hml, hown, hT⟩ (c_X10_finding l D cI x nw kp fu ra kr rd wd ld mt vo sh fd H.size im ff 1 (by first | omega | (simp only [zl_1] <;> omega) | decide | assumption | rfl) (by first | omega | (simp only [zl_1] <;> omega) | decide | assumption | rfl)) (cwV 1 hT (gV_in mw_338 mw_335 mw_337 mw_p1_0 mw_1) rfl rfl rfl (by decide +kernel) ⟨Nat.le_of_ble_eq_true rfl, Nat.le_of_ble_eq_true rfl⟩) (kRecv (own := "") (q0 := 0) (ci := 10) hK hP hD hN rfl rfl [0, 1] rfl (by decide)) rfl rfl hl.1 rfl (lv_room (Nat.le_of_ble_eq_true rfl)) dX10_broke_53 ⟨Nat.le_of_ble_eq_true rfl, Nat.le_of_ble_eq_true rfl⟩) hP hD hS hA [0, 1] [] rfl rfl (by decide) (by decide) (fun r_54 u_56 H locs w_55 hP hD hS => ?_)
          have hP : va_P D vwCl [] H := hP
          have hD : va_D A [] := hD
          have hr_54 := w_55
          obtain rfl : r_54 = (-1000001) := hr_54.trans (by decide)
          exact hRet () [] (by unfold sp_broke; first | (rw [if_neg (by omega)]; first | decide | omega) | (rw [if_pos (by omega), if_neg (by omega)]; first | decide | omega) | (rw [if_pos (by omega), if_pos (by omega)]; omega)) hP hD (by decide) rfl hS rfl dX10_broke_56
    · have h_13 : g.toInt < 0 ∨ 39 < g.toInt := h_13
      obtain rfl : r_8 = 0 := hr_8.trans (by decide)
      refine b_if_eq hx hb zl_0 (tgt := 25) dX10_broke_12 (by decide) (fun c_57 => ?_) (fun c_57 => by exfalso; omega)
      refine lv_iconst (v := 0) hx hb dX10_broke_25 (by decide) ?_
      refine lv_istore (lv' := [(7, .int 0), (0, .ref x), (1, .int a), (2, .int b), (3, .int d), (4, .int g), (5, .int i0), (6, .int j0)]) hx hb dX10_broke_26 hl (by decide) rfl (fun ls hl => ?_)
      refine lv_iload hx hb dX10_broke_28 (lv_at hl 0 rfl) ?_
      refine b_if_eq hx hb zl_0 (tgt := 51) dX10_broke_30 (by decide) (fun c_58 => ?_) (fun c_58 => by exfalso; omega)
      refine lv_aload_n hx hb dX10_broke_51 rfl (lv_at hl 1 rfl) ?_
      refine lv_iconst (v := 1) hx hb dX10_broke_52 (by decide) ?_
      refine kJi (wr := []) (va_runV (As := [.int 1]) (rest := []) ⟨hx, hb, hml, hown, hT⟩ (c_X10_finding l D cI x nw kp fu ra kr rd wd ld mt vo sh fd H.size im ff 1 (by first | omega | (simp only [zl_1] <;> omega) | decide | assumption | rfl) (by first | omega | (simp only [zl_1] <;> omega) | decide | assumption | rfl)) (cwV 1 hT (gV_in mw_338 mw_335 mw_337 mw_p1_0 mw_1) rfl rfl rfl (by decide +kernel) ⟨Nat.le_of_ble_eq_true rfl, Nat.le_of_ble_eq_true rfl⟩) (kRecv (own := "") (q0 := 0) (ci := 10) hK hP hD hN rfl rfl [0, 1] rfl (by decide)) rfl rfl hl.1 rfl (lv_room (Nat.le_of_ble_eq_true rfl)) dX10_broke_53 ⟨Nat.le_of_ble_eq_true rfl, Nat.le_of_ble_eq_true rfl⟩) hP hD hS hA [0, 1] [] rfl rfl (by decide) (by decide) (fun r_59 u_61 H locs w_60 hP hD hS => ?_)
      have hP : va_P D vwCl [] H := hP
      have hD : va_D A [] := hD
      have hr_59 := w_60
      obtain rfl : r_59 = (-1000001) := hr_59.trans (by decide)
      exact hRet () [] (by unfold sp_broke; first | (rw [if_neg (by omega)]; first | decide | omega) | (rw [if_pos (by omega), if_neg (by omega)]; first | decide | omega) | (rw [if_pos (by omega), if_pos (by omega)]; omega)) hP hD (by decide) rfl hS rfl dX10_broke_56
  · have h_6 : a.toInt < 0 ∨ 39 < a.toInt := h_6
    obtain rfl : r_1 = 0 := hr_1.trans (by decide)
    refine b_if_eq hx hb zl_0 (tgt := 25) dX10_broke_4 (by decide) (fun c_62 => ?_) (fun c_62 => by exfalso; omega)
    refine lv_iconst (v := 0) hx hb dX10_broke_25 (by decide) ?_
    refine lv_istore (lv' := [(7, .int 0), (0, .ref x), (1, .int a), (2, .int b), (3, .int d), (4, .int g), (5, .int i0), (6, .int j0)]) hx hb dX10_broke_26 hl (by decide) rfl (fun ls hl => ?_)
    refine lv_iload hx hb dX10_broke_28 (lv_at hl 0 rfl) ?_
    refine b_if_eq hx hb zl_0 (tgt := 51) dX10_broke_30 (by decide) (fun c_63 => ?_) (fun c_63 => by exfalso; omega)
    refine lv_aload_n hx hb dX10_broke_51 rfl (lv_at hl 1 rfl) ?_
    refine lv_iconst (v := 1) hx hb dX10_broke_52 (by decide) ?_
    refine kJi (wr := []) (va_runV (As := [.int 1]) (rest := []) ⟨hx, hb, hml, hown, hT⟩ (c_X10_finding l D cI x nw kp fu ra kr rd wd ld mt vo sh fd H.size im ff 1 (by first | omega | (simp only [zl_1] <;> omega) | decide | assumption | rfl) (by first | omega | (simp only [zl_1] <;> omega) | decide | assumption | rfl)) (cwV 1 hT (gV_in mw_338 mw_335 mw_337 mw_p1_0 mw_1) rfl rfl rfl (by decide +kernel) ⟨Nat.le_of_ble_eq_true rfl, Nat.le_of_ble_eq_true rfl⟩) (kRecv (own := "") (q0 := 0) (ci := 10) hK hP hD hN rfl rfl [0, 1] rfl (by decide)) rfl rfl hl.1 rfl (lv_room (Nat.le_of_ble_eq_true rfl)) dX10_broke_53 ⟨Nat.le_of_ble_eq_true rfl, Nat.le_of_ble_eq_true rfl⟩) hP hD hS hA [0, 1] [] rfl rfl (by decide) (by decide) (fun r_64 u_66 H locs w_65 hP hD hS => ?_)
    have hP : va_P D vwCl [] H := hP
    have hD : va_D A [] := hD
    have hr_64 := w_65
    obtain rfl : r_64 = (-1000001) := hr_64.trans (by decide)
    exact hRet () [] (by unfold sp_broke; first | (rw [if_neg (by omega)]; first | decide | omega) | (rw [if_pos (by omega), if_neg (by omega)]; first | decide | omega) | (rw [if_pos (by omega), if_pos (by omega)]; omega)) hP hD (by decide) rfl hS rfl dX10_broke_56
