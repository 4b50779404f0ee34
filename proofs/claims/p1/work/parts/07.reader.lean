theorem dX5_both_0 : decode cX5_both 0 = .ok (.aload_n 0, 1) := by decide +kernel
theorem dX5_both_1 : decode cX5_both 1 = .ok (.iload_n 1, 1) := by decide +kernel
theorem dX5_both_2 : decode cX5_both 2 = .ok (.invokevirtual 53, 3) := by decide +kernel
theorem dX5_both_5 : decode cX5_both 5 = .ok (.istore_n 2, 1) := by decide +kernel
theorem dX5_both_6 : decode cX5_both 6 = .ok (.iconst 0, 1) := by decide +kernel
theorem dX5_both_7 : decode cX5_both 7 = .ok (.istore_n 3, 1) := by decide +kernel
theorem dX5_both_8 : decode cX5_both 8 = .ok (.iload_n 3, 1) := by decide +kernel
theorem dX5_both_9 : decode cX5_both 9 = .ok (.bipush 50, 2) := by decide +kernel
theorem dX5_both_11 : decode cX5_both 11 = .ok (.if_icmp .ge 53, 3) := by decide +kernel
theorem dX5_both_14 : decode cX5_both 14 = .ok (.aload_n 0, 1) := by decide +kernel
theorem dX5_both_15 : decode cX5_both 15 = .ok (.invokevirtual 45, 3) := by decide +kernel
theorem dX5_both_18 : decode cX5_both 18 = .ok (.bipush 38, 2) := by decide +kernel
theorem dX5_both_20 : decode cX5_both 20 = .ok (.if_icmp .ne 44, 3) := by decide +kernel
theorem dX5_both_64 : decode cX5_both 64 = .ok (.iload_n 2, 1) := by decide +kernel
theorem dX5_both_65 : decode cX5_both 65 = .ok (.ireturn, 1) := by decide +kernel
theorem dX5_compared_0 : decode cX5_compared 0 = .ok (.aload_n 0, 1) := by decide +kernel
theorem dX5_compared_1 : decode cX5_compared 1 = .ok (.iload_n 1, 1) := by decide +kernel
theorem dX5_compared_2 : decode cX5_compared 2 = .ok (.invokevirtual 56, 3) := by decide +kernel
theorem dX5_compared_5 : decode cX5_compared 5 = .ok (.istore_n 2, 1) := by decide +kernel
theorem dX5_compared_6 : decode cX5_compared 6 = .ok (.aload_n 0, 1) := by decide +kernel
theorem dX5_compared_7 : decode cX5_compared 7 = .ok (.invokevirtual 45, 3) := by decide +kernel
theorem dX5_compared_10 : decode cX5_compared 10 = .ok (.istore_n 3, 1) := by decide +kernel
theorem dX5_compared_11 : decode cX5_compared 11 = .ok (.iload_n 3, 1) := by decide +kernel
theorem dX5_compared_12 : decode cX5_compared 12 = .ok (.bipush 60, 2) := by decide +kernel
theorem dX5_compared_14 : decode cX5_compared 14 = .ok (.if_icmp .eq 17, 3) := by decide +kernel
theorem dX5_compared_17 : decode cX5_compared 17 = .ok (.iload_n 3, 1) := by decide +kernel
theorem dX5_compared_18 : decode cX5_compared 18 = .ok (.bipush 61, 2) := by decide +kernel
theorem dX5_compared_20 : decode cX5_compared 20 = .ok (.if_icmp .eq 11, 3) := by decide +kernel
theorem dX5_compared_23 : decode cX5_compared 23 = .ok (.iload_n 3, 1) := by decide +kernel
theorem dX5_compared_24 : decode cX5_compared 24 = .ok (.bipush 62, 2) := by decide +kernel
theorem dX5_compared_26 : decode cX5_compared 26 = .ok (.if_icmp .eq 5, 3) := by decide +kernel
theorem dX5_compared_29 : decode cX5_compared 29 = .ok (.iload_n 2, 1) := by decide +kernel
theorem dX5_compared_30 : decode cX5_compared 30 = .ok (.ireturn, 1) := by decide +kernel
theorem dX5_either_0 : decode cX5_either 0 = .ok (.aload_n 0, 1) := by decide +kernel
theorem dX5_either_1 : decode cX5_either 1 = .ok (.iload_n 1, 1) := by decide +kernel
theorem dX5_either_2 : decode cX5_either 2 = .ok (.invokevirtual 42, 3) := by decide +kernel
theorem dX5_either_5 : decode cX5_either 5 = .ok (.istore_n 2, 1) := by decide +kernel
theorem dX5_either_6 : decode cX5_either 6 = .ok (.iconst 0, 1) := by decide +kernel
theorem dX5_either_7 : decode cX5_either 7 = .ok (.istore_n 3, 1) := by decide +kernel
theorem dX5_either_8 : decode cX5_either 8 = .ok (.iload_n 3, 1) := by decide +kernel
theorem dX5_either_9 : decode cX5_either 9 = .ok (.bipush 50, 2) := by decide +kernel
theorem dX5_either_11 : decode cX5_either 11 = .ok (.if_icmp .ge 53, 3) := by decide +kernel
theorem dX5_either_14 : decode cX5_either 14 = .ok (.aload_n 0, 1) := by decide +kernel
theorem dX5_either_15 : decode cX5_either 15 = .ok (.invokevirtual 45, 3) := by decide +kernel
theorem dX5_either_18 : decode cX5_either 18 = .ok (.bipush 124, 2) := by decide +kernel
theorem dX5_either_20 : decode cX5_either 20 = .ok (.if_icmp .ne 44, 3) := by decide +kernel
theorem dX5_either_64 : decode cX5_either 64 = .ok (.iload_n 2, 1) := by decide +kernel
theorem dX5_either_65 : decode cX5_either 65 = .ok (.ireturn, 1) := by decide +kernel
theorem dX5_fail_0 : decode cX5_fail 0 = .ok (.aload_n 0, 1) := by decide +kernel
theorem dX5_fail_1 : decode cX5_fail 1 = .ok (.iconst 1, 1) := by decide +kernel
theorem dX5_fail_2 : decode cX5_fail 2 = .ok (.putfield 22, 3) := by decide +kernel
theorem dX5_fail_5 : decode cX5_fail 5 = .ok (.iconst 0, 1) := by decide +kernel
theorem dX5_fail_6 : decode cX5_fail 6 = .ok (.ireturn, 1) := by decide +kernel
theorem dX5_fault_0 : decode cX5_fault 0 = .ok (.aload_n 0, 1) := by decide +kernel
theorem dX5_fault_1 : decode cX5_fault 1 = .ok (.getfield 22, 3) := by decide +kernel
theorem dX5_fault_4 : decode cX5_fault 4 = .ok (.ifCond .eq 10, 3) := by decide +kernel
theorem dX5_fault_7 : decode cX5_fault 7 = .ok (.aload_n 0, 1) := by decide +kernel
theorem dX5_fault_8 : decode cX5_fault 8 = .ok (.getfield 19, 3) := by decide +kernel
theorem dX5_fault_11 : decode cX5_fault 11 = .ok (.goto 4, 3) := by decide +kernel
theorem dX5_fault_15 : decode cX5_fault 15 = .ok (.ireturn, 1) := by decide +kernel
theorem dX5_isDigit_0 : decode cX5_isDigit 0 = .ok (.iload_n 0, 1) := by decide +kernel
theorem dX5_isDigit_1 : decode cX5_isDigit 1 = .ok (.bipush 48, 2) := by decide +kernel
theorem dX5_isDigit_3 : decode cX5_isDigit 3 = .ok (.if_icmp .lt 13, 3) := by decide +kernel
theorem dX5_isDigit_6 : decode cX5_isDigit 6 = .ok (.iload_n 0, 1) := by decide +kernel
theorem dX5_isDigit_7 : decode cX5_isDigit 7 = .ok (.bipush 57, 2) := by decide +kernel
theorem dX5_isDigit_9 : decode cX5_isDigit 9 = .ok (.if_icmp .gt 7, 3) := by decide +kernel
theorem dX5_isDigit_12 : decode cX5_isDigit 12 = .ok (.iconst 1, 1) := by decide +kernel
theorem dX5_isDigit_13 : decode cX5_isDigit 13 = .ok (.goto 4, 3) := by decide +kernel
theorem dX5_isDigit_16 : decode cX5_isDigit 16 = .ok (.iconst 0, 1) := by decide +kernel
theorem dX5_isDigit_17 : decode cX5_isDigit 17 = .ok (.ireturn, 1) := by decide +kernel
theorem dX5_nameOf_0 : decode cX5_nameOf 0 = .ok (.iload_n 1, 1) := by decide +kernel
theorem dX5_nameOf_1 : decode cX5_nameOf 1 = .ok (.ifCond .ge 5, 3) := by decide +kernel
theorem dX5_nameOf_4 : decode cX5_nameOf 4 = .ok (.iconst (-1), 1) := by decide +kernel
theorem dX5_nameOf_5 : decode cX5_nameOf 5 = .ok (.ireturn, 1) := by decide +kernel
theorem dX5_next_0 : decode cX5_next 0 = .ok (.aload_n 0, 1) := by decide +kernel
theorem dX5_next_1 : decode cX5_next 1 = .ok (.getfield 22, 3) := by decide +kernel
theorem dX5_next_4 : decode cX5_next 4 = .ok (.ifCond .ne 42, 3) := by decide +kernel
theorem dX5_next_7 : decode cX5_next 7 = .ok (.aload_n 0, 1) := by decide +kernel
theorem dX5_next_8 : decode cX5_next 8 = .ok (.getfield 19, 3) := by decide +kernel
theorem dX5_next_11 : decode cX5_next 11 = .ok (.ifCond .lt 35, 3) := by decide +kernel
theorem dX5_next_14 : decode cX5_next 14 = .ok (.aload_n 0, 1) := by decide +kernel
theorem dX5_next_15 : decode cX5_next 15 = .ok (.getfield 19, 3) := by decide +kernel
theorem dX5_next_18 : decode cX5_next 18 = .ok (.aload_n 0, 1) := by decide +kernel
theorem dX5_next_19 : decode cX5_next 19 = .ok (.getfield 15, 3) := by decide +kernel
theorem dX5_next_22 : decode cX5_next 22 = .ok (.if_icmp .ge 24, 3) := by decide +kernel
theorem dX5_next_46 : decode cX5_next 46 = .ok (.iconst (-1), 1) := by decide +kernel
theorem dX5_next_47 : decode cX5_next 47 = .ok (.ireturn, 1) := by decide +kernel
theorem dX5_open_0 : decode cX5_open 0 = .ok (.aload_n 0, 1) := by decide +kernel
theorem dX5_open_1 : decode cX5_open 1 = .ok (.iconst 0, 1) := by decide +kernel
theorem dX5_open_2 : decode cX5_open 2 = .ok (.putfield 15, 3) := by decide +kernel
theorem dX5_open_5 : decode cX5_open 5 = .ok (.iconst 0, 1) := by decide +kernel
theorem dX5_open_6 : decode cX5_open 6 = .ok (.istore 4, 2) := by decide +kernel
theorem dX5_open_8 : decode cX5_open 8 = .ok (.iload 4, 2) := by decide +kernel
theorem dX5_open_10 : decode cX5_open 10 = .ok (.iload_n 3, 1) := by decide +kernel
theorem dX5_open_11 : decode cX5_open 11 = .ok (.if_icmp .ge 50, 3) := by decide +kernel
theorem dX5_open_61 : decode cX5_open 61 = .ok (.return_, 1) := by decide +kernel
theorem dX5_part_0 : decode cX5_part 0 = .ok (.aload_n 0, 1) := by decide +kernel
theorem dX5_part_1 : decode cX5_part 1 = .ok (.invokevirtual 45, 3) := by decide +kernel
theorem dX5_part_4 : decode cX5_part 4 = .ok (.istore_n 2, 1) := by decide +kernel
theorem dX5_part_5 : decode cX5_part 5 = .ok (.iload_n 2, 1) := by decide +kernel
theorem dX5_part_6 : decode cX5_part 6 = .ok (.invokestatic 65, 3) := by decide +kernel
theorem dX5_part_9 : decode cX5_part 9 = .ok (.ifCond .eq 8, 3) := by decide +kernel
theorem dX5_part_17 : decode cX5_part 17 = .ok (.iload_n 2, 1) := by decide +kernel
theorem dX5_part_18 : decode cX5_part 18 = .ok (.bipush 45, 2) := by decide +kernel
theorem dX5_part_20 : decode cX5_part 20 = .ok (.if_icmp .eq 15, 3) := by decide +kernel
theorem dX5_part_23 : decode cX5_part 23 = .ok (.iload_n 2, 1) := by decide +kernel
theorem dX5_part_24 : decode cX5_part 24 = .ok (.bipush 33, 2) := by decide +kernel
theorem dX5_part_26 : decode cX5_part 26 = .ok (.if_icmp .eq 9, 3) := by decide +kernel
theorem dX5_part_29 : decode cX5_part 29 = .ok (.iload_n 2, 1) := by decide +kernel
theorem dX5_part_30 : decode cX5_part 30 = .ok (.bipush 40, 2) := by decide +kernel
theorem dX5_part_32 : decode cX5_part 32 = .ok (.if_icmp .ne 24, 3) := by decide +kernel
theorem dX5_part_56 : decode cX5_part 56 = .ok (.aload_n 0, 1) := by decide +kernel
theorem dX5_part_57 : decode cX5_part 57 = .ok (.iload_n 2, 1) := by decide +kernel
theorem dX5_part_58 : decode cX5_part 58 = .ok (.invokevirtual 79, 3) := by decide +kernel
theorem dX5_part_61 : decode cX5_part 61 = .ok (.istore_n 3, 1) := by decide +kernel
theorem dX5_part_62 : decode cX5_part 62 = .ok (.iload_n 3, 1) := by decide +kernel
theorem dX5_part_63 : decode cX5_part 63 = .ok (.ifCond .ge 8, 3) := by decide +kernel
theorem dX5_part_66 : decode cX5_part 66 = .ok (.aload_n 0, 1) := by decide +kernel
theorem dX5_part_67 : decode cX5_part 67 = .ok (.invokevirtual 72, 3) := by decide +kernel
theorem dX5_part_70 : decode cX5_part 70 = .ok (.ireturn, 1) := by decide +kernel
theorem dX5_product_0 : decode cX5_product 0 = .ok (.aload_n 0, 1) := by decide +kernel
theorem dX5_product_1 : decode cX5_product 1 = .ok (.iload_n 1, 1) := by decide +kernel
theorem dX5_product_2 : decode cX5_product 2 = .ok (.invokevirtual 62, 3) := by decide +kernel
theorem dX5_product_5 : decode cX5_product 5 = .ok (.istore_n 2, 1) := by decide +kernel
theorem dX5_product_6 : decode cX5_product 6 = .ok (.iconst 0, 1) := by decide +kernel
theorem dX5_product_7 : decode cX5_product 7 = .ok (.istore_n 3, 1) := by decide +kernel
theorem dX5_product_8 : decode cX5_product 8 = .ok (.iload_n 3, 1) := by decide +kernel
theorem dX5_product_9 : decode cX5_product 9 = .ok (.bipush 50, 2) := by decide +kernel
theorem dX5_product_11 : decode cX5_product 11 = .ok (.if_icmp .ge 78, 3) := by decide +kernel
theorem dX5_product_14 : decode cX5_product 14 = .ok (.aload_n 0, 1) := by decide +kernel
theorem dX5_product_15 : decode cX5_product 15 = .ok (.invokevirtual 45, 3) := by decide +kernel
theorem dX5_product_18 : decode cX5_product 18 = .ok (.bipush 42, 2) := by decide +kernel
theorem dX5_product_20 : decode cX5_product 20 = .ok (.if_icmp .eq 12, 3) := by decide +kernel
theorem dX5_product_23 : decode cX5_product 23 = .ok (.aload_n 0, 1) := by decide +kernel
theorem dX5_product_24 : decode cX5_product 24 = .ok (.invokevirtual 45, 3) := by decide +kernel
theorem dX5_product_27 : decode cX5_product 27 = .ok (.bipush 37, 2) := by decide +kernel
theorem dX5_product_29 : decode cX5_product 29 = .ok (.if_icmp .ne 60, 3) := by decide +kernel
theorem dX5_product_89 : decode cX5_product 89 = .ok (.iload_n 2, 1) := by decide +kernel
theorem dX5_product_90 : decode cX5_product 90 = .ok (.ireturn, 1) := by decide +kernel
theorem dX5_sum_0 : decode cX5_sum 0 = .ok (.aload_n 0, 1) := by decide +kernel
theorem dX5_sum_1 : decode cX5_sum 1 = .ok (.iload_n 1, 1) := by decide +kernel
theorem dX5_sum_2 : decode cX5_sum 2 = .ok (.invokevirtual 59, 3) := by decide +kernel
theorem dX5_sum_5 : decode cX5_sum 5 = .ok (.istore_n 2, 1) := by decide +kernel
theorem dX5_sum_6 : decode cX5_sum 6 = .ok (.iconst 0, 1) := by decide +kernel
theorem dX5_sum_7 : decode cX5_sum 7 = .ok (.istore_n 3, 1) := by decide +kernel
theorem dX5_sum_8 : decode cX5_sum 8 = .ok (.iload_n 3, 1) := by decide +kernel
theorem dX5_sum_9 : decode cX5_sum 9 = .ok (.bipush 50, 2) := by decide +kernel
theorem dX5_sum_11 : decode cX5_sum 11 = .ok (.if_icmp .ge 69, 3) := by decide +kernel
theorem dX5_sum_14 : decode cX5_sum 14 = .ok (.aload_n 0, 1) := by decide +kernel
theorem dX5_sum_15 : decode cX5_sum 15 = .ok (.invokevirtual 45, 3) := by decide +kernel
theorem dX5_sum_18 : decode cX5_sum 18 = .ok (.bipush 43, 2) := by decide +kernel
theorem dX5_sum_20 : decode cX5_sum 20 = .ok (.if_icmp .eq 12, 3) := by decide +kernel
theorem dX5_sum_23 : decode cX5_sum 23 = .ok (.aload_n 0, 1) := by decide +kernel
theorem dX5_sum_24 : decode cX5_sum 24 = .ok (.invokevirtual 45, 3) := by decide +kernel
theorem dX5_sum_27 : decode cX5_sum 27 = .ok (.bipush 45, 2) := by decide +kernel
theorem dX5_sum_29 : decode cX5_sum 29 = .ok (.if_icmp .ne 51, 3) := by decide +kernel
theorem dX5_sum_80 : decode cX5_sum 80 = .ok (.iload_n 2, 1) := by decide +kernel
theorem dX5_sum_81 : decode cX5_sum 81 = .ok (.ireturn, 1) := by decide +kernel
theorem dX5_valueFor_0 : decode cX5_valueFor 0 = .ok (.aload_n 0, 1) := by decide +kernel
theorem dX5_valueFor_1 : decode cX5_valueFor 1 = .ok (.iload_n 1, 1) := by decide +kernel
theorem dX5_valueFor_2 : decode cX5_valueFor 2 = .ok (.putfield 26, 3) := by decide +kernel
theorem dX5_valueFor_5 : decode cX5_valueFor 5 = .ok (.aload_n 0, 1) := by decide +kernel
theorem dX5_valueFor_6 : decode cX5_valueFor 6 = .ok (.iload_n 2, 1) := by decide +kernel
theorem dX5_valueFor_7 : decode cX5_valueFor 7 = .ok (.putfield 29, 3) := by decide +kernel
theorem dX5_valueFor_10 : decode cX5_valueFor 10 = .ok (.aload_n 0, 1) := by decide +kernel
theorem dX5_valueFor_11 : decode cX5_valueFor 11 = .ok (.iload_n 3, 1) := by decide +kernel
theorem dX5_valueFor_12 : decode cX5_valueFor 12 = .ok (.putfield 32, 3) := by decide +kernel
theorem dX5_valueFor_15 : decode cX5_valueFor 15 = .ok (.aload_n 0, 1) := by decide +kernel
theorem dX5_valueFor_16 : decode cX5_valueFor 16 = .ok (.iload 4, 2) := by decide +kernel
theorem dX5_valueFor_18 : decode cX5_valueFor 18 = .ok (.putfield 35, 3) := by decide +kernel
theorem dX5_valueFor_21 : decode cX5_valueFor 21 = .ok (.aload_n 0, 1) := by decide +kernel
theorem dX5_valueFor_22 : decode cX5_valueFor 22 = .ok (.iconst 0, 1) := by decide +kernel
theorem dX5_valueFor_23 : decode cX5_valueFor 23 = .ok (.putfield 19, 3) := by decide +kernel
theorem dX5_valueFor_26 : decode cX5_valueFor 26 = .ok (.aload_n 0, 1) := by decide +kernel
theorem dX5_valueFor_27 : decode cX5_valueFor 27 = .ok (.iconst 0, 1) := by decide +kernel
theorem dX5_valueFor_28 : decode cX5_valueFor 28 = .ok (.putfield 22, 3) := by decide +kernel
theorem dX5_valueFor_31 : decode cX5_valueFor 31 = .ok (.aload_n 0, 1) := by decide +kernel
theorem dX5_valueFor_32 : decode cX5_valueFor 32 = .ok (.iconst 0, 1) := by decide +kernel
theorem dX5_valueFor_33 : decode cX5_valueFor 33 = .ok (.invokevirtual 38, 3) := by decide +kernel
theorem dX5_valueFor_36 : decode cX5_valueFor 36 = .ok (.istore 5, 2) := by decide +kernel
theorem dX5_valueFor_38 : decode cX5_valueFor 38 = .ok (.aload_n 0, 1) := by decide +kernel
theorem dX5_valueFor_39 : decode cX5_valueFor 39 = .ok (.getfield 19, 3) := by decide +kernel
theorem dX5_valueFor_42 : decode cX5_valueFor 42 = .ok (.aload_n 0, 1) := by decide +kernel
theorem dX5_valueFor_43 : decode cX5_valueFor 43 = .ok (.getfield 15, 3) := by decide +kernel
theorem dX5_valueFor_46 : decode cX5_valueFor 46 = .ok (.if_icmp .ge 8, 3) := by decide +kernel
theorem dX5_valueFor_54 : decode cX5_valueFor 54 = .ok (.iload 5, 2) := by decide +kernel
theorem dX5_valueFor_56 : decode cX5_valueFor 56 = .ok (.ireturn, 1) := by decide +kernel
theorem dX6_bitsOf_0 : decode cX6_bitsOf 0 = .ok (.iload_n 1, 1) := by decide +kernel
theorem dX6_bitsOf_1 : decode cX6_bitsOf 1 = .ok (.invokestatic 25, 3) := by decide +kernel
theorem dX6_bitsOf_4 : decode cX6_bitsOf 4 = .ok (.ifCond .eq 12, 3) := by decide +kernel
theorem dX6_bitsOf_7 : decode cX6_bitsOf 7 = .ok (.aload_n 0, 1) := by decide +kernel
theorem dX6_bitsOf_8 : decode cX6_bitsOf 8 = .ok (.getfield 9, 3) := by decide +kernel
theorem dX6_bitsOf_11 : decode cX6_bitsOf 11 = .ok (.iload_n 1, 1) := by decide +kernel
theorem dX6_bitsOf_12 : decode cX6_bitsOf 12 = .ok (.iaload, 1) := by decide +kernel
theorem dX6_bitsOf_13 : decode cX6_bitsOf 13 = .ok (.goto 4, 3) := by decide +kernel
theorem dX6_bitsOf_16 : decode cX6_bitsOf 16 = .ok (.iconst 0, 1) := by decide +kernel
theorem dX6_bitsOf_17 : decode cX6_bitsOf 17 = .ok (.ireturn, 1) := by decide +kernel
theorem dX6_blank_0 : decode cX6_blank 0 = .ok (.iload_n 1, 1) := by decide +kernel
theorem dX6_blank_1 : decode cX6_blank 1 = .ok (.invokestatic 25, 3) := by decide +kernel
theorem dX6_blank_4 : decode cX6_blank 4 = .ok (.ifCond .eq 13, 3) := by decide +kernel
theorem dX6_blank_7 : decode cX6_blank 7 = .ok (.iload_n 3, 1) := by decide +kernel
theorem dX6_blank_8 : decode cX6_blank 8 = .ok (.ifCond .lt 9, 3) := by decide +kernel
theorem dX6_blank_11 : decode cX6_blank 11 = .ok (.iload_n 3, 1) := by decide +kernel
theorem dX6_blank_12 : decode cX6_blank 12 = .ok (.bipush 36, 2) := by decide +kernel
theorem dX6_blank_14 : decode cX6_blank 14 = .ok (.if_icmp .le 4, 3) := by decide +kernel
theorem dX6_blank_17 : decode cX6_blank 17 = .ok (.return_, 1) := by decide +kernel
theorem dX6_blank_18 : decode cX6_blank 18 = .ok (.aload_n 0, 1) := by decide +kernel
theorem dX6_blank_19 : decode cX6_blank 19 = .ok (.getfield 9, 3) := by decide +kernel
theorem dX6_blank_22 : decode cX6_blank 22 = .ok (.iload_n 1, 1) := by decide +kernel
theorem dX6_blank_23 : decode cX6_blank 23 = .ok (.iload_n 2, 1) := by decide +kernel
theorem dX6_blank_24 : decode cX6_blank 24 = .ok (.iastore, 1) := by decide +kernel
theorem dX6_blank_25 : decode cX6_blank 25 = .ok (.aload_n 0, 1) := by decide +kernel
theorem dX6_blank_26 : decode cX6_blank 26 = .ok (.getfield 15, 3) := by decide +kernel
theorem dX6_blank_29 : decode cX6_blank 29 = .ok (.iload_n 1, 1) := by decide +kernel
theorem dX6_blank_30 : decode cX6_blank 30 = .ok (.iload_n 3, 1) := by decide +kernel
theorem dX6_blank_31 : decode cX6_blank 31 = .ok (.iastore, 1) := by decide +kernel
theorem dX6_blank_32 : decode cX6_blank 32 = .ok (.iconst 0, 1) := by decide +kernel
theorem dX6_blank_33 : decode cX6_blank 33 = .ok (.istore 4, 2) := by decide +kernel
theorem dX6_blank_35 : decode cX6_blank 35 = .ok (.iload 4, 2) := by decide +kernel
theorem dX6_blank_37 : decode cX6_blank 37 = .ok (.bipush 36, 2) := by decide +kernel
theorem dX6_blank_39 : decode cX6_blank 39 = .ok (.if_icmp .ge 22, 3) := by decide +kernel
theorem dX6_blank_42 : decode cX6_blank 42 = .ok (.aload_n 0, 1) := by decide +kernel
theorem dX6_blank_43 : decode cX6_blank 43 = .ok (.getfield 18, 3) := by decide +kernel
theorem dX6_blank_46 : decode cX6_blank 46 = .ok (.iload_n 1, 1) := by decide +kernel
theorem dX6_blank_47 : decode cX6_blank 47 = .ok (.bipush 36, 2) := by decide +kernel
theorem dX6_blank_49 : decode cX6_blank 49 = .ok (.imul, 1) := by decide +kernel
theorem dX6_blank_50 : decode cX6_blank 50 = .ok (.iload 4, 2) := by decide +kernel
theorem dX6_blank_52 : decode cX6_blank 52 = .ok (.iadd, 1) := by decide +kernel
theorem dX6_blank_53 : decode cX6_blank 53 = .ok (.iconst 0, 1) := by decide +kernel
theorem dX6_blank_54 : decode cX6_blank 54 = .ok (.iastore, 1) := by decide +kernel
theorem dX6_blank_55 : decode cX6_blank 55 = .ok (.iinc 4 1, 3) := by decide +kernel
theorem dX6_blank_58 : decode cX6_blank 58 = .ok (.goto (-23), 3) := by decide +kernel
theorem dX6_blank_61 : decode cX6_blank 61 = .ok (.return_, 1) := by decide +kernel
theorem dX6_isMissing_0 : decode cX6_isMissing 0 = .ok (.aload_n 0, 1) := by decide +kernel
theorem dX6_isMissing_1 : decode cX6_isMissing 1 = .ok (.iload_n 1, 1) := by decide +kernel
theorem dX6_isMissing_2 : decode cX6_isMissing 2 = .ok (.invokevirtual 21, 3) := by decide +kernel
theorem dX6_isMissing_5 : decode cX6_isMissing 5 = .ok (.ifCond .ne 7, 3) := by decide +kernel
theorem dX6_isMissing_8 : decode cX6_isMissing 8 = .ok (.iconst 1, 1) := by decide +kernel
theorem dX6_isMissing_9 : decode cX6_isMissing 9 = .ok (.goto 4, 3) := by decide +kernel
theorem dX6_isMissing_13 : decode cX6_isMissing 13 = .ok (.ireturn, 1) := by decide +kernel
set_option maxHeartbeats 4000000 in
set_option maxRecDepth 100000 in
theorem c_X5_next (l : Launch) (D : va_G) (cI : ClassId) (h tx : Nat) (sz : Nat) (le : Int32) (at_ : Int32) (bd : Int32) (us : Int32) (fa : Int32) (fb : Int32) (fc : Int32) (pre0 : le.toInt = 0) : Met l yX5_next (gW yX5_next cX5_next 1 (some .int)) ({ frames := 0, cells := 0, slots := 0, locals := 0 } : Room) (kPre D cI [.ref h] [(h, .inr (5, [.ref tx, .int le, .int at_, .int bd, .int us, .int fa, .int fb, .int fc]))] sz) (va_Qi (fun (r : Int32) (u : Unit) => r = (-1)) (fun u t => kWd D cI (va_A [(h, .inr (5, [.ref tx, .int le, .int at_, .int bd, .int us, .int fa, .int fb, .int fc]))] sz) [(h, .inr (5, [.ref tx, .int le, .int at_, .int bd, .int us, .int fa, .int fb, .int fc]))] t) (va_A [(h, .inr (5, [.ref tx, .int le, .int at_, .int bd, .int us, .int fa, .int fb, .int fc]))] sz)) 0 0 (va_A [(h, .inr (5, [.ref tx, .int le, .int at_, .int bd, .int us, .int fa, .int fb, .int fc]))] sz) := by
  refine kMetI (own := RX5) (by decide) rfl (Nat.le_of_ble_eq_true rfl) ?_
  intro p e s m args below meth c hx hb hT hown hname hml A Q hK hP hD hS hA hN hRet ls hl
  have hl : lv_has ls 1 [(0, .ref h)] := hl
  have lo_le := k_lo le
  have hi_le := k_hi le
  have lo_at_ := k_lo at_
  have hi_at_ := k_hi at_
  have lo_bd := k_lo bd
  have hi_bd := k_hi bd
  have lo_us := k_lo us
  have hi_us := k_hi us
  have lo_fa := k_lo fa
  have hi_fa := k_hi fa
  have lo_fb := k_lo fb
  have hi_fb := k_hi fb
  have lo_fc := k_lo fc
  have hi_fc := k_hi fc
  refine lv_aload_n hx hb dX5_next_0 rfl (lv_at hl 0 rfl) ?_
  refine va_get (D := D) (ci := 5) (v := .int bd) (C := RX5) (T := TX5) (N := 8) hx hb hT giX5 hown hK hP 0 rfl rfl 3 (by decide) (hT (Cond.fieldLink RX5 22 "DesertWire$Reader" "bad" "Z") mw_171) (fun _ h9 => h9) rfl dX5_next_1 ?_
  refine b_if_ne hx hb rfl (tgt := 46) dX5_next_4 (by decide) (fun c_1 => ?_) (fun c_1 => ?_)
  · refine lv_iconst (v := (-1)) hx hb dX5_next_46 (by decide) ?_
    exact hRet () [0] rfl hP hD (by decide) rfl hS rfl dX5_next_47
  · refine lv_aload_n hx hb dX5_next_7 rfl (lv_at hl 0 rfl) ?_
    refine va_get (D := D) (ci := 5) (v := .int at_) (C := RX5) (T := TX5) (N := 8) hx hb hT giX5 hown hK hP 0 rfl rfl 2 (by decide) (hT (Cond.fieldLink RX5 19 "DesertWire$Reader" "at" "I") mw_170) (fun _ h9 => h9) rfl dX5_next_8 ?_
    refine b_if_lt hx hb rfl (tgt := 46) dX5_next_11 (by decide) (fun c_2 => ?_) (fun c_2 => ?_)
    · refine lv_iconst (v := (-1)) hx hb dX5_next_46 (by decide) ?_
      exact hRet () [0] rfl hP hD (by decide) rfl hS rfl dX5_next_47
    · refine lv_aload_n hx hb dX5_next_14 rfl (lv_at hl 0 rfl) ?_
      refine va_get (D := D) (ci := 5) (v := .int at_) (C := RX5) (T := TX5) (N := 8) hx hb hT giX5 hown hK hP 0 rfl rfl 2 (by decide) (hT (Cond.fieldLink RX5 19 "DesertWire$Reader" "at" "I") mw_170) (fun _ h9 => h9) rfl dX5_next_15 ?_
      refine lv_aload_n hx hb dX5_next_18 rfl (lv_at hl 0 rfl) ?_
      refine va_get (D := D) (ci := 5) (v := .int le) (C := RX5) (T := TX5) (N := 8) hx hb hT giX5 hown hK hP 0 rfl rfl 1 (by decide) (hT (Cond.fieldLink RX5 15 "DesertWire$Reader" "length" "I") mw_169) (fun _ h9 => h9) rfl dX5_next_19 ?_
      refine b_icmp_ge hx hb rfl rfl (tgt := 46) dX5_next_22 (by decide) (fun c_3 => ?_) (fun c_3 => by exfalso; omega)
      refine lv_iconst (v := (-1)) hx hb dX5_next_46 (by decide) ?_
      exact hRet () [0] rfl hP hD (by decide) rfl hS rfl dX5_next_47
set_option maxHeartbeats 4000000 in
set_option maxRecDepth 100000 in
theorem c_X5_fail (l : Launch) (D : va_G) (cI : ClassId) (h tx : Nat) (sz : Nat) (le : Int32) (at_ : Int32) (bd : Int32) (us : Int32) (fa : Int32) (fb : Int32) (fc : Int32) : Met l yX5_fail (gW yX5_fail cX5_fail 1 (some .int)) ({ frames := 0, cells := 0, slots := 0, locals := 0 } : Room) (kPre D cI [.ref h] [(h, .inr (5, [.ref tx, .int le, .int at_, .int bd, .int us, .int fa, .int fb, .int fc]))] sz) (va_Qi (fun (r : Int32) (u : Unit) => r = 0) (fun u t => kWd D cI (va_A [(h, .inr (5, [.ref tx, .int le, .int at_, .int bd, .int us, .int fa, .int fb, .int fc]))] sz) [(h, .inr (5, [.ref tx, .int le, .int at_, .int 1, .int us, .int fa, .int fb, .int fc]))] t) (va_A [(h, .inr (5, [.ref tx, .int le, .int at_, .int bd, .int us, .int fa, .int fb, .int fc]))] sz)) 0 0 (va_A [(h, .inr (5, [.ref tx, .int le, .int at_, .int bd, .int us, .int fa, .int fb, .int fc]))] sz) := by
  refine kMetI (own := RX5) (by decide) rfl (Nat.le_of_ble_eq_true rfl) ?_
  intro p e s m args below meth c hx hb hT hown hname hml A Q hK hP hD hS hA hN hRet ls hl
  have hl : lv_has ls 1 [(0, .ref h)] := hl
  have lo_le := k_lo le
  have hi_le := k_hi le
  have lo_at_ := k_lo at_
  have hi_at_ := k_hi at_
  have lo_bd := k_lo bd
  have hi_bd := k_hi bd
  have lo_us := k_lo us
  have hi_us := k_hi us
  have lo_fa := k_lo fa
  have hi_fa := k_hi fa
  have lo_fb := k_lo fb
  have hi_fb := k_hi fb
  have lo_fc := k_lo fc
  have hi_fc := k_hi fc
  refine lv_aload_n hx hb dX5_fail_0 rfl (lv_at hl 0 rfl) ?_
  refine lv_iconst (v := 1) hx hb dX5_fail_1 (by decide) ?_
  refine va_put (D := D) (ci := 5) (v := .int 1) (ty := .boolean) (C := RX5) (T := TX5) (N := 8) hx hb hT giX5 tyX5 tyX5_ok nmX5 hown hK hP hD hS 0 rfl rfl 3 (by decide) (hT (Cond.fieldLink RX5 22 "DesertWire$Reader" "bad" "Z") mw_171) (fun _ h9 => h9) rfl (by decide +kernel) rfl rfl (Nat.le_of_ble_eq_true rfl) dX5_fail_2 (fun H locs hP hD hS => ?_)
  have hP : va_P D vwCl [(h, .inr (5, [.ref tx, .int le, .int at_, .int 1, .int us, .int fa, .int fb, .int fc]))] H := hP
  have hD : va_D A [(h, .inr (5, [.ref tx, .int le, .int at_, .int 1, .int us, .int fa, .int fb, .int fc]))] := hD
  refine lv_iconst (v := 0) hx hb dX5_fail_5 (by decide) ?_
  exact hRet () [0] rfl hP hD (by decide) rfl hS rfl dX5_fail_6
set_option maxHeartbeats 4000000 in
set_option maxRecDepth 100000 in
theorem c_X5_isDigit (l : Launch) (D : va_G) (cI : ClassId) (sz : Nat) (a : Int32) : Met l yX5_isDigit (gW yX5_isDigit cX5_isDigit 1 (some .boolean)) ({ frames := 0, cells := 0, slots := 0, locals := 0 } : Room) (kPre D cI [.int a] [] sz) (va_Qi (fun (r : Int32) (u : Unit) => (r = 1 ∧ 48 ≤ a.toInt ∧ a.toInt ≤ 57) ∨ (r = 0 ∧ (a.toInt < 48 ∨ 57 < a.toInt))) (fun u t => kWd D cI (va_A [] sz) [] t) (va_A [] sz)) 0 0 (va_A [] sz) := by
  refine kMetI (own := RX5) (by decide) rfl (Nat.le_of_ble_eq_true rfl) ?_
  intro p e s m args below meth c hx hb hT hown hname hml A Q hK hP hD hS hA hN hRet ls hl
  have hl : lv_has ls 1 [(0, .int a)] := hl
  have lo_a := k_lo a
  have hi_a := k_hi a
  refine lv_iload_n hx hb dX5_isDigit_0 rfl (lv_at hl 0 rfl) ?_
  refine lv_bipush (v := 48) hx hb dX5_isDigit_1 (by decide) ?_
  refine b_icmp_lt hx hb rfl zl_48 (tgt := 16) dX5_isDigit_3 (by decide) (fun c_1 => ?_) (fun c_1 => ?_)
  · refine lv_iconst (v := 0) hx hb dX5_isDigit_16 (by decide) ?_
    exact hRet () [] (Or.inr (⟨rfl, (by omega)⟩)) hP hD (by decide) rfl hS rfl dX5_isDigit_17
  · refine lv_iload_n hx hb dX5_isDigit_6 rfl (lv_at hl 0 rfl) ?_
    refine lv_bipush (v := 57) hx hb dX5_isDigit_7 (by decide) ?_
    refine b_icmp_gt hx hb rfl zl_57 (tgt := 16) dX5_isDigit_9 (by decide) (fun c_2 => ?_) (fun c_2 => ?_)
    · refine lv_iconst (v := 0) hx hb dX5_isDigit_16 (by decide) ?_
      exact hRet () [] (Or.inr (⟨rfl, (by omega)⟩)) hP hD (by decide) rfl hS rfl dX5_isDigit_17
    · refine lv_iconst (v := 1) hx hb dX5_isDigit_12 (by decide) ?_
      refine lv_goto (tgt := 17) hx hb dX5_isDigit_13 (by decide) ?_
      exact hRet () [] (Or.inl ⟨rfl, (by omega), (by omega)⟩) hP hD (by decide) rfl hS rfl dX5_isDigit_17
set_option maxHeartbeats 4000000 in
set_option maxRecDepth 100000 in
theorem c_X5_nameOf (l : Launch) (D : va_G) (cI : ClassId) (h tx : Nat) (sz : Nat) (le : Int32) (at_ : Int32) (bd : Int32) (us : Int32) (fa : Int32) (fb : Int32) (fc : Int32) (a : Int32) (pre0 : a.toInt < 0) : Met l yX5_nameOf (gW yX5_nameOf cX5_nameOf 2 (some .int)) ({ frames := 0, cells := 0, slots := 0, locals := 0 } : Room) (kPre D cI [.ref h, .int a] [(h, .inr (5, [.ref tx, .int le, .int at_, .int bd, .int us, .int fa, .int fb, .int fc]))] sz) (va_Qi (fun (r : Int32) (u : Unit) => r = (-1)) (fun u t => kWd D cI (va_A [(h, .inr (5, [.ref tx, .int le, .int at_, .int bd, .int us, .int fa, .int fb, .int fc]))] sz) [(h, .inr (5, [.ref tx, .int le, .int at_, .int bd, .int us, .int fa, .int fb, .int fc]))] t) (va_A [(h, .inr (5, [.ref tx, .int le, .int at_, .int bd, .int us, .int fa, .int fb, .int fc]))] sz)) 0 0 (va_A [(h, .inr (5, [.ref tx, .int le, .int at_, .int bd, .int us, .int fa, .int fb, .int fc]))] sz) := by
  refine kMetI (own := RX5) (by decide) rfl (Nat.le_of_ble_eq_true rfl) ?_
  intro p e s m args below meth c hx hb hT hown hname hml A Q hK hP hD hS hA hN hRet ls hl
  have hl : lv_has ls 2 [(0, .ref h), (1, .int a)] := hl
  have lo_a := k_lo a
  have hi_a := k_hi a
  have lo_le := k_lo le
  have hi_le := k_hi le
  have lo_at_ := k_lo at_
  have hi_at_ := k_hi at_
  have lo_bd := k_lo bd
  have hi_bd := k_hi bd
  have lo_us := k_lo us
  have hi_us := k_hi us
  have lo_fa := k_lo fa
  have hi_fa := k_hi fa
  have lo_fb := k_lo fb
  have hi_fb := k_hi fb
  have lo_fc := k_lo fc
  have hi_fc := k_hi fc
  refine lv_iload_n hx hb dX5_nameOf_0 rfl (lv_at hl 1 rfl) ?_
  refine b_if_ge hx hb rfl (tgt := 6) dX5_nameOf_1 (by decide) (fun c_1 => by exfalso; omega) (fun c_1 => ?_)
  refine lv_iconst (v := (-1)) hx hb dX5_nameOf_4 (by decide) ?_
  exact hRet () [0] rfl hP hD (by decide) rfl hS rfl dX5_nameOf_5
set_option maxHeartbeats 4000000 in
set_option maxRecDepth 100000 in
theorem c_X5_part (l : Launch) (D : va_G) (cI : ClassId) (h tx : Nat) (sz : Nat) (le : Int32) (at_ : Int32) (bd : Int32) (us : Int32) (fa : Int32) (fb : Int32) (fc : Int32) (a : Int32) (pre0 : le.toInt = 0) : Met l yX5_part (gW yX5_part cX5_part 4 (some .int)) ({ frames := 1, cells := 0, slots := 0, locals := 21 } : Room) (kPre D cI [.ref h, .int a] [(h, .inr (5, [.ref tx, .int le, .int at_, .int bd, .int us, .int fa, .int fb, .int fc]))] sz) (va_Qi (fun (r : Int32) (u : Unit) => r = 0) (fun u t => kWd D cI (va_A [(h, .inr (5, [.ref tx, .int le, .int at_, .int bd, .int us, .int fa, .int fb, .int fc]))] sz) [(h, .inr (5, [.ref tx, .int le, .int at_, .int 1, .int us, .int fa, .int fb, .int fc]))] t) (va_A [(h, .inr (5, [.ref tx, .int le, .int at_, .int bd, .int us, .int fa, .int fb, .int fc]))] sz)) 0 0 (va_A [(h, .inr (5, [.ref tx, .int le, .int at_, .int bd, .int us, .int fa, .int fb, .int fc]))] sz) := by
  refine kMetI (own := RX5) (by decide) rfl (Nat.le_of_ble_eq_true rfl) ?_
  intro p e s m args below meth c hx hb hT hown hname hml A Q hK hP hD hS hA hN hRet ls hl
  have hl : lv_has ls 4 [(0, .ref h), (1, .int a)] := hl
  have lo_a := k_lo a
  have hi_a := k_hi a
  have lo_le := k_lo le
  have hi_le := k_hi le
  have lo_at_ := k_lo at_
  have hi_at_ := k_hi at_
  have lo_bd := k_lo bd
  have hi_bd := k_hi bd
  have lo_us := k_lo us
  have hi_us := k_hi us
  have lo_fa := k_lo fa
  have hi_fa := k_hi fa
  have lo_fb := k_lo fb
  have hi_fb := k_hi fb
  have lo_fc := k_lo fc
  have hi_fc := k_hi fc
  refine lv_aload_n hx hb dX5_part_0 rfl (lv_at hl 0 rfl) ?_
  refine kJi (wr := []) (va_runV (As := []) (rest := []) ⟨hx, hb, hml, hown, hT⟩ (c_X5_next l D cI h tx s.heap.size le at_ bd us fa fb fc (by first | omega | decide | assumption | rfl)) (cwV 0 hT (gV_in mw_484 mw_481 mw_483 mw_p1_11 mw_6) rfl rfl rfl (by decide +kernel) ⟨Nat.le_of_ble_eq_true rfl, Nat.le_of_ble_eq_true rfl⟩) (kRecv (own := "") (q0 := 0) (ci := 5) hK hP hD hN rfl rfl [0] rfl (by decide)) rfl rfl hl.1 rfl (lv_room (Nat.le_of_ble_eq_true rfl)) dX5_part_1 ⟨Nat.le_of_ble_eq_true rfl, Nat.le_of_ble_eq_true rfl⟩) hP hD hS hA [0] [] rfl rfl (by decide) (by decide) (fun r_1 u_3 H locs w_2 hP hD hS => ?_)
  have hP : va_P D vwCl [(h, .inr (5, [.ref tx, .int le, .int at_, .int bd, .int us, .int fa, .int fb, .int fc]))] H := hP
  have hD : va_D A [(h, .inr (5, [.ref tx, .int le, .int at_, .int bd, .int us, .int fa, .int fb, .int fc]))] := hD
  have hr_1 := w_2
  obtain rfl : r_1 = (-1) := hr_1.trans (by decide)
  refine lv_istore_n (lv' := [(2, .int (-1)), (0, .ref h), (1, .int a)]) hx hb dX5_part_4 rfl hl (by decide) rfl (fun ls hl => ?_)
  refine lv_iload_n hx hb dX5_part_5 rfl (lv_at hl 0 rfl) ?_
  refine kJi (wr := [(h, .inr (5, [.ref tx, .int le, .int at_, .int bd, .int us, .int fa, .int fb, .int fc]))]) (va_runS (As := [.int (-1)]) (rest := []) ⟨hx, hb, hml, hown, hT⟩ (c_X5_isDigit l D cI H.size (-1)) (cwS 1 hT (gS_in mw_487 mw_485 mw_486 mw_6) rfl rfl rfl (by decide +kernel) ⟨Nat.le_of_ble_eq_true rfl, Nat.le_of_ble_eq_true rfl⟩) (kStat hK hP hD hN [] rfl (by decide)) rfl rfl hl.1 rfl (lv_room (Nat.le_of_ble_eq_true rfl)) dX5_part_6 ⟨Nat.le_of_ble_eq_true rfl, Nat.le_of_ble_eq_true rfl⟩) hP hD hS hA [] [0] rfl rfl (by decide) (by decide) (fun r_4 u_6 H locs w_5 hP hD hS => ?_)
  have hP : va_P D vwCl [(h, .inr (5, [.ref tx, .int le, .int at_, .int bd, .int us, .int fa, .int fb, .int fc]))] H := hP
  have hD : va_D A [(h, .inr (5, [.ref tx, .int le, .int at_, .int bd, .int us, .int fa, .int fb, .int fc]))] := hD
  rcases w_5 with ⟨hr_4, h_7, h_8⟩ | ⟨hr_4, h_9⟩
  · (try simp only [zl_m1] at h_7 h_8); exfalso; omega
  · try simp only [zl_m1] at h_9
    obtain rfl : r_4 = 0 := hr_4.trans (by decide)
    refine b_if_eq hx hb zl_0 (tgt := 17) dX5_part_9 (by decide) (fun c_10 => ?_) (fun c_10 => by exfalso; omega)
    refine lv_iload_n hx hb dX5_part_17 rfl (lv_at hl 0 rfl) ?_
    refine lv_bipush (v := 45) hx hb dX5_part_18 (by decide) ?_
    refine b_icmp_eq hx hb zl_m1 zl_45 (tgt := 35) dX5_part_20 (by decide) (fun c_11 => by exfalso; omega) (fun c_11 => ?_)
    refine lv_iload_n hx hb dX5_part_23 rfl (lv_at hl 0 rfl) ?_
    refine lv_bipush (v := 33) hx hb dX5_part_24 (by decide) ?_
    refine b_icmp_eq hx hb zl_m1 zl_33 (tgt := 35) dX5_part_26 (by decide) (fun c_12 => by exfalso; omega) (fun c_12 => ?_)
    refine lv_iload_n hx hb dX5_part_29 rfl (lv_at hl 0 rfl) ?_
    refine lv_bipush (v := 40) hx hb dX5_part_30 (by decide) ?_
    refine b_icmp_ne hx hb zl_m1 zl_40 (tgt := 56) dX5_part_32 (by decide) (fun c_13 => ?_) (fun c_13 => by exfalso; omega)
    refine lv_aload_n hx hb dX5_part_56 rfl (lv_at hl 1 rfl) ?_
    refine lv_iload_n hx hb dX5_part_57 rfl (lv_at hl 0 rfl) ?_
    refine kJi (wr := []) (va_runV (As := [.int (-1)]) (rest := []) ⟨hx, hb, hml, hown, hT⟩ (c_X5_nameOf l D cI h tx H.size le at_ bd us fa fb fc (-1) (by first | omega | (simp only [zl_m1] <;> omega) | decide | assumption | rfl)) (cwV 1 hT (gV_in mw_506 mw_503 mw_505 mw_p1_15 mw_6) rfl rfl rfl (by decide +kernel) ⟨Nat.le_of_ble_eq_true rfl, Nat.le_of_ble_eq_true rfl⟩) (kRecv (own := "") (q0 := 0) (ci := 5) hK hP hD hN rfl rfl [0] rfl (by decide)) rfl rfl hl.1 rfl (lv_room (Nat.le_of_ble_eq_true rfl)) dX5_part_58 ⟨Nat.le_of_ble_eq_true rfl, Nat.le_of_ble_eq_true rfl⟩) hP hD hS hA [0] [] rfl rfl (by decide) (by decide) (fun r_14 u_16 H locs w_15 hP hD hS => ?_)
    have hP : va_P D vwCl [(h, .inr (5, [.ref tx, .int le, .int at_, .int bd, .int us, .int fa, .int fb, .int fc]))] H := hP
    have hD : va_D A [(h, .inr (5, [.ref tx, .int le, .int at_, .int bd, .int us, .int fa, .int fb, .int fc]))] := hD
    have hr_14 := w_15
    obtain rfl : r_14 = (-1) := hr_14.trans (by decide)
    refine lv_istore_n (lv' := [(3, .int (-1)), (2, .int (-1)), (0, .ref h), (1, .int a)]) hx hb dX5_part_61 rfl hl (by decide) rfl (fun ls hl => ?_)
    refine lv_iload_n hx hb dX5_part_62 rfl (lv_at hl 0 rfl) ?_
    refine b_if_ge hx hb zl_m1 (tgt := 71) dX5_part_63 (by decide) (fun c_17 => by exfalso; omega) (fun c_17 => ?_)
    refine lv_aload_n hx hb dX5_part_66 rfl (lv_at hl 2 rfl) ?_
    refine kJi (wr := []) (va_runV (As := []) (rest := []) ⟨hx, hb, hml, hown, hT⟩ (c_X5_fail l D cI h tx H.size le at_ bd us fa fb fc) (cwV 0 hT (gV_in mw_495 mw_492 mw_494 mw_p1_13 mw_6) rfl rfl rfl (by decide +kernel) ⟨Nat.le_of_ble_eq_true rfl, Nat.le_of_ble_eq_true rfl⟩) (kRecv (own := "") (q0 := 0) (ci := 5) hK hP hD hN rfl rfl [0] rfl (by decide)) rfl rfl hl.1 rfl (lv_room (Nat.le_of_ble_eq_true rfl)) dX5_part_67 ⟨Nat.le_of_ble_eq_true rfl, Nat.le_of_ble_eq_true rfl⟩) hP hD hS hA [0] [] rfl rfl (by decide) (by decide) (fun r_18 u_20 H locs w_19 hP hD hS => ?_)
    have hP : va_P D vwCl [(h, .inr (5, [.ref tx, .int le, .int at_, .int 1, .int us, .int fa, .int fb, .int fc]))] H := hP
    have hD : va_D A [(h, .inr (5, [.ref tx, .int le, .int at_, .int 1, .int us, .int fa, .int fb, .int fc]))] := hD
    have hr_18 := w_19
    obtain rfl : r_18 = 0 := hr_18.trans (by decide)
    exact hRet () [0] rfl hP hD (by decide) rfl hS rfl dX5_part_70
set_option maxHeartbeats 4000000 in
set_option maxRecDepth 100000 in
theorem c_X5_product (l : Launch) (D : va_G) (cI : ClassId) (h tx : Nat) (sz : Nat) (le : Int32) (at_ : Int32) (bd : Int32) (us : Int32) (fa : Int32) (fb : Int32) (fc : Int32) (a : Int32) (pre0 : le.toInt = 0) : Met l yX5_product (gW yX5_product cX5_product 6 (some .int)) ({ frames := 2, cells := 0, slots := 0, locals := 44 } : Room) (kPre D cI [.ref h, .int a] [(h, .inr (5, [.ref tx, .int le, .int at_, .int bd, .int us, .int fa, .int fb, .int fc]))] sz) (va_Qi (fun (r : Int32) (u : Unit) => r = 0) (fun u t => kWd D cI (va_A [(h, .inr (5, [.ref tx, .int le, .int at_, .int bd, .int us, .int fa, .int fb, .int fc]))] sz) [(h, .inr (5, [.ref tx, .int le, .int at_, .int 1, .int us, .int fa, .int fb, .int fc]))] t) (va_A [(h, .inr (5, [.ref tx, .int le, .int at_, .int bd, .int us, .int fa, .int fb, .int fc]))] sz)) 0 0 (va_A [(h, .inr (5, [.ref tx, .int le, .int at_, .int bd, .int us, .int fa, .int fb, .int fc]))] sz) := by
  refine kMetI (own := RX5) (by decide) rfl (Nat.le_of_ble_eq_true rfl) ?_
  intro p e s m args below meth c hx hb hT hown hname hml A Q hK hP hD hS hA hN hRet ls hl
  have hl : lv_has ls 6 [(0, .ref h), (1, .int a)] := hl
  have lo_a := k_lo a
  have hi_a := k_hi a
  have lo_le := k_lo le
  have hi_le := k_hi le
  have lo_at_ := k_lo at_
  have hi_at_ := k_hi at_
  have lo_bd := k_lo bd
  have hi_bd := k_hi bd
  have lo_us := k_lo us
  have hi_us := k_hi us
  have lo_fa := k_lo fa
  have hi_fa := k_hi fa
  have lo_fb := k_lo fb
  have hi_fb := k_hi fb
  have lo_fc := k_lo fc
  have hi_fc := k_hi fc
  refine lv_aload_n hx hb dX5_product_0 rfl (lv_at hl 0 rfl) ?_
  refine lv_iload_n hx hb dX5_product_1 rfl (lv_at hl 1 rfl) ?_
  refine kJi (wr := []) (va_runV (As := [.int a]) (rest := []) ⟨hx, hb, hml, hown, hT⟩ (c_X5_part l D cI h tx s.heap.size le at_ bd us fa fb fc a (by first | omega | decide | assumption | rfl)) (cwV 1 hT (gV_in mw_480 mw_477 mw_479 mw_p1_10 mw_6) rfl rfl rfl (by decide +kernel) ⟨Nat.le_of_ble_eq_true rfl, Nat.le_of_ble_eq_true rfl⟩) (kRecv (own := "") (q0 := 0) (ci := 5) hK hP hD hN rfl rfl [0] rfl (by decide)) rfl rfl hl.1 rfl (lv_room (Nat.le_of_ble_eq_true rfl)) dX5_product_2 ⟨Nat.le_of_ble_eq_true rfl, Nat.le_of_ble_eq_true rfl⟩) hP hD hS hA [0] [] rfl rfl (by decide) (by decide) (fun r_1 u_3 H locs w_2 hP hD hS => ?_)
  have hP : va_P D vwCl [(h, .inr (5, [.ref tx, .int le, .int at_, .int 1, .int us, .int fa, .int fb, .int fc]))] H := hP
  have hD : va_D A [(h, .inr (5, [.ref tx, .int le, .int at_, .int 1, .int us, .int fa, .int fb, .int fc]))] := hD
  have hr_1 := w_2
  obtain rfl : r_1 = 0 := hr_1.trans (by decide)
  refine lv_istore_n (lv' := [(2, .int 0), (0, .ref h), (1, .int a)]) hx hb dX5_product_5 rfl hl (by decide) rfl (fun ls hl => ?_)
  refine lv_iconst (v := 0) hx hb dX5_product_6 (by decide) ?_
  refine lv_istore_n (lv' := [(3, .int 0), (2, .int 0), (0, .ref h), (1, .int a)]) hx hb dX5_product_7 rfl hl (by decide) rfl (fun ls hl => ?_)
  refine lv_iload_n hx hb dX5_product_8 rfl (lv_at hl 0 rfl) ?_
  refine lv_bipush (v := 50) hx hb dX5_product_9 (by decide) ?_
  refine b_icmp_ge hx hb zl_0 zl_50 (tgt := 89) dX5_product_11 (by decide) (fun c_4 => by exfalso; omega) (fun c_4 => ?_)
  refine lv_aload_n hx hb dX5_product_14 rfl (lv_at hl 2 rfl) ?_
  refine kJi (wr := []) (va_runV (As := []) (rest := []) ⟨hx, hb, hml, hown, hT⟩ (c_X5_next l D cI h tx H.size le at_ 1 us fa fb fc (by first | omega | (simp only [zl_1] <;> omega) | decide | assumption | rfl)) (cwV 0 hT (gV_in mw_484 mw_481 mw_483 mw_p1_11 mw_6) rfl rfl rfl (by decide +kernel) ⟨Nat.le_of_ble_eq_true rfl, Nat.le_of_ble_eq_true rfl⟩) (kRecv (own := "") (q0 := 0) (ci := 5) hK hP hD hN rfl rfl [0] rfl (by decide)) rfl rfl hl.1 rfl (lv_room (Nat.le_of_ble_eq_true rfl)) dX5_product_15 ⟨Nat.le_of_ble_eq_true rfl, Nat.le_of_ble_eq_true rfl⟩) hP hD hS hA [0] [] rfl rfl (by decide) (by decide) (fun r_5 u_7 H locs w_6 hP hD hS => ?_)
  have hP : va_P D vwCl [(h, .inr (5, [.ref tx, .int le, .int at_, .int 1, .int us, .int fa, .int fb, .int fc]))] H := hP
  have hD : va_D A [(h, .inr (5, [.ref tx, .int le, .int at_, .int 1, .int us, .int fa, .int fb, .int fc]))] := hD
  have hr_5 := w_6
  obtain rfl : r_5 = (-1) := hr_5.trans (by decide)
  refine lv_bipush (v := 42) hx hb dX5_product_18 (by decide) ?_
  refine b_icmp_eq hx hb zl_m1 zl_42 (tgt := 32) dX5_product_20 (by decide) (fun c_8 => by exfalso; omega) (fun c_8 => ?_)
  refine lv_aload_n hx hb dX5_product_23 rfl (lv_at hl 2 rfl) ?_
  refine kJi (wr := []) (va_runV (As := []) (rest := []) ⟨hx, hb, hml, hown, hT⟩ (c_X5_next l D cI h tx H.size le at_ 1 us fa fb fc (by first | omega | (simp only [zl_1] <;> omega) | decide | assumption | rfl)) (cwV 0 hT (gV_in mw_484 mw_481 mw_483 mw_p1_11 mw_6) rfl rfl rfl (by decide +kernel) ⟨Nat.le_of_ble_eq_true rfl, Nat.le_of_ble_eq_true rfl⟩) (kRecv (own := "") (q0 := 0) (ci := 5) hK hP hD hN rfl rfl [0] rfl (by decide)) rfl rfl hl.1 rfl (lv_room (Nat.le_of_ble_eq_true rfl)) dX5_product_24 ⟨Nat.le_of_ble_eq_true rfl, Nat.le_of_ble_eq_true rfl⟩) hP hD hS hA [0] [] rfl rfl (by decide) (by decide) (fun r_9 u_11 H locs w_10 hP hD hS => ?_)
  have hP : va_P D vwCl [(h, .inr (5, [.ref tx, .int le, .int at_, .int 1, .int us, .int fa, .int fb, .int fc]))] H := hP
  have hD : va_D A [(h, .inr (5, [.ref tx, .int le, .int at_, .int 1, .int us, .int fa, .int fb, .int fc]))] := hD
  have hr_9 := w_10
  obtain rfl : r_9 = (-1) := hr_9.trans (by decide)
  refine lv_bipush (v := 37) hx hb dX5_product_27 (by decide) ?_
  refine b_icmp_ne hx hb zl_m1 zl_37 (tgt := 89) dX5_product_29 (by decide) (fun c_12 => ?_) (fun c_12 => by exfalso; omega)
  refine lv_iload_n hx hb dX5_product_89 rfl (lv_at hl 1 rfl) ?_
  exact hRet () [0] rfl hP hD (by decide) rfl hS rfl dX5_product_90
set_option maxHeartbeats 4000000 in
set_option maxRecDepth 100000 in
theorem c_X5_sum (l : Launch) (D : va_G) (cI : ClassId) (h tx : Nat) (sz : Nat) (le : Int32) (at_ : Int32) (bd : Int32) (us : Int32) (fa : Int32) (fb : Int32) (fc : Int32) (a : Int32) (pre0 : le.toInt = 0) : Met l yX5_sum (gW yX5_sum cX5_sum 6 (some .int)) ({ frames := 3, cells := 0, slots := 0, locals := 69 } : Room) (kPre D cI [.ref h, .int a] [(h, .inr (5, [.ref tx, .int le, .int at_, .int bd, .int us, .int fa, .int fb, .int fc]))] sz) (va_Qi (fun (r : Int32) (u : Unit) => r = 0) (fun u t => kWd D cI (va_A [(h, .inr (5, [.ref tx, .int le, .int at_, .int bd, .int us, .int fa, .int fb, .int fc]))] sz) [(h, .inr (5, [.ref tx, .int le, .int at_, .int 1, .int us, .int fa, .int fb, .int fc]))] t) (va_A [(h, .inr (5, [.ref tx, .int le, .int at_, .int bd, .int us, .int fa, .int fb, .int fc]))] sz)) 0 0 (va_A [(h, .inr (5, [.ref tx, .int le, .int at_, .int bd, .int us, .int fa, .int fb, .int fc]))] sz) := by
  refine kMetI (own := RX5) (by decide) rfl (Nat.le_of_ble_eq_true rfl) ?_
  intro p e s m args below meth c hx hb hT hown hname hml A Q hK hP hD hS hA hN hRet ls hl
  have hl : lv_has ls 6 [(0, .ref h), (1, .int a)] := hl
  have lo_a := k_lo a
  have hi_a := k_hi a
  have lo_le := k_lo le
  have hi_le := k_hi le
  have lo_at_ := k_lo at_
  have hi_at_ := k_hi at_
  have lo_bd := k_lo bd
  have hi_bd := k_hi bd
  have lo_us := k_lo us
  have hi_us := k_hi us
  have lo_fa := k_lo fa
  have hi_fa := k_hi fa
  have lo_fb := k_lo fb
  have hi_fb := k_hi fb
  have lo_fc := k_lo fc
  have hi_fc := k_hi fc
  refine lv_aload_n hx hb dX5_sum_0 rfl (lv_at hl 0 rfl) ?_
  refine lv_iload_n hx hb dX5_sum_1 rfl (lv_at hl 1 rfl) ?_
  refine kJi (wr := []) (va_runV (As := [.int a]) (rest := []) ⟨hx, hb, hml, hown, hT⟩ (c_X5_product l D cI h tx s.heap.size le at_ bd us fa fb fc a (by first | omega | decide | assumption | rfl)) (cwV 1 hT (gV_in mw_476 mw_473 mw_475 mw_p1_9 mw_6) rfl rfl rfl (by decide +kernel) ⟨Nat.le_of_ble_eq_true rfl, Nat.le_of_ble_eq_true rfl⟩) (kRecv (own := "") (q0 := 0) (ci := 5) hK hP hD hN rfl rfl [0] rfl (by decide)) rfl rfl hl.1 rfl (lv_room (Nat.le_of_ble_eq_true rfl)) dX5_sum_2 ⟨Nat.le_of_ble_eq_true rfl, Nat.le_of_ble_eq_true rfl⟩) hP hD hS hA [0] [] rfl rfl (by decide) (by decide) (fun r_1 u_3 H locs w_2 hP hD hS => ?_)
  have hP : va_P D vwCl [(h, .inr (5, [.ref tx, .int le, .int at_, .int 1, .int us, .int fa, .int fb, .int fc]))] H := hP
  have hD : va_D A [(h, .inr (5, [.ref tx, .int le, .int at_, .int 1, .int us, .int fa, .int fb, .int fc]))] := hD
  have hr_1 := w_2
  obtain rfl : r_1 = 0 := hr_1.trans (by decide)
  refine lv_istore_n (lv' := [(2, .int 0), (0, .ref h), (1, .int a)]) hx hb dX5_sum_5 rfl hl (by decide) rfl (fun ls hl => ?_)
  refine lv_iconst (v := 0) hx hb dX5_sum_6 (by decide) ?_
  refine lv_istore_n (lv' := [(3, .int 0), (2, .int 0), (0, .ref h), (1, .int a)]) hx hb dX5_sum_7 rfl hl (by decide) rfl (fun ls hl => ?_)
  refine lv_iload_n hx hb dX5_sum_8 rfl (lv_at hl 0 rfl) ?_
  refine lv_bipush (v := 50) hx hb dX5_sum_9 (by decide) ?_
  refine b_icmp_ge hx hb zl_0 zl_50 (tgt := 80) dX5_sum_11 (by decide) (fun c_4 => by exfalso; omega) (fun c_4 => ?_)
  refine lv_aload_n hx hb dX5_sum_14 rfl (lv_at hl 2 rfl) ?_
  refine kJi (wr := []) (va_runV (As := []) (rest := []) ⟨hx, hb, hml, hown, hT⟩ (c_X5_next l D cI h tx H.size le at_ 1 us fa fb fc (by first | omega | (simp only [zl_1] <;> omega) | decide | assumption | rfl)) (cwV 0 hT (gV_in mw_484 mw_481 mw_483 mw_p1_11 mw_6) rfl rfl rfl (by decide +kernel) ⟨Nat.le_of_ble_eq_true rfl, Nat.le_of_ble_eq_true rfl⟩) (kRecv (own := "") (q0 := 0) (ci := 5) hK hP hD hN rfl rfl [0] rfl (by decide)) rfl rfl hl.1 rfl (lv_room (Nat.le_of_ble_eq_true rfl)) dX5_sum_15 ⟨Nat.le_of_ble_eq_true rfl, Nat.le_of_ble_eq_true rfl⟩) hP hD hS hA [0] [] rfl rfl (by decide) (by decide) (fun r_5 u_7 H locs w_6 hP hD hS => ?_)
  have hP : va_P D vwCl [(h, .inr (5, [.ref tx, .int le, .int at_, .int 1, .int us, .int fa, .int fb, .int fc]))] H := hP
  have hD : va_D A [(h, .inr (5, [.ref tx, .int le, .int at_, .int 1, .int us, .int fa, .int fb, .int fc]))] := hD
  have hr_5 := w_6
  obtain rfl : r_5 = (-1) := hr_5.trans (by decide)
  refine lv_bipush (v := 43) hx hb dX5_sum_18 (by decide) ?_
  refine b_icmp_eq hx hb zl_m1 zl_43 (tgt := 32) dX5_sum_20 (by decide) (fun c_8 => by exfalso; omega) (fun c_8 => ?_)
  refine lv_aload_n hx hb dX5_sum_23 rfl (lv_at hl 2 rfl) ?_
  refine kJi (wr := []) (va_runV (As := []) (rest := []) ⟨hx, hb, hml, hown, hT⟩ (c_X5_next l D cI h tx H.size le at_ 1 us fa fb fc (by first | omega | (simp only [zl_1] <;> omega) | decide | assumption | rfl)) (cwV 0 hT (gV_in mw_484 mw_481 mw_483 mw_p1_11 mw_6) rfl rfl rfl (by decide +kernel) ⟨Nat.le_of_ble_eq_true rfl, Nat.le_of_ble_eq_true rfl⟩) (kRecv (own := "") (q0 := 0) (ci := 5) hK hP hD hN rfl rfl [0] rfl (by decide)) rfl rfl hl.1 rfl (lv_room (Nat.le_of_ble_eq_true rfl)) dX5_sum_24 ⟨Nat.le_of_ble_eq_true rfl, Nat.le_of_ble_eq_true rfl⟩) hP hD hS hA [0] [] rfl rfl (by decide) (by decide) (fun r_9 u_11 H locs w_10 hP hD hS => ?_)
  have hP : va_P D vwCl [(h, .inr (5, [.ref tx, .int le, .int at_, .int 1, .int us, .int fa, .int fb, .int fc]))] H := hP
  have hD : va_D A [(h, .inr (5, [.ref tx, .int le, .int at_, .int 1, .int us, .int fa, .int fb, .int fc]))] := hD
  have hr_9 := w_10
  obtain rfl : r_9 = (-1) := hr_9.trans (by decide)
  refine lv_bipush (v := 45) hx hb dX5_sum_27 (by decide) ?_
  refine b_icmp_ne hx hb zl_m1 zl_45 (tgt := 80) dX5_sum_29 (by decide) (fun c_12 => ?_) (fun c_12 => by exfalso; omega)
  refine lv_iload_n hx hb dX5_sum_80 rfl (lv_at hl 1 rfl) ?_
  exact hRet () [0] rfl hP hD (by decide) rfl hS rfl dX5_sum_81
set_option maxHeartbeats 4000000 in
set_option maxRecDepth 100000 in
theorem c_X5_compared (l : Launch) (D : va_G) (cI : ClassId) (h tx : Nat) (sz : Nat) (le : Int32) (at_ : Int32) (bd : Int32) (us : Int32) (fa : Int32) (fb : Int32) (fc : Int32) (a : Int32) (pre0 : le.toInt = 0) : Met l yX5_compared (gW yX5_compared cX5_compared 5 (some .int)) ({ frames := 4, cells := 0, slots := 0, locals := 94 } : Room) (kPre D cI [.ref h, .int a] [(h, .inr (5, [.ref tx, .int le, .int at_, .int bd, .int us, .int fa, .int fb, .int fc]))] sz) (va_Qi (fun (r : Int32) (u : Unit) => r = 0) (fun u t => kWd D cI (va_A [(h, .inr (5, [.ref tx, .int le, .int at_, .int bd, .int us, .int fa, .int fb, .int fc]))] sz) [(h, .inr (5, [.ref tx, .int le, .int at_, .int 1, .int us, .int fa, .int fb, .int fc]))] t) (va_A [(h, .inr (5, [.ref tx, .int le, .int at_, .int bd, .int us, .int fa, .int fb, .int fc]))] sz)) 0 0 (va_A [(h, .inr (5, [.ref tx, .int le, .int at_, .int bd, .int us, .int fa, .int fb, .int fc]))] sz) := by
  refine kMetI (own := RX5) (by decide) rfl (Nat.le_of_ble_eq_true rfl) ?_
  intro p e s m args below meth c hx hb hT hown hname hml A Q hK hP hD hS hA hN hRet ls hl
  have hl : lv_has ls 5 [(0, .ref h), (1, .int a)] := hl
  have lo_a := k_lo a
  have hi_a := k_hi a
  have lo_le := k_lo le
  have hi_le := k_hi le
  have lo_at_ := k_lo at_
  have hi_at_ := k_hi at_
  have lo_bd := k_lo bd
  have hi_bd := k_hi bd
  have lo_us := k_lo us
  have hi_us := k_hi us
  have lo_fa := k_lo fa
  have hi_fa := k_hi fa
  have lo_fb := k_lo fb
  have hi_fb := k_hi fb
  have lo_fc := k_lo fc
  have hi_fc := k_hi fc
  refine lv_aload_n hx hb dX5_compared_0 rfl (lv_at hl 0 rfl) ?_
  refine lv_iload_n hx hb dX5_compared_1 rfl (lv_at hl 1 rfl) ?_
  refine kJi (wr := []) (va_runV (As := [.int a]) (rest := []) ⟨hx, hb, hml, hown, hT⟩ (c_X5_sum l D cI h tx s.heap.size le at_ bd us fa fb fc a (by first | omega | decide | assumption | rfl)) (cwV 1 hT (gV_in mw_472 mw_469 mw_471 mw_p1_8 mw_6) rfl rfl rfl (by decide +kernel) ⟨Nat.le_of_ble_eq_true rfl, Nat.le_of_ble_eq_true rfl⟩) (kRecv (own := "") (q0 := 0) (ci := 5) hK hP hD hN rfl rfl [0] rfl (by decide)) rfl rfl hl.1 rfl (lv_room (Nat.le_of_ble_eq_true rfl)) dX5_compared_2 ⟨Nat.le_of_ble_eq_true rfl, Nat.le_of_ble_eq_true rfl⟩) hP hD hS hA [0] [] rfl rfl (by decide) (by decide) (fun r_1 u_3 H locs w_2 hP hD hS => ?_)
  have hP : va_P D vwCl [(h, .inr (5, [.ref tx, .int le, .int at_, .int 1, .int us, .int fa, .int fb, .int fc]))] H := hP
  have hD : va_D A [(h, .inr (5, [.ref tx, .int le, .int at_, .int 1, .int us, .int fa, .int fb, .int fc]))] := hD
  have hr_1 := w_2
  obtain rfl : r_1 = 0 := hr_1.trans (by decide)
  refine lv_istore_n (lv' := [(2, .int 0), (0, .ref h), (1, .int a)]) hx hb dX5_compared_5 rfl hl (by decide) rfl (fun ls hl => ?_)
  refine lv_aload_n hx hb dX5_compared_6 rfl (lv_at hl 1 rfl) ?_
  refine kJi (wr := []) (va_runV (As := []) (rest := []) ⟨hx, hb, hml, hown, hT⟩ (c_X5_next l D cI h tx H.size le at_ 1 us fa fb fc (by first | omega | (simp only [zl_1] <;> omega) | decide | assumption | rfl)) (cwV 0 hT (gV_in mw_484 mw_481 mw_483 mw_p1_11 mw_6) rfl rfl rfl (by decide +kernel) ⟨Nat.le_of_ble_eq_true rfl, Nat.le_of_ble_eq_true rfl⟩) (kRecv (own := "") (q0 := 0) (ci := 5) hK hP hD hN rfl rfl [0] rfl (by decide)) rfl rfl hl.1 rfl (lv_room (Nat.le_of_ble_eq_true rfl)) dX5_compared_7 ⟨Nat.le_of_ble_eq_true rfl, Nat.le_of_ble_eq_true rfl⟩) hP hD hS hA [0] [] rfl rfl (by decide) (by decide) (fun r_4 u_6 H locs w_5 hP hD hS => ?_)
  have hP : va_P D vwCl [(h, .inr (5, [.ref tx, .int le, .int at_, .int 1, .int us, .int fa, .int fb, .int fc]))] H := hP
  have hD : va_D A [(h, .inr (5, [.ref tx, .int le, .int at_, .int 1, .int us, .int fa, .int fb, .int fc]))] := hD
  have hr_4 := w_5
  obtain rfl : r_4 = (-1) := hr_4.trans (by decide)
  refine lv_istore_n (lv' := [(3, .int (-1)), (2, .int 0), (0, .ref h), (1, .int a)]) hx hb dX5_compared_10 rfl hl (by decide) rfl (fun ls hl => ?_)
  refine lv_iload_n hx hb dX5_compared_11 rfl (lv_at hl 0 rfl) ?_
  refine lv_bipush (v := 60) hx hb dX5_compared_12 (by decide) ?_
  refine b_icmp_eq hx hb zl_m1 zl_60 (tgt := 31) dX5_compared_14 (by decide) (fun c_7 => by exfalso; omega) (fun c_7 => ?_)
  refine lv_iload_n hx hb dX5_compared_17 rfl (lv_at hl 0 rfl) ?_
  refine lv_bipush (v := 61) hx hb dX5_compared_18 (by decide) ?_
  refine b_icmp_eq hx hb zl_m1 zl_61 (tgt := 31) dX5_compared_20 (by decide) (fun c_8 => by exfalso; omega) (fun c_8 => ?_)
  refine lv_iload_n hx hb dX5_compared_23 rfl (lv_at hl 0 rfl) ?_
  refine lv_bipush (v := 62) hx hb dX5_compared_24 (by decide) ?_
  refine b_icmp_eq hx hb zl_m1 zl_62 (tgt := 31) dX5_compared_26 (by decide) (fun c_9 => by exfalso; omega) (fun c_9 => ?_)
  refine lv_iload_n hx hb dX5_compared_29 rfl (lv_at hl 1 rfl) ?_
  exact hRet () [0] rfl hP hD (by decide) rfl hS rfl dX5_compared_30
set_option maxHeartbeats 4000000 in
set_option maxRecDepth 100000 in
theorem c_X5_both (l : Launch) (D : va_G) (cI : ClassId) (h tx : Nat) (sz : Nat) (le : Int32) (at_ : Int32) (bd : Int32) (us : Int32) (fa : Int32) (fb : Int32) (fc : Int32) (a : Int32) (pre0 : le.toInt = 0) : Met l yX5_both (gW yX5_both cX5_both 5 (some .int)) ({ frames := 5, cells := 0, slots := 0, locals := 118 } : Room) (kPre D cI [.ref h, .int a] [(h, .inr (5, [.ref tx, .int le, .int at_, .int bd, .int us, .int fa, .int fb, .int fc]))] sz) (va_Qi (fun (r : Int32) (u : Unit) => r = 0) (fun u t => kWd D cI (va_A [(h, .inr (5, [.ref tx, .int le, .int at_, .int bd, .int us, .int fa, .int fb, .int fc]))] sz) [(h, .inr (5, [.ref tx, .int le, .int at_, .int 1, .int us, .int fa, .int fb, .int fc]))] t) (va_A [(h, .inr (5, [.ref tx, .int le, .int at_, .int bd, .int us, .int fa, .int fb, .int fc]))] sz)) 0 0 (va_A [(h, .inr (5, [.ref tx, .int le, .int at_, .int bd, .int us, .int fa, .int fb, .int fc]))] sz) := by
  refine kMetI (own := RX5) (by decide) rfl (Nat.le_of_ble_eq_true rfl) ?_
  intro p e s m args below meth c hx hb hT hown hname hml A Q hK hP hD hS hA hN hRet ls hl
  have hl : lv_has ls 5 [(0, .ref h), (1, .int a)] := hl
  have lo_a := k_lo a
  have hi_a := k_hi a
  have lo_le := k_lo le
  have hi_le := k_hi le
  have lo_at_ := k_lo at_
  have hi_at_ := k_hi at_
  have lo_bd := k_lo bd
  have hi_bd := k_hi bd
  have lo_us := k_lo us
  have hi_us := k_hi us
  have lo_fa := k_lo fa
  have hi_fa := k_hi fa
  have lo_fb := k_lo fb
  have hi_fb := k_hi fb
  have lo_fc := k_lo fc
  have hi_fc := k_hi fc
  refine lv_aload_n hx hb dX5_both_0 rfl (lv_at hl 0 rfl) ?_
  refine lv_iload_n hx hb dX5_both_1 rfl (lv_at hl 1 rfl) ?_
  refine kJi (wr := []) (va_runV (As := [.int a]) (rest := []) ⟨hx, hb, hml, hown, hT⟩ (c_X5_compared l D cI h tx s.heap.size le at_ bd us fa fb fc a (by first | omega | decide | assumption | rfl)) (cwV 1 hT (gV_in mw_468 mw_465 mw_467 mw_p1_7 mw_6) rfl rfl rfl (by decide +kernel) ⟨Nat.le_of_ble_eq_true rfl, Nat.le_of_ble_eq_true rfl⟩) (kRecv (own := "") (q0 := 0) (ci := 5) hK hP hD hN rfl rfl [0] rfl (by decide)) rfl rfl hl.1 rfl (lv_room (Nat.le_of_ble_eq_true rfl)) dX5_both_2 ⟨Nat.le_of_ble_eq_true rfl, Nat.le_of_ble_eq_true rfl⟩) hP hD hS hA [0] [] rfl rfl (by decide) (by decide) (fun r_1 u_3 H locs w_2 hP hD hS => ?_)
  have hP : va_P D vwCl [(h, .inr (5, [.ref tx, .int le, .int at_, .int 1, .int us, .int fa, .int fb, .int fc]))] H := hP
  have hD : va_D A [(h, .inr (5, [.ref tx, .int le, .int at_, .int 1, .int us, .int fa, .int fb, .int fc]))] := hD
  have hr_1 := w_2
  obtain rfl : r_1 = 0 := hr_1.trans (by decide)
  refine lv_istore_n (lv' := [(2, .int 0), (0, .ref h), (1, .int a)]) hx hb dX5_both_5 rfl hl (by decide) rfl (fun ls hl => ?_)
  refine lv_iconst (v := 0) hx hb dX5_both_6 (by decide) ?_
  refine lv_istore_n (lv' := [(3, .int 0), (2, .int 0), (0, .ref h), (1, .int a)]) hx hb dX5_both_7 rfl hl (by decide) rfl (fun ls hl => ?_)
  refine lv_iload_n hx hb dX5_both_8 rfl (lv_at hl 0 rfl) ?_
  refine lv_bipush (v := 50) hx hb dX5_both_9 (by decide) ?_
  refine b_icmp_ge hx hb zl_0 zl_50 (tgt := 64) dX5_both_11 (by decide) (fun c_4 => by exfalso; omega) (fun c_4 => ?_)
  refine lv_aload_n hx hb dX5_both_14 rfl (lv_at hl 2 rfl) ?_
  refine kJi (wr := []) (va_runV (As := []) (rest := []) ⟨hx, hb, hml, hown, hT⟩ (c_X5_next l D cI h tx H.size le at_ 1 us fa fb fc (by first | omega | (simp only [zl_1] <;> omega) | decide | assumption | rfl)) (cwV 0 hT (gV_in mw_484 mw_481 mw_483 mw_p1_11 mw_6) rfl rfl rfl (by decide +kernel) ⟨Nat.le_of_ble_eq_true rfl, Nat.le_of_ble_eq_true rfl⟩) (kRecv (own := "") (q0 := 0) (ci := 5) hK hP hD hN rfl rfl [0] rfl (by decide)) rfl rfl hl.1 rfl (lv_room (Nat.le_of_ble_eq_true rfl)) dX5_both_15 ⟨Nat.le_of_ble_eq_true rfl, Nat.le_of_ble_eq_true rfl⟩) hP hD hS hA [0] [] rfl rfl (by decide) (by decide) (fun r_5 u_7 H locs w_6 hP hD hS => ?_)
  have hP : va_P D vwCl [(h, .inr (5, [.ref tx, .int le, .int at_, .int 1, .int us, .int fa, .int fb, .int fc]))] H := hP
  have hD : va_D A [(h, .inr (5, [.ref tx, .int le, .int at_, .int 1, .int us, .int fa, .int fb, .int fc]))] := hD
  have hr_5 := w_6
  obtain rfl : r_5 = (-1) := hr_5.trans (by decide)
  refine lv_bipush (v := 38) hx hb dX5_both_18 (by decide) ?_
  refine b_icmp_ne hx hb zl_m1 zl_38 (tgt := 64) dX5_both_20 (by decide) (fun c_8 => ?_) (fun c_8 => by exfalso; omega)
  refine lv_iload_n hx hb dX5_both_64 rfl (lv_at hl 1 rfl) ?_
  exact hRet () [0] rfl hP hD (by decide) rfl hS rfl dX5_both_65
set_option maxHeartbeats 4000000 in
set_option maxRecDepth 100000 in
theorem c_X5_either (l : Launch) (D : va_G) (cI : ClassId) (h tx : Nat) (sz : Nat) (le : Int32) (at_ : Int32) (bd : Int32) (us : Int32) (fa : Int32) (fb : Int32) (fc : Int32) (a : Int32) (pre0 : le.toInt = 0) : Met l yX5_either (gW yX5_either cX5_either 5 (some .int)) ({ frames := 6, cells := 0, slots := 0, locals := 142 } : Room) (kPre D cI [.ref h, .int a] [(h, .inr (5, [.ref tx, .int le, .int at_, .int bd, .int us, .int fa, .int fb, .int fc]))] sz) (va_Qi (fun (r : Int32) (u : Unit) => r = 0) (fun u t => kWd D cI (va_A [(h, .inr (5, [.ref tx, .int le, .int at_, .int bd, .int us, .int fa, .int fb, .int fc]))] sz) [(h, .inr (5, [.ref tx, .int le, .int at_, .int 1, .int us, .int fa, .int fb, .int fc]))] t) (va_A [(h, .inr (5, [.ref tx, .int le, .int at_, .int bd, .int us, .int fa, .int fb, .int fc]))] sz)) 0 0 (va_A [(h, .inr (5, [.ref tx, .int le, .int at_, .int bd, .int us, .int fa, .int fb, .int fc]))] sz) := by
  refine kMetI (own := RX5) (by decide) rfl (Nat.le_of_ble_eq_true rfl) ?_
  intro p e s m args below meth c hx hb hT hown hname hml A Q hK hP hD hS hA hN hRet ls hl
  have hl : lv_has ls 5 [(0, .ref h), (1, .int a)] := hl
  have lo_a := k_lo a
  have hi_a := k_hi a
  have lo_le := k_lo le
  have hi_le := k_hi le
  have lo_at_ := k_lo at_
  have hi_at_ := k_hi at_
  have lo_bd := k_lo bd
  have hi_bd := k_hi bd
  have lo_us := k_lo us
  have hi_us := k_hi us
  have lo_fa := k_lo fa
  have hi_fa := k_hi fa
  have lo_fb := k_lo fb
  have hi_fb := k_hi fb
  have lo_fc := k_lo fc
  have hi_fc := k_hi fc
  refine lv_aload_n hx hb dX5_either_0 rfl (lv_at hl 0 rfl) ?_
  refine lv_iload_n hx hb dX5_either_1 rfl (lv_at hl 1 rfl) ?_
  refine kJi (wr := []) (va_runV (As := [.int a]) (rest := []) ⟨hx, hb, hml, hown, hT⟩ (c_X5_both l D cI h tx s.heap.size le at_ bd us fa fb fc a (by first | omega | decide | assumption | rfl)) (cwV 1 hT (gV_in mw_464 mw_461 mw_463 mw_p1_6 mw_6) rfl rfl rfl (by decide +kernel) ⟨Nat.le_of_ble_eq_true rfl, Nat.le_of_ble_eq_true rfl⟩) (kRecv (own := "") (q0 := 0) (ci := 5) hK hP hD hN rfl rfl [0] rfl (by decide)) rfl rfl hl.1 rfl (lv_room (Nat.le_of_ble_eq_true rfl)) dX5_either_2 ⟨Nat.le_of_ble_eq_true rfl, Nat.le_of_ble_eq_true rfl⟩) hP hD hS hA [0] [] rfl rfl (by decide) (by decide) (fun r_1 u_3 H locs w_2 hP hD hS => ?_)
  have hP : va_P D vwCl [(h, .inr (5, [.ref tx, .int le, .int at_, .int 1, .int us, .int fa, .int fb, .int fc]))] H := hP
  have hD : va_D A [(h, .inr (5, [.ref tx, .int le, .int at_, .int 1, .int us, .int fa, .int fb, .int fc]))] := hD
  have hr_1 := w_2
  obtain rfl : r_1 = 0 := hr_1.trans (by decide)
  refine lv_istore_n (lv' := [(2, .int 0), (0, .ref h), (1, .int a)]) hx hb dX5_either_5 rfl hl (by decide) rfl (fun ls hl => ?_)
  refine lv_iconst (v := 0) hx hb dX5_either_6 (by decide) ?_
  refine lv_istore_n (lv' := [(3, .int 0), (2, .int 0), (0, .ref h), (1, .int a)]) hx hb dX5_either_7 rfl hl (by decide) rfl (fun ls hl => ?_)
  refine lv_iload_n hx hb dX5_either_8 rfl (lv_at hl 0 rfl) ?_
  refine lv_bipush (v := 50) hx hb dX5_either_9 (by decide) ?_
  refine b_icmp_ge hx hb zl_0 zl_50 (tgt := 64) dX5_either_11 (by decide) (fun c_4 => by exfalso; omega) (fun c_4 => ?_)
  refine lv_aload_n hx hb dX5_either_14 rfl (lv_at hl 2 rfl) ?_
  refine kJi (wr := []) (va_runV (As := []) (rest := []) ⟨hx, hb, hml, hown, hT⟩ (c_X5_next l D cI h tx H.size le at_ 1 us fa fb fc (by first | omega | (simp only [zl_1] <;> omega) | decide | assumption | rfl)) (cwV 0 hT (gV_in mw_484 mw_481 mw_483 mw_p1_11 mw_6) rfl rfl rfl (by decide +kernel) ⟨Nat.le_of_ble_eq_true rfl, Nat.le_of_ble_eq_true rfl⟩) (kRecv (own := "") (q0 := 0) (ci := 5) hK hP hD hN rfl rfl [0] rfl (by decide)) rfl rfl hl.1 rfl (lv_room (Nat.le_of_ble_eq_true rfl)) dX5_either_15 ⟨Nat.le_of_ble_eq_true rfl, Nat.le_of_ble_eq_true rfl⟩) hP hD hS hA [0] [] rfl rfl (by decide) (by decide) (fun r_5 u_7 H locs w_6 hP hD hS => ?_)
  have hP : va_P D vwCl [(h, .inr (5, [.ref tx, .int le, .int at_, .int 1, .int us, .int fa, .int fb, .int fc]))] H := hP
  have hD : va_D A [(h, .inr (5, [.ref tx, .int le, .int at_, .int 1, .int us, .int fa, .int fb, .int fc]))] := hD
  have hr_5 := w_6
  obtain rfl : r_5 = (-1) := hr_5.trans (by decide)
  refine lv_bipush (v := 124) hx hb dX5_either_18 (by decide) ?_
  refine b_icmp_ne hx hb zl_m1 zl_124 (tgt := 64) dX5_either_20 (by decide) (fun c_8 => ?_) (fun c_8 => by exfalso; omega)
  refine lv_iload_n hx hb dX5_either_64 rfl (lv_at hl 1 rfl) ?_
  exact hRet () [0] rfl hP hD (by decide) rfl hS rfl dX5_either_65
set_option maxHeartbeats 4000000 in
set_option maxRecDepth 100000 in
theorem c_X5_open (l : Launch) (D : va_G) (cI : ClassId) (h tx y : Nat) (sz : Nat) (le : Int32) (at_ : Int32) (bd : Int32) (us : Int32) (fa : Int32) (fb : Int32) (fc : Int32) (a : Int32) (b : Int32) (pre0 : b.toInt = 0) : Met l yX5_open (gW yX5_open cX5_open 5 none) ({ frames := 0, cells := 0, slots := 0, locals := 0 } : Room) (kPre D cI [.ref h, .ref y, .int a, .int b] [(h, .inr (5, [.ref tx, .int le, .int at_, .int bd, .int us, .int fa, .int fb, .int fc]))] sz) (va_Qv (fun (u : Unit) => True) (fun u t => kWd D cI (va_A [(h, .inr (5, [.ref tx, .int le, .int at_, .int bd, .int us, .int fa, .int fb, .int fc]))] sz) [(h, .inr (5, [.ref tx, .int 0, .int at_, .int bd, .int us, .int fa, .int fb, .int fc]))] t) (va_A [(h, .inr (5, [.ref tx, .int le, .int at_, .int bd, .int us, .int fa, .int fb, .int fc]))] sz)) 0 0 (va_A [(h, .inr (5, [.ref tx, .int le, .int at_, .int bd, .int us, .int fa, .int fb, .int fc]))] sz) := by
  refine kMetV (own := RX5) (by decide) rfl (Nat.le_of_ble_eq_true rfl) ?_
  intro p e s m args below meth c hx hb hT hown hname hml A Q hK hP hD hS hA hN hRet ls hl
  have hl : lv_has ls 5 [(0, .ref h), (1, .ref y), (2, .int a), (3, .int b)] := hl
  have lo_a := k_lo a
  have hi_a := k_hi a
  have lo_b := k_lo b
  have hi_b := k_hi b
  have lo_le := k_lo le
  have hi_le := k_hi le
  have lo_at_ := k_lo at_
  have hi_at_ := k_hi at_
  have lo_bd := k_lo bd
  have hi_bd := k_hi bd
  have lo_us := k_lo us
  have hi_us := k_hi us
  have lo_fa := k_lo fa
  have hi_fa := k_hi fa
  have lo_fb := k_lo fb
  have hi_fb := k_hi fb
  have lo_fc := k_lo fc
  have hi_fc := k_hi fc
  refine lv_aload_n hx hb dX5_open_0 rfl (lv_at hl 0 rfl) ?_
  refine lv_iconst (v := 0) hx hb dX5_open_1 (by decide) ?_
  refine va_put (D := D) (ci := 5) (v := .int 0) (ty := .int) (C := RX5) (T := TX5) (N := 8) hx hb hT giX5 tyX5 tyX5_ok nmX5 hown hK hP hD hS 0 rfl rfl 1 (by decide) (hT (Cond.fieldLink RX5 15 "DesertWire$Reader" "length" "I") mw_169) (fun _ h9 => h9) rfl (by decide +kernel) rfl rfl (Nat.le_of_ble_eq_true rfl) dX5_open_2 (fun H locs hP hD hS => ?_)
  have hP : va_P D vwCl [(h, .inr (5, [.ref tx, .int 0, .int at_, .int bd, .int us, .int fa, .int fb, .int fc]))] H := hP
  have hD : va_D A [(h, .inr (5, [.ref tx, .int 0, .int at_, .int bd, .int us, .int fa, .int fb, .int fc]))] := hD
  refine lv_iconst (v := 0) hx hb dX5_open_5 (by decide) ?_
  refine lv_istore (lv' := [(4, .int 0), (0, .ref h), (1, .ref y), (2, .int a), (3, .int b)]) hx hb dX5_open_6 hl (by decide) rfl (fun ls hl => ?_)
  refine lv_iload hx hb dX5_open_8 (lv_at hl 0 rfl) ?_
  refine lv_iload_n hx hb dX5_open_10 rfl (lv_at hl 4 rfl) ?_
  refine b_icmp_ge hx hb zl_0 rfl (tgt := 61) dX5_open_11 (by decide) (fun c_1 => ?_) (fun c_1 => by exfalso; omega)
  exact hRet () [0] trivial hP hD (by decide) rfl hS dX5_open_61
set_option maxHeartbeats 4000000 in
set_option maxRecDepth 100000 in
theorem c_X5_valueFor (l : Launch) (D : va_G) (cI : ClassId) (h tx : Nat) (sz : Nat) (at_ : Int32) (bd : Int32) (us : Int32) (fa : Int32) (fb : Int32) (fc : Int32) (a1 : Int32) (a2 : Int32) (a3 : Int32) (a4 : Int32) : Met l yX5_valueFor (gW yX5_valueFor cX5_valueFor 6 (some .int)) ({ frames := 7, cells := 0, slots := 0, locals := 166 } : Room) (kPre D cI [.ref h, .int a1, .int a2, .int a3, .int a4] [(h, .inr (5, [.ref tx, .int 0, .int at_, .int bd, .int us, .int fa, .int fb, .int fc]))] sz) (va_Qi (fun (r : Int32) (u : Unit) => r = 0) (fun u t => kWd D cI (va_A [(h, .inr (5, [.ref tx, .int 0, .int at_, .int bd, .int us, .int fa, .int fb, .int fc]))] sz) [(h, .inr (5, [.ref tx, .int 0, .int 0, .int 1, .int a1, .int a2, .int a3, .int a4]))] t) (va_A [(h, .inr (5, [.ref tx, .int 0, .int at_, .int bd, .int us, .int fa, .int fb, .int fc]))] sz)) 0 0 (va_A [(h, .inr (5, [.ref tx, .int 0, .int at_, .int bd, .int us, .int fa, .int fb, .int fc]))] sz) := by
  refine kMetI (own := RX5) (by decide) rfl (Nat.le_of_ble_eq_true rfl) ?_
  intro p e s m args below meth c hx hb hT hown hname hml A Q hK hP hD hS hA hN hRet ls hl
  have hl : lv_has ls 6 [(0, .ref h), (1, .int a1), (2, .int a2), (3, .int a3), (4, .int a4)] := hl
  have lo_a1 := k_lo a1
  have hi_a1 := k_hi a1
  have lo_a2 := k_lo a2
  have hi_a2 := k_hi a2
  have lo_a3 := k_lo a3
  have hi_a3 := k_hi a3
  have lo_a4 := k_lo a4
  have hi_a4 := k_hi a4
  have lo_at_ := k_lo at_
  have hi_at_ := k_hi at_
  have lo_bd := k_lo bd
  have hi_bd := k_hi bd
  have lo_us := k_lo us
  have hi_us := k_hi us
  have lo_fa := k_lo fa
  have hi_fa := k_hi fa
  have lo_fb := k_lo fb
  have hi_fb := k_hi fb
  have lo_fc := k_lo fc
  have hi_fc := k_hi fc
  refine lv_aload_n hx hb dX5_valueFor_0 rfl (lv_at hl 0 rfl) ?_
  refine lv_iload_n hx hb dX5_valueFor_1 rfl (lv_at hl 1 rfl) ?_
  refine va_put (D := D) (ci := 5) (v := .int a1) (ty := .int) (C := RX5) (T := TX5) (N := 8) hx hb hT giX5 tyX5 tyX5_ok nmX5 hown hK hP hD hS 0 rfl rfl 4 (by decide) (hT (Cond.fieldLink RX5 26 "DesertWire$Reader" "use" "I") mw_172) (fun _ h9 => h9) rfl (by decide +kernel) rfl rfl (Nat.le_of_ble_eq_true rfl) dX5_valueFor_2 (fun H locs hP hD hS => ?_)
  have hP : va_P D vwCl [(h, .inr (5, [.ref tx, .int 0, .int at_, .int bd, .int a1, .int fa, .int fb, .int fc]))] H := hP
  have hD : va_D A [(h, .inr (5, [.ref tx, .int 0, .int at_, .int bd, .int a1, .int fa, .int fb, .int fc]))] := hD
  refine lv_aload_n hx hb dX5_valueFor_5 rfl (lv_at hl 0 rfl) ?_
  refine lv_iload_n hx hb dX5_valueFor_6 rfl (lv_at hl 2 rfl) ?_
  refine va_put (D := D) (ci := 5) (v := .int a2) (ty := .int) (C := RX5) (T := TX5) (N := 8) hx hb hT giX5 tyX5 tyX5_ok nmX5 hown hK hP hD hS 0 rfl rfl 5 (by decide) (hT (Cond.fieldLink RX5 29 "DesertWire$Reader" "first" "I") mw_173) (fun _ h9 => h9) rfl (by decide +kernel) rfl rfl (Nat.le_of_ble_eq_true rfl) dX5_valueFor_7 (fun H locs hP hD hS => ?_)
  have hP : va_P D vwCl [(h, .inr (5, [.ref tx, .int 0, .int at_, .int bd, .int a1, .int a2, .int fb, .int fc]))] H := hP
  have hD : va_D A [(h, .inr (5, [.ref tx, .int 0, .int at_, .int bd, .int a1, .int a2, .int fb, .int fc]))] := hD
  refine lv_aload_n hx hb dX5_valueFor_10 rfl (lv_at hl 0 rfl) ?_
  refine lv_iload_n hx hb dX5_valueFor_11 rfl (lv_at hl 3 rfl) ?_
  refine va_put (D := D) (ci := 5) (v := .int a3) (ty := .int) (C := RX5) (T := TX5) (N := 8) hx hb hT giX5 tyX5 tyX5_ok nmX5 hown hK hP hD hS 0 rfl rfl 6 (by decide) (hT (Cond.fieldLink RX5 32 "DesertWire$Reader" "second" "I") mw_174) (fun _ h9 => h9) rfl (by decide +kernel) rfl rfl (Nat.le_of_ble_eq_true rfl) dX5_valueFor_12 (fun H locs hP hD hS => ?_)
  have hP : va_P D vwCl [(h, .inr (5, [.ref tx, .int 0, .int at_, .int bd, .int a1, .int a2, .int a3, .int fc]))] H := hP
  have hD : va_D A [(h, .inr (5, [.ref tx, .int 0, .int at_, .int bd, .int a1, .int a2, .int a3, .int fc]))] := hD
  refine lv_aload_n hx hb dX5_valueFor_15 rfl (lv_at hl 0 rfl) ?_
  refine lv_iload hx hb dX5_valueFor_16 (lv_at hl 4 rfl) ?_
  refine va_put (D := D) (ci := 5) (v := .int a4) (ty := .int) (C := RX5) (T := TX5) (N := 8) hx hb hT giX5 tyX5 tyX5_ok nmX5 hown hK hP hD hS 0 rfl rfl 7 (by decide) (hT (Cond.fieldLink RX5 35 "DesertWire$Reader" "third" "I") mw_175) (fun _ h9 => h9) rfl (by decide +kernel) rfl rfl (Nat.le_of_ble_eq_true rfl) dX5_valueFor_18 (fun H locs hP hD hS => ?_)
  have hP : va_P D vwCl [(h, .inr (5, [.ref tx, .int 0, .int at_, .int bd, .int a1, .int a2, .int a3, .int a4]))] H := hP
  have hD : va_D A [(h, .inr (5, [.ref tx, .int 0, .int at_, .int bd, .int a1, .int a2, .int a3, .int a4]))] := hD
  refine lv_aload_n hx hb dX5_valueFor_21 rfl (lv_at hl 0 rfl) ?_
  refine lv_iconst (v := 0) hx hb dX5_valueFor_22 (by decide) ?_
  refine va_put (D := D) (ci := 5) (v := .int 0) (ty := .int) (C := RX5) (T := TX5) (N := 8) hx hb hT giX5 tyX5 tyX5_ok nmX5 hown hK hP hD hS 0 rfl rfl 2 (by decide) (hT (Cond.fieldLink RX5 19 "DesertWire$Reader" "at" "I") mw_170) (fun _ h9 => h9) rfl (by decide +kernel) rfl rfl (Nat.le_of_ble_eq_true rfl) dX5_valueFor_23 (fun H locs hP hD hS => ?_)
  have hP : va_P D vwCl [(h, .inr (5, [.ref tx, .int 0, .int 0, .int bd, .int a1, .int a2, .int a3, .int a4]))] H := hP
  have hD : va_D A [(h, .inr (5, [.ref tx, .int 0, .int 0, .int bd, .int a1, .int a2, .int a3, .int a4]))] := hD
  refine lv_aload_n hx hb dX5_valueFor_26 rfl (lv_at hl 0 rfl) ?_
  refine lv_iconst (v := 0) hx hb dX5_valueFor_27 (by decide) ?_
  refine va_put (D := D) (ci := 5) (v := .int 0) (ty := .boolean) (C := RX5) (T := TX5) (N := 8) hx hb hT giX5 tyX5 tyX5_ok nmX5 hown hK hP hD hS 0 rfl rfl 3 (by decide) (hT (Cond.fieldLink RX5 22 "DesertWire$Reader" "bad" "Z") mw_171) (fun _ h9 => h9) rfl (by decide +kernel) rfl rfl (Nat.le_of_ble_eq_true rfl) dX5_valueFor_28 (fun H locs hP hD hS => ?_)
  have hP : va_P D vwCl [(h, .inr (5, [.ref tx, .int 0, .int 0, .int 0, .int a1, .int a2, .int a3, .int a4]))] H := hP
  have hD : va_D A [(h, .inr (5, [.ref tx, .int 0, .int 0, .int 0, .int a1, .int a2, .int a3, .int a4]))] := hD
  refine lv_aload_n hx hb dX5_valueFor_31 rfl (lv_at hl 0 rfl) ?_
  refine lv_iconst (v := 0) hx hb dX5_valueFor_32 (by decide) ?_
  refine kJi (wr := []) (va_runV (As := [.int 0]) (rest := []) ⟨hx, hb, hml, hown, hT⟩ (c_X5_either l D cI h tx H.size 0 0 0 a1 a2 a3 a4 0 (by first | omega | (simp only [zl_0] <;> omega) | decide | assumption | rfl)) (cwV 1 hT (gV_in mw_460 mw_457 mw_459 mw_p1_5 mw_6) rfl rfl rfl (by decide +kernel) ⟨Nat.le_of_ble_eq_true rfl, Nat.le_of_ble_eq_true rfl⟩) (kRecv (own := "") (q0 := 0) (ci := 5) hK hP hD hN rfl rfl [0] rfl (by decide)) rfl rfl hl.1 rfl (lv_room (Nat.le_of_ble_eq_true rfl)) dX5_valueFor_33 ⟨Nat.le_of_ble_eq_true rfl, Nat.le_of_ble_eq_true rfl⟩) hP hD hS hA [0] [] rfl rfl (by decide) (by decide) (fun r_1 u_3 H locs w_2 hP hD hS => ?_)
  have hP : va_P D vwCl [(h, .inr (5, [.ref tx, .int 0, .int 0, .int 1, .int a1, .int a2, .int a3, .int a4]))] H := hP
  have hD : va_D A [(h, .inr (5, [.ref tx, .int 0, .int 0, .int 1, .int a1, .int a2, .int a3, .int a4]))] := hD
  have hr_1 := w_2
  obtain rfl : r_1 = 0 := hr_1.trans (by decide)
  refine lv_istore (lv' := [(5, .int 0), (0, .ref h), (1, .int a1), (2, .int a2), (3, .int a3), (4, .int a4)]) hx hb dX5_valueFor_36 hl (by decide) rfl (fun ls hl => ?_)
  refine lv_aload_n hx hb dX5_valueFor_38 rfl (lv_at hl 1 rfl) ?_
  refine va_get (D := D) (ci := 5) (v := .int 0) (C := RX5) (T := TX5) (N := 8) hx hb hT giX5 hown hK hP 0 rfl rfl 2 (by decide) (hT (Cond.fieldLink RX5 19 "DesertWire$Reader" "at" "I") mw_170) (fun _ h9 => h9) rfl dX5_valueFor_39 ?_
  refine lv_aload_n hx hb dX5_valueFor_42 rfl (lv_at hl 1 rfl) ?_
  refine va_get (D := D) (ci := 5) (v := .int 0) (C := RX5) (T := TX5) (N := 8) hx hb hT giX5 hown hK hP 0 rfl rfl 1 (by decide) (hT (Cond.fieldLink RX5 15 "DesertWire$Reader" "length" "I") mw_169) (fun _ h9 => h9) rfl dX5_valueFor_43 ?_
  refine b_icmp_ge hx hb zl_0 zl_0 (tgt := 54) dX5_valueFor_46 (by decide) (fun c_4 => ?_) (fun c_4 => by exfalso; omega)
  refine lv_iload hx hb dX5_valueFor_54 (lv_at hl 0 rfl) ?_
  exact hRet () [0] rfl hP hD (by decide) rfl hS rfl dX5_valueFor_56
set_option maxHeartbeats 4000000 in
set_option maxRecDepth 100000 in
theorem c_X5_fault (l : Launch) (D : va_G) (cI : ClassId) (h tx : Nat) (sz : Nat) (us : Int32) (fa : Int32) (fb : Int32) (fc : Int32) : Met l yX5_fault (gW yX5_fault cX5_fault 1 (some .int)) ({ frames := 0, cells := 0, slots := 0, locals := 0 } : Room) (kPre D cI [.ref h] [(h, .inr (5, [.ref tx, .int 0, .int 0, .int 1, .int us, .int fa, .int fb, .int fc]))] sz) (va_Qi (fun (r : Int32) (u : Unit) => r = 0) (fun u t => kWd D cI (va_A [(h, .inr (5, [.ref tx, .int 0, .int 0, .int 1, .int us, .int fa, .int fb, .int fc]))] sz) [(h, .inr (5, [.ref tx, .int 0, .int 0, .int 1, .int us, .int fa, .int fb, .int fc]))] t) (va_A [(h, .inr (5, [.ref tx, .int 0, .int 0, .int 1, .int us, .int fa, .int fb, .int fc]))] sz)) 0 0 (va_A [(h, .inr (5, [.ref tx, .int 0, .int 0, .int 1, .int us, .int fa, .int fb, .int fc]))] sz) := by
  refine kMetI (own := RX5) (by decide) rfl (Nat.le_of_ble_eq_true rfl) ?_
  intro p e s m args below meth c hx hb hT hown hname hml A Q hK hP hD hS hA hN hRet ls hl
  have hl : lv_has ls 1 [(0, .ref h)] := hl
  have lo_us := k_lo us
  have hi_us := k_hi us
  have lo_fa := k_lo fa
  have hi_fa := k_hi fa
  have lo_fb := k_lo fb
  have hi_fb := k_hi fb
  have lo_fc := k_lo fc
  have hi_fc := k_hi fc
  refine lv_aload_n hx hb dX5_fault_0 rfl (lv_at hl 0 rfl) ?_
  refine va_get (D := D) (ci := 5) (v := .int 1) (C := RX5) (T := TX5) (N := 8) hx hb hT giX5 hown hK hP 0 rfl rfl 3 (by decide) (hT (Cond.fieldLink RX5 22 "DesertWire$Reader" "bad" "Z") mw_171) (fun _ h9 => h9) rfl dX5_fault_1 ?_
  refine b_if_eq hx hb zl_1 (tgt := 14) dX5_fault_4 (by decide) (fun c_1 => by exfalso; omega) (fun c_1 => ?_)
  refine lv_aload_n hx hb dX5_fault_7 rfl (lv_at hl 0 rfl) ?_
  refine va_get (D := D) (ci := 5) (v := .int 0) (C := RX5) (T := TX5) (N := 8) hx hb hT giX5 hown hK hP 0 rfl rfl 2 (by decide) (hT (Cond.fieldLink RX5 19 "DesertWire$Reader" "at" "I") mw_170) (fun _ h9 => h9) rfl dX5_fault_8 ?_
  refine lv_goto (tgt := 15) hx hb dX5_fault_11 (by decide) ?_
  exact hRet () [0] rfl hP hD (by decide) rfl hS rfl dX5_fault_15
set_option maxHeartbeats 4000000 in
set_option maxRecDepth 100000 in
theorem c_X6_bitsOf (l : Launch) (D : va_G) (cI : ClassId) (h sb sl sn : Nat) (sz : Nat) (a : Int32) : Met l yX6_bitsOf (gW yX6_bitsOf cX6_bitsOf 2 (some .int)) ({ frames := 1, cells := 0, slots := 0, locals := 20 } : Room) (kPre D cI [.ref h, .int a] [(h, .inr (6, [.ref sb, .ref sl, .ref sn])), (sb, .inl (cI, 4, .inl (fun _ => (0 : Int32))))] sz) (va_Qi (fun (r : Int32) (u : Unit) => r = 0) (fun u t => kWd D cI (va_A [(h, .inr (6, [.ref sb, .ref sl, .ref sn])), (sb, .inl (cI, 4, .inl (fun _ => (0 : Int32))))] sz) [(h, .inr (6, [.ref sb, .ref sl, .ref sn])), (sb, .inl (cI, 4, .inl (fun _ => (0 : Int32))))] t) (va_A [(h, .inr (6, [.ref sb, .ref sl, .ref sn])), (sb, .inl (cI, 4, .inl (fun _ => (0 : Int32))))] sz)) 0 0 (va_A [(h, .inr (6, [.ref sb, .ref sl, .ref sn])), (sb, .inl (cI, 4, .inl (fun _ => (0 : Int32))))] sz) := by
  refine kMetI (own := RX6) (by decide) rfl (Nat.le_of_ble_eq_true rfl) ?_
  intro p e s m args below meth c hx hb hT hown hname hml A Q hK hP hD hS hA hN hRet ls hl
  have hl : lv_has ls 2 [(0, .ref h), (1, .int a)] := hl
  have lo_a := k_lo a
  have hi_a := k_hi a
  refine lv_iload_n hx hb dX6_bitsOf_0 rfl (lv_at hl 1 rfl) ?_
  refine kJi (wr := [(h, .inr (6, [.ref sb, .ref sl, .ref sn])), (sb, .inl (cI, 4, .inl (fun _ => (0 : Int32))))]) (va_runSN (As := [.int a]) (rest := []) ⟨hx, hb, hml, hown, hT⟩ (c_X10_isSheet l D cI s.heap.size a) ⟨va_cnB 1 hT (gW_in mw_662) rfl rfl rfl (hN _ mw_671) (hT _ mw_1) (by decide +kernel) ⟨Nat.le_of_ble_eq_true rfl, Nat.le_of_ble_eq_true rfl⟩, hT _ mw_661, trivial⟩ (kStat hK hP hD hN [] rfl (by decide)) rfl rfl hl.1 rfl (lv_room (Nat.le_of_ble_eq_true rfl)) dX6_bitsOf_1 ⟨Nat.le_of_ble_eq_true rfl, Nat.le_of_ble_eq_true rfl⟩) hP hD hS hA [] [0, 1] rfl rfl (by decide) (by decide) (fun r_1 u_3 H locs w_2 hP hD hS => ?_)
  have hP : va_P D vwCl [(h, .inr (6, [.ref sb, .ref sl, .ref sn])), (sb, .inl (cI, 4, .inl (fun _ => (0 : Int32))))] H := hP
  have hD : va_D A [(h, .inr (6, [.ref sb, .ref sl, .ref sn])), (sb, .inl (cI, 4, .inl (fun _ => (0 : Int32))))] := hD
  rcases w_2 with ⟨hr_1, h_4, h_5⟩ | ⟨hr_1, h_6⟩
  · have h_4 : 0 ≤ a.toInt := h_4
    have h_5 : a.toInt ≤ 3 := h_5
    obtain rfl : r_1 = 1 := hr_1.trans (by decide)
    refine b_if_eq hx hb zl_1 (tgt := 16) dX6_bitsOf_4 (by decide) (fun c_7 => by exfalso; omega) (fun c_7 => ?_)
    refine lv_aload_n hx hb dX6_bitsOf_7 rfl (lv_at hl 0 rfl) ?_
    refine va_get (D := D) (ci := 6) (v := .ref sb) (C := RX6) (T := TX6) (N := 3) hx hb hT giX6 hown hK hP 0 rfl rfl 0 (by decide) (hT (Cond.fieldLink RX6 9 "DesertWire$Sheets" "bits" "[I") mw_281) (fun _ h9 => h9) rfl dX6_bitsOf_8 ?_
    refine lv_iload_n hx hb dX6_bitsOf_11 rfl (lv_at hl 1 rfl) ?_
    refine k_iald (v := 0) hx hb hK hP 1 0 rfl rfl (k_in (by omega) (by omega)) rfl dX6_bitsOf_12 ?_
    refine lv_goto (tgt := 17) hx hb dX6_bitsOf_13 (by decide) ?_
    exact hRet () [0, 1] rfl hP hD (by decide) rfl hS rfl dX6_bitsOf_17
  · have h_6 : a.toInt < 0 ∨ 3 < a.toInt := h_6
    obtain rfl : r_1 = 0 := hr_1.trans (by decide)
    refine b_if_eq hx hb zl_0 (tgt := 16) dX6_bitsOf_4 (by decide) (fun c_8 => ?_) (fun c_8 => by exfalso; omega)
    refine lv_iconst (v := 0) hx hb dX6_bitsOf_16 (by decide) ?_
    exact hRet () [0, 1] rfl hP hD (by decide) rfl hS rfl dX6_bitsOf_17
set_option maxHeartbeats 4000000 in
set_option maxRecDepth 100000 in
theorem c_X6_isMissing (l : Launch) (D : va_G) (cI : ClassId) (h sb sl sn : Nat) (sz : Nat) (a : Int32) : Met l yX6_isMissing (gW yX6_isMissing cX6_isMissing 2 (some .boolean)) ({ frames := 2, cells := 0, slots := 0, locals := 41 } : Room) (kPre D cI [.ref h, .int a] [(h, .inr (6, [.ref sb, .ref sl, .ref sn])), (sb, .inl (cI, 4, .inl (fun _ => (0 : Int32))))] sz) (va_Qi (fun (r : Int32) (u : Unit) => r = 1) (fun u t => kWd D cI (va_A [(h, .inr (6, [.ref sb, .ref sl, .ref sn])), (sb, .inl (cI, 4, .inl (fun _ => (0 : Int32))))] sz) [(h, .inr (6, [.ref sb, .ref sl, .ref sn])), (sb, .inl (cI, 4, .inl (fun _ => (0 : Int32))))] t) (va_A [(h, .inr (6, [.ref sb, .ref sl, .ref sn])), (sb, .inl (cI, 4, .inl (fun _ => (0 : Int32))))] sz)) 0 0 (va_A [(h, .inr (6, [.ref sb, .ref sl, .ref sn])), (sb, .inl (cI, 4, .inl (fun _ => (0 : Int32))))] sz) := by
  refine kMetI (own := RX6) (by decide) rfl (Nat.le_of_ble_eq_true rfl) ?_
  intro p e s m args below meth c hx hb hT hown hname hml A Q hK hP hD hS hA hN hRet ls hl
  have hl : lv_has ls 2 [(0, .ref h), (1, .int a)] := hl
  have lo_a := k_lo a
  have hi_a := k_hi a
  refine lv_aload_n hx hb dX6_isMissing_0 rfl (lv_at hl 0 rfl) ?_
  refine lv_iload_n hx hb dX6_isMissing_1 rfl (lv_at hl 1 rfl) ?_
  refine kJi (wr := []) (va_runV (As := [.int a]) (rest := []) ⟨hx, hb, hml, hown, hT⟩ (c_X6_bitsOf l D cI h sb sl sn s.heap.size a) (cwV 1 hT (gV_in mw_670 mw_667 mw_668 mw_669 mw_11) rfl rfl rfl (by decide +kernel) ⟨Nat.le_of_ble_eq_true rfl, Nat.le_of_ble_eq_true rfl⟩) (kRecv (own := "") (q0 := 0) (ci := 6) hK hP hD hN rfl rfl [0, 1] rfl (by decide)) rfl rfl hl.1 rfl (lv_room (Nat.le_of_ble_eq_true rfl)) dX6_isMissing_2 ⟨Nat.le_of_ble_eq_true rfl, Nat.le_of_ble_eq_true rfl⟩) hP hD hS hA [0, 1] [] rfl rfl (by decide) (by decide) (fun r_1 u_3 H locs w_2 hP hD hS => ?_)
  have hP : va_P D vwCl [(h, .inr (6, [.ref sb, .ref sl, .ref sn])), (sb, .inl (cI, 4, .inl (fun _ => (0 : Int32))))] H := hP
  have hD : va_D A [(h, .inr (6, [.ref sb, .ref sl, .ref sn])), (sb, .inl (cI, 4, .inl (fun _ => (0 : Int32))))] := hD
  have hr_1 := w_2
  obtain rfl : r_1 = 0 := hr_1.trans (by decide)
  refine b_if_ne hx hb zl_0 (tgt := 12) dX6_isMissing_5 (by decide) (fun c_4 => by exfalso; omega) (fun c_4 => ?_)
  refine lv_iconst (v := 1) hx hb dX6_isMissing_8 (by decide) ?_
  refine lv_goto (tgt := 13) hx hb dX6_isMissing_9 (by decide) ?_
  exact hRet () [0, 1] rfl hP hD (by decide) rfl hS rfl dX6_isMissing_13
set_option maxHeartbeats 4000000 in
set_option maxRecDepth 100000 in
theorem c_X6_blank (l : Launch) (D : va_G) (cI : ClassId) (h sb sl sn : Nat) (sz : Nat) (f0 : Nat → Int32) (f1 : Nat → Int32) (f2 : Nat → Int32) (a : Int32) (b : Int32) (n : Int32) (pre0 : 0 ≤ a.toInt) (pre1 : a.toInt ≤ 3) : Met l yX6_blank (gW yX6_blank cX6_blank 5 none) ({ frames := 1, cells := 0, slots := 0, locals := 20 } : Room) (kPre D cI [.ref h, .int a, .int b, .int n] [(h, .inr (6, [.ref sb, .ref sl, .ref sn])), (sb, .inl (cI, 4, .inl f0)), (sl, .inl (cI, 4, .inl f1)), (sn, .inl (cI, 144, .inl f2))] sz) (va_Qv (fun (u : Unit) => True) (fun u t => kWd D cI (va_A [(h, .inr (6, [.ref sb, .ref sl, .ref sn])), (sb, .inl (cI, 4, .inl f0)), (sl, .inl (cI, 4, .inl f1)), (sn, .inl (cI, 144, .inl f2))] sz) [] t) (va_A [(h, .inr (6, [.ref sb, .ref sl, .ref sn])), (sb, .inl (cI, 4, .inl f0)), (sl, .inl (cI, 4, .inl f1)), (sn, .inl (cI, 144, .inl f2))] sz)) 0 0 (va_A [(h, .inr (6, [.ref sb, .ref sl, .ref sn])), (sb, .inl (cI, 4, .inl f0)), (sl, .inl (cI, 4, .inl f1)), (sn, .inl (cI, 144, .inl f2))] sz) := by
  refine kMetV (own := RX6) (by decide) rfl (Nat.le_of_ble_eq_true rfl) ?_
  intro p e s m args below meth c hx hb hT hown hname hml A Q hK hP hD hS hA hN hRet ls hl
  have hl : lv_has ls 5 [(0, .ref h), (1, .int a), (2, .int b), (3, .int n)] := hl
  have lo_a := k_lo a
  have hi_a := k_hi a
  have lo_b := k_lo b
  have hi_b := k_hi b
  have lo_n := k_lo n
  have hi_n := k_hi n
  refine lv_iload_n hx hb dX6_blank_0 rfl (lv_at hl 1 rfl) ?_
  refine kJi (wr := [(h, .inr (6, [.ref sb, .ref sl, .ref sn])), (sb, .inl (cI, 4, .inl f0)), (sl, .inl (cI, 4, .inl f1)), (sn, .inl (cI, 144, .inl f2))]) (va_runSN (As := [.int a]) (rest := []) ⟨hx, hb, hml, hown, hT⟩ (c_X10_isSheet l D cI s.heap.size a) ⟨va_cnB 1 hT (gW_in mw_662) rfl rfl rfl (hN _ mw_671) (hT _ mw_1) (by decide +kernel) ⟨Nat.le_of_ble_eq_true rfl, Nat.le_of_ble_eq_true rfl⟩, hT _ mw_661, trivial⟩ (kStat hK hP hD hN [] rfl (by decide)) rfl rfl hl.1 rfl (lv_room (Nat.le_of_ble_eq_true rfl)) dX6_blank_1 ⟨Nat.le_of_ble_eq_true rfl, Nat.le_of_ble_eq_true rfl⟩) hP hD hS hA [] [0, 1, 2, 3] rfl rfl (by decide) (by decide) (fun r_1 u_3 H locs w_2 hP hD hS => ?_)
  have hP : va_P D vwCl [(h, .inr (6, [.ref sb, .ref sl, .ref sn])), (sb, .inl (cI, 4, .inl f0)), (sl, .inl (cI, 4, .inl f1)), (sn, .inl (cI, 144, .inl f2))] H := hP
  have hD : va_D A [(h, .inr (6, [.ref sb, .ref sl, .ref sn])), (sb, .inl (cI, 4, .inl f0)), (sl, .inl (cI, 4, .inl f1)), (sn, .inl (cI, 144, .inl f2))] := hD
  rcases w_2 with ⟨hr_1, h_4, h_5⟩ | ⟨hr_1, h_6⟩
  · have h_4 : 0 ≤ a.toInt := h_4
    have h_5 : a.toInt ≤ 3 := h_5
    obtain rfl : r_1 = 1 := hr_1.trans (by decide)
    refine b_if_eq hx hb zl_1 (tgt := 17) dX6_blank_4 (by decide) (fun c_7 => by exfalso; omega) (fun c_7 => ?_)
    refine lv_iload_n hx hb dX6_blank_7 rfl (lv_at hl 3 rfl) ?_
    refine b_if_lt hx hb rfl (tgt := 17) dX6_blank_8 (by decide) (fun c_8 => ?_) (fun c_8 => ?_)
    · exact hRet () [] trivial hP hD (by decide) rfl hS dX6_blank_17
    · refine lv_iload_n hx hb dX6_blank_11 rfl (lv_at hl 3 rfl) ?_
      refine lv_bipush (v := 36) hx hb dX6_blank_12 (by decide) ?_
      refine b_icmp_le hx hb rfl zl_36 (tgt := 18) dX6_blank_14 (by decide) (fun c_9 => ?_) (fun c_9 => ?_)
      · refine lv_aload_n hx hb dX6_blank_18 rfl (lv_at hl 0 rfl) ?_
        refine va_get (D := D) (ci := 6) (v := .ref sb) (C := RX6) (T := TX6) (N := 3) hx hb hT giX6 hown hK hP 0 rfl rfl 0 (by decide) (hT (Cond.fieldLink RX6 9 "DesertWire$Sheets" "bits" "[I") mw_281) (fun _ h9 => h9) rfl dX6_blank_19 ?_
        refine lv_iload_n hx hb dX6_blank_22 rfl (lv_at hl 1 rfl) ?_
        refine lv_iload_n hx hb dX6_blank_23 rfl (lv_at hl 2 rfl) ?_
        refine va_iast hx hb hK hP hD hS 1 0 rfl rfl (k_in (by omega) (by omega)) dX6_blank_24 (fun H locs hP hD hS => ?_)
        have hP : va_P D vwCl [(h, .inr (6, [.ref sb, .ref sl, .ref sn])), (sb, .inl (cI, 4, .inl (upd f0 a.toNatClampNeg b))), (sl, .inl (cI, 4, .inl f1)), (sn, .inl (cI, 144, .inl f2))] H := hP
        have hD : va_D A [(h, .inr (6, [.ref sb, .ref sl, .ref sn])), (sb, .inl (cI, 4, .inl (upd f0 a.toNatClampNeg b))), (sl, .inl (cI, 4, .inl f1)), (sn, .inl (cI, 144, .inl f2))] := hD
        obtain ⟨f_10, ef_10⟩ : ∃ g : Nat → Int32, g = upd f0 a.toNatClampNeg b := ⟨_, rfl⟩
        rw [← ef_10] at hP hD
        refine lv_aload_n hx hb dX6_blank_25 rfl (lv_at hl 0 rfl) ?_
        refine va_get (D := D) (ci := 6) (v := .ref sl) (C := RX6) (T := TX6) (N := 3) hx hb hT giX6 hown hK hP 0 rfl rfl 1 (by decide) (hT (Cond.fieldLink RX6 15 "DesertWire$Sheets" "lengths" "[I") mw_282) (fun _ h9 => h9) rfl dX6_blank_26 ?_
        refine lv_iload_n hx hb dX6_blank_29 rfl (lv_at hl 1 rfl) ?_
        refine lv_iload_n hx hb dX6_blank_30 rfl (lv_at hl 3 rfl) ?_
        refine va_iast hx hb hK hP hD hS 2 0 rfl rfl (k_in (by omega) (by omega)) dX6_blank_31 (fun H locs hP hD hS => ?_)
        have hP : va_P D vwCl [(h, .inr (6, [.ref sb, .ref sl, .ref sn])), (sb, .inl (cI, 4, .inl f_10)), (sl, .inl (cI, 4, .inl (upd f1 a.toNatClampNeg n))), (sn, .inl (cI, 144, .inl f2))] H := hP
        have hD : va_D A [(h, .inr (6, [.ref sb, .ref sl, .ref sn])), (sb, .inl (cI, 4, .inl f_10)), (sl, .inl (cI, 4, .inl (upd f1 a.toNatClampNeg n))), (sn, .inl (cI, 144, .inl f2))] := hD
        obtain ⟨f_11, ef_11⟩ : ∃ g : Nat → Int32, g = upd f1 a.toNatClampNeg n := ⟨_, rfl⟩
        rw [← ef_11] at hP hD
        refine lv_iconst (v := 0) hx hb dX6_blank_32 (by decide) ?_
        refine lv_istore (lv' := [(4, .int 0), (0, .ref h), (1, .int a), (2, .int b), (3, .int n)]) hx hb dX6_blank_33 hl (by decide) rfl (fun ls hl => ?_)
        have hloop_35 : ∀ (fu_ : Nat) (i : Int32) (q : Nat → Int32), 0 ≤ i.toInt → i.toInt ≤ 36 → (36 - i.toInt).toNat < fu_ → ∀ (ls : Array Slot) (H : Heap) (locs : List Loc), lv_has ls 5 [(4, .int i), (0, .ref h), (1, .int a), (2, .int b), (3, .int n)] → va_P D vwCl [(h, .inr (6, [.ref sb, .ref sl, .ref sn])), (sb, .inl (cI, 4, .inl f_10)), (sl, .inl (cI, 4, .inl f_11)), (sn, .inl (cI, 144, .inl q))] H → va_D A [(h, .inr (6, [.ref sb, .ref sl, .ref sn])), (sb, .inl (cI, 4, .inl f_10)), (sl, .inl (cI, 4, .inl f_11)), (sn, .inl (cI, 144, .inl q))] → va_S A s.heap H locs → W p l e ({ frames := 1, cells := 0, slots := 0, locals := 20 } : Room) s m args below meth c H locs 0 0 Q (F0 m 35 ls []) := by
          intro fu_; induction fu_ with
          | zero => intro i q i35_0 i35_1 hm; exact absurd hm (by omega)
          | succ fu_ ih35 =>
              intro i q i35_0 i35_1 hm ls H locs hl hP hD hS
              have lo_i := k_lo i
              have hi_i := k_hi i
              refine lv_iload hx hb dX6_blank_35 (lv_at hl 0 rfl) ?_
              refine lv_bipush (v := 36) hx hb dX6_blank_37 (by decide) ?_
              refine b_icmp_ge hx hb rfl zl_36 (tgt := 61) dX6_blank_39 (by decide) (fun c_12 => ?_) (fun c_12 => ?_)
              · exact hRet () [] trivial hP hD (by decide) rfl hS dX6_blank_61
              · refine lv_aload_n hx hb dX6_blank_42 rfl (lv_at hl 1 rfl) ?_
                refine va_get (D := D) (ci := 6) (v := .ref sn) (C := RX6) (T := TX6) (N := 3) hx hb hT giX6 hown hK hP 0 rfl rfl 2 (by decide) (hT (Cond.fieldLink RX6 18 "DesertWire$Sheets" "numbers" "[I") mw_283) (fun _ h9 => h9) rfl dX6_blank_43 ?_
                refine lv_iload_n hx hb dX6_blank_46 rfl (lv_at hl 2 rfl) ?_
                refine lv_bipush (v := 36) hx hb dX6_blank_47 (by decide) ?_
                refine lv_imul hx hb dX6_blank_49 ?_
                refine lv_topi (fun v_13 ev_13 => ?_)
                have tv_13 : v_13.toInt = a.toInt * 36 := by rw [ev_13]; exact k_mulv rfl zl_36 (by omega) (by omega)
                refine lv_iload hx hb dX6_blank_50 (lv_at hl 0 rfl) ?_
                refine lv_iadd hx hb dX6_blank_52 ?_
                refine lv_topi (fun v_14 ev_14 => ?_)
                have tv_14 : v_14.toInt = v_13.toInt + i.toInt := by rw [ev_14]; exact k_addv rfl rfl (by omega) (by omega)
                refine lv_iconst (v := 0) hx hb dX6_blank_53 (by decide) ?_
                refine va_iast hx hb hK hP hD hS 3 0 rfl rfl (k_in (by omega) (by omega)) dX6_blank_54 (fun H locs hP hD hS => ?_)
                have hP : va_P D vwCl [(h, .inr (6, [.ref sb, .ref sl, .ref sn])), (sb, .inl (cI, 4, .inl f_10)), (sl, .inl (cI, 4, .inl f_11)), (sn, .inl (cI, 144, .inl (upd q v_14.toNatClampNeg 0)))] H := hP
                have hD : va_D A [(h, .inr (6, [.ref sb, .ref sl, .ref sn])), (sb, .inl (cI, 4, .inl f_10)), (sl, .inl (cI, 4, .inl f_11)), (sn, .inl (cI, 144, .inl (upd q v_14.toNatClampNeg 0)))] := hD
                obtain ⟨f_15, ef_15⟩ : ∃ g : Nat → Int32, g = upd q v_14.toNatClampNeg 0 := ⟨_, rfl⟩
                rw [← ef_15] at hP hD
                obtain ⟨v_16, ev_16⟩ : ∃ y : Int32, y = i + 1 := ⟨_, rfl⟩
                have tv_16 : v_16.toInt = i.toInt + 1 := by rw [ev_16]; exact k_addv rfl zl_1 (by omega) (by omega)
                refine lv_iinc (v := v_16) (lv' := [(4, .int v_16), (0, .ref h), (1, .int a), (2, .int b), (3, .int n)]) hx hb dX6_blank_55 hl (k := 0) rfl (by rw [ev_16]; rfl) (by decide) rfl (fun ls hl => ?_)
                refine lv_goto (tgt := 35) hx hb dX6_blank_58 (by decide) ?_
                exact ih35 v_16 f_15 (by first | omega | decide | assumption | rfl) (by first | omega | decide | assumption | rfl) (by omega) ls _ _ (lv_sub hl [0, 1, 2, 3, 4] rfl) (hP.sub [0, 1, 2, 3] rfl) (hD.sub [0, 1, 2, 3] (by decide) rfl) hS
        exact hloop_35 _ 0 f2 (by first | omega | (simp only [zl_0] <;> omega) | decide | assumption | rfl) (by first | omega | (simp only [zl_0] <;> omega) | decide | assumption | rfl) (Nat.lt_succ_self _) ls _ _ (lv_sub hl [0, 1, 2, 3, 4] rfl) hP hD hS
      · exact hRet () [] trivial hP hD (by decide) rfl hS dX6_blank_17
  · exfalso; omega
