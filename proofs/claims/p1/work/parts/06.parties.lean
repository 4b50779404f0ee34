theorem dX3_add_0 : decode cX3_add 0 = .ok (.aload_n 0, 1) := by decide +kernel
theorem dX3_add_1 : decode cX3_add 1 = .ok (.invokevirtual 25, 3) := by decide +kernel
theorem dX3_add_4 : decode cX3_add 4 = .ok (.ifCond .ne 5, 3) := by decide +kernel
theorem dX3_add_9 : decode cX3_add 9 = .ok (.iconst 0, 1) := by decide +kernel
theorem dX3_add_10 : decode cX3_add 10 = .ok (.istore_n 1, 1) := by decide +kernel
theorem dX3_add_11 : decode cX3_add 11 = .ok (.iload_n 1, 1) := by decide +kernel
theorem dX3_add_12 : decode cX3_add 12 = .ok (.bipush 9, 2) := by decide +kernel
theorem dX3_add_14 : decode cX3_add 14 = .ok (.if_icmp .ge 24, 3) := by decide +kernel
theorem dX3_add_17 : decode cX3_add 17 = .ok (.aload_n 0, 1) := by decide +kernel
theorem dX3_add_18 : decode cX3_add 18 = .ok (.getfield 9, 3) := by decide +kernel
theorem dX3_add_21 : decode cX3_add 21 = .ok (.aload_n 0, 1) := by decide +kernel
theorem dX3_add_22 : decode cX3_add 22 = .ok (.getfield 15, 3) := by decide +kernel
theorem dX3_add_25 : decode cX3_add 25 = .ok (.bipush 9, 2) := by decide +kernel
theorem dX3_add_27 : decode cX3_add 27 = .ok (.imul, 1) := by decide +kernel
theorem dX3_add_28 : decode cX3_add 28 = .ok (.iload_n 1, 1) := by decide +kernel
theorem dX3_add_29 : decode cX3_add 29 = .ok (.iadd, 1) := by decide +kernel
theorem dX3_add_30 : decode cX3_add 30 = .ok (.iconst 0, 1) := by decide +kernel
theorem dX3_add_31 : decode cX3_add 31 = .ok (.iastore, 1) := by decide +kernel
theorem dX3_add_32 : decode cX3_add 32 = .ok (.iinc 1 1, 3) := by decide +kernel
theorem dX3_add_35 : decode cX3_add 35 = .ok (.goto (-24), 3) := by decide +kernel
theorem dX3_add_38 : decode cX3_add 38 = .ok (.aload_n 0, 1) := by decide +kernel
theorem dX3_add_39 : decode cX3_add 39 = .ok (.dup, 1) := by decide +kernel
theorem dX3_add_40 : decode cX3_add 40 = .ok (.getfield 15, 3) := by decide +kernel
theorem dX3_add_43 : decode cX3_add 43 = .ok (.iconst 1, 1) := by decide +kernel
theorem dX3_add_44 : decode cX3_add 44 = .ok (.iadd, 1) := by decide +kernel
theorem dX3_add_45 : decode cX3_add 45 = .ok (.putfield 15, 3) := by decide +kernel
theorem dX3_add_48 : decode cX3_add 48 = .ok (.aload_n 0, 1) := by decide +kernel
theorem dX3_add_49 : decode cX3_add 49 = .ok (.getfield 15, 3) := by decide +kernel
theorem dX3_add_52 : decode cX3_add 52 = .ok (.iconst 1, 1) := by decide +kernel
theorem dX3_add_53 : decode cX3_add 53 = .ok (.isub, 1) := by decide +kernel
theorem dX3_add_54 : decode cX3_add 54 = .ok (.ireturn, 1) := by decide +kernel
theorem dX3_allMen_0 : decode cX3_allMen 0 = .ok (.iconst 0, 1) := by decide +kernel
theorem dX3_allMen_1 : decode cX3_allMen 1 = .ok (.istore_n 1, 1) := by decide +kernel
theorem dX3_allMen_2 : decode cX3_allMen 2 = .ok (.iconst 0, 1) := by decide +kernel
theorem dX3_allMen_3 : decode cX3_allMen 3 = .ok (.istore_n 2, 1) := by decide +kernel
theorem dX3_allMen_4 : decode cX3_allMen 4 = .ok (.iload_n 2, 1) := by decide +kernel
theorem dX3_allMen_5 : decode cX3_allMen 5 = .ok (.aload_n 0, 1) := by decide +kernel
theorem dX3_allMen_6 : decode cX3_allMen 6 = .ok (.getfield 15, 3) := by decide +kernel
theorem dX3_allMen_9 : decode cX3_allMen 9 = .ok (.if_icmp .ge 18, 3) := by decide +kernel
theorem dX3_allMen_27 : decode cX3_allMen 27 = .ok (.iload_n 1, 1) := by decide +kernel
theorem dX3_allMen_28 : decode cX3_allMen 28 = .ok (.ireturn, 1) := by decide +kernel
theorem dX3_copyFrom_0 : decode cX3_copyFrom 0 = .ok (.aload_n 1, 1) := by decide +kernel
theorem dX3_copyFrom_1 : decode cX3_copyFrom 1 = .ok (.getfield 9, 3) := by decide +kernel
theorem dX3_copyFrom_4 : decode cX3_copyFrom 4 = .ok (.iconst 0, 1) := by decide +kernel
theorem dX3_copyFrom_5 : decode cX3_copyFrom 5 = .ok (.aload_n 0, 1) := by decide +kernel
theorem dX3_copyFrom_6 : decode cX3_copyFrom 6 = .ok (.getfield 9, 3) := by decide +kernel
theorem dX3_copyFrom_9 : decode cX3_copyFrom 9 = .ok (.iconst 0, 1) := by decide +kernel
theorem dX3_copyFrom_10 : decode cX3_copyFrom 10 = .ok (.bipush 36, 2) := by decide +kernel
theorem dX3_copyFrom_12 : decode cX3_copyFrom 12 = .ok (.invokestatic 19, 3) := by decide +kernel
theorem dX3_copyFrom_15 : decode cX3_copyFrom 15 = .ok (.aload_n 0, 1) := by decide +kernel
theorem dX3_copyFrom_16 : decode cX3_copyFrom 16 = .ok (.aload_n 1, 1) := by decide +kernel
theorem dX3_copyFrom_17 : decode cX3_copyFrom 17 = .ok (.getfield 15, 3) := by decide +kernel
theorem dX3_copyFrom_20 : decode cX3_copyFrom 20 = .ok (.putfield 15, 3) := by decide +kernel
theorem dX3_copyFrom_23 : decode cX3_copyFrom 23 = .ok (.return_, 1) := by decide +kernel
theorem dX3_has_0 : decode cX3_has 0 = .ok (.iload_n 1, 1) := by decide +kernel
theorem dX3_has_1 : decode cX3_has 1 = .ok (.ifCond .lt 20, 3) := by decide +kernel
theorem dX3_has_4 : decode cX3_has 4 = .ok (.iload_n 1, 1) := by decide +kernel
theorem dX3_has_5 : decode cX3_has 5 = .ok (.aload_n 0, 1) := by decide +kernel
theorem dX3_has_6 : decode cX3_has 6 = .ok (.getfield 15, 3) := by decide +kernel
theorem dX3_has_9 : decode cX3_has 9 = .ok (.if_icmp .ge 12, 3) := by decide +kernel
theorem dX3_has_12 : decode cX3_has 12 = .ok (.iload_n 1, 1) := by decide +kernel
theorem dX3_has_13 : decode cX3_has 13 = .ok (.iconst 4, 1) := by decide +kernel
theorem dX3_has_14 : decode cX3_has 14 = .ok (.if_icmp .ge 7, 3) := by decide +kernel
theorem dX3_has_17 : decode cX3_has 17 = .ok (.iconst 1, 1) := by decide +kernel
theorem dX3_has_18 : decode cX3_has 18 = .ok (.goto 4, 3) := by decide +kernel
theorem dX3_has_21 : decode cX3_has 21 = .ok (.iconst 0, 1) := by decide +kernel
theorem dX3_has_22 : decode cX3_has 22 = .ok (.ireturn, 1) := by decide +kernel
theorem dX3_hasRoom_0 : decode cX3_hasRoom 0 = .ok (.aload_n 0, 1) := by decide +kernel
theorem dX3_hasRoom_1 : decode cX3_hasRoom 1 = .ok (.getfield 15, 3) := by decide +kernel
theorem dX3_hasRoom_4 : decode cX3_hasRoom 4 = .ok (.ifCond .lt 15, 3) := by decide +kernel
theorem dX3_hasRoom_7 : decode cX3_hasRoom 7 = .ok (.aload_n 0, 1) := by decide +kernel
theorem dX3_hasRoom_8 : decode cX3_hasRoom 8 = .ok (.getfield 15, 3) := by decide +kernel
theorem dX3_hasRoom_11 : decode cX3_hasRoom 11 = .ok (.iconst 4, 1) := by decide +kernel
theorem dX3_hasRoom_12 : decode cX3_hasRoom 12 = .ok (.if_icmp .ge 7, 3) := by decide +kernel
theorem dX3_hasRoom_15 : decode cX3_hasRoom 15 = .ok (.iconst 1, 1) := by decide +kernel
theorem dX3_hasRoom_16 : decode cX3_hasRoom 16 = .ok (.goto 4, 3) := by decide +kernel
theorem dX3_hasRoom_19 : decode cX3_hasRoom 19 = .ok (.iconst 0, 1) := by decide +kernel
theorem dX3_hasRoom_20 : decode cX3_hasRoom 20 = .ok (.ireturn, 1) := by decide +kernel
theorem dX3_lost_0 : decode cX3_lost 0 = .ok (.iconst 0, 1) := by decide +kernel
theorem dX3_lost_1 : decode cX3_lost 1 = .ok (.istore_n 1, 1) := by decide +kernel
theorem dX3_lost_2 : decode cX3_lost 2 = .ok (.iconst 0, 1) := by decide +kernel
theorem dX3_lost_3 : decode cX3_lost 3 = .ok (.istore_n 2, 1) := by decide +kernel
theorem dX3_lost_4 : decode cX3_lost 4 = .ok (.iload_n 2, 1) := by decide +kernel
theorem dX3_lost_5 : decode cX3_lost 5 = .ok (.aload_n 0, 1) := by decide +kernel
theorem dX3_lost_6 : decode cX3_lost 6 = .ok (.getfield 15, 3) := by decide +kernel
theorem dX3_lost_9 : decode cX3_lost 9 = .ok (.if_icmp .ge 20, 3) := by decide +kernel
theorem dX3_lost_29 : decode cX3_lost 29 = .ok (.iload_n 1, 1) := by decide +kernel
theorem dX3_lost_30 : decode cX3_lost 30 = .ok (.ireturn, 1) := by decide +kernel
theorem dX3_set_0 : decode cX3_set 0 = .ok (.aload_n 0, 1) := by decide +kernel
theorem dX3_set_1 : decode cX3_set 1 = .ok (.iload_n 1, 1) := by decide +kernel
theorem dX3_set_2 : decode cX3_set 2 = .ok (.invokevirtual 29, 3) := by decide +kernel
theorem dX3_set_5 : decode cX3_set 5 = .ok (.ifCond .eq 25, 3) := by decide +kernel
theorem dX3_set_8 : decode cX3_set 8 = .ok (.iload_n 2, 1) := by decide +kernel
theorem dX3_set_9 : decode cX3_set 9 = .ok (.ifCond .lt 21, 3) := by decide +kernel
theorem dX3_set_12 : decode cX3_set 12 = .ok (.iload_n 2, 1) := by decide +kernel
theorem dX3_set_13 : decode cX3_set 13 = .ok (.bipush 9, 2) := by decide +kernel
theorem dX3_set_15 : decode cX3_set 15 = .ok (.if_icmp .ge 15, 3) := by decide +kernel
theorem dX3_set_18 : decode cX3_set 18 = .ok (.aload_n 0, 1) := by decide +kernel
theorem dX3_set_19 : decode cX3_set 19 = .ok (.getfield 9, 3) := by decide +kernel
theorem dX3_set_22 : decode cX3_set 22 = .ok (.iload_n 1, 1) := by decide +kernel
theorem dX3_set_23 : decode cX3_set 23 = .ok (.bipush 9, 2) := by decide +kernel
theorem dX3_set_25 : decode cX3_set 25 = .ok (.imul, 1) := by decide +kernel
theorem dX3_set_26 : decode cX3_set 26 = .ok (.iload_n 2, 1) := by decide +kernel
theorem dX3_set_27 : decode cX3_set 27 = .ok (.iadd, 1) := by decide +kernel
theorem dX3_set_28 : decode cX3_set 28 = .ok (.iload_n 3, 1) := by decide +kernel
theorem dX3_set_29 : decode cX3_set 29 = .ok (.iastore, 1) := by decide +kernel
theorem dX3_set_30 : decode cX3_set 30 = .ok (.return_, 1) := by decide +kernel
theorem dX4_append_0 : decode cX4_append 0 = .ok (.iconst 0, 1) := by decide +kernel
theorem dX4_append_1 : decode cX4_append 1 = .ok (.istore 4, 2) := by decide +kernel
theorem dX4_append_3 : decode cX4_append 3 = .ok (.iload 4, 2) := by decide +kernel
theorem dX4_append_5 : decode cX4_append 5 = .ok (.iload_n 3, 1) := by decide +kernel
theorem dX4_append_6 : decode cX4_append 6 = .ok (.if_icmp .ge 56, 3) := by decide +kernel
theorem dX4_append_9 : decode cX4_append 9 = .ok (.aload_n 0, 1) := by decide +kernel
theorem dX4_append_10 : decode cX4_append 10 = .ok (.getfield 27, 3) := by decide +kernel
theorem dX4_append_13 : decode cX4_append 13 = .ok (.ifCond .lt 49, 3) := by decide +kernel
theorem dX4_append_16 : decode cX4_append 16 = .ok (.aload_n 0, 1) := by decide +kernel
theorem dX4_append_17 : decode cX4_append 17 = .ok (.getfield 27, 3) := by decide +kernel
theorem dX4_append_20 : decode cX4_append 20 = .ok (.bipush 50, 2) := by decide +kernel
theorem dX4_append_22 : decode cX4_append 22 = .ok (.if_icmp .ge 40, 3) := by decide +kernel
theorem dX4_append_25 : decode cX4_append 25 = .ok (.aload_n 0, 1) := by decide +kernel
theorem dX4_append_26 : decode cX4_append 26 = .ok (.getfield 9, 3) := by decide +kernel
theorem dX4_append_29 : decode cX4_append 29 = .ok (.aload_n 0, 1) := by decide +kernel
theorem dX4_append_30 : decode cX4_append 30 = .ok (.getfield 27, 3) := by decide +kernel
theorem dX4_append_33 : decode cX4_append 33 = .ok (.lload_n 1, 1) := by decide +kernel
theorem dX4_append_34 : decode cX4_append 34 = .ok (.bipush 8, 2) := by decide +kernel
theorem dX4_append_36 : decode cX4_append 36 = .ok (.iload 4, 2) := by decide +kernel
theorem dX4_append_38 : decode cX4_append 38 = .ok (.imul, 1) := by decide +kernel
theorem dX4_append_39 : decode cX4_append 39 = .ok (.lushr, 1) := by decide +kernel
theorem dX4_append_40 : decode cX4_append 40 = .ok (.ldc2_w 40, 3) := by decide +kernel
theorem dX4_append_43 : decode cX4_append 43 = .ok (.land, 1) := by decide +kernel
theorem dX4_append_44 : decode cX4_append 44 = .ok (.l2i, 1) := by decide +kernel
theorem dX4_append_45 : decode cX4_append 45 = .ok (.iastore, 1) := by decide +kernel
theorem dX4_append_46 : decode cX4_append 46 = .ok (.aload_n 0, 1) := by decide +kernel
theorem dX4_append_47 : decode cX4_append 47 = .ok (.dup, 1) := by decide +kernel
theorem dX4_append_48 : decode cX4_append 48 = .ok (.getfield 27, 3) := by decide +kernel
theorem dX4_append_51 : decode cX4_append 51 = .ok (.iconst 1, 1) := by decide +kernel
theorem dX4_append_52 : decode cX4_append 52 = .ok (.iadd, 1) := by decide +kernel
theorem dX4_append_53 : decode cX4_append 53 = .ok (.putfield 27, 3) := by decide +kernel
theorem dX4_append_56 : decode cX4_append 56 = .ok (.iinc 4 1, 3) := by decide +kernel
theorem dX4_append_59 : decode cX4_append 59 = .ok (.goto (-56), 3) := by decide +kernel
theorem dX4_append_62 : decode cX4_append 62 = .ok (.return_, 1) := by decide +kernel
theorem dX4_copyFrom_0 : decode cX4_copyFrom 0 = .ok (.aload_n 1, 1) := by decide +kernel
theorem dX4_copyFrom_1 : decode cX4_copyFrom 1 = .ok (.getfield 9, 3) := by decide +kernel
theorem dX4_copyFrom_4 : decode cX4_copyFrom 4 = .ok (.iconst 0, 1) := by decide +kernel
theorem dX4_copyFrom_5 : decode cX4_copyFrom 5 = .ok (.aload_n 0, 1) := by decide +kernel
theorem dX4_copyFrom_6 : decode cX4_copyFrom 6 = .ok (.getfield 9, 3) := by decide +kernel
theorem dX4_copyFrom_9 : decode cX4_copyFrom 9 = .ok (.iconst 0, 1) := by decide +kernel
theorem dX4_copyFrom_10 : decode cX4_copyFrom 10 = .ok (.bipush 50, 2) := by decide +kernel
theorem dX4_copyFrom_12 : decode cX4_copyFrom 12 = .ok (.invokestatic 34, 3) := by decide +kernel
theorem dX4_copyFrom_15 : decode cX4_copyFrom 15 = .ok (.aload_n 1, 1) := by decide +kernel
theorem dX4_copyFrom_16 : decode cX4_copyFrom 16 = .ok (.getfield 15, 3) := by decide +kernel
theorem dX4_copyFrom_19 : decode cX4_copyFrom 19 = .ok (.iconst 0, 1) := by decide +kernel
theorem dX4_copyFrom_20 : decode cX4_copyFrom 20 = .ok (.aload_n 0, 1) := by decide +kernel
theorem dX4_copyFrom_21 : decode cX4_copyFrom 21 = .ok (.getfield 15, 3) := by decide +kernel
theorem dX4_copyFrom_24 : decode cX4_copyFrom 24 = .ok (.iconst 0, 1) := by decide +kernel
theorem dX4_copyFrom_25 : decode cX4_copyFrom 25 = .ok (.sipush 600, 3) := by decide +kernel
theorem dX4_copyFrom_28 : decode cX4_copyFrom 28 = .ok (.invokestatic 34, 3) := by decide +kernel
theorem dX4_copyFrom_31 : decode cX4_copyFrom 31 = .ok (.aload_n 1, 1) := by decide +kernel
theorem dX4_copyFrom_32 : decode cX4_copyFrom 32 = .ok (.getfield 18, 3) := by decide +kernel
theorem dX4_copyFrom_35 : decode cX4_copyFrom 35 = .ok (.iconst 0, 1) := by decide +kernel
theorem dX4_copyFrom_36 : decode cX4_copyFrom 36 = .ok (.aload_n 0, 1) := by decide +kernel
theorem dX4_copyFrom_37 : decode cX4_copyFrom 37 = .ok (.getfield 18, 3) := by decide +kernel
theorem dX4_copyFrom_40 : decode cX4_copyFrom 40 = .ok (.iconst 0, 1) := by decide +kernel
theorem dX4_copyFrom_41 : decode cX4_copyFrom 41 = .ok (.bipush 12, 2) := by decide +kernel
theorem dX4_copyFrom_43 : decode cX4_copyFrom 43 = .ok (.invokestatic 34, 3) := by decide +kernel
theorem dX4_copyFrom_46 : decode cX4_copyFrom 46 = .ok (.aload_n 1, 1) := by decide +kernel
theorem dX4_copyFrom_47 : decode cX4_copyFrom 47 = .ok (.getfield 21, 3) := by decide +kernel
theorem dX4_copyFrom_50 : decode cX4_copyFrom 50 = .ok (.iconst 0, 1) := by decide +kernel
theorem dX4_copyFrom_51 : decode cX4_copyFrom 51 = .ok (.aload_n 0, 1) := by decide +kernel
theorem dX4_copyFrom_52 : decode cX4_copyFrom 52 = .ok (.getfield 21, 3) := by decide +kernel
theorem dX4_copyFrom_55 : decode cX4_copyFrom 55 = .ok (.iconst 0, 1) := by decide +kernel
theorem dX4_copyFrom_56 : decode cX4_copyFrom 56 = .ok (.bipush 12, 2) := by decide +kernel
theorem dX4_copyFrom_58 : decode cX4_copyFrom 58 = .ok (.invokestatic 34, 3) := by decide +kernel
theorem dX4_copyFrom_61 : decode cX4_copyFrom 61 = .ok (.aload_n 1, 1) := by decide +kernel
theorem dX4_copyFrom_62 : decode cX4_copyFrom 62 = .ok (.getfield 24, 3) := by decide +kernel
theorem dX4_copyFrom_65 : decode cX4_copyFrom 65 = .ok (.iconst 0, 1) := by decide +kernel
theorem dX4_copyFrom_66 : decode cX4_copyFrom 66 = .ok (.aload_n 0, 1) := by decide +kernel
theorem dX4_copyFrom_67 : decode cX4_copyFrom 67 = .ok (.getfield 24, 3) := by decide +kernel
theorem dX4_copyFrom_70 : decode cX4_copyFrom 70 = .ok (.iconst 0, 1) := by decide +kernel
theorem dX4_copyFrom_71 : decode cX4_copyFrom 71 = .ok (.bipush 12, 2) := by decide +kernel
theorem dX4_copyFrom_73 : decode cX4_copyFrom 73 = .ok (.invokestatic 34, 3) := by decide +kernel
theorem dX4_copyFrom_76 : decode cX4_copyFrom 76 = .ok (.aload_n 0, 1) := by decide +kernel
theorem dX4_copyFrom_77 : decode cX4_copyFrom 77 = .ok (.aload_n 1, 1) := by decide +kernel
theorem dX4_copyFrom_78 : decode cX4_copyFrom 78 = .ok (.getfield 27, 3) := by decide +kernel
theorem dX4_copyFrom_81 : decode cX4_copyFrom 81 = .ok (.putfield 27, 3) := by decide +kernel
theorem dX4_copyFrom_84 : decode cX4_copyFrom 84 = .ok (.aload_n 0, 1) := by decide +kernel
theorem dX4_copyFrom_85 : decode cX4_copyFrom 85 = .ok (.aload_n 1, 1) := by decide +kernel
theorem dX4_copyFrom_86 : decode cX4_copyFrom 86 = .ok (.getfield 31, 3) := by decide +kernel
theorem dX4_copyFrom_89 : decode cX4_copyFrom 89 = .ok (.putfield 31, 3) := by decide +kernel
theorem dX4_copyFrom_92 : decode cX4_copyFrom 92 = .ok (.return_, 1) := by decide +kernel
theorem dX4_hasRoom_0 : decode cX4_hasRoom 0 = .ok (.aload_n 0, 1) := by decide +kernel
theorem dX4_hasRoom_1 : decode cX4_hasRoom 1 = .ok (.getfield 31, 3) := by decide +kernel
theorem dX4_hasRoom_4 : decode cX4_hasRoom 4 = .ok (.ifCond .lt 16, 3) := by decide +kernel
theorem dX4_hasRoom_7 : decode cX4_hasRoom 7 = .ok (.aload_n 0, 1) := by decide +kernel
theorem dX4_hasRoom_8 : decode cX4_hasRoom 8 = .ok (.getfield 31, 3) := by decide +kernel
theorem dX4_hasRoom_11 : decode cX4_hasRoom 11 = .ok (.bipush 12, 2) := by decide +kernel
theorem dX4_hasRoom_13 : decode cX4_hasRoom 13 = .ok (.if_icmp .ge 7, 3) := by decide +kernel
theorem dX4_hasRoom_16 : decode cX4_hasRoom 16 = .ok (.iconst 1, 1) := by decide +kernel
theorem dX4_hasRoom_17 : decode cX4_hasRoom 17 = .ok (.goto 4, 3) := by decide +kernel
theorem dX4_hasRoom_20 : decode cX4_hasRoom 20 = .ok (.iconst 0, 1) := by decide +kernel
theorem dX4_hasRoom_21 : decode cX4_hasRoom 21 = .ok (.ireturn, 1) := by decide +kernel
theorem dX4_inForce_0 : decode cX4_inForce 0 = .ok (.aload_n 0, 1) := by decide +kernel
theorem dX4_inForce_1 : decode cX4_inForce 1 = .ok (.getfield 31, 3) := by decide +kernel
theorem dX4_inForce_4 : decode cX4_inForce 4 = .ok (.iconst 1, 1) := by decide +kernel
theorem dX4_inForce_5 : decode cX4_inForce 5 = .ok (.isub, 1) := by decide +kernel
theorem dX4_inForce_6 : decode cX4_inForce 6 = .ok (.istore_n 3, 1) := by decide +kernel
theorem dX4_inForce_7 : decode cX4_inForce 7 = .ok (.iload_n 3, 1) := by decide +kernel
theorem dX4_inForce_8 : decode cX4_inForce 8 = .ok (.ifCond .lt 37, 3) := by decide +kernel
theorem dX4_inForce_45 : decode cX4_inForce 45 = .ok (.iconst (-1), 1) := by decide +kernel
theorem dX4_inForce_46 : decode cX4_inForce 46 = .ok (.ireturn, 1) := by decide +kernel
set_option maxHeartbeats 4000000 in
set_option maxRecDepth 100000 in
theorem c_X3_has (l : Launch) (D : va_G) (cI : ClassId) (h pf : Nat) (sz : Nat) (n : Int32) (a : Int32) : Met l yX3_has (gW yX3_has cX3_has 2 (some .boolean)) ({ frames := 0, cells := 0, slots := 0, locals := 0 } : Room) (kPre D cI [.ref h, .int a] [(h, .inr (3, [.ref pf, .int n]))] sz) (va_Qi (fun (r : Int32) (u : Unit) => (r = 1 ∧ 0 ≤ a.toInt ∧ a.toInt < n.toInt ∧ a.toInt < 4) ∨ (r = 0 ∧ (a.toInt < 0 ∨ n.toInt ≤ a.toInt ∨ 4 ≤ a.toInt))) (fun u t => kWd D cI (va_A [(h, .inr (3, [.ref pf, .int n]))] sz) [(h, .inr (3, [.ref pf, .int n]))] t) (va_A [(h, .inr (3, [.ref pf, .int n]))] sz)) 0 0 (va_A [(h, .inr (3, [.ref pf, .int n]))] sz) := by
  refine kMetI (own := RX3) (by decide) rfl (Nat.le_of_ble_eq_true rfl) ?_
  intro p e s m args below meth c hx hb hT hown hname hml A Q hK hP hD hS hA hN hRet ls hl
  have hl : lv_has ls 2 [(0, .ref h), (1, .int a)] := hl
  have lo_a := k_lo a
  have hi_a := k_hi a
  have lo_n := k_lo n
  have hi_n := k_hi n
  refine lv_iload_n hx hb dX3_has_0 rfl (lv_at hl 1 rfl) ?_
  refine b_if_lt hx hb rfl (tgt := 21) dX3_has_1 (by decide) (fun c_1 => ?_) (fun c_1 => ?_)
  · refine lv_iconst (v := 0) hx hb dX3_has_21 (by decide) ?_
    exact hRet () [0] (Or.inr (⟨rfl, (by omega)⟩)) hP hD (by decide) rfl hS rfl dX3_has_22
  · refine lv_iload_n hx hb dX3_has_4 rfl (lv_at hl 1 rfl) ?_
    refine lv_aload_n hx hb dX3_has_5 rfl (lv_at hl 0 rfl) ?_
    refine va_get (D := D) (ci := 3) (v := .int n) (C := RX3) (T := TX3) (N := 2) hx hb hT giX3 hown hK hP 0 rfl rfl 1 (by decide) (hT (Cond.fieldLink RX3 15 "DesertWire$Parties" "number" "I") mw_81) (fun _ h9 => h9) rfl dX3_has_6 ?_
    refine b_icmp_ge hx hb rfl rfl (tgt := 21) dX3_has_9 (by decide) (fun c_2 => ?_) (fun c_2 => ?_)
    · refine lv_iconst (v := 0) hx hb dX3_has_21 (by decide) ?_
      exact hRet () [0] (Or.inr (⟨rfl, (by omega)⟩)) hP hD (by decide) rfl hS rfl dX3_has_22
    · refine lv_iload_n hx hb dX3_has_12 rfl (lv_at hl 1 rfl) ?_
      refine lv_iconst (v := 4) hx hb dX3_has_13 (by decide) ?_
      refine b_icmp_ge hx hb rfl zl_4 (tgt := 21) dX3_has_14 (by decide) (fun c_3 => ?_) (fun c_3 => ?_)
      · refine lv_iconst (v := 0) hx hb dX3_has_21 (by decide) ?_
        exact hRet () [0] (Or.inr (⟨rfl, (by omega)⟩)) hP hD (by decide) rfl hS rfl dX3_has_22
      · refine lv_iconst (v := 1) hx hb dX3_has_17 (by decide) ?_
        refine lv_goto (tgt := 22) hx hb dX3_has_18 (by decide) ?_
        exact hRet () [0] (Or.inl ⟨rfl, (by omega), (by omega), (by omega)⟩) hP hD (by decide) rfl hS rfl dX3_has_22
set_option maxHeartbeats 4000000 in
set_option maxRecDepth 100000 in
theorem c_X3_hasRoom (l : Launch) (D : va_G) (cI : ClassId) (h pf : Nat) (sz : Nat) (n : Int32) : Met l yX3_hasRoom (gW yX3_hasRoom cX3_hasRoom 1 (some .boolean)) ({ frames := 0, cells := 0, slots := 0, locals := 0 } : Room) (kPre D cI [.ref h] [(h, .inr (3, [.ref pf, .int n]))] sz) (va_Qi (fun (r : Int32) (u : Unit) => (r = 1 ∧ 0 ≤ n.toInt ∧ n.toInt < 4) ∨ (r = 0 ∧ (n.toInt < 0 ∨ 4 ≤ n.toInt))) (fun u t => kWd D cI (va_A [(h, .inr (3, [.ref pf, .int n]))] sz) [(h, .inr (3, [.ref pf, .int n]))] t) (va_A [(h, .inr (3, [.ref pf, .int n]))] sz)) 0 0 (va_A [(h, .inr (3, [.ref pf, .int n]))] sz) := by
  refine kMetI (own := RX3) (by decide) rfl (Nat.le_of_ble_eq_true rfl) ?_
  intro p e s m args below meth c hx hb hT hown hname hml A Q hK hP hD hS hA hN hRet ls hl
  have hl : lv_has ls 1 [(0, .ref h)] := hl
  have lo_n := k_lo n
  have hi_n := k_hi n
  refine lv_aload_n hx hb dX3_hasRoom_0 rfl (lv_at hl 0 rfl) ?_
  refine va_get (D := D) (ci := 3) (v := .int n) (C := RX3) (T := TX3) (N := 2) hx hb hT giX3 hown hK hP 0 rfl rfl 1 (by decide) (hT (Cond.fieldLink RX3 15 "DesertWire$Parties" "number" "I") mw_81) (fun _ h9 => h9) rfl dX3_hasRoom_1 ?_
  refine b_if_lt hx hb rfl (tgt := 19) dX3_hasRoom_4 (by decide) (fun c_1 => ?_) (fun c_1 => ?_)
  · refine lv_iconst (v := 0) hx hb dX3_hasRoom_19 (by decide) ?_
    exact hRet () [0] (Or.inr (⟨rfl, (by omega)⟩)) hP hD (by decide) rfl hS rfl dX3_hasRoom_20
  · refine lv_aload_n hx hb dX3_hasRoom_7 rfl (lv_at hl 0 rfl) ?_
    refine va_get (D := D) (ci := 3) (v := .int n) (C := RX3) (T := TX3) (N := 2) hx hb hT giX3 hown hK hP 0 rfl rfl 1 (by decide) (hT (Cond.fieldLink RX3 15 "DesertWire$Parties" "number" "I") mw_81) (fun _ h9 => h9) rfl dX3_hasRoom_8 ?_
    refine lv_iconst (v := 4) hx hb dX3_hasRoom_11 (by decide) ?_
    refine b_icmp_ge hx hb rfl zl_4 (tgt := 19) dX3_hasRoom_12 (by decide) (fun c_2 => ?_) (fun c_2 => ?_)
    · refine lv_iconst (v := 0) hx hb dX3_hasRoom_19 (by decide) ?_
      exact hRet () [0] (Or.inr (⟨rfl, (by omega)⟩)) hP hD (by decide) rfl hS rfl dX3_hasRoom_20
    · refine lv_iconst (v := 1) hx hb dX3_hasRoom_15 (by decide) ?_
      refine lv_goto (tgt := 20) hx hb dX3_hasRoom_16 (by decide) ?_
      exact hRet () [0] (Or.inl ⟨rfl, (by omega), (by omega)⟩) hP hD (by decide) rfl hS rfl dX3_hasRoom_20
set_option maxHeartbeats 4000000 in
set_option maxRecDepth 100000 in
theorem c_X3_add (l : Launch) (D : va_G) (cI : ClassId) (h pf : Nat) (sz : Nat) (f : Nat → Int32) : Met l yX3_add (gW yX3_add cX3_add 2 (some .int)) ({ frames := 1, cells := 0, slots := 0, locals := 20 } : Room) (kPre D cI [.ref h] [(h, .inr (3, [.ref pf, .int 0])), (pf, .inl (cI, 36, .inl f))] sz) (va_Qi (fun (r : Int32) (u : (Nat → Int32)) => r = 0) (fun u t => kWd D cI (va_A [(h, .inr (3, [.ref pf, .int 0])), (pf, .inl (cI, 36, .inl f))] sz) [(h, .inr (3, [.ref pf, .int 1])), (pf, .inl (cI, 36, .inl u))] t) (va_A [(h, .inr (3, [.ref pf, .int 0])), (pf, .inl (cI, 36, .inl f))] sz)) 0 0 (va_A [(h, .inr (3, [.ref pf, .int 0])), (pf, .inl (cI, 36, .inl f))] sz) := by
  refine kMetI (own := RX3) (by decide) rfl (Nat.le_of_ble_eq_true rfl) ?_
  intro p e s m args below meth c hx hb hT hown hname hml A Q hK hP hD hS hA hN hRet ls hl
  have hl : lv_has ls 2 [(0, .ref h)] := hl
  refine lv_aload_n hx hb dX3_add_0 rfl (lv_at hl 0 rfl) ?_
  refine kJi (wr := [(pf, .inl (cI, 36, .inl f))]) (va_runV (As := []) (rest := []) ⟨hx, hb, hml, hown, hT⟩ (c_X3_hasRoom l D cI h pf s.heap.size 0) (cwV 0 hT (gV_in mw_704 mw_709 mw_702 mw_703 mw_4) rfl rfl rfl (by decide +kernel) ⟨Nat.le_of_ble_eq_true rfl, Nat.le_of_ble_eq_true rfl⟩) (kRecv (own := "") (q0 := 0) (ci := 3) hK hP hD hN rfl rfl [0] rfl (by decide)) rfl rfl hl.1 rfl (lv_room (Nat.le_of_ble_eq_true rfl)) dX3_add_1 ⟨Nat.le_of_ble_eq_true rfl, Nat.le_of_ble_eq_true rfl⟩) hP hD hS hA [0] [1] rfl rfl (by decide) (by decide) (fun r_1 u_3 H locs w_2 hP hD hS => ?_)
  have hP : va_P D vwCl [(pf, .inl (cI, 36, .inl f)), (h, .inr (3, [.ref pf, .int 0]))] H := hP
  have hD : va_D A [(pf, .inl (cI, 36, .inl f)), (h, .inr (3, [.ref pf, .int 0]))] := hD
  rcases w_2 with ⟨hr_1, h_4, h_5⟩ | ⟨hr_1, h_6⟩
  · try simp only [zl_0] at h_4
    try simp only [zl_0] at h_5
    obtain rfl : r_1 = 1 := hr_1.trans (by decide)
    refine b_if_ne hx hb zl_1 (tgt := 9) dX3_add_4 (by decide) (fun c_7 => ?_) (fun c_7 => by exfalso; omega)
    refine lv_iconst (v := 0) hx hb dX3_add_9 (by decide) ?_
    refine lv_istore_n (lv' := [(1, .int 0), (0, .ref h)]) hx hb dX3_add_10 rfl hl (by decide) rfl (fun ls hl => ?_)
    have hloop_11 : ∀ (fu_ : Nat) (i : Int32) (q : Nat → Int32), 0 ≤ i.toInt → i.toInt ≤ 9 → (9 - i.toInt).toNat < fu_ → ∀ (ls : Array Slot) (H : Heap) (locs : List Loc), lv_has ls 2 [(1, .int i), (0, .ref h)] → va_P D vwCl [(pf, .inl (cI, 36, .inl q)), (h, .inr (3, [.ref pf, .int 0]))] H → va_D A [(pf, .inl (cI, 36, .inl q)), (h, .inr (3, [.ref pf, .int 0]))] → va_S A s.heap H locs → W p l e ({ frames := 1, cells := 0, slots := 0, locals := 20 } : Room) s m args below meth c H locs 0 0 Q (F0 m 11 ls []) := by
      intro fu_; induction fu_ with
      | zero => intro i q i11_0 i11_1 hm; exact absurd hm (by omega)
      | succ fu_ ih11 =>
          intro i q i11_0 i11_1 hm ls H locs hl hP hD hS
          have lo_i := k_lo i
          have hi_i := k_hi i
          refine lv_iload_n hx hb dX3_add_11 rfl (lv_at hl 0 rfl) ?_
          refine lv_bipush (v := 9) hx hb dX3_add_12 (by decide) ?_
          refine b_icmp_ge hx hb rfl zl_9 (tgt := 38) dX3_add_14 (by decide) (fun c_8 => ?_) (fun c_8 => ?_)
          · refine lv_aload_n hx hb dX3_add_38 rfl (lv_at hl 1 rfl) ?_
            refine lv_dup hx hb dX3_add_39 rfl ?_
            refine va_get (D := D) (ci := 3) (v := .int 0) (C := RX3) (T := TX3) (N := 2) hx hb hT giX3 hown hK hP 1 rfl rfl 1 (by decide) (hT (Cond.fieldLink RX3 15 "DesertWire$Parties" "number" "I") mw_81) (fun _ h9 => h9) rfl dX3_add_40 ?_
            refine lv_iconst (v := 1) hx hb dX3_add_43 (by decide) ?_
            refine k_iadd (v := 1) hx hb dX3_add_44 (by decide) ?_
            refine va_put (D := D) (ci := 3) (v := .int 1) (ty := .int) (C := RX3) (T := TX3) (N := 2) hx hb hT giX3 tyX3 tyX3_ok nmX3 hown hK hP hD hS 1 rfl rfl 1 (by decide) (hT (Cond.fieldLink RX3 15 "DesertWire$Parties" "number" "I") mw_81) (fun _ h9 => h9) rfl (by decide +kernel) rfl rfl (Nat.le_of_ble_eq_true rfl) dX3_add_45 (fun H locs hP hD hS => ?_)
            have hP : va_P D vwCl [(pf, .inl (cI, 36, .inl q)), (h, .inr (3, [.ref pf, .int 1]))] H := hP
            have hD : va_D A [(pf, .inl (cI, 36, .inl q)), (h, .inr (3, [.ref pf, .int 1]))] := hD
            refine lv_aload_n hx hb dX3_add_48 rfl (lv_at hl 1 rfl) ?_
            refine va_get (D := D) (ci := 3) (v := .int 1) (C := RX3) (T := TX3) (N := 2) hx hb hT giX3 hown hK hP 1 rfl rfl 1 (by decide) (hT (Cond.fieldLink RX3 15 "DesertWire$Parties" "number" "I") mw_81) (fun _ h9 => h9) rfl dX3_add_49 ?_
            refine lv_iconst (v := 1) hx hb dX3_add_52 (by decide) ?_
            refine k_isub (v := 0) hx hb dX3_add_53 (by decide) ?_
            exact hRet q [1, 0] rfl hP hD (by decide) rfl hS rfl dX3_add_54
          · refine lv_aload_n hx hb dX3_add_17 rfl (lv_at hl 1 rfl) ?_
            refine va_get (D := D) (ci := 3) (v := .ref pf) (C := RX3) (T := TX3) (N := 2) hx hb hT giX3 hown hK hP 1 rfl rfl 0 (by decide) (hT (Cond.fieldLink RX3 9 "DesertWire$Parties" "facts" "[I") mw_80) (fun _ h9 => h9) rfl dX3_add_18 ?_
            refine lv_aload_n hx hb dX3_add_21 rfl (lv_at hl 1 rfl) ?_
            refine va_get (D := D) (ci := 3) (v := .int 0) (C := RX3) (T := TX3) (N := 2) hx hb hT giX3 hown hK hP 1 rfl rfl 1 (by decide) (hT (Cond.fieldLink RX3 15 "DesertWire$Parties" "number" "I") mw_81) (fun _ h9 => h9) rfl dX3_add_22 ?_
            refine lv_bipush (v := 9) hx hb dX3_add_25 (by decide) ?_
            refine k_imul (v := 0) hx hb dX3_add_27 (by decide) ?_
            refine lv_iload_n hx hb dX3_add_28 rfl (lv_at hl 0 rfl) ?_
            refine lv_iadd hx hb dX3_add_29 ?_
            refine lv_topi (fun v_9 ev_9 => ?_)
            have tv_9 : v_9.toInt = 0 + i.toInt := by rw [ev_9]; exact k_addv zl_0 rfl (by omega) (by omega)
            refine lv_iconst (v := 0) hx hb dX3_add_30 (by decide) ?_
            refine va_iast hx hb hK hP hD hS 0 0 rfl rfl (k_in (by omega) (by omega)) dX3_add_31 (fun H locs hP hD hS => ?_)
            have hP : va_P D vwCl [(pf, .inl (cI, 36, .inl (upd q v_9.toNatClampNeg 0))), (h, .inr (3, [.ref pf, .int 0]))] H := hP
            have hD : va_D A [(pf, .inl (cI, 36, .inl (upd q v_9.toNatClampNeg 0))), (h, .inr (3, [.ref pf, .int 0]))] := hD
            obtain ⟨f_10, ef_10⟩ : ∃ g : Nat → Int32, g = upd q v_9.toNatClampNeg 0 := ⟨_, rfl⟩
            rw [← ef_10] at hP hD
            obtain ⟨v_11, ev_11⟩ : ∃ y : Int32, y = i + 1 := ⟨_, rfl⟩
            have tv_11 : v_11.toInt = i.toInt + 1 := by rw [ev_11]; exact k_addv rfl zl_1 (by omega) (by omega)
            refine lv_iinc (v := v_11) (lv' := [(1, .int v_11), (0, .ref h)]) hx hb dX3_add_32 hl (k := 0) rfl (by rw [ev_11]; rfl) (by decide) rfl (fun ls hl => ?_)
            refine lv_goto (tgt := 11) hx hb dX3_add_35 (by decide) ?_
            exact ih11 v_11 f_10 (by first | omega | decide | assumption | rfl) (by first | omega | decide | assumption | rfl) (by omega) ls _ _ (lv_sub hl [0, 1] rfl) (hP.sub [0, 1] rfl) (hD.sub [0, 1] (by decide) rfl) hS
    exact hloop_11 _ 0 f (by first | omega | (simp only [zl_0] <;> omega) | decide | assumption | rfl) (by first | omega | (simp only [zl_0] <;> omega) | decide | assumption | rfl) (Nat.lt_succ_self _) ls _ _ (lv_sub hl [0, 1] rfl) hP hD hS
  · (try simp only [zl_0] at h_6); exfalso; omega
set_option maxHeartbeats 4000000 in
set_option maxRecDepth 100000 in
theorem c_X3_set (l : Launch) (D : va_G) (cI : ClassId) (h pf : Nat) (sz : Nat) (n : Int32) (f : Nat → Int32) (a : Int32) (b : Int32) (v : Int32) : Met l yX3_set (gW yX3_set cX3_set 4 none) ({ frames := 1, cells := 0, slots := 0, locals := 21 } : Room) (kPre D cI [.ref h, .int a, .int b, .int v] [(h, .inr (3, [.ref pf, .int n])), (pf, .inl (cI, 36, .inl f))] sz) (va_Qv (fun (u : (Nat → Int32)) => True) (fun u t => kWd D cI (va_A [(h, .inr (3, [.ref pf, .int n])), (pf, .inl (cI, 36, .inl f))] sz) [(h, .inr (3, [.ref pf, .int n])), (pf, .inl (cI, 36, .inl u))] t) (va_A [(h, .inr (3, [.ref pf, .int n])), (pf, .inl (cI, 36, .inl f))] sz)) 0 0 (va_A [(h, .inr (3, [.ref pf, .int n])), (pf, .inl (cI, 36, .inl f))] sz) := by
  refine kMetV (own := RX3) (by decide) rfl (Nat.le_of_ble_eq_true rfl) ?_
  intro p e s m args below meth c hx hb hT hown hname hml A Q hK hP hD hS hA hN hRet ls hl
  have hl : lv_has ls 4 [(0, .ref h), (1, .int a), (2, .int b), (3, .int v)] := hl
  have lo_a := k_lo a
  have hi_a := k_hi a
  have lo_b := k_lo b
  have hi_b := k_hi b
  have lo_v := k_lo v
  have hi_v := k_hi v
  have lo_n := k_lo n
  have hi_n := k_hi n
  refine lv_aload_n hx hb dX3_set_0 rfl (lv_at hl 0 rfl) ?_
  refine lv_iload_n hx hb dX3_set_1 rfl (lv_at hl 1 rfl) ?_
  refine kJi (wr := [(pf, .inl (cI, 36, .inl f))]) (va_runV (As := [.int a]) (rest := []) ⟨hx, hb, hml, hown, hT⟩ (c_X3_has l D cI h pf s.heap.size n a) (cwV 1 hT (gV_in mw_717 mw_714 mw_715 mw_716 mw_4) rfl rfl rfl (by decide +kernel) ⟨Nat.le_of_ble_eq_true rfl, Nat.le_of_ble_eq_true rfl⟩) (kRecv (own := "") (q0 := 0) (ci := 3) hK hP hD hN rfl rfl [0] rfl (by decide)) rfl rfl hl.1 rfl (lv_room (Nat.le_of_ble_eq_true rfl)) dX3_set_2 ⟨Nat.le_of_ble_eq_true rfl, Nat.le_of_ble_eq_true rfl⟩) hP hD hS hA [0] [1] rfl rfl (by decide) (by decide) (fun r_1 u_3 H locs w_2 hP hD hS => ?_)
  have hP : va_P D vwCl [(pf, .inl (cI, 36, .inl f)), (h, .inr (3, [.ref pf, .int n]))] H := hP
  have hD : va_D A [(pf, .inl (cI, 36, .inl f)), (h, .inr (3, [.ref pf, .int n]))] := hD
  rcases w_2 with ⟨hr_1, h_4, h_5, h_6⟩ | ⟨hr_1, h_7⟩
  · have h_4 : 0 ≤ a.toInt := h_4
    have h_5 : a.toInt < n.toInt := h_5
    have h_6 : a.toInt < 4 := h_6
    obtain rfl : r_1 = 1 := hr_1.trans (by decide)
    refine b_if_eq hx hb zl_1 (tgt := 30) dX3_set_5 (by decide) (fun c_8 => by exfalso; omega) (fun c_8 => ?_)
    refine lv_iload_n hx hb dX3_set_8 rfl (lv_at hl 2 rfl) ?_
    refine b_if_lt hx hb rfl (tgt := 30) dX3_set_9 (by decide) (fun c_9 => ?_) (fun c_9 => ?_)
    · exact hRet f [1, 0] trivial hP hD (by decide) rfl hS dX3_set_30
    · refine lv_iload_n hx hb dX3_set_12 rfl (lv_at hl 2 rfl) ?_
      refine lv_bipush (v := 9) hx hb dX3_set_13 (by decide) ?_
      refine b_icmp_ge hx hb rfl zl_9 (tgt := 30) dX3_set_15 (by decide) (fun c_10 => ?_) (fun c_10 => ?_)
      · exact hRet f [1, 0] trivial hP hD (by decide) rfl hS dX3_set_30
      · refine lv_aload_n hx hb dX3_set_18 rfl (lv_at hl 0 rfl) ?_
        refine va_get (D := D) (ci := 3) (v := .ref pf) (C := RX3) (T := TX3) (N := 2) hx hb hT giX3 hown hK hP 1 rfl rfl 0 (by decide) (hT (Cond.fieldLink RX3 9 "DesertWire$Parties" "facts" "[I") mw_80) (fun _ h9 => h9) rfl dX3_set_19 ?_
        refine lv_iload_n hx hb dX3_set_22 rfl (lv_at hl 1 rfl) ?_
        refine lv_bipush (v := 9) hx hb dX3_set_23 (by decide) ?_
        refine lv_imul hx hb dX3_set_25 ?_
        refine lv_topi (fun v_11 ev_11 => ?_)
        have tv_11 : v_11.toInt = a.toInt * 9 := by rw [ev_11]; exact k_mulv rfl zl_9 (by omega) (by omega)
        refine lv_iload_n hx hb dX3_set_26 rfl (lv_at hl 2 rfl) ?_
        refine lv_iadd hx hb dX3_set_27 ?_
        refine lv_topi (fun v_12 ev_12 => ?_)
        have tv_12 : v_12.toInt = v_11.toInt + b.toInt := by rw [ev_12]; exact k_addv rfl rfl (by omega) (by omega)
        refine lv_iload_n hx hb dX3_set_28 rfl (lv_at hl 3 rfl) ?_
        refine va_iast hx hb hK hP hD hS 0 0 rfl rfl (k_in (by omega) (by omega)) dX3_set_29 (fun H locs hP hD hS => ?_)
        have hP : va_P D vwCl [(pf, .inl (cI, 36, .inl (upd f v_12.toNatClampNeg v))), (h, .inr (3, [.ref pf, .int n]))] H := hP
        have hD : va_D A [(pf, .inl (cI, 36, .inl (upd f v_12.toNatClampNeg v))), (h, .inr (3, [.ref pf, .int n]))] := hD
        obtain ⟨f_13, ef_13⟩ : ∃ g : Nat → Int32, g = upd f v_12.toNatClampNeg v := ⟨_, rfl⟩
        rw [← ef_13] at hP hD
        exact hRet f_13 [1, 0] trivial hP hD (by decide) rfl hS dX3_set_30
  · have h_7 : a.toInt < 0 ∨ n.toInt ≤ a.toInt ∨ 4 ≤ a.toInt := h_7
    obtain rfl : r_1 = 0 := hr_1.trans (by decide)
    refine b_if_eq hx hb zl_0 (tgt := 30) dX3_set_5 (by decide) (fun c_14 => ?_) (fun c_14 => by exfalso; omega)
    exact hRet f [1, 0] trivial hP hD (by decide) rfl hS dX3_set_30
set_option maxHeartbeats 4000000 in
set_option maxRecDepth 100000 in
theorem c_X3_lost (l : Launch) (D : va_G) (cI : ClassId) (h pf : Nat) (sz : Nat) : Met l yX3_lost (gW yX3_lost cX3_lost 3 (some .int)) ({ frames := 0, cells := 0, slots := 0, locals := 0 } : Room) (kPre D cI [.ref h] [(h, .inr (3, [.ref pf, .int 0]))] sz) (va_Qi (fun (r : Int32) (u : Unit) => r = 0) (fun u t => kWd D cI (va_A [(h, .inr (3, [.ref pf, .int 0]))] sz) [(h, .inr (3, [.ref pf, .int 0]))] t) (va_A [(h, .inr (3, [.ref pf, .int 0]))] sz)) 0 0 (va_A [(h, .inr (3, [.ref pf, .int 0]))] sz) := by
  refine kMetI (own := RX3) (by decide) rfl (Nat.le_of_ble_eq_true rfl) ?_
  intro p e s m args below meth c hx hb hT hown hname hml A Q hK hP hD hS hA hN hRet ls hl
  have hl : lv_has ls 3 [(0, .ref h)] := hl
  refine lv_iconst (v := 0) hx hb dX3_lost_0 (by decide) ?_
  refine lv_istore_n (lv' := [(1, .int 0), (0, .ref h)]) hx hb dX3_lost_1 rfl hl (by decide) rfl (fun ls hl => ?_)
  refine lv_iconst (v := 0) hx hb dX3_lost_2 (by decide) ?_
  refine lv_istore_n (lv' := [(2, .int 0), (1, .int 0), (0, .ref h)]) hx hb dX3_lost_3 rfl hl (by decide) rfl (fun ls hl => ?_)
  refine lv_iload_n hx hb dX3_lost_4 rfl (lv_at hl 0 rfl) ?_
  refine lv_aload_n hx hb dX3_lost_5 rfl (lv_at hl 2 rfl) ?_
  refine va_get (D := D) (ci := 3) (v := .int 0) (C := RX3) (T := TX3) (N := 2) hx hb hT giX3 hown hK hP 0 rfl rfl 1 (by decide) (hT (Cond.fieldLink RX3 15 "DesertWire$Parties" "number" "I") mw_81) (fun _ h9 => h9) rfl dX3_lost_6 ?_
  refine b_icmp_ge hx hb zl_0 zl_0 (tgt := 29) dX3_lost_9 (by decide) (fun c_1 => ?_) (fun c_1 => by exfalso; omega)
  refine lv_iload_n hx hb dX3_lost_29 rfl (lv_at hl 1 rfl) ?_
  exact hRet () [0] rfl hP hD (by decide) rfl hS rfl dX3_lost_30
set_option maxHeartbeats 4000000 in
set_option maxRecDepth 100000 in
theorem c_X3_allMen (l : Launch) (D : va_G) (cI : ClassId) (h pf : Nat) (sz : Nat) : Met l yX3_allMen (gW yX3_allMen cX3_allMen 3 (some .int)) ({ frames := 0, cells := 0, slots := 0, locals := 0 } : Room) (kPre D cI [.ref h] [(h, .inr (3, [.ref pf, .int 0]))] sz) (va_Qi (fun (r : Int32) (u : Unit) => r = 0) (fun u t => kWd D cI (va_A [(h, .inr (3, [.ref pf, .int 0]))] sz) [(h, .inr (3, [.ref pf, .int 0]))] t) (va_A [(h, .inr (3, [.ref pf, .int 0]))] sz)) 0 0 (va_A [(h, .inr (3, [.ref pf, .int 0]))] sz) := by
  refine kMetI (own := RX3) (by decide) rfl (Nat.le_of_ble_eq_true rfl) ?_
  intro p e s m args below meth c hx hb hT hown hname hml A Q hK hP hD hS hA hN hRet ls hl
  have hl : lv_has ls 3 [(0, .ref h)] := hl
  refine lv_iconst (v := 0) hx hb dX3_allMen_0 (by decide) ?_
  refine lv_istore_n (lv' := [(1, .int 0), (0, .ref h)]) hx hb dX3_allMen_1 rfl hl (by decide) rfl (fun ls hl => ?_)
  refine lv_iconst (v := 0) hx hb dX3_allMen_2 (by decide) ?_
  refine lv_istore_n (lv' := [(2, .int 0), (1, .int 0), (0, .ref h)]) hx hb dX3_allMen_3 rfl hl (by decide) rfl (fun ls hl => ?_)
  refine lv_iload_n hx hb dX3_allMen_4 rfl (lv_at hl 0 rfl) ?_
  refine lv_aload_n hx hb dX3_allMen_5 rfl (lv_at hl 2 rfl) ?_
  refine va_get (D := D) (ci := 3) (v := .int 0) (C := RX3) (T := TX3) (N := 2) hx hb hT giX3 hown hK hP 0 rfl rfl 1 (by decide) (hT (Cond.fieldLink RX3 15 "DesertWire$Parties" "number" "I") mw_81) (fun _ h9 => h9) rfl dX3_allMen_6 ?_
  refine b_icmp_ge hx hb zl_0 zl_0 (tgt := 27) dX3_allMen_9 (by decide) (fun c_1 => ?_) (fun c_1 => by exfalso; omega)
  refine lv_iload_n hx hb dX3_allMen_27 rfl (lv_at hl 1 rfl) ?_
  exact hRet () [0] rfl hP hD (by decide) rfl hS rfl dX3_allMen_28
set_option maxHeartbeats 4000000 in
set_option maxRecDepth 100000 in
theorem c_X3_copyFrom (l : Launch) (D : va_G) (cI : ClassId) (h pf o po : Nat) (sz : Nat) (n : Int32) (f : Nat → Int32) (n2 : Int32) (g : Nat → Int32) : Met l yX3_copyFrom (gW yX3_copyFrom cX3_copyFrom 2 none) ({ frames := 1, cells := 0, slots := 0, locals := 64 } : Room) (kPre D cI [.ref h, .ref o] [(h, .inr (3, [.ref pf, .int n])), (pf, .inl (cI, 36, .inl f)), (o, .inr (3, [.ref po, .int n2])), (po, .inl (cI, 36, .inl g))] sz) (va_Qv (fun (u : Unit) => True) (fun u t => kWd D cI (va_A [(h, .inr (3, [.ref pf, .int n])), (pf, .inl (cI, 36, .inl f)), (o, .inr (3, [.ref po, .int n2])), (po, .inl (cI, 36, .inl g))] sz) [(h, .inr (3, [.ref pf, .int n2])), (pf, .inl (cI, 36, .inl g)), (o, .inr (3, [.ref po, .int n2])), (po, .inl (cI, 36, .inl g))] t) (va_A [(h, .inr (3, [.ref pf, .int n])), (pf, .inl (cI, 36, .inl f)), (o, .inr (3, [.ref po, .int n2])), (po, .inl (cI, 36, .inl g))] sz)) 0 0 (va_A [(h, .inr (3, [.ref pf, .int n])), (pf, .inl (cI, 36, .inl f)), (o, .inr (3, [.ref po, .int n2])), (po, .inl (cI, 36, .inl g))] sz) := by
  refine kMetV (own := RX3) (by decide) rfl (Nat.le_of_ble_eq_true rfl) ?_
  intro p e s m args below meth c hx hb hT hown hname hml A Q hK hP hD hS hA hN hRet ls hl
  have hl : lv_has ls 2 [(0, .ref h), (1, .ref o)] := hl
  have lo_n := k_lo n
  have hi_n := k_hi n
  have lo_n2 := k_lo n2
  have hi_n2 := k_hi n2
  refine lv_aload_n hx hb dX3_copyFrom_0 rfl (lv_at hl 1 rfl) ?_
  refine va_get (D := D) (ci := 3) (v := .ref po) (C := RX3) (T := TX3) (N := 2) hx hb hT giX3 hown hK hP 2 rfl rfl 0 (by decide) (hT (Cond.fieldLink RX3 9 "DesertWire$Parties" "facts" "[I") mw_80) (fun _ h9 => h9) rfl dX3_copyFrom_1 ?_
  refine lv_iconst (v := 0) hx hb dX3_copyFrom_4 (by decide) ?_
  refine lv_aload_n hx hb dX3_copyFrom_5 rfl (lv_at hl 0 rfl) ?_
  refine va_get (D := D) (ci := 3) (v := .ref pf) (C := RX3) (T := TX3) (N := 2) hx hb hT giX3 hown hK hP 0 rfl rfl 0 (by decide) (hT (Cond.fieldLink RX3 9 "DesertWire$Parties" "facts" "[I") mw_80) (fun _ h9 => h9) rfl dX3_copyFrom_6 ?_
  refine lv_iconst (v := 0) hx hb dX3_copyFrom_9 (by decide) ?_
  refine lv_bipush (v := 36) hx hb dX3_copyFrom_10 (by decide) ?_
  refine k_copy (c0 := cI) (c1 := cI) hx hb (hml.trans hl.1.symm) hown (hT _ mw_1025) (hT _ mw_865) (hT _ mw_864) (hT _ mw_19) hK hP hD hS 3 1 rfl rfl (by decide) (by decide) (Nat.le_of_ble_eq_true rfl) (by decide +kernel) dX3_copyFrom_12 (fun H locs hP hD hS => ?_)
  have hP : va_P D vwCl [(h, .inr (3, [.ref pf, .int n])), (pf, .inl (cI, 36, .inl g)), (o, .inr (3, [.ref po, .int n2])), (po, .inl (cI, 36, .inl g))] H := hP
  have hD : va_D A [(h, .inr (3, [.ref pf, .int n])), (pf, .inl (cI, 36, .inl g)), (o, .inr (3, [.ref po, .int n2])), (po, .inl (cI, 36, .inl g))] := hD
  refine lv_aload_n hx hb dX3_copyFrom_15 rfl (lv_at hl 0 rfl) ?_
  refine lv_aload_n hx hb dX3_copyFrom_16 rfl (lv_at hl 1 rfl) ?_
  refine va_get (D := D) (ci := 3) (v := .int n2) (C := RX3) (T := TX3) (N := 2) hx hb hT giX3 hown hK hP 2 rfl rfl 1 (by decide) (hT (Cond.fieldLink RX3 15 "DesertWire$Parties" "number" "I") mw_81) (fun _ h9 => h9) rfl dX3_copyFrom_17 ?_
  refine va_put (D := D) (ci := 3) (v := .int n2) (ty := .int) (C := RX3) (T := TX3) (N := 2) hx hb hT giX3 tyX3 tyX3_ok nmX3 hown hK hP hD hS 0 rfl rfl 1 (by decide) (hT (Cond.fieldLink RX3 15 "DesertWire$Parties" "number" "I") mw_81) (fun _ h9 => h9) rfl (by decide +kernel) rfl rfl (Nat.le_of_ble_eq_true rfl) dX3_copyFrom_20 (fun H locs hP hD hS => ?_)
  have hP : va_P D vwCl [(h, .inr (3, [.ref pf, .int n2])), (pf, .inl (cI, 36, .inl g)), (o, .inr (3, [.ref po, .int n2])), (po, .inl (cI, 36, .inl g))] H := hP
  have hD : va_D A [(h, .inr (3, [.ref pf, .int n2])), (pf, .inl (cI, 36, .inl g)), (o, .inr (3, [.ref po, .int n2])), (po, .inl (cI, 36, .inl g))] := hD
  exact hRet () [0, 1, 2, 3] trivial hP hD (by decide) rfl hS dX3_copyFrom_23
set_option maxHeartbeats 4000000 in
set_option maxRecDepth 100000 in
theorem c_X4_hasRoom (l : Launch) (D : va_G) (cI : ClassId) (h t0 t1 t2 t3 t4 : Nat) (sz : Nat) (tp : Int32) (n : Int32) : Met l yX4_hasRoom (gW yX4_hasRoom cX4_hasRoom 1 (some .boolean)) ({ frames := 0, cells := 0, slots := 0, locals := 0 } : Room) (kPre D cI [.ref h] [(h, .inr (4, [.ref t0, .ref t1, .ref t2, .ref t3, .ref t4, .int tp, .int n]))] sz) (va_Qi (fun (r : Int32) (u : Unit) => (r = 1 ∧ 0 ≤ n.toInt ∧ n.toInt < 12) ∨ (r = 0 ∧ (n.toInt < 0 ∨ 12 ≤ n.toInt))) (fun u t => kWd D cI (va_A [(h, .inr (4, [.ref t0, .ref t1, .ref t2, .ref t3, .ref t4, .int tp, .int n]))] sz) [(h, .inr (4, [.ref t0, .ref t1, .ref t2, .ref t3, .ref t4, .int tp, .int n]))] t) (va_A [(h, .inr (4, [.ref t0, .ref t1, .ref t2, .ref t3, .ref t4, .int tp, .int n]))] sz)) 0 0 (va_A [(h, .inr (4, [.ref t0, .ref t1, .ref t2, .ref t3, .ref t4, .int tp, .int n]))] sz) := by
  refine kMetI (own := RX4) (by decide) rfl (Nat.le_of_ble_eq_true rfl) ?_
  intro p e s m args below meth c hx hb hT hown hname hml A Q hK hP hD hS hA hN hRet ls hl
  have hl : lv_has ls 1 [(0, .ref h)] := hl
  have lo_tp := k_lo tp
  have hi_tp := k_hi tp
  have lo_n := k_lo n
  have hi_n := k_hi n
  refine lv_aload_n hx hb dX4_hasRoom_0 rfl (lv_at hl 0 rfl) ?_
  refine va_get (D := D) (ci := 4) (v := .int n) (C := RX4) (T := TX4) (N := 7) hx hb hT giX4 hown hK hP 0 rfl rfl 6 (by decide) (hT (Cond.fieldLink RX4 31 "DesertWire$Rates" "number" "I") mw_145) (fun _ h9 => h9) rfl dX4_hasRoom_1 ?_
  refine b_if_lt hx hb rfl (tgt := 20) dX4_hasRoom_4 (by decide) (fun c_1 => ?_) (fun c_1 => ?_)
  · refine lv_iconst (v := 0) hx hb dX4_hasRoom_20 (by decide) ?_
    exact hRet () [0] (Or.inr (⟨rfl, (by omega)⟩)) hP hD (by decide) rfl hS rfl dX4_hasRoom_21
  · refine lv_aload_n hx hb dX4_hasRoom_7 rfl (lv_at hl 0 rfl) ?_
    refine va_get (D := D) (ci := 4) (v := .int n) (C := RX4) (T := TX4) (N := 7) hx hb hT giX4 hown hK hP 0 rfl rfl 6 (by decide) (hT (Cond.fieldLink RX4 31 "DesertWire$Rates" "number" "I") mw_145) (fun _ h9 => h9) rfl dX4_hasRoom_8 ?_
    refine lv_bipush (v := 12) hx hb dX4_hasRoom_11 (by decide) ?_
    refine b_icmp_ge hx hb rfl zl_12 (tgt := 20) dX4_hasRoom_13 (by decide) (fun c_2 => ?_) (fun c_2 => ?_)
    · refine lv_iconst (v := 0) hx hb dX4_hasRoom_20 (by decide) ?_
      exact hRet () [0] (Or.inr (⟨rfl, (by omega)⟩)) hP hD (by decide) rfl hS rfl dX4_hasRoom_21
    · refine lv_iconst (v := 1) hx hb dX4_hasRoom_16 (by decide) ?_
      refine lv_goto (tgt := 21) hx hb dX4_hasRoom_17 (by decide) ?_
      exact hRet () [0] (Or.inl ⟨rfl, (by omega), (by omega)⟩) hP hD (by decide) rfl hS rfl dX4_hasRoom_21
set_option maxHeartbeats 4000000 in
set_option maxRecDepth 100000 in
theorem c_X4_inForce (l : Launch) (D : va_G) (cI : ClassId) (h t0 t1 t2 t3 t4 : Nat) (sz : Nat) (tp : Int32) (a : Int32) (b : Int32) : Met l yX4_inForce (gW yX4_inForce cX4_inForce 4 (some .int)) ({ frames := 0, cells := 0, slots := 0, locals := 0 } : Room) (kPre D cI [.ref h, .int a, .int b] [(h, .inr (4, [.ref t0, .ref t1, .ref t2, .ref t3, .ref t4, .int tp, .int 0]))] sz) (va_Qi (fun (r : Int32) (u : Unit) => r = (-1)) (fun u t => kWd D cI (va_A [(h, .inr (4, [.ref t0, .ref t1, .ref t2, .ref t3, .ref t4, .int tp, .int 0]))] sz) [(h, .inr (4, [.ref t0, .ref t1, .ref t2, .ref t3, .ref t4, .int tp, .int 0]))] t) (va_A [(h, .inr (4, [.ref t0, .ref t1, .ref t2, .ref t3, .ref t4, .int tp, .int 0]))] sz)) 0 0 (va_A [(h, .inr (4, [.ref t0, .ref t1, .ref t2, .ref t3, .ref t4, .int tp, .int 0]))] sz) := by
  refine kMetI (own := RX4) (by decide) rfl (Nat.le_of_ble_eq_true rfl) ?_
  intro p e s m args below meth c hx hb hT hown hname hml A Q hK hP hD hS hA hN hRet ls hl
  have hl : lv_has ls 4 [(0, .ref h), (1, .int a), (2, .int b)] := hl
  have lo_a := k_lo a
  have hi_a := k_hi a
  have lo_b := k_lo b
  have hi_b := k_hi b
  have lo_tp := k_lo tp
  have hi_tp := k_hi tp
  refine lv_aload_n hx hb dX4_inForce_0 rfl (lv_at hl 0 rfl) ?_
  refine va_get (D := D) (ci := 4) (v := .int 0) (C := RX4) (T := TX4) (N := 7) hx hb hT giX4 hown hK hP 0 rfl rfl 6 (by decide) (hT (Cond.fieldLink RX4 31 "DesertWire$Rates" "number" "I") mw_145) (fun _ h9 => h9) rfl dX4_inForce_1 ?_
  refine lv_iconst (v := 1) hx hb dX4_inForce_4 (by decide) ?_
  refine k_isub (v := (-1)) hx hb dX4_inForce_5 (by decide) ?_
  refine lv_istore_n (lv' := [(3, .int (-1)), (0, .ref h), (1, .int a), (2, .int b)]) hx hb dX4_inForce_6 rfl hl (by decide) rfl (fun ls hl => ?_)
  refine lv_iload_n hx hb dX4_inForce_7 rfl (lv_at hl 0 rfl) ?_
  refine b_if_lt hx hb zl_m1 (tgt := 45) dX4_inForce_8 (by decide) (fun c_1 => ?_) (fun c_1 => by exfalso; omega)
  refine lv_iconst (v := (-1)) hx hb dX4_inForce_45 (by decide) ?_
  exact hRet () [0] rfl hP hD (by decide) rfl hS rfl dX4_inForce_46
set_option maxHeartbeats 4000000 in
set_option maxRecDepth 100000 in
theorem c_X4_append (l : Launch) (D : va_G) (cI : ClassId) (h t0 t1 t2 t3 t4 : Nat) (sz : Nat) (n : Int32) (f : Nat → Int32) (wo : Int64) (b : Int32) (pre0 : 1 ≤ b.toInt) (pre1 : b.toInt ≤ 8) : Met l yX4_append (gW yX4_append cX4_append 5 none) ({ frames := 0, cells := 0, slots := 0, locals := 0 } : Room) (kPre D cI [.ref h, .long wo, .int b] [(h, .inr (4, [.ref t0, .ref t1, .ref t2, .ref t3, .ref t4, .int 0, .int n])), (t0, .inl (cI, 50, .inl f))] sz) (va_Qv (fun (u : Int32) => u.toInt = b.toInt) (fun u t => kWd D cI (va_A [(h, .inr (4, [.ref t0, .ref t1, .ref t2, .ref t3, .ref t4, .int 0, .int n])), (t0, .inl (cI, 50, .inl f))] sz) [(h, .inr (4, [.ref t0, .ref t1, .ref t2, .ref t3, .ref t4, .int u, .int n]))] t) (va_A [(h, .inr (4, [.ref t0, .ref t1, .ref t2, .ref t3, .ref t4, .int 0, .int n])), (t0, .inl (cI, 50, .inl f))] sz)) 0 0 (va_A [(h, .inr (4, [.ref t0, .ref t1, .ref t2, .ref t3, .ref t4, .int 0, .int n])), (t0, .inl (cI, 50, .inl f))] sz) := by
  refine kMetV (own := RX4) (by decide) rfl (Nat.le_of_ble_eq_true rfl) ?_
  intro p e s m args below meth c hx hb hT hown hname hml A Q hK hP hD hS hA hN hRet ls hl
  have hl : lv_has ls 5 [(0, .ref h), (1, .long wo), (3, .int b)] := hl
  have lo_b := k_lo b
  have hi_b := k_hi b
  have lo_n := k_lo n
  have hi_n := k_hi n
  refine lv_iconst (v := 0) hx hb dX4_append_0 (by decide) ?_
  refine lv_istore (lv' := [(4, .int 0), (0, .ref h), (1, .long wo), (3, .int b)]) hx hb dX4_append_1 hl (by decide) rfl (fun ls hl => ?_)
  have hloop_3 : ∀ (fu_ : Nat) (i : Int32) (tq : Int32) (q : Nat → Int32), 0 ≤ i.toInt → i.toInt ≤ b.toInt → tq.toInt = i.toInt → (8 - i.toInt).toNat < fu_ → ∀ (ls : Array Slot) (H : Heap) (locs : List Loc), lv_has ls 5 [(4, .int i), (0, .ref h), (1, .long wo), (3, .int b)] → va_P D vwCl [(h, .inr (4, [.ref t0, .ref t1, .ref t2, .ref t3, .ref t4, .int tq, .int n])), (t0, .inl (cI, 50, .inl q))] H → va_D A [(h, .inr (4, [.ref t0, .ref t1, .ref t2, .ref t3, .ref t4, .int tq, .int n])), (t0, .inl (cI, 50, .inl q))] → va_S A s.heap H locs → W p l e ({ frames := 0, cells := 0, slots := 0, locals := 0 } : Room) s m args below meth c H locs 0 0 Q (F0 m 3 ls []) := by
    intro fu_; induction fu_ with
    | zero => intro i tq q i3_0 i3_1 i3_2 hm; exact absurd hm (by omega)
    | succ fu_ ih3 =>
        intro i tq q i3_0 i3_1 i3_2 hm ls H locs hl hP hD hS
        have lo_i := k_lo i
        have hi_i := k_hi i
        have lo_tq := k_lo tq
        have hi_tq := k_hi tq
        refine lv_iload hx hb dX4_append_3 (lv_at hl 0 rfl) ?_
        refine lv_iload_n hx hb dX4_append_5 rfl (lv_at hl 3 rfl) ?_
        refine b_icmp_ge hx hb rfl rfl (tgt := 62) dX4_append_6 (by decide) (fun c_1 => ?_) (fun c_1 => ?_)
        · exact hRet tq [0] (by first | omega | decide | assumption | rfl) hP hD (by decide) rfl hS dX4_append_62
        · refine lv_aload_n hx hb dX4_append_9 rfl (lv_at hl 1 rfl) ?_
          refine va_get (D := D) (ci := 4) (v := .int tq) (C := RX4) (T := TX4) (N := 7) hx hb hT giX4 hown hK hP 0 rfl rfl 5 (by decide) (hT (Cond.fieldLink RX4 27 "DesertWire$Rates" "taped" "I") mw_143) (fun _ h9 => h9) rfl dX4_append_10 ?_
          refine b_if_lt hx hb rfl (tgt := 62) dX4_append_13 (by decide) (fun c_2 => by exfalso; omega) (fun c_2 => ?_)
          refine lv_aload_n hx hb dX4_append_16 rfl (lv_at hl 1 rfl) ?_
          refine va_get (D := D) (ci := 4) (v := .int tq) (C := RX4) (T := TX4) (N := 7) hx hb hT giX4 hown hK hP 0 rfl rfl 5 (by decide) (hT (Cond.fieldLink RX4 27 "DesertWire$Rates" "taped" "I") mw_143) (fun _ h9 => h9) rfl dX4_append_17 ?_
          refine lv_bipush (v := 50) hx hb dX4_append_20 (by decide) ?_
          refine b_icmp_ge hx hb rfl zl_50 (tgt := 62) dX4_append_22 (by decide) (fun c_3 => by exfalso; omega) (fun c_3 => ?_)
          refine lv_aload_n hx hb dX4_append_25 rfl (lv_at hl 1 rfl) ?_
          refine va_get (D := D) (ci := 4) (v := .ref t0) (C := RX4) (T := TX4) (N := 7) hx hb hT giX4 hown hK hP 0 rfl rfl 0 (by decide) (hT (Cond.fieldLink RX4 9 "DesertWire$Rates" "tape" "[I") mw_136) (fun _ h9 => h9) rfl dX4_append_26 ?_
          refine lv_aload_n hx hb dX4_append_29 rfl (lv_at hl 1 rfl) ?_
          refine va_get (D := D) (ci := 4) (v := .int tq) (C := RX4) (T := TX4) (N := 7) hx hb hT giX4 hown hK hP 0 rfl rfl 5 (by decide) (hT (Cond.fieldLink RX4 27 "DesertWire$Rates" "taped" "I") mw_143) (fun _ h9 => h9) rfl dX4_append_30 ?_
          refine lv_lload_n hx hb dX4_append_33 rfl (lv_at hl 2 rfl) ?_
          refine lv_bipush (v := 8) hx hb dX4_append_34 (by decide) ?_
          refine lv_iload hx hb dX4_append_36 (lv_at hl 0 rfl) ?_
          refine lv_imul hx hb dX4_append_38 ?_
          refine lv_topi (fun v_4 ev_4 => ?_)
          have tv_4 : v_4.toInt = 8 * i.toInt := by rw [ev_4]; exact k_mulv zl_8 rfl (by omega) (by omega)
          refine lv_lushr hx hb dX4_append_39 rfl ?_
          refine lv_topl (fun g_5 eg_5 => ?_)
          refine lv_ldc2 (v := 255) hx hb hown (hT _ mw_839) dX4_append_40 ?_
          refine lv_land hx hb dX4_append_43 ?_
          refine lv_topl (fun g_6 eg_6 => ?_)
          refine lv_l2i (v := g_6.toInt32) hx hb dX4_append_44 rfl ?_
          refine lv_topi (fun v_7 ev_7 => ?_)
          have lo_v_7 := k_lo v_7
          have hi_v_7 := k_hi v_7
          refine va_iast hx hb hK hP hD hS 1 0 rfl rfl (k_in (by omega) (by omega)) dX4_append_45 (fun H locs hP hD hS => ?_)
          have hP : va_P D vwCl [(h, .inr (4, [.ref t0, .ref t1, .ref t2, .ref t3, .ref t4, .int tq, .int n])), (t0, .inl (cI, 50, .inl (upd q tq.toNatClampNeg v_7)))] H := hP
          have hD : va_D A [(h, .inr (4, [.ref t0, .ref t1, .ref t2, .ref t3, .ref t4, .int tq, .int n])), (t0, .inl (cI, 50, .inl (upd q tq.toNatClampNeg v_7)))] := hD
          obtain ⟨f_8, ef_8⟩ : ∃ g : Nat → Int32, g = upd q tq.toNatClampNeg v_7 := ⟨_, rfl⟩
          rw [← ef_8] at hP hD
          refine lv_aload_n hx hb dX4_append_46 rfl (lv_at hl 1 rfl) ?_
          refine lv_dup hx hb dX4_append_47 rfl ?_
          refine va_get (D := D) (ci := 4) (v := .int tq) (C := RX4) (T := TX4) (N := 7) hx hb hT giX4 hown hK hP 0 rfl rfl 5 (by decide) (hT (Cond.fieldLink RX4 27 "DesertWire$Rates" "taped" "I") mw_143) (fun _ h9 => h9) rfl dX4_append_48 ?_
          refine lv_iconst (v := 1) hx hb dX4_append_51 (by decide) ?_
          refine lv_iadd hx hb dX4_append_52 ?_
          refine lv_topi (fun v_9 ev_9 => ?_)
          have tv_9 : v_9.toInt = tq.toInt + 1 := by rw [ev_9]; exact k_addv rfl zl_1 (by omega) (by omega)
          refine va_put (D := D) (ci := 4) (v := .int v_9) (ty := .int) (C := RX4) (T := TX4) (N := 7) hx hb hT giX4 tyX4 tyX4_ok nmX4 hown hK hP hD hS 0 rfl rfl 5 (by decide) (hT (Cond.fieldLink RX4 27 "DesertWire$Rates" "taped" "I") mw_143) (fun _ h9 => h9) rfl (by decide +kernel) rfl rfl (Nat.le_of_ble_eq_true rfl) dX4_append_53 (fun H locs hP hD hS => ?_)
          have hP : va_P D vwCl [(h, .inr (4, [.ref t0, .ref t1, .ref t2, .ref t3, .ref t4, .int v_9, .int n])), (t0, .inl (cI, 50, .inl f_8))] H := hP
          have hD : va_D A [(h, .inr (4, [.ref t0, .ref t1, .ref t2, .ref t3, .ref t4, .int v_9, .int n])), (t0, .inl (cI, 50, .inl f_8))] := hD
          obtain ⟨v_10, ev_10⟩ : ∃ y : Int32, y = i + 1 := ⟨_, rfl⟩
          have tv_10 : v_10.toInt = i.toInt + 1 := by rw [ev_10]; exact k_addv rfl zl_1 (by omega) (by omega)
          refine lv_iinc (v := v_10) (lv' := [(4, .int v_10), (0, .ref h), (1, .long wo), (3, .int b)]) hx hb dX4_append_56 hl (k := 0) rfl (by rw [ev_10]; rfl) (by decide) rfl (fun ls hl => ?_)
          refine lv_goto (tgt := 3) hx hb dX4_append_59 (by decide) ?_
          exact ih3 v_10 v_9 f_8 (by first | omega | decide | assumption | rfl) (by first | omega | decide | assumption | rfl) (by first | omega | decide | assumption | rfl) (by omega) ls _ _ (lv_sub hl [0, 1, 2, 3] rfl) (hP.sub [0, 1] rfl) (hD.sub [0, 1] (by decide) rfl) hS
  exact hloop_3 _ 0 0 f (by first | omega | (simp only [zl_0] <;> omega) | decide | assumption | rfl) (by first | omega | (simp only [zl_0] <;> omega) | decide | assumption | rfl) (by first | omega | (simp only [zl_0] <;> omega) | decide | assumption | rfl) (Nat.lt_succ_self _) ls _ _ (lv_sub hl [0, 1, 2, 3] rfl) hP hD hS
set_option maxHeartbeats 4000000 in
set_option maxRecDepth 100000 in
theorem c_X4_copyFrom (l : Launch) (D : va_G) (cI : ClassId) (h t0 t1 t2 t3 t4 o j0 j1 j2 j3 j4 : Nat) (sz : Nat) (tp : Int32) (n : Int32) (tp2 : Int32) (n2 : Int32) (f0 : Nat → Int32) (f1 : Nat → Int32) (f2 : Nat → Int32) (f3 : Nat → Int32) (f4 : Nat → Int32) (g0 : Nat → Int32) (g1 : Nat → Int32) (g2 : Nat → Int32) (g3 : Nat → Int32) (g4 : Nat → Int32) : Met l yX4_copyFrom (gW yX4_copyFrom cX4_copyFrom 2 none) ({ frames := 1, cells := 0, slots := 0, locals := 64 } : Room) (kPre D cI [.ref h, .ref o] [(h, .inr (4, [.ref t0, .ref t1, .ref t2, .ref t3, .ref t4, .int tp, .int n])), (o, .inr (4, [.ref j0, .ref j1, .ref j2, .ref j3, .ref j4, .int tp2, .int n2])), (t0, .inl (cI, 50, .inl f0)), (t1, .inl (cI, 600, .inl f1)), (t2, .inl (cI, 12, .inl f2)), (t3, .inl (cI, 12, .inl f3)), (t4, .inl (cI, 12, .inl f4)), (j0, .inl (cI, 50, .inl g0)), (j1, .inl (cI, 600, .inl g1)), (j2, .inl (cI, 12, .inl g2)), (j3, .inl (cI, 12, .inl g3)), (j4, .inl (cI, 12, .inl g4))] sz) (va_Qv (fun (u : Unit) => True) (fun u t => kWd D cI (va_A [(h, .inr (4, [.ref t0, .ref t1, .ref t2, .ref t3, .ref t4, .int tp, .int n])), (o, .inr (4, [.ref j0, .ref j1, .ref j2, .ref j3, .ref j4, .int tp2, .int n2])), (t0, .inl (cI, 50, .inl f0)), (t1, .inl (cI, 600, .inl f1)), (t2, .inl (cI, 12, .inl f2)), (t3, .inl (cI, 12, .inl f3)), (t4, .inl (cI, 12, .inl f4)), (j0, .inl (cI, 50, .inl g0)), (j1, .inl (cI, 600, .inl g1)), (j2, .inl (cI, 12, .inl g2)), (j3, .inl (cI, 12, .inl g3)), (j4, .inl (cI, 12, .inl g4))] sz) [] t) (va_A [(h, .inr (4, [.ref t0, .ref t1, .ref t2, .ref t3, .ref t4, .int tp, .int n])), (o, .inr (4, [.ref j0, .ref j1, .ref j2, .ref j3, .ref j4, .int tp2, .int n2])), (t0, .inl (cI, 50, .inl f0)), (t1, .inl (cI, 600, .inl f1)), (t2, .inl (cI, 12, .inl f2)), (t3, .inl (cI, 12, .inl f3)), (t4, .inl (cI, 12, .inl f4)), (j0, .inl (cI, 50, .inl g0)), (j1, .inl (cI, 600, .inl g1)), (j2, .inl (cI, 12, .inl g2)), (j3, .inl (cI, 12, .inl g3)), (j4, .inl (cI, 12, .inl g4))] sz)) 0 0 (va_A [(h, .inr (4, [.ref t0, .ref t1, .ref t2, .ref t3, .ref t4, .int tp, .int n])), (o, .inr (4, [.ref j0, .ref j1, .ref j2, .ref j3, .ref j4, .int tp2, .int n2])), (t0, .inl (cI, 50, .inl f0)), (t1, .inl (cI, 600, .inl f1)), (t2, .inl (cI, 12, .inl f2)), (t3, .inl (cI, 12, .inl f3)), (t4, .inl (cI, 12, .inl f4)), (j0, .inl (cI, 50, .inl g0)), (j1, .inl (cI, 600, .inl g1)), (j2, .inl (cI, 12, .inl g2)), (j3, .inl (cI, 12, .inl g3)), (j4, .inl (cI, 12, .inl g4))] sz) := by
  refine kMetV (own := RX4) (by decide) rfl (Nat.le_of_ble_eq_true rfl) ?_
  intro p e s m args below meth c hx hb hT hown hname hml A Q hK hP hD hS hA hN hRet ls hl
  have hl : lv_has ls 2 [(0, .ref h), (1, .ref o)] := hl
  have lo_tp := k_lo tp
  have hi_tp := k_hi tp
  have lo_n := k_lo n
  have hi_n := k_hi n
  have lo_tp2 := k_lo tp2
  have hi_tp2 := k_hi tp2
  have lo_n2 := k_lo n2
  have hi_n2 := k_hi n2
  refine lv_aload_n hx hb dX4_copyFrom_0 rfl (lv_at hl 1 rfl) ?_
  refine va_get (D := D) (ci := 4) (v := .ref j0) (C := RX4) (T := TX4) (N := 7) hx hb hT giX4 hown hK hP 1 rfl rfl 0 (by decide) (hT (Cond.fieldLink RX4 9 "DesertWire$Rates" "tape" "[I") mw_136) (fun _ h9 => h9) rfl dX4_copyFrom_1 ?_
  refine lv_iconst (v := 0) hx hb dX4_copyFrom_4 (by decide) ?_
  refine lv_aload_n hx hb dX4_copyFrom_5 rfl (lv_at hl 0 rfl) ?_
  refine va_get (D := D) (ci := 4) (v := .ref t0) (C := RX4) (T := TX4) (N := 7) hx hb hT giX4 hown hK hP 0 rfl rfl 0 (by decide) (hT (Cond.fieldLink RX4 9 "DesertWire$Rates" "tape" "[I") mw_136) (fun _ h9 => h9) rfl dX4_copyFrom_6 ?_
  refine lv_iconst (v := 0) hx hb dX4_copyFrom_9 (by decide) ?_
  refine lv_bipush (v := 50) hx hb dX4_copyFrom_10 (by decide) ?_
  refine k_copy (c0 := cI) (c1 := cI) hx hb (hml.trans hl.1.symm) hown (hT _ mw_863) (hT _ mw_865) (hT _ mw_864) (hT _ mw_19) hK hP hD hS 7 2 rfl rfl (by decide) (by decide) (Nat.le_of_ble_eq_true rfl) (by decide +kernel) dX4_copyFrom_12 (fun H locs hP hD hS => ?_)
  have hP : va_P D vwCl [(h, .inr (4, [.ref t0, .ref t1, .ref t2, .ref t3, .ref t4, .int tp, .int n])), (o, .inr (4, [.ref j0, .ref j1, .ref j2, .ref j3, .ref j4, .int tp2, .int n2])), (t0, .inl (cI, 50, .inl g0)), (t1, .inl (cI, 600, .inl f1)), (t2, .inl (cI, 12, .inl f2)), (t3, .inl (cI, 12, .inl f3)), (t4, .inl (cI, 12, .inl f4)), (j0, .inl (cI, 50, .inl g0)), (j1, .inl (cI, 600, .inl g1)), (j2, .inl (cI, 12, .inl g2)), (j3, .inl (cI, 12, .inl g3)), (j4, .inl (cI, 12, .inl g4))] H := hP
  have hD : va_D A [(h, .inr (4, [.ref t0, .ref t1, .ref t2, .ref t3, .ref t4, .int tp, .int n])), (o, .inr (4, [.ref j0, .ref j1, .ref j2, .ref j3, .ref j4, .int tp2, .int n2])), (t0, .inl (cI, 50, .inl g0)), (t1, .inl (cI, 600, .inl f1)), (t2, .inl (cI, 12, .inl f2)), (t3, .inl (cI, 12, .inl f3)), (t4, .inl (cI, 12, .inl f4)), (j0, .inl (cI, 50, .inl g0)), (j1, .inl (cI, 600, .inl g1)), (j2, .inl (cI, 12, .inl g2)), (j3, .inl (cI, 12, .inl g3)), (j4, .inl (cI, 12, .inl g4))] := hD
  refine lv_aload_n hx hb dX4_copyFrom_15 rfl (lv_at hl 1 rfl) ?_
  refine va_get (D := D) (ci := 4) (v := .ref j1) (C := RX4) (T := TX4) (N := 7) hx hb hT giX4 hown hK hP 1 rfl rfl 1 (by decide) (hT (Cond.fieldLink RX4 15 "DesertWire$Rates" "texts" "[I") mw_138) (fun _ h9 => h9) rfl dX4_copyFrom_16 ?_
  refine lv_iconst (v := 0) hx hb dX4_copyFrom_19 (by decide) ?_
  refine lv_aload_n hx hb dX4_copyFrom_20 rfl (lv_at hl 0 rfl) ?_
  refine va_get (D := D) (ci := 4) (v := .ref t1) (C := RX4) (T := TX4) (N := 7) hx hb hT giX4 hown hK hP 0 rfl rfl 1 (by decide) (hT (Cond.fieldLink RX4 15 "DesertWire$Rates" "texts" "[I") mw_138) (fun _ h9 => h9) rfl dX4_copyFrom_21 ?_
  refine lv_iconst (v := 0) hx hb dX4_copyFrom_24 (by decide) ?_
  refine lv_sipush (v := 600) hx hb dX4_copyFrom_25 (by decide) ?_
  refine k_copy (c0 := cI) (c1 := cI) hx hb (hml.trans hl.1.symm) hown (hT _ mw_863) (hT _ mw_865) (hT _ mw_864) (hT _ mw_19) hK hP hD hS 8 3 rfl rfl (by decide) (by decide) (Nat.le_of_ble_eq_true rfl) (by decide +kernel) dX4_copyFrom_28 (fun H locs hP hD hS => ?_)
  have hP : va_P D vwCl [(h, .inr (4, [.ref t0, .ref t1, .ref t2, .ref t3, .ref t4, .int tp, .int n])), (o, .inr (4, [.ref j0, .ref j1, .ref j2, .ref j3, .ref j4, .int tp2, .int n2])), (t0, .inl (cI, 50, .inl g0)), (t1, .inl (cI, 600, .inl g1)), (t2, .inl (cI, 12, .inl f2)), (t3, .inl (cI, 12, .inl f3)), (t4, .inl (cI, 12, .inl f4)), (j0, .inl (cI, 50, .inl g0)), (j1, .inl (cI, 600, .inl g1)), (j2, .inl (cI, 12, .inl g2)), (j3, .inl (cI, 12, .inl g3)), (j4, .inl (cI, 12, .inl g4))] H := hP
  have hD : va_D A [(h, .inr (4, [.ref t0, .ref t1, .ref t2, .ref t3, .ref t4, .int tp, .int n])), (o, .inr (4, [.ref j0, .ref j1, .ref j2, .ref j3, .ref j4, .int tp2, .int n2])), (t0, .inl (cI, 50, .inl g0)), (t1, .inl (cI, 600, .inl g1)), (t2, .inl (cI, 12, .inl f2)), (t3, .inl (cI, 12, .inl f3)), (t4, .inl (cI, 12, .inl f4)), (j0, .inl (cI, 50, .inl g0)), (j1, .inl (cI, 600, .inl g1)), (j2, .inl (cI, 12, .inl g2)), (j3, .inl (cI, 12, .inl g3)), (j4, .inl (cI, 12, .inl g4))] := hD
  refine lv_aload_n hx hb dX4_copyFrom_31 rfl (lv_at hl 1 rfl) ?_
  refine va_get (D := D) (ci := 4) (v := .ref j2) (C := RX4) (T := TX4) (N := 7) hx hb hT giX4 hown hK hP 1 rfl rfl 2 (by decide) (hT (Cond.fieldLink RX4 18 "DesertWire$Rates" "lengths" "[I") mw_140) (fun _ h9 => h9) rfl dX4_copyFrom_32 ?_
  refine lv_iconst (v := 0) hx hb dX4_copyFrom_35 (by decide) ?_
  refine lv_aload_n hx hb dX4_copyFrom_36 rfl (lv_at hl 0 rfl) ?_
  refine va_get (D := D) (ci := 4) (v := .ref t2) (C := RX4) (T := TX4) (N := 7) hx hb hT giX4 hown hK hP 0 rfl rfl 2 (by decide) (hT (Cond.fieldLink RX4 18 "DesertWire$Rates" "lengths" "[I") mw_140) (fun _ h9 => h9) rfl dX4_copyFrom_37 ?_
  refine lv_iconst (v := 0) hx hb dX4_copyFrom_40 (by decide) ?_
  refine lv_bipush (v := 12) hx hb dX4_copyFrom_41 (by decide) ?_
  refine k_copy (c0 := cI) (c1 := cI) hx hb (hml.trans hl.1.symm) hown (hT _ mw_863) (hT _ mw_865) (hT _ mw_864) (hT _ mw_19) hK hP hD hS 9 4 rfl rfl (by decide) (by decide) (Nat.le_of_ble_eq_true rfl) (by decide +kernel) dX4_copyFrom_43 (fun H locs hP hD hS => ?_)
  have hP : va_P D vwCl [(h, .inr (4, [.ref t0, .ref t1, .ref t2, .ref t3, .ref t4, .int tp, .int n])), (o, .inr (4, [.ref j0, .ref j1, .ref j2, .ref j3, .ref j4, .int tp2, .int n2])), (t0, .inl (cI, 50, .inl g0)), (t1, .inl (cI, 600, .inl g1)), (t2, .inl (cI, 12, .inl g2)), (t3, .inl (cI, 12, .inl f3)), (t4, .inl (cI, 12, .inl f4)), (j0, .inl (cI, 50, .inl g0)), (j1, .inl (cI, 600, .inl g1)), (j2, .inl (cI, 12, .inl g2)), (j3, .inl (cI, 12, .inl g3)), (j4, .inl (cI, 12, .inl g4))] H := hP
  have hD : va_D A [(h, .inr (4, [.ref t0, .ref t1, .ref t2, .ref t3, .ref t4, .int tp, .int n])), (o, .inr (4, [.ref j0, .ref j1, .ref j2, .ref j3, .ref j4, .int tp2, .int n2])), (t0, .inl (cI, 50, .inl g0)), (t1, .inl (cI, 600, .inl g1)), (t2, .inl (cI, 12, .inl g2)), (t3, .inl (cI, 12, .inl f3)), (t4, .inl (cI, 12, .inl f4)), (j0, .inl (cI, 50, .inl g0)), (j1, .inl (cI, 600, .inl g1)), (j2, .inl (cI, 12, .inl g2)), (j3, .inl (cI, 12, .inl g3)), (j4, .inl (cI, 12, .inl g4))] := hD
  refine lv_aload_n hx hb dX4_copyFrom_46 rfl (lv_at hl 1 rfl) ?_
  refine va_get (D := D) (ci := 4) (v := .ref j3) (C := RX4) (T := TX4) (N := 7) hx hb hT giX4 hown hK hP 1 rfl rfl 3 (by decide) (hT (Cond.fieldLink RX4 21 "DesertWire$Rates" "uses" "[I") mw_141) (fun _ h9 => h9) rfl dX4_copyFrom_47 ?_
  refine lv_iconst (v := 0) hx hb dX4_copyFrom_50 (by decide) ?_
  refine lv_aload_n hx hb dX4_copyFrom_51 rfl (lv_at hl 0 rfl) ?_
  refine va_get (D := D) (ci := 4) (v := .ref t3) (C := RX4) (T := TX4) (N := 7) hx hb hT giX4 hown hK hP 0 rfl rfl 3 (by decide) (hT (Cond.fieldLink RX4 21 "DesertWire$Rates" "uses" "[I") mw_141) (fun _ h9 => h9) rfl dX4_copyFrom_52 ?_
  refine lv_iconst (v := 0) hx hb dX4_copyFrom_55 (by decide) ?_
  refine lv_bipush (v := 12) hx hb dX4_copyFrom_56 (by decide) ?_
  refine k_copy (c0 := cI) (c1 := cI) hx hb (hml.trans hl.1.symm) hown (hT _ mw_863) (hT _ mw_865) (hT _ mw_864) (hT _ mw_19) hK hP hD hS 10 5 rfl rfl (by decide) (by decide) (Nat.le_of_ble_eq_true rfl) (by decide +kernel) dX4_copyFrom_58 (fun H locs hP hD hS => ?_)
  have hP : va_P D vwCl [(h, .inr (4, [.ref t0, .ref t1, .ref t2, .ref t3, .ref t4, .int tp, .int n])), (o, .inr (4, [.ref j0, .ref j1, .ref j2, .ref j3, .ref j4, .int tp2, .int n2])), (t0, .inl (cI, 50, .inl g0)), (t1, .inl (cI, 600, .inl g1)), (t2, .inl (cI, 12, .inl g2)), (t3, .inl (cI, 12, .inl g3)), (t4, .inl (cI, 12, .inl f4)), (j0, .inl (cI, 50, .inl g0)), (j1, .inl (cI, 600, .inl g1)), (j2, .inl (cI, 12, .inl g2)), (j3, .inl (cI, 12, .inl g3)), (j4, .inl (cI, 12, .inl g4))] H := hP
  have hD : va_D A [(h, .inr (4, [.ref t0, .ref t1, .ref t2, .ref t3, .ref t4, .int tp, .int n])), (o, .inr (4, [.ref j0, .ref j1, .ref j2, .ref j3, .ref j4, .int tp2, .int n2])), (t0, .inl (cI, 50, .inl g0)), (t1, .inl (cI, 600, .inl g1)), (t2, .inl (cI, 12, .inl g2)), (t3, .inl (cI, 12, .inl g3)), (t4, .inl (cI, 12, .inl f4)), (j0, .inl (cI, 50, .inl g0)), (j1, .inl (cI, 600, .inl g1)), (j2, .inl (cI, 12, .inl g2)), (j3, .inl (cI, 12, .inl g3)), (j4, .inl (cI, 12, .inl g4))] := hD
  refine lv_aload_n hx hb dX4_copyFrom_61 rfl (lv_at hl 1 rfl) ?_
  refine va_get (D := D) (ci := 4) (v := .ref j4) (C := RX4) (T := TX4) (N := 7) hx hb hT giX4 hown hK hP 1 rfl rfl 4 (by decide) (hT (Cond.fieldLink RX4 24 "DesertWire$Rates" "froms" "[I") mw_142) (fun _ h9 => h9) rfl dX4_copyFrom_62 ?_
  refine lv_iconst (v := 0) hx hb dX4_copyFrom_65 (by decide) ?_
  refine lv_aload_n hx hb dX4_copyFrom_66 rfl (lv_at hl 0 rfl) ?_
  refine va_get (D := D) (ci := 4) (v := .ref t4) (C := RX4) (T := TX4) (N := 7) hx hb hT giX4 hown hK hP 0 rfl rfl 4 (by decide) (hT (Cond.fieldLink RX4 24 "DesertWire$Rates" "froms" "[I") mw_142) (fun _ h9 => h9) rfl dX4_copyFrom_67 ?_
  refine lv_iconst (v := 0) hx hb dX4_copyFrom_70 (by decide) ?_
  refine lv_bipush (v := 12) hx hb dX4_copyFrom_71 (by decide) ?_
  refine k_copy (c0 := cI) (c1 := cI) hx hb (hml.trans hl.1.symm) hown (hT _ mw_863) (hT _ mw_865) (hT _ mw_864) (hT _ mw_19) hK hP hD hS 11 6 rfl rfl (by decide) (by decide) (Nat.le_of_ble_eq_true rfl) (by decide +kernel) dX4_copyFrom_73 (fun H locs hP hD hS => ?_)
  have hP : va_P D vwCl [(h, .inr (4, [.ref t0, .ref t1, .ref t2, .ref t3, .ref t4, .int tp, .int n])), (o, .inr (4, [.ref j0, .ref j1, .ref j2, .ref j3, .ref j4, .int tp2, .int n2])), (t0, .inl (cI, 50, .inl g0)), (t1, .inl (cI, 600, .inl g1)), (t2, .inl (cI, 12, .inl g2)), (t3, .inl (cI, 12, .inl g3)), (t4, .inl (cI, 12, .inl g4)), (j0, .inl (cI, 50, .inl g0)), (j1, .inl (cI, 600, .inl g1)), (j2, .inl (cI, 12, .inl g2)), (j3, .inl (cI, 12, .inl g3)), (j4, .inl (cI, 12, .inl g4))] H := hP
  have hD : va_D A [(h, .inr (4, [.ref t0, .ref t1, .ref t2, .ref t3, .ref t4, .int tp, .int n])), (o, .inr (4, [.ref j0, .ref j1, .ref j2, .ref j3, .ref j4, .int tp2, .int n2])), (t0, .inl (cI, 50, .inl g0)), (t1, .inl (cI, 600, .inl g1)), (t2, .inl (cI, 12, .inl g2)), (t3, .inl (cI, 12, .inl g3)), (t4, .inl (cI, 12, .inl g4)), (j0, .inl (cI, 50, .inl g0)), (j1, .inl (cI, 600, .inl g1)), (j2, .inl (cI, 12, .inl g2)), (j3, .inl (cI, 12, .inl g3)), (j4, .inl (cI, 12, .inl g4))] := hD
  refine lv_aload_n hx hb dX4_copyFrom_76 rfl (lv_at hl 0 rfl) ?_
  refine lv_aload_n hx hb dX4_copyFrom_77 rfl (lv_at hl 1 rfl) ?_
  refine va_get (D := D) (ci := 4) (v := .int tp2) (C := RX4) (T := TX4) (N := 7) hx hb hT giX4 hown hK hP 1 rfl rfl 5 (by decide) (hT (Cond.fieldLink RX4 27 "DesertWire$Rates" "taped" "I") mw_143) (fun _ h9 => h9) rfl dX4_copyFrom_78 ?_
  refine va_put (D := D) (ci := 4) (v := .int tp2) (ty := .int) (C := RX4) (T := TX4) (N := 7) hx hb hT giX4 tyX4 tyX4_ok nmX4 hown hK hP hD hS 0 rfl rfl 5 (by decide) (hT (Cond.fieldLink RX4 27 "DesertWire$Rates" "taped" "I") mw_143) (fun _ h9 => h9) rfl (by decide +kernel) rfl rfl (Nat.le_of_ble_eq_true rfl) dX4_copyFrom_81 (fun H locs hP hD hS => ?_)
  have hP : va_P D vwCl [(h, .inr (4, [.ref t0, .ref t1, .ref t2, .ref t3, .ref t4, .int tp2, .int n])), (o, .inr (4, [.ref j0, .ref j1, .ref j2, .ref j3, .ref j4, .int tp2, .int n2])), (t0, .inl (cI, 50, .inl g0)), (t1, .inl (cI, 600, .inl g1)), (t2, .inl (cI, 12, .inl g2)), (t3, .inl (cI, 12, .inl g3)), (t4, .inl (cI, 12, .inl g4)), (j0, .inl (cI, 50, .inl g0)), (j1, .inl (cI, 600, .inl g1)), (j2, .inl (cI, 12, .inl g2)), (j3, .inl (cI, 12, .inl g3)), (j4, .inl (cI, 12, .inl g4))] H := hP
  have hD : va_D A [(h, .inr (4, [.ref t0, .ref t1, .ref t2, .ref t3, .ref t4, .int tp2, .int n])), (o, .inr (4, [.ref j0, .ref j1, .ref j2, .ref j3, .ref j4, .int tp2, .int n2])), (t0, .inl (cI, 50, .inl g0)), (t1, .inl (cI, 600, .inl g1)), (t2, .inl (cI, 12, .inl g2)), (t3, .inl (cI, 12, .inl g3)), (t4, .inl (cI, 12, .inl g4)), (j0, .inl (cI, 50, .inl g0)), (j1, .inl (cI, 600, .inl g1)), (j2, .inl (cI, 12, .inl g2)), (j3, .inl (cI, 12, .inl g3)), (j4, .inl (cI, 12, .inl g4))] := hD
  refine lv_aload_n hx hb dX4_copyFrom_84 rfl (lv_at hl 0 rfl) ?_
  refine lv_aload_n hx hb dX4_copyFrom_85 rfl (lv_at hl 1 rfl) ?_
  refine va_get (D := D) (ci := 4) (v := .int n2) (C := RX4) (T := TX4) (N := 7) hx hb hT giX4 hown hK hP 1 rfl rfl 6 (by decide) (hT (Cond.fieldLink RX4 31 "DesertWire$Rates" "number" "I") mw_145) (fun _ h9 => h9) rfl dX4_copyFrom_86 ?_
  refine va_put (D := D) (ci := 4) (v := .int n2) (ty := .int) (C := RX4) (T := TX4) (N := 7) hx hb hT giX4 tyX4 tyX4_ok nmX4 hown hK hP hD hS 0 rfl rfl 6 (by decide) (hT (Cond.fieldLink RX4 31 "DesertWire$Rates" "number" "I") mw_145) (fun _ h9 => h9) rfl (by decide +kernel) rfl rfl (Nat.le_of_ble_eq_true rfl) dX4_copyFrom_89 (fun H locs hP hD hS => ?_)
  have hP : va_P D vwCl [(h, .inr (4, [.ref t0, .ref t1, .ref t2, .ref t3, .ref t4, .int tp2, .int n2])), (o, .inr (4, [.ref j0, .ref j1, .ref j2, .ref j3, .ref j4, .int tp2, .int n2])), (t0, .inl (cI, 50, .inl g0)), (t1, .inl (cI, 600, .inl g1)), (t2, .inl (cI, 12, .inl g2)), (t3, .inl (cI, 12, .inl g3)), (t4, .inl (cI, 12, .inl g4)), (j0, .inl (cI, 50, .inl g0)), (j1, .inl (cI, 600, .inl g1)), (j2, .inl (cI, 12, .inl g2)), (j3, .inl (cI, 12, .inl g3)), (j4, .inl (cI, 12, .inl g4))] H := hP
  have hD : va_D A [(h, .inr (4, [.ref t0, .ref t1, .ref t2, .ref t3, .ref t4, .int tp2, .int n2])), (o, .inr (4, [.ref j0, .ref j1, .ref j2, .ref j3, .ref j4, .int tp2, .int n2])), (t0, .inl (cI, 50, .inl g0)), (t1, .inl (cI, 600, .inl g1)), (t2, .inl (cI, 12, .inl g2)), (t3, .inl (cI, 12, .inl g3)), (t4, .inl (cI, 12, .inl g4)), (j0, .inl (cI, 50, .inl g0)), (j1, .inl (cI, 600, .inl g1)), (j2, .inl (cI, 12, .inl g2)), (j3, .inl (cI, 12, .inl g3)), (j4, .inl (cI, 12, .inl g4))] := hD
  exact hRet () [] trivial hP hD (by decide) rfl hS dX4_copyFrom_92
