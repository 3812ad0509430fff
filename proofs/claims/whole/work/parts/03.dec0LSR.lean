theorem d_L_init_0 : decode prog_2_method_1_code 0 = .ok (.aload_n 0, 1) := by decide +kernel
theorem d_L_init_1 : decode prog_2_method_1_code 1 = .ok (.invokespecial 3, 3) := by decide +kernel
theorem d_L_init_4 : decode prog_2_method_1_code 4 = .ok (.aload_n 0, 1) := by decide +kernel
theorem d_L_init_5 : decode prog_2_method_1_code 5 = .ok (.sipush 2640, 3) := by decide +kernel
theorem d_L_init_8 : decode prog_2_method_1_code 8 = .ok (.newarray .byte, 2) := by decide +kernel
theorem d_L_init_10 : decode prog_2_method_1_code 10 = .ok (.putfield 11, 3) := by decide +kernel
theorem d_L_init_13 : decode prog_2_method_1_code 13 = .ok (.aload_n 0, 1) := by decide +kernel
theorem d_L_init_14 : decode prog_2_method_1_code 14 = .ok (.iconst 0, 1) := by decide +kernel
theorem d_L_init_15 : decode prog_2_method_1_code 15 = .ok (.putfield 15, 3) := by decide +kernel
theorem d_L_init_18 : decode prog_2_method_1_code 18 = .ok (.aload_n 0, 1) := by decide +kernel
theorem d_L_init_19 : decode prog_2_method_1_code 19 = .ok (.iconst 0, 1) := by decide +kernel
theorem d_L_init_20 : decode prog_2_method_1_code 20 = .ok (.putfield 19, 3) := by decide +kernel
theorem d_L_init_23 : decode prog_2_method_1_code 23 = .ok (.return_, 1) := by decide +kernel
theorem d_R_init_0 : decode prog_3_method_1_code 0 = .ok (.aload_n 0, 1) := by decide +kernel
theorem d_R_init_1 : decode prog_3_method_1_code 1 = .ok (.invokespecial 3, 3) := by decide +kernel
theorem d_R_init_4 : decode prog_3_method_1_code 4 = .ok (.aload_n 0, 1) := by decide +kernel
theorem d_R_init_5 : decode prog_3_method_1_code 5 = .ok (.aload_n 1, 1) := by decide +kernel
theorem d_R_init_6 : decode prog_3_method_1_code 6 = .ok (.putfield 9, 3) := by decide +kernel
theorem d_R_init_9 : decode prog_3_method_1_code 9 = .ok (.aload_n 0, 1) := by decide +kernel
theorem d_R_init_10 : decode prog_3_method_1_code 10 = .ok (.iconst 0, 1) := by decide +kernel
theorem d_R_init_11 : decode prog_3_method_1_code 11 = .ok (.putfield 15, 3) := by decide +kernel
theorem d_R_init_14 : decode prog_3_method_1_code 14 = .ok (.aload_n 0, 1) := by decide +kernel
theorem d_R_init_15 : decode prog_3_method_1_code 15 = .ok (.iconst 0, 1) := by decide +kernel
theorem d_R_init_16 : decode prog_3_method_1_code 16 = .ok (.putfield 19, 3) := by decide +kernel
theorem d_R_init_19 : decode prog_3_method_1_code 19 = .ok (.aload_n 0, 1) := by decide +kernel
theorem d_R_init_20 : decode prog_3_method_1_code 20 = .ok (.iconst 0, 1) := by decide +kernel
theorem d_R_init_21 : decode prog_3_method_1_code 21 = .ok (.putfield 23, 3) := by decide +kernel
theorem d_R_init_24 : decode prog_3_method_1_code 24 = .ok (.aload_n 0, 1) := by decide +kernel
theorem d_R_init_25 : decode prog_3_method_1_code 25 = .ok (.iconst 0, 1) := by decide +kernel
theorem d_R_init_26 : decode prog_3_method_1_code 26 = .ok (.putfield 26, 3) := by decide +kernel
theorem d_R_init_29 : decode prog_3_method_1_code 29 = .ok (.return_, 1) := by decide +kernel
theorem d_S_init_0 : decode prog_4_method_1_code 0 = .ok (.aload_n 0, 1) := by decide +kernel
theorem d_S_init_1 : decode prog_4_method_1_code 1 = .ok (.invokespecial 1, 3) := by decide +kernel
theorem d_S_init_4 : decode prog_4_method_1_code 4 = .ok (.aload_n 0, 1) := by decide +kernel
theorem d_S_init_5 : decode prog_4_method_1_code 5 = .ok (.ldc2_w 9, 3) := by decide +kernel
theorem d_S_init_8 : decode prog_4_method_1_code 8 = .ok (.putfield 11, 3) := by decide +kernel
theorem d_S_init_11 : decode prog_4_method_1_code 11 = .ok (.return_, 1) := by decide +kernel
theorem d_L_left_0 : decode prog_2_method_5_code 0 = .ok (.aload_n 0, 1) := by decide +kernel
theorem d_L_left_1 : decode prog_2_method_5_code 1 = .ok (.getfield 15, 3) := by decide +kernel
theorem d_L_left_4 : decode prog_2_method_5_code 4 = .ok (.aload_n 0, 1) := by decide +kernel
theorem d_L_left_5 : decode prog_2_method_5_code 5 = .ok (.getfield 19, 3) := by decide +kernel
theorem d_L_left_8 : decode prog_2_method_5_code 8 = .ok (.isub, 1) := by decide +kernel
theorem d_L_left_9 : decode prog_2_method_5_code 9 = .ok (.ireturn, 1) := by decide +kernel
theorem d_L_ahead_0 : decode prog_2_method_12_code 0 = .ok (.iconst 0, 1) := by decide +kernel
theorem d_L_ahead_1 : decode prog_2_method_12_code 1 = .ok (.istore_n 2, 1) := by decide +kernel
theorem d_L_ahead_2 : decode prog_2_method_12_code 2 = .ok (.iconst 0, 1) := by decide +kernel
theorem d_L_ahead_3 : decode prog_2_method_12_code 3 = .ok (.istore_n 3, 1) := by decide +kernel
theorem d_L_ahead_4 : decode prog_2_method_12_code 4 = .ok (.iload_n 3, 1) := by decide +kernel
theorem d_L_ahead_5 : decode prog_2_method_12_code 5 = .ok (.iload_n 1, 1) := by decide +kernel
theorem d_L_ahead_6 : decode prog_2_method_12_code 6 = .ok (.if_icmp .ge 33, 3) := by decide +kernel
theorem d_L_ahead_9 : decode prog_2_method_12_code 9 = .ok (.iload_n 2, 1) := by decide +kernel
theorem d_L_ahead_10 : decode prog_2_method_12_code 10 = .ok (.iconst 1, 1) := by decide +kernel
theorem d_L_ahead_11 : decode prog_2_method_12_code 11 = .ok (.ishl, 1) := by decide +kernel
theorem d_L_ahead_12 : decode prog_2_method_12_code 12 = .ok (.aload_n 0, 1) := by decide +kernel
theorem d_L_ahead_13 : decode prog_2_method_12_code 13 = .ok (.aload_n 0, 1) := by decide +kernel
theorem d_L_ahead_14 : decode prog_2_method_12_code 14 = .ok (.getfield 19, 3) := by decide +kernel
theorem d_L_ahead_17 : decode prog_2_method_12_code 17 = .ok (.iload_n 3, 1) := by decide +kernel
theorem d_L_ahead_18 : decode prog_2_method_12_code 18 = .ok (.iadd, 1) := by decide +kernel
theorem d_L_ahead_19 : decode prog_2_method_12_code 19 = .ok (.invokevirtual 38, 3) := by decide +kernel
theorem d_L_ahead_22 : decode prog_2_method_12_code 22 = .ok (.iconst 1, 1) := by decide +kernel
theorem d_L_ahead_23 : decode prog_2_method_12_code 23 = .ok (.if_icmp .ne 7, 3) := by decide +kernel
theorem d_L_ahead_26 : decode prog_2_method_12_code 26 = .ok (.iconst 1, 1) := by decide +kernel
theorem d_L_ahead_27 : decode prog_2_method_12_code 27 = .ok (.goto 4, 3) := by decide +kernel
theorem d_L_ahead_30 : decode prog_2_method_12_code 30 = .ok (.iconst 0, 1) := by decide +kernel
theorem d_L_ahead_31 : decode prog_2_method_12_code 31 = .ok (.ior, 1) := by decide +kernel
theorem d_L_ahead_32 : decode prog_2_method_12_code 32 = .ok (.istore_n 2, 1) := by decide +kernel
theorem d_L_ahead_33 : decode prog_2_method_12_code 33 = .ok (.iinc 3 1, 3) := by decide +kernel
theorem d_L_ahead_36 : decode prog_2_method_12_code 36 = .ok (.goto (-32), 3) := by decide +kernel
theorem d_L_ahead_39 : decode prog_2_method_12_code 39 = .ok (.iload_n 2, 1) := by decide +kernel
theorem d_L_ahead_40 : decode prog_2_method_12_code 40 = .ok (.ireturn, 1) := by decide +kernel
theorem d_L_at_0 : decode prog_2_method_8_code 0 = .ok (.aload_n 0, 1) := by decide +kernel
theorem d_L_at_1 : decode prog_2_method_8_code 1 = .ok (.iload_n 1, 1) := by decide +kernel
theorem d_L_at_2 : decode prog_2_method_8_code 2 = .ok (.invokevirtual 22, 3) := by decide +kernel
theorem d_L_at_5 : decode prog_2_method_8_code 5 = .ok (.ifCond .eq 12, 3) := by decide +kernel
theorem d_L_at_8 : decode prog_2_method_8_code 8 = .ok (.aload_n 0, 1) := by decide +kernel
theorem d_L_at_9 : decode prog_2_method_8_code 9 = .ok (.getfield 11, 3) := by decide +kernel
theorem d_L_at_12 : decode prog_2_method_8_code 12 = .ok (.iload_n 1, 1) := by decide +kernel
theorem d_L_at_13 : decode prog_2_method_8_code 13 = .ok (.baload, 1) := by decide +kernel
theorem d_L_at_14 : decode prog_2_method_8_code 14 = .ok (.goto 4, 3) := by decide +kernel
theorem d_L_at_17 : decode prog_2_method_8_code 17 = .ok (.iconst (-1), 1) := by decide +kernel
theorem d_L_at_18 : decode prog_2_method_8_code 18 = .ok (.ireturn, 1) := by decide +kernel
theorem d_L_has_0 : decode prog_2_method_6_code 0 = .ok (.iload_n 1, 1) := by decide +kernel
theorem d_L_has_1 : decode prog_2_method_6_code 1 = .ok (.ifCond .lt 15, 3) := by decide +kernel
theorem d_L_has_4 : decode prog_2_method_6_code 4 = .ok (.iload_n 1, 1) := by decide +kernel
theorem d_L_has_5 : decode prog_2_method_6_code 5 = .ok (.aload_n 0, 1) := by decide +kernel
theorem d_L_has_6 : decode prog_2_method_6_code 6 = .ok (.getfield 15, 3) := by decide +kernel
theorem d_L_has_9 : decode prog_2_method_6_code 9 = .ok (.if_icmp .ge 7, 3) := by decide +kernel
theorem d_L_has_12 : decode prog_2_method_6_code 12 = .ok (.iconst 1, 1) := by decide +kernel
theorem d_L_has_13 : decode prog_2_method_6_code 13 = .ok (.goto 4, 3) := by decide +kernel
theorem d_L_has_16 : decode prog_2_method_6_code 16 = .ok (.iconst 0, 1) := by decide +kernel
theorem d_L_has_17 : decode prog_2_method_6_code 17 = .ok (.ireturn, 1) := by decide +kernel
theorem d_R_slip_0 : decode prog_3_method_8_code 0 = .ok (.aload_n 0, 1) := by decide +kernel
theorem d_R_slip_1 : decode prog_3_method_8_code 1 = .ok (.getfield 9, 3) := by decide +kernel
theorem d_R_slip_4 : decode prog_3_method_8_code 4 = .ok (.iconst 1, 1) := by decide +kernel
theorem d_R_slip_5 : decode prog_3_method_8_code 5 = .ok (.invokevirtual 29, 3) := by decide +kernel
theorem d_R_slip_8 : decode prog_3_method_8_code 8 = .ok (.aload_n 0, 1) := by decide +kernel
theorem d_R_slip_9 : decode prog_3_method_8_code 9 = .ok (.dup, 1) := by decide +kernel
theorem d_R_slip_10 : decode prog_3_method_8_code 10 = .ok (.getfield 19, 3) := by decide +kernel
theorem d_R_slip_13 : decode prog_3_method_8_code 13 = .ok (.iconst 1, 1) := by decide +kernel
theorem d_R_slip_14 : decode prog_3_method_8_code 14 = .ok (.iadd, 1) := by decide +kernel
theorem d_R_slip_15 : decode prog_3_method_8_code 15 = .ok (.putfield 19, 3) := by decide +kernel
theorem d_R_slip_18 : decode prog_3_method_8_code 18 = .ok (.bipush (-3), 2) := by decide +kernel
theorem d_R_slip_20 : decode prog_3_method_8_code 20 = .ok (.ireturn, 1) := by decide +kernel
theorem d_L_advance_0 : decode prog_2_method_13_code 0 = .ok (.aload_n 0, 1) := by decide +kernel
theorem d_L_advance_1 : decode prog_2_method_13_code 1 = .ok (.dup, 1) := by decide +kernel
theorem d_L_advance_2 : decode prog_2_method_13_code 2 = .ok (.getfield 19, 3) := by decide +kernel
theorem d_L_advance_5 : decode prog_2_method_13_code 5 = .ok (.iload_n 1, 1) := by decide +kernel
theorem d_L_advance_6 : decode prog_2_method_13_code 6 = .ok (.aload_n 0, 1) := by decide +kernel
theorem d_L_advance_7 : decode prog_2_method_13_code 7 = .ok (.invokevirtual 42, 3) := by decide +kernel
theorem d_L_advance_10 : decode prog_2_method_13_code 10 = .ok (.invokestatic 26, 3) := by decide +kernel
theorem d_L_advance_13 : decode prog_2_method_13_code 13 = .ok (.iadd, 1) := by decide +kernel
theorem d_L_advance_14 : decode prog_2_method_13_code 14 = .ok (.putfield 19, 3) := by decide +kernel
theorem d_L_advance_17 : decode prog_2_method_13_code 17 = .ok (.return_, 1) := by decide +kernel
theorem d_S_stirBack_0 : decode prog_4_method_4_code 0 = .ok (.iload_n 1, 1) := by decide +kernel
theorem d_S_stirBack_1 : decode prog_4_method_4_code 1 = .ok (.aload_n 0, 1) := by decide +kernel
theorem d_S_stirBack_2 : decode prog_4_method_4_code 2 = .ok (.invokevirtual 15, 3) := by decide +kernel
theorem d_S_stirBack_5 : decode prog_4_method_4_code 5 = .ok (.ixor, 1) := by decide +kernel
theorem d_S_stirBack_6 : decode prog_4_method_4_code 6 = .ok (.istore_n 2, 1) := by decide +kernel
theorem d_S_stirBack_7 : decode prog_4_method_4_code 7 = .ok (.aload_n 0, 1) := by decide +kernel
theorem d_S_stirBack_8 : decode prog_4_method_4_code 8 = .ok (.iload_n 1, 1) := by decide +kernel
theorem d_S_stirBack_9 : decode prog_4_method_4_code 9 = .ok (.invokevirtual 19, 3) := by decide +kernel
theorem d_S_stirBack_12 : decode prog_4_method_4_code 12 = .ok (.iload_n 2, 1) := by decide +kernel
theorem d_S_stirBack_13 : decode prog_4_method_4_code 13 = .ok (.ireturn, 1) := by decide +kernel
theorem d_S_turning_0 : decode prog_4_method_5_code 0 = .ok (.aload_n 0, 1) := by decide +kernel
theorem d_S_turning_1 : decode prog_4_method_5_code 1 = .ok (.getfield 11, 3) := by decide +kernel
theorem d_S_turning_4 : decode prog_4_method_5_code 4 = .ok (.bipush 38, 2) := by decide +kernel
theorem d_S_turning_6 : decode prog_4_method_5_code 6 = .ok (.lushr, 1) := by decide +kernel
theorem d_S_turning_7 : decode prog_4_method_5_code 7 = .ok (.aload_n 0, 1) := by decide +kernel
theorem d_S_turning_8 : decode prog_4_method_5_code 8 = .ok (.getfield 11, 3) := by decide +kernel
theorem d_S_turning_11 : decode prog_4_method_5_code 11 = .ok (.bipush 57, 2) := by decide +kernel
theorem d_S_turning_13 : decode prog_4_method_5_code 13 = .ok (.lushr, 1) := by decide +kernel
theorem d_S_turning_14 : decode prog_4_method_5_code 14 = .ok (.lxor, 1) := by decide +kernel
theorem d_S_turning_15 : decode prog_4_method_5_code 15 = .ok (.l2i, 1) := by decide +kernel
theorem d_S_turning_16 : decode prog_4_method_5_code 16 = .ok (.iconst 1, 1) := by decide +kernel
theorem d_S_turning_17 : decode prog_4_method_5_code 17 = .ok (.iand, 1) := by decide +kernel
theorem d_S_turning_18 : decode prog_4_method_5_code 18 = .ok (.ireturn, 1) := by decide +kernel
theorem d_S_remember_0 : decode prog_4_method_6_code 0 = .ok (.aload_n 0, 1) := by decide +kernel
theorem d_S_remember_1 : decode prog_4_method_6_code 1 = .ok (.aload_n 0, 1) := by decide +kernel
theorem d_S_remember_2 : decode prog_4_method_6_code 2 = .ok (.getfield 11, 3) := by decide +kernel
theorem d_S_remember_5 : decode prog_4_method_6_code 5 = .ok (.iconst 1, 1) := by decide +kernel
theorem d_S_remember_6 : decode prog_4_method_6_code 6 = .ok (.lshl, 1) := by decide +kernel
theorem d_S_remember_7 : decode prog_4_method_6_code 7 = .ok (.iload_n 1, 1) := by decide +kernel
theorem d_S_remember_8 : decode prog_4_method_6_code 8 = .ok (.i2l, 1) := by decide +kernel
theorem d_S_remember_9 : decode prog_4_method_6_code 9 = .ok (.lor, 1) := by decide +kernel
theorem d_S_remember_10 : decode prog_4_method_6_code 10 = .ok (.putfield 11, 3) := by decide +kernel
theorem d_S_remember_13 : decode prog_4_method_6_code 13 = .ok (.return_, 1) := by decide +kernel
theorem d_L_empty_0 : decode prog_2_method_2_code 0 = .ok (.aload_n 0, 1) := by decide +kernel
theorem d_L_empty_1 : decode prog_2_method_2_code 1 = .ok (.iconst 0, 1) := by decide +kernel
theorem d_L_empty_2 : decode prog_2_method_2_code 2 = .ok (.putfield 15, 3) := by decide +kernel
theorem d_L_empty_5 : decode prog_2_method_2_code 5 = .ok (.aload_n 0, 1) := by decide +kernel
theorem d_L_empty_6 : decode prog_2_method_2_code 6 = .ok (.iconst 0, 1) := by decide +kernel
theorem d_L_empty_7 : decode prog_2_method_2_code 7 = .ok (.putfield 19, 3) := by decide +kernel
theorem d_L_empty_10 : decode prog_2_method_2_code 10 = .ok (.return_, 1) := by decide +kernel
theorem d_R_countAnew_0 : decode prog_3_method_7_code 0 = .ok (.aload_n 0, 1) := by decide +kernel
theorem d_R_countAnew_1 : decode prog_3_method_7_code 1 = .ok (.iconst 0, 1) := by decide +kernel
theorem d_R_countAnew_2 : decode prog_3_method_7_code 2 = .ok (.putfield 15, 3) := by decide +kernel
theorem d_R_countAnew_5 : decode prog_3_method_7_code 5 = .ok (.aload_n 0, 1) := by decide +kernel
theorem d_R_countAnew_6 : decode prog_3_method_7_code 6 = .ok (.iconst 0, 1) := by decide +kernel
theorem d_R_countAnew_7 : decode prog_3_method_7_code 7 = .ok (.putfield 19, 3) := by decide +kernel
theorem d_R_countAnew_10 : decode prog_3_method_7_code 10 = .ok (.aload_n 0, 1) := by decide +kernel
theorem d_R_countAnew_11 : decode prog_3_method_7_code 11 = .ok (.iconst 0, 1) := by decide +kernel
theorem d_R_countAnew_12 : decode prog_3_method_7_code 12 = .ok (.putfield 23, 3) := by decide +kernel
theorem d_R_countAnew_15 : decode prog_3_method_7_code 15 = .ok (.aload_n 0, 1) := by decide +kernel
theorem d_R_countAnew_16 : decode prog_3_method_7_code 16 = .ok (.iconst 0, 1) := by decide +kernel
theorem d_R_countAnew_17 : decode prog_3_method_7_code 17 = .ok (.putfield 26, 3) := by decide +kernel
theorem d_R_countAnew_20 : decode prog_3_method_7_code 20 = .ok (.return_, 1) := by decide +kernel
theorem d_S_forget_0 : decode prog_4_method_2_code 0 = .ok (.aload_n 0, 1) := by decide +kernel
theorem d_S_forget_1 : decode prog_4_method_2_code 1 = .ok (.ldc2_w 9, 3) := by decide +kernel
theorem d_S_forget_4 : decode prog_4_method_2_code 4 = .ok (.putfield 11, 3) := by decide +kernel
theorem d_S_forget_7 : decode prog_4_method_2_code 7 = .ok (.return_, 1) := by decide +kernel
theorem d_L_hasRoom_0 : decode prog_2_method_7_code 0 = .ok (.iload_n 1, 1) := by decide +kernel
theorem d_L_hasRoom_1 : decode prog_2_method_7_code 1 = .ok (.sipush 2640, 3) := by decide +kernel
theorem d_L_hasRoom_4 : decode prog_2_method_7_code 4 = .ok (.aload_n 0, 1) := by decide +kernel
theorem d_L_hasRoom_5 : decode prog_2_method_7_code 5 = .ok (.getfield 15, 3) := by decide +kernel
theorem d_L_hasRoom_8 : decode prog_2_method_7_code 8 = .ok (.isub, 1) := by decide +kernel
theorem d_L_hasRoom_9 : decode prog_2_method_7_code 9 = .ok (.if_icmp .gt 7, 3) := by decide +kernel
theorem d_L_hasRoom_12 : decode prog_2_method_7_code 12 = .ok (.iconst 1, 1) := by decide +kernel
theorem d_L_hasRoom_13 : decode prog_2_method_7_code 13 = .ok (.goto 4, 3) := by decide +kernel
theorem d_L_hasRoom_16 : decode prog_2_method_7_code 16 = .ok (.iconst 0, 1) := by decide +kernel
theorem d_L_hasRoom_17 : decode prog_2_method_7_code 17 = .ok (.ireturn, 1) := by decide +kernel
theorem d_L_append_0 : decode prog_2_method_10_code 0 = .ok (.iload_n 2, 1) := by decide +kernel
theorem d_L_append_1 : decode prog_2_method_10_code 1 = .ok (.iconst 1, 1) := by decide +kernel
theorem d_L_append_2 : decode prog_2_method_10_code 2 = .ok (.isub, 1) := by decide +kernel
theorem d_L_append_3 : decode prog_2_method_10_code 3 = .ok (.istore_n 3, 1) := by decide +kernel
theorem d_L_append_4 : decode prog_2_method_10_code 4 = .ok (.iload_n 3, 1) := by decide +kernel
theorem d_L_append_5 : decode prog_2_method_10_code 5 = .ok (.ifCond .lt 44, 3) := by decide +kernel
theorem d_L_append_8 : decode prog_2_method_10_code 8 = .ok (.aload_n 0, 1) := by decide +kernel
theorem d_L_append_9 : decode prog_2_method_10_code 9 = .ok (.getfield 15, 3) := by decide +kernel
theorem d_L_append_12 : decode prog_2_method_10_code 12 = .ok (.sipush 2640, 3) := by decide +kernel
theorem d_L_append_15 : decode prog_2_method_10_code 15 = .ok (.if_icmp .ge 34, 3) := by decide +kernel
theorem d_L_append_18 : decode prog_2_method_10_code 18 = .ok (.aload_n 0, 1) := by decide +kernel
theorem d_L_append_19 : decode prog_2_method_10_code 19 = .ok (.getfield 11, 3) := by decide +kernel
theorem d_L_append_22 : decode prog_2_method_10_code 22 = .ok (.aload_n 0, 1) := by decide +kernel
theorem d_L_append_23 : decode prog_2_method_10_code 23 = .ok (.getfield 15, 3) := by decide +kernel
theorem d_L_append_26 : decode prog_2_method_10_code 26 = .ok (.iload_n 1, 1) := by decide +kernel
theorem d_L_append_27 : decode prog_2_method_10_code 27 = .ok (.iload_n 3, 1) := by decide +kernel
theorem d_L_append_28 : decode prog_2_method_10_code 28 = .ok (.iushr, 1) := by decide +kernel
theorem d_L_append_29 : decode prog_2_method_10_code 29 = .ok (.iconst 1, 1) := by decide +kernel
theorem d_L_append_30 : decode prog_2_method_10_code 30 = .ok (.iand, 1) := by decide +kernel
theorem d_L_append_31 : decode prog_2_method_10_code 31 = .ok (.i2b, 1) := by decide +kernel
theorem d_L_append_32 : decode prog_2_method_10_code 32 = .ok (.bastore, 1) := by decide +kernel
theorem d_L_append_33 : decode prog_2_method_10_code 33 = .ok (.aload_n 0, 1) := by decide +kernel
theorem d_L_append_34 : decode prog_2_method_10_code 34 = .ok (.dup, 1) := by decide +kernel
theorem d_L_append_35 : decode prog_2_method_10_code 35 = .ok (.getfield 15, 3) := by decide +kernel
theorem d_L_append_38 : decode prog_2_method_10_code 38 = .ok (.iconst 1, 1) := by decide +kernel
theorem d_L_append_39 : decode prog_2_method_10_code 39 = .ok (.iadd, 1) := by decide +kernel
theorem d_L_append_40 : decode prog_2_method_10_code 40 = .ok (.putfield 15, 3) := by decide +kernel
theorem d_L_append_43 : decode prog_2_method_10_code 43 = .ok (.iinc 3 (-1), 3) := by decide +kernel
theorem d_L_append_46 : decode prog_2_method_10_code 46 = .ok (.goto (-42), 3) := by decide +kernel
theorem d_L_append_49 : decode prog_2_method_10_code 49 = .ok (.return_, 1) := by decide +kernel
theorem d_S_stir_0 : decode prog_4_method_3_code 0 = .ok (.iload_n 1, 1) := by decide +kernel
theorem d_S_stir_1 : decode prog_4_method_3_code 1 = .ok (.aload_n 0, 1) := by decide +kernel
theorem d_S_stir_2 : decode prog_4_method_3_code 2 = .ok (.invokevirtual 15, 3) := by decide +kernel
theorem d_S_stir_5 : decode prog_4_method_3_code 5 = .ok (.ixor, 1) := by decide +kernel
theorem d_S_stir_6 : decode prog_4_method_3_code 6 = .ok (.istore_n 2, 1) := by decide +kernel
theorem d_S_stir_7 : decode prog_4_method_3_code 7 = .ok (.aload_n 0, 1) := by decide +kernel
theorem d_S_stir_8 : decode prog_4_method_3_code 8 = .ok (.iload_n 2, 1) := by decide +kernel
theorem d_S_stir_9 : decode prog_4_method_3_code 9 = .ok (.invokevirtual 19, 3) := by decide +kernel
theorem d_S_stir_12 : decode prog_4_method_3_code 12 = .ok (.iload_n 2, 1) := by decide +kernel
theorem d_S_stir_13 : decode prog_4_method_3_code 13 = .ok (.ireturn, 1) := by decide +kernel
theorem d_L_size_0 : decode prog_2_method_3_code 0 = .ok (.aload_n 0, 1) := by decide +kernel
theorem d_L_size_1 : decode prog_2_method_3_code 1 = .ok (.getfield 15, 3) := by decide +kernel
theorem d_L_size_4 : decode prog_2_method_3_code 4 = .ok (.ireturn, 1) := by decide +kernel
theorem d_L_turn_0 : decode prog_2_method_9_code 0 = .ok (.aload_n 0, 1) := by decide +kernel
theorem d_L_turn_1 : decode prog_2_method_9_code 1 = .ok (.iload_n 1, 1) := by decide +kernel
theorem d_L_turn_2 : decode prog_2_method_9_code 2 = .ok (.invokevirtual 22, 3) := by decide +kernel
theorem d_L_turn_5 : decode prog_2_method_9_code 5 = .ok (.ifCond .eq 18, 3) := by decide +kernel
theorem d_L_turn_8 : decode prog_2_method_9_code 8 = .ok (.aload_n 0, 1) := by decide +kernel
theorem d_L_turn_9 : decode prog_2_method_9_code 9 = .ok (.getfield 11, 3) := by decide +kernel
theorem d_L_turn_12 : decode prog_2_method_9_code 12 = .ok (.iload_n 1, 1) := by decide +kernel
theorem d_L_turn_13 : decode prog_2_method_9_code 13 = .ok (.iconst 1, 1) := by decide +kernel
theorem d_L_turn_14 : decode prog_2_method_9_code 14 = .ok (.aload_n 0, 1) := by decide +kernel
theorem d_L_turn_15 : decode prog_2_method_9_code 15 = .ok (.getfield 11, 3) := by decide +kernel
theorem d_L_turn_18 : decode prog_2_method_9_code 18 = .ok (.iload_n 1, 1) := by decide +kernel
theorem d_L_turn_19 : decode prog_2_method_9_code 19 = .ok (.baload, 1) := by decide +kernel
theorem d_L_turn_20 : decode prog_2_method_9_code 20 = .ok (.isub, 1) := by decide +kernel
theorem d_L_turn_21 : decode prog_2_method_9_code 21 = .ok (.i2b, 1) := by decide +kernel
theorem d_L_turn_22 : decode prog_2_method_9_code 22 = .ok (.bastore, 1) := by decide +kernel
theorem d_L_turn_23 : decode prog_2_method_9_code 23 = .ok (.return_, 1) := by decide +kernel
theorem d_L_place_0 : decode prog_2_method_4_code 0 = .ok (.aload_n 0, 1) := by decide +kernel
theorem d_L_place_1 : decode prog_2_method_4_code 1 = .ok (.getfield 19, 3) := by decide +kernel
theorem d_L_place_4 : decode prog_2_method_4_code 4 = .ok (.ireturn, 1) := by decide +kernel
theorem d_L_remove_0 : decode prog_2_method_11_code 0 = .ok (.aload_n 0, 1) := by decide +kernel
theorem d_L_remove_1 : decode prog_2_method_11_code 1 = .ok (.iload_n 1, 1) := by decide +kernel
theorem d_L_remove_2 : decode prog_2_method_11_code 2 = .ok (.invokevirtual 22, 3) := by decide +kernel
theorem d_L_remove_5 : decode prog_2_method_11_code 5 = .ok (.ifCond .eq 7, 3) := by decide +kernel
theorem d_L_remove_8 : decode prog_2_method_11_code 8 = .ok (.iload_n 2, 1) := by decide +kernel
theorem d_L_remove_9 : decode prog_2_method_11_code 9 = .ok (.ifCond .gt 5, 3) := by decide +kernel
theorem d_L_remove_12 : decode prog_2_method_11_code 12 = .ok (.iconst 0, 1) := by decide +kernel
theorem d_L_remove_13 : decode prog_2_method_11_code 13 = .ok (.ireturn, 1) := by decide +kernel
theorem d_L_remove_14 : decode prog_2_method_11_code 14 = .ok (.iload_n 2, 1) := by decide +kernel
theorem d_L_remove_15 : decode prog_2_method_11_code 15 = .ok (.aload_n 0, 1) := by decide +kernel
theorem d_L_remove_16 : decode prog_2_method_11_code 16 = .ok (.getfield 15, 3) := by decide +kernel
theorem d_L_remove_19 : decode prog_2_method_11_code 19 = .ok (.iload_n 1, 1) := by decide +kernel
theorem d_L_remove_20 : decode prog_2_method_11_code 20 = .ok (.isub, 1) := by decide +kernel
theorem d_L_remove_21 : decode prog_2_method_11_code 21 = .ok (.invokestatic 26, 3) := by decide +kernel
theorem d_L_remove_24 : decode prog_2_method_11_code 24 = .ok (.istore_n 3, 1) := by decide +kernel
theorem d_L_remove_25 : decode prog_2_method_11_code 25 = .ok (.iload_n 1, 1) := by decide +kernel
theorem d_L_remove_26 : decode prog_2_method_11_code 26 = .ok (.iload_n 3, 1) := by decide +kernel
theorem d_L_remove_27 : decode prog_2_method_11_code 27 = .ok (.iadd, 1) := by decide +kernel
theorem d_L_remove_28 : decode prog_2_method_11_code 28 = .ok (.istore 4, 2) := by decide +kernel
theorem d_L_remove_30 : decode prog_2_method_11_code 30 = .ok (.aload_n 0, 1) := by decide +kernel
theorem d_L_remove_31 : decode prog_2_method_11_code 31 = .ok (.getfield 11, 3) := by decide +kernel
theorem d_L_remove_34 : decode prog_2_method_11_code 34 = .ok (.iload 4, 2) := by decide +kernel
theorem d_L_remove_36 : decode prog_2_method_11_code 36 = .ok (.aload_n 0, 1) := by decide +kernel
theorem d_L_remove_37 : decode prog_2_method_11_code 37 = .ok (.getfield 11, 3) := by decide +kernel
theorem d_L_remove_40 : decode prog_2_method_11_code 40 = .ok (.iload_n 1, 1) := by decide +kernel
theorem d_L_remove_41 : decode prog_2_method_11_code 41 = .ok (.aload_n 0, 1) := by decide +kernel
theorem d_L_remove_42 : decode prog_2_method_11_code 42 = .ok (.getfield 15, 3) := by decide +kernel
theorem d_L_remove_45 : decode prog_2_method_11_code 45 = .ok (.iload 4, 2) := by decide +kernel
theorem d_L_remove_47 : decode prog_2_method_11_code 47 = .ok (.isub, 1) := by decide +kernel
theorem d_L_remove_48 : decode prog_2_method_11_code 48 = .ok (.invokestatic 32, 3) := by decide +kernel
theorem d_L_remove_51 : decode prog_2_method_11_code 51 = .ok (.aload_n 0, 1) := by decide +kernel
theorem d_L_remove_52 : decode prog_2_method_11_code 52 = .ok (.dup, 1) := by decide +kernel
theorem d_L_remove_53 : decode prog_2_method_11_code 53 = .ok (.getfield 15, 3) := by decide +kernel
theorem d_L_remove_56 : decode prog_2_method_11_code 56 = .ok (.iload_n 3, 1) := by decide +kernel
theorem d_L_remove_57 : decode prog_2_method_11_code 57 = .ok (.isub, 1) := by decide +kernel
theorem d_L_remove_58 : decode prog_2_method_11_code 58 = .ok (.putfield 15, 3) := by decide +kernel
theorem d_L_remove_61 : decode prog_2_method_11_code 61 = .ok (.iload_n 3, 1) := by decide +kernel
theorem d_L_remove_62 : decode prog_2_method_11_code 62 = .ok (.ireturn, 1) := by decide +kernel
theorem d_R_isFollowing_0 : decode prog_3_method_3_code 0 = .ok (.aload_n 0, 1) := by decide +kernel
theorem d_R_isFollowing_1 : decode prog_3_method_3_code 1 = .ok (.getfield 15, 3) := by decide +kernel
theorem d_R_isFollowing_4 : decode prog_3_method_3_code 4 = .ok (.ireturn, 1) := by decide +kernel
theorem d_R_slips_0 : decode prog_3_method_4_code 0 = .ok (.aload_n 0, 1) := by decide +kernel
theorem d_R_slips_1 : decode prog_3_method_4_code 1 = .ok (.getfield 19, 3) := by decide +kernel
theorem d_R_slips_4 : decode prog_3_method_4_code 4 = .ok (.ireturn, 1) := by decide +kernel
theorem d_R_bads_0 : decode prog_3_method_5_code 0 = .ok (.aload_n 0, 1) := by decide +kernel
theorem d_R_bads_1 : decode prog_3_method_5_code 1 = .ok (.getfield 23, 3) := by decide +kernel
theorem d_R_bads_4 : decode prog_3_method_5_code 4 = .ok (.ireturn, 1) := by decide +kernel
theorem d_R_wrongs_0 : decode prog_3_method_6_code 0 = .ok (.aload_n 0, 1) := by decide +kernel
theorem d_R_wrongs_1 : decode prog_3_method_6_code 1 = .ok (.getfield 26, 3) := by decide +kernel
theorem d_R_wrongs_4 : decode prog_3_method_6_code 4 = .ok (.ireturn, 1) := by decide +kernel
theorem d_L_onesLessZeros_0 : decode prog_2_method_14_code 0 = .ok (.iconst 0, 1) := by decide +kernel
theorem d_L_onesLessZeros_1 : decode prog_2_method_14_code 1 = .ok (.istore_n 1, 1) := by decide +kernel
theorem d_L_onesLessZeros_2 : decode prog_2_method_14_code 2 = .ok (.iconst 0, 1) := by decide +kernel
theorem d_L_onesLessZeros_3 : decode prog_2_method_14_code 3 = .ok (.istore_n 2, 1) := by decide +kernel
theorem d_L_onesLessZeros_4 : decode prog_2_method_14_code 4 = .ok (.iload_n 2, 1) := by decide +kernel
theorem d_L_onesLessZeros_5 : decode prog_2_method_14_code 5 = .ok (.aload_n 0, 1) := by decide +kernel
theorem d_L_onesLessZeros_6 : decode prog_2_method_14_code 6 = .ok (.getfield 15, 3) := by decide +kernel
theorem d_L_onesLessZeros_9 : decode prog_2_method_14_code 9 = .ok (.if_icmp .ge 27, 3) := by decide +kernel
theorem d_L_onesLessZeros_12 : decode prog_2_method_14_code 12 = .ok (.iload_n 1, 1) := by decide +kernel
theorem d_L_onesLessZeros_13 : decode prog_2_method_14_code 13 = .ok (.aload_n 0, 1) := by decide +kernel
theorem d_L_onesLessZeros_14 : decode prog_2_method_14_code 14 = .ok (.getfield 11, 3) := by decide +kernel
theorem d_L_onesLessZeros_17 : decode prog_2_method_14_code 17 = .ok (.iload_n 2, 1) := by decide +kernel
theorem d_L_onesLessZeros_18 : decode prog_2_method_14_code 18 = .ok (.baload, 1) := by decide +kernel
theorem d_L_onesLessZeros_19 : decode prog_2_method_14_code 19 = .ok (.iconst 1, 1) := by decide +kernel
theorem d_L_onesLessZeros_20 : decode prog_2_method_14_code 20 = .ok (.if_icmp .ne 7, 3) := by decide +kernel
theorem d_L_onesLessZeros_23 : decode prog_2_method_14_code 23 = .ok (.iconst 1, 1) := by decide +kernel
theorem d_L_onesLessZeros_24 : decode prog_2_method_14_code 24 = .ok (.goto 4, 3) := by decide +kernel
theorem d_L_onesLessZeros_27 : decode prog_2_method_14_code 27 = .ok (.iconst (-1), 1) := by decide +kernel
theorem d_L_onesLessZeros_28 : decode prog_2_method_14_code 28 = .ok (.iadd, 1) := by decide +kernel
theorem d_L_onesLessZeros_29 : decode prog_2_method_14_code 29 = .ok (.istore_n 1, 1) := by decide +kernel
theorem d_L_onesLessZeros_30 : decode prog_2_method_14_code 30 = .ok (.iinc 2 1, 3) := by decide +kernel
theorem d_L_onesLessZeros_33 : decode prog_2_method_14_code 33 = .ok (.goto (-29), 3) := by decide +kernel
theorem d_L_onesLessZeros_36 : decode prog_2_method_14_code 36 = .ok (.iload_n 1, 1) := by decide +kernel
theorem d_L_onesLessZeros_37 : decode prog_2_method_14_code 37 = .ok (.ireturn, 1) := by decide +kernel
theorem d_L_longestRun_0 : decode prog_2_method_15_code 0 = .ok (.iconst 0, 1) := by decide +kernel
theorem d_L_longestRun_1 : decode prog_2_method_15_code 1 = .ok (.istore_n 1, 1) := by decide +kernel
theorem d_L_longestRun_2 : decode prog_2_method_15_code 2 = .ok (.iconst 0, 1) := by decide +kernel
theorem d_L_longestRun_3 : decode prog_2_method_15_code 3 = .ok (.istore_n 2, 1) := by decide +kernel
theorem d_L_longestRun_4 : decode prog_2_method_15_code 4 = .ok (.iconst 0, 1) := by decide +kernel
theorem d_L_longestRun_5 : decode prog_2_method_15_code 5 = .ok (.istore_n 3, 1) := by decide +kernel
theorem d_L_longestRun_6 : decode prog_2_method_15_code 6 = .ok (.iload_n 3, 1) := by decide +kernel
theorem d_L_longestRun_7 : decode prog_2_method_15_code 7 = .ok (.aload_n 0, 1) := by decide +kernel
theorem d_L_longestRun_8 : decode prog_2_method_15_code 8 = .ok (.getfield 15, 3) := by decide +kernel
theorem d_L_longestRun_11 : decode prog_2_method_15_code 11 = .ok (.if_icmp .ge 44, 3) := by decide +kernel
theorem d_L_longestRun_14 : decode prog_2_method_15_code 14 = .ok (.iload_n 3, 1) := by decide +kernel
theorem d_L_longestRun_15 : decode prog_2_method_15_code 15 = .ok (.ifCond .le 26, 3) := by decide +kernel
theorem d_L_longestRun_18 : decode prog_2_method_15_code 18 = .ok (.aload_n 0, 1) := by decide +kernel
theorem d_L_longestRun_19 : decode prog_2_method_15_code 19 = .ok (.getfield 11, 3) := by decide +kernel
theorem d_L_longestRun_22 : decode prog_2_method_15_code 22 = .ok (.iload_n 3, 1) := by decide +kernel
theorem d_L_longestRun_23 : decode prog_2_method_15_code 23 = .ok (.baload, 1) := by decide +kernel
theorem d_L_longestRun_24 : decode prog_2_method_15_code 24 = .ok (.aload_n 0, 1) := by decide +kernel
theorem d_L_longestRun_25 : decode prog_2_method_15_code 25 = .ok (.getfield 11, 3) := by decide +kernel
theorem d_L_longestRun_28 : decode prog_2_method_15_code 28 = .ok (.iload_n 3, 1) := by decide +kernel
theorem d_L_longestRun_29 : decode prog_2_method_15_code 29 = .ok (.iconst 1, 1) := by decide +kernel
theorem d_L_longestRun_30 : decode prog_2_method_15_code 30 = .ok (.isub, 1) := by decide +kernel
theorem d_L_longestRun_31 : decode prog_2_method_15_code 31 = .ok (.baload, 1) := by decide +kernel
theorem d_L_longestRun_32 : decode prog_2_method_15_code 32 = .ok (.if_icmp .ne 9, 3) := by decide +kernel
theorem d_L_longestRun_35 : decode prog_2_method_15_code 35 = .ok (.iload_n 2, 1) := by decide +kernel
theorem d_L_longestRun_36 : decode prog_2_method_15_code 36 = .ok (.iconst 1, 1) := by decide +kernel
theorem d_L_longestRun_37 : decode prog_2_method_15_code 37 = .ok (.iadd, 1) := by decide +kernel
theorem d_L_longestRun_38 : decode prog_2_method_15_code 38 = .ok (.goto 4, 3) := by decide +kernel
theorem d_L_longestRun_41 : decode prog_2_method_15_code 41 = .ok (.iconst 1, 1) := by decide +kernel
theorem d_L_longestRun_42 : decode prog_2_method_15_code 42 = .ok (.istore_n 2, 1) := by decide +kernel
theorem d_L_longestRun_43 : decode prog_2_method_15_code 43 = .ok (.iload_n 1, 1) := by decide +kernel
theorem d_L_longestRun_44 : decode prog_2_method_15_code 44 = .ok (.iload_n 2, 1) := by decide +kernel
theorem d_L_longestRun_45 : decode prog_2_method_15_code 45 = .ok (.invokestatic 46, 3) := by decide +kernel
theorem d_L_longestRun_48 : decode prog_2_method_15_code 48 = .ok (.istore_n 1, 1) := by decide +kernel
theorem d_L_longestRun_49 : decode prog_2_method_15_code 49 = .ok (.iinc 3 1, 3) := by decide +kernel
theorem d_L_longestRun_52 : decode prog_2_method_15_code 52 = .ok (.goto (-46), 3) := by decide +kernel
theorem d_L_longestRun_55 : decode prog_2_method_15_code 55 = .ok (.iload_n 1, 1) := by decide +kernel
theorem d_L_longestRun_56 : decode prog_2_method_15_code 56 = .ok (.ireturn, 1) := by decide +kernel
