theorem d_X_init_0 : decode prog_1_method_1_code 0 = .ok (.aload_n 0, 1) := by decide +kernel
theorem d_X_init_1 : decode prog_1_method_1_code 1 = .ok (.invokespecial 1, 3) := by decide +kernel
theorem d_X_init_4 : decode prog_1_method_1_code 4 = .ok (.aload_n 0, 1) := by decide +kernel
theorem d_X_init_5 : decode prog_1_method_1_code 5 = .ok (.new 7, 3) := by decide +kernel
theorem d_X_init_8 : decode prog_1_method_1_code 8 = .ok (.dup, 1) := by decide +kernel
theorem d_X_init_9 : decode prog_1_method_1_code 9 = .ok (.invokespecial 9, 3) := by decide +kernel
theorem d_X_init_12 : decode prog_1_method_1_code 12 = .ok (.putfield 10, 3) := by decide +kernel
theorem d_X_init_15 : decode prog_1_method_1_code 15 = .ok (.aload_n 0, 1) := by decide +kernel
theorem d_X_init_16 : decode prog_1_method_1_code 16 = .ok (.new 7, 3) := by decide +kernel
theorem d_X_init_19 : decode prog_1_method_1_code 19 = .ok (.dup, 1) := by decide +kernel
theorem d_X_init_20 : decode prog_1_method_1_code 20 = .ok (.invokespecial 9, 3) := by decide +kernel
theorem d_X_init_23 : decode prog_1_method_1_code 23 = .ok (.putfield 16, 3) := by decide +kernel
theorem d_X_init_26 : decode prog_1_method_1_code 26 = .ok (.aload_n 0, 1) := by decide +kernel
theorem d_X_init_27 : decode prog_1_method_1_code 27 = .ok (.new 19, 3) := by decide +kernel
theorem d_X_init_30 : decode prog_1_method_1_code 30 = .ok (.dup, 1) := by decide +kernel
theorem d_X_init_31 : decode prog_1_method_1_code 31 = .ok (.aload_n 0, 1) := by decide +kernel
theorem d_X_init_32 : decode prog_1_method_1_code 32 = .ok (.getfield 10, 3) := by decide +kernel
theorem d_X_init_35 : decode prog_1_method_1_code 35 = .ok (.invokespecial 21, 3) := by decide +kernel
theorem d_X_init_38 : decode prog_1_method_1_code 38 = .ok (.putfield 24, 3) := by decide +kernel
theorem d_X_init_41 : decode prog_1_method_1_code 41 = .ok (.aload_n 0, 1) := by decide +kernel
theorem d_X_init_42 : decode prog_1_method_1_code 42 = .ok (.new 28, 3) := by decide +kernel
theorem d_X_init_45 : decode prog_1_method_1_code 45 = .ok (.dup, 1) := by decide +kernel
theorem d_X_init_46 : decode prog_1_method_1_code 46 = .ok (.aload_n 0, 1) := by decide +kernel
theorem d_X_init_47 : decode prog_1_method_1_code 47 = .ok (.getfield 16, 3) := by decide +kernel
theorem d_X_init_50 : decode prog_1_method_1_code 50 = .ok (.invokespecial 30, 3) := by decide +kernel
theorem d_X_init_53 : decode prog_1_method_1_code 53 = .ok (.putfield 31, 3) := by decide +kernel
theorem d_X_init_56 : decode prog_1_method_1_code 56 = .ok (.aload_n 0, 1) := by decide +kernel
theorem d_X_init_57 : decode prog_1_method_1_code 57 = .ok (.new 35, 3) := by decide +kernel
theorem d_X_init_60 : decode prog_1_method_1_code 60 = .ok (.dup, 1) := by decide +kernel
theorem d_X_init_61 : decode prog_1_method_1_code 61 = .ok (.invokespecial 37, 3) := by decide +kernel
theorem d_X_init_64 : decode prog_1_method_1_code 64 = .ok (.putfield 38, 3) := by decide +kernel
theorem d_X_init_67 : decode prog_1_method_1_code 67 = .ok (.aload_n 0, 1) := by decide +kernel
theorem d_X_init_68 : decode prog_1_method_1_code 68 = .ok (.iconst 0, 1) := by decide +kernel
theorem d_X_init_69 : decode prog_1_method_1_code 69 = .ok (.putfield 42, 3) := by decide +kernel
theorem d_X_init_72 : decode prog_1_method_1_code 72 = .ok (.return_, 1) := by decide +kernel
theorem d_X_receive_0 : decode prog_1_method_5_code 0 = .ok (.aload_n 0, 1) := by decide +kernel
theorem d_X_receive_1 : decode prog_1_method_5_code 1 = .ok (.getfield 24, 3) := by decide +kernel
theorem d_X_receive_4 : decode prog_1_method_5_code 4 = .ok (.invokevirtual 78, 3) := by decide +kernel
theorem d_X_receive_7 : decode prog_1_method_5_code 7 = .ok (.ireturn, 1) := by decide +kernel
theorem d_X_take_0 : decode prog_1_method_7_code 0 = .ok (.aload_n 0, 1) := by decide +kernel
theorem d_X_take_1 : decode prog_1_method_7_code 1 = .ok (.getfield 31, 3) := by decide +kernel
theorem d_X_take_4 : decode prog_1_method_7_code 4 = .ok (.invokevirtual 91, 3) := by decide +kernel
theorem d_X_take_7 : decode prog_1_method_7_code 7 = .ok (.ireturn, 1) := by decide +kernel
theorem d_X_word_0 : decode prog_1_method_8_code 0 = .ok (.aload_n 0, 1) := by decide +kernel
theorem d_X_word_1 : decode prog_1_method_8_code 1 = .ok (.getfield 31, 3) := by decide +kernel
theorem d_X_word_4 : decode prog_1_method_8_code 4 = .ok (.invokevirtual 92, 3) := by decide +kernel
theorem d_X_word_7 : decode prog_1_method_8_code 7 = .ok (.lreturn, 1) := by decide +kernel
theorem d_X_isPlus_0 : decode prog_1_method_14_code 0 = .ok (.iload_n 1, 1) := by decide +kernel
theorem d_X_isPlus_1 : decode prog_1_method_14_code 1 = .ok (.ifCond .eq 10, 3) := by decide +kernel
theorem d_X_isPlus_4 : decode prog_1_method_14_code 4 = .ok (.aload_n 0, 1) := by decide +kernel
theorem d_X_isPlus_5 : decode prog_1_method_14_code 5 = .ok (.getfield 42, 3) := by decide +kernel
theorem d_X_isPlus_8 : decode prog_1_method_14_code 8 = .ok (.goto 10, 3) := by decide +kernel
theorem d_X_isPlus_11 : decode prog_1_method_14_code 11 = .ok (.aload_n 0, 1) := by decide +kernel
theorem d_X_isPlus_12 : decode prog_1_method_14_code 12 = .ok (.getfield 24, 3) := by decide +kernel
theorem d_X_isPlus_15 : decode prog_1_method_14_code 15 = .ok (.invokevirtual 154, 3) := by decide +kernel
theorem d_X_isPlus_18 : decode prog_1_method_14_code 18 = .ok (.ireturn, 1) := by decide +kernel
theorem d_X_clear_0 : decode prog_1_method_15_code 0 = .ok (.aload_n 0, 1) := by decide +kernel
theorem d_X_clear_1 : decode prog_1_method_15_code 1 = .ok (.getfield 10, 3) := by decide +kernel
theorem d_X_clear_4 : decode prog_1_method_15_code 4 = .ok (.invokevirtual 157, 3) := by decide +kernel
theorem d_X_clear_7 : decode prog_1_method_15_code 7 = .ok (.aload_n 0, 1) := by decide +kernel
theorem d_X_clear_8 : decode prog_1_method_15_code 8 = .ok (.getfield 16, 3) := by decide +kernel
theorem d_X_clear_11 : decode prog_1_method_15_code 11 = .ok (.invokevirtual 157, 3) := by decide +kernel
theorem d_X_clear_14 : decode prog_1_method_15_code 14 = .ok (.aload_n 0, 1) := by decide +kernel
theorem d_X_clear_15 : decode prog_1_method_15_code 15 = .ok (.getfield 24, 3) := by decide +kernel
theorem d_X_clear_18 : decode prog_1_method_15_code 18 = .ok (.invokevirtual 160, 3) := by decide +kernel
theorem d_X_clear_21 : decode prog_1_method_15_code 21 = .ok (.aload_n 0, 1) := by decide +kernel
theorem d_X_clear_22 : decode prog_1_method_15_code 22 = .ok (.getfield 31, 3) := by decide +kernel
theorem d_X_clear_25 : decode prog_1_method_15_code 25 = .ok (.invokevirtual 163, 3) := by decide +kernel
theorem d_X_clear_28 : decode prog_1_method_15_code 28 = .ok (.aload_n 0, 1) := by decide +kernel
theorem d_X_clear_29 : decode prog_1_method_15_code 29 = .ok (.getfield 38, 3) := by decide +kernel
theorem d_X_clear_32 : decode prog_1_method_15_code 32 = .ok (.invokevirtual 164, 3) := by decide +kernel
theorem d_X_clear_35 : decode prog_1_method_15_code 35 = .ok (.aload_n 0, 1) := by decide +kernel
theorem d_X_clear_36 : decode prog_1_method_15_code 36 = .ok (.iconst 0, 1) := by decide +kernel
theorem d_X_clear_37 : decode prog_1_method_15_code 37 = .ok (.putfield 42, 3) := by decide +kernel
theorem d_X_clear_40 : decode prog_1_method_15_code 40 = .ok (.return_, 1) := by decide +kernel
theorem d_X_code_0 : decode prog_1_method_2_code 0 = .ok (.iload_n 1, 1) := by decide +kernel
theorem d_X_code_1 : decode prog_1_method_2_code 1 = .ok (.invokestatic 46, 3) := by decide +kernel
theorem d_X_code_4 : decode prog_1_method_2_code 4 = .ok (.iload_n 1, 1) := by decide +kernel
theorem d_X_code_5 : decode prog_1_method_2_code 5 = .ok (.iload_n 2, 1) := by decide +kernel
theorem d_X_code_6 : decode prog_1_method_2_code 6 = .ok (.invokestatic 50, 3) := by decide +kernel
theorem d_X_code_9 : decode prog_1_method_2_code 9 = .ok (.ireturn, 1) := by decide +kernel
theorem d_X_refuseNoSymbol_0 : decode prog_1_method_17_code 0 = .ok (.iload_n 0, 1) := by decide +kernel
theorem d_X_refuseNoSymbol_1 : decode prog_1_method_17_code 1 = .ok (.invokestatic 169, 3) := by decide +kernel
theorem d_X_refuseNoSymbol_4 : decode prog_1_method_17_code 4 = .ok (.ifCond .ne 13, 3) := by decide +kernel
theorem d_X_refuseNoSymbol_7 : decode prog_1_method_17_code 7 = .ok (.new 56, 3) := by decide +kernel
theorem d_X_refuseNoSymbol_10 : decode prog_1_method_17_code 10 = .ok (.dup, 1) := by decide +kernel
theorem d_X_refuseNoSymbol_11 : decode prog_1_method_17_code 11 = .ok (.ldc 172, 2) := by decide +kernel
theorem d_X_refuseNoSymbol_13 : decode prog_1_method_17_code 13 = .ok (.invokespecial 60, 3) := by decide +kernel
theorem d_X_refuseNoSymbol_16 : decode prog_1_method_17_code 16 = .ok (.athrow, 1) := by decide +kernel
theorem d_X_refuseNoSymbol_17 : decode prog_1_method_17_code 17 = .ok (.return_, 1) := by decide +kernel
theorem d_X_symbol_0 : decode prog_1_method_3_code 0 = .ok (.iload_n 1, 1) := by decide +kernel
theorem d_X_symbol_1 : decode prog_1_method_3_code 1 = .ok (.ifCond .lt 10, 3) := by decide +kernel
theorem d_X_symbol_4 : decode prog_1_method_3_code 4 = .ok (.iload_n 1, 1) := by decide +kernel
theorem d_X_symbol_5 : decode prog_1_method_3_code 5 = .ok (.sipush 1024, 3) := by decide +kernel
theorem d_X_symbol_8 : decode prog_1_method_3_code 8 = .ok (.if_icmp .lt 13, 3) := by decide +kernel
theorem d_X_symbol_11 : decode prog_1_method_3_code 11 = .ok (.new 56, 3) := by decide +kernel
theorem d_X_symbol_14 : decode prog_1_method_3_code 14 = .ok (.dup, 1) := by decide +kernel
theorem d_X_symbol_15 : decode prog_1_method_3_code 15 = .ok (.ldc 58, 2) := by decide +kernel
theorem d_X_symbol_17 : decode prog_1_method_3_code 17 = .ok (.invokespecial 60, 3) := by decide +kernel
theorem d_X_symbol_20 : decode prog_1_method_3_code 20 = .ok (.athrow, 1) := by decide +kernel
theorem d_X_symbol_21 : decode prog_1_method_3_code 21 = .ok (.iload_n 1, 1) := by decide +kernel
theorem d_X_symbol_22 : decode prog_1_method_3_code 22 = .ok (.iconst 0, 1) := by decide +kernel
theorem d_X_symbol_23 : decode prog_1_method_3_code 23 = .ok (.invokestatic 63, 3) := by decide +kernel
theorem d_X_symbol_26 : decode prog_1_method_3_code 26 = .ok (.istore_n 2, 1) := by decide +kernel
theorem d_X_symbol_27 : decode prog_1_method_3_code 27 = .ok (.iload_n 2, 1) := by decide +kernel
theorem d_X_symbol_28 : decode prog_1_method_3_code 28 = .ok (.iconst (-1), 1) := by decide +kernel
theorem d_X_symbol_29 : decode prog_1_method_3_code 29 = .ok (.if_icmp .eq 7, 3) := by decide +kernel
theorem d_X_symbol_32 : decode prog_1_method_3_code 32 = .ok (.iload_n 2, 1) := by decide +kernel
theorem d_X_symbol_33 : decode prog_1_method_3_code 33 = .ok (.goto 8, 3) := by decide +kernel
theorem d_X_symbol_36 : decode prog_1_method_3_code 36 = .ok (.iload_n 1, 1) := by decide +kernel
theorem d_X_symbol_37 : decode prog_1_method_3_code 37 = .ok (.iconst 1, 1) := by decide +kernel
theorem d_X_symbol_38 : decode prog_1_method_3_code 38 = .ok (.invokestatic 63, 3) := by decide +kernel
theorem d_X_symbol_41 : decode prog_1_method_3_code 41 = .ok (.ireturn, 1) := by decide +kernel
theorem d_X_send_0 : decode prog_1_method_4_code 0 = .ok (.iload_n 1, 1) := by decide +kernel
theorem d_X_send_1 : decode prog_1_method_4_code 1 = .ok (.invokestatic 46, 3) := by decide +kernel
theorem d_X_send_4 : decode prog_1_method_4_code 4 = .ok (.aload_n 0, 1) := by decide +kernel
theorem d_X_send_5 : decode prog_1_method_4_code 5 = .ok (.getfield 10, 3) := by decide +kernel
theorem d_X_send_8 : decode prog_1_method_4_code 8 = .ok (.bipush 10, 2) := by decide +kernel
theorem d_X_send_10 : decode prog_1_method_4_code 10 = .ok (.invokestatic 66, 3) := by decide +kernel
theorem d_X_send_13 : decode prog_1_method_4_code 13 = .ok (.iload_n 1, 1) := by decide +kernel
theorem d_X_send_14 : decode prog_1_method_4_code 14 = .ok (.aload_n 0, 1) := by decide +kernel
theorem d_X_send_15 : decode prog_1_method_4_code 15 = .ok (.getfield 42, 3) := by decide +kernel
theorem d_X_send_18 : decode prog_1_method_4_code 18 = .ok (.invokestatic 50, 3) := by decide +kernel
theorem d_X_send_21 : decode prog_1_method_4_code 21 = .ok (.istore_n 2, 1) := by decide +kernel
theorem d_X_send_22 : decode prog_1_method_4_code 22 = .ok (.aload_n 0, 1) := by decide +kernel
theorem d_X_send_23 : decode prog_1_method_4_code 23 = .ok (.getfield 10, 3) := by decide +kernel
theorem d_X_send_26 : decode prog_1_method_4_code 26 = .ok (.iload_n 2, 1) := by decide +kernel
theorem d_X_send_27 : decode prog_1_method_4_code 27 = .ok (.bipush 10, 2) := by decide +kernel
theorem d_X_send_29 : decode prog_1_method_4_code 29 = .ok (.invokevirtual 70, 3) := by decide +kernel
theorem d_X_send_32 : decode prog_1_method_4_code 32 = .ok (.aload_n 0, 1) := by decide +kernel
theorem d_X_send_33 : decode prog_1_method_4_code 33 = .ok (.iload_n 2, 1) := by decide +kernel
theorem d_X_send_34 : decode prog_1_method_4_code 34 = .ok (.aload_n 0, 1) := by decide +kernel
theorem d_X_send_35 : decode prog_1_method_4_code 35 = .ok (.getfield 42, 3) := by decide +kernel
theorem d_X_send_38 : decode prog_1_method_4_code 38 = .ok (.invokestatic 74, 3) := by decide +kernel
theorem d_X_send_41 : decode prog_1_method_4_code 41 = .ok (.putfield 42, 3) := by decide +kernel
theorem d_X_send_44 : decode prog_1_method_4_code 44 = .ok (.iload_n 2, 1) := by decide +kernel
theorem d_X_send_45 : decode prog_1_method_4_code 45 = .ok (.ireturn, 1) := by decide +kernel
theorem d_X_refuseNoRoom_0 : decode prog_1_method_18_code 0 = .ok (.aload_n 0, 1) := by decide +kernel
theorem d_X_refuseNoRoom_1 : decode prog_1_method_18_code 1 = .ok (.iload_n 1, 1) := by decide +kernel
theorem d_X_refuseNoRoom_2 : decode prog_1_method_18_code 2 = .ok (.invokevirtual 174, 3) := by decide +kernel
theorem d_X_refuseNoRoom_5 : decode prog_1_method_18_code 5 = .ok (.ifCond .ne 13, 3) := by decide +kernel
theorem d_X_refuseNoRoom_8 : decode prog_1_method_18_code 8 = .ok (.new 177, 3) := by decide +kernel
theorem d_X_refuseNoRoom_11 : decode prog_1_method_18_code 11 = .ok (.dup, 1) := by decide +kernel
theorem d_X_refuseNoRoom_12 : decode prog_1_method_18_code 12 = .ok (.ldc 179, 2) := by decide +kernel
theorem d_X_refuseNoRoom_14 : decode prog_1_method_18_code 14 = .ok (.invokespecial 181, 3) := by decide +kernel
theorem d_X_refuseNoRoom_17 : decode prog_1_method_18_code 17 = .ok (.athrow, 1) := by decide +kernel
theorem d_X_refuseNoRoom_18 : decode prog_1_method_18_code 18 = .ok (.return_, 1) := by decide +kernel
theorem d_X_put_0 : decode prog_1_method_6_code 0 = .ok (.aload_n 0, 1) := by decide +kernel
theorem d_X_put_1 : decode prog_1_method_6_code 1 = .ok (.getfield 16, 3) := by decide +kernel
theorem d_X_put_4 : decode prog_1_method_6_code 4 = .ok (.bipush 66, 2) := by decide +kernel
theorem d_X_put_6 : decode prog_1_method_6_code 6 = .ok (.invokestatic 66, 3) := by decide +kernel
theorem d_X_put_9 : decode prog_1_method_6_code 9 = .ok (.aload_n 0, 1) := by decide +kernel
theorem d_X_put_10 : decode prog_1_method_6_code 10 = .ok (.getfield 16, 3) := by decide +kernel
theorem d_X_put_13 : decode prog_1_method_6_code 13 = .ok (.iload_n 3, 1) := by decide +kernel
theorem d_X_put_14 : decode prog_1_method_6_code 14 = .ok (.ifCond .eq 7, 3) := by decide +kernel
theorem d_X_put_17 : decode prog_1_method_6_code 17 = .ok (.iconst 2, 1) := by decide +kernel
theorem d_X_put_18 : decode prog_1_method_6_code 18 = .ok (.goto 4, 3) := by decide +kernel
theorem d_X_put_21 : decode prog_1_method_6_code 21 = .ok (.iconst 1, 1) := by decide +kernel
theorem d_X_put_22 : decode prog_1_method_6_code 22 = .ok (.iconst 2, 1) := by decide +kernel
theorem d_X_put_23 : decode prog_1_method_6_code 23 = .ok (.invokevirtual 70, 3) := by decide +kernel
theorem d_X_put_26 : decode prog_1_method_6_code 26 = .ok (.iconst 0, 1) := by decide +kernel
theorem d_X_put_27 : decode prog_1_method_6_code 27 = .ok (.istore 4, 2) := by decide +kernel
theorem d_X_put_29 : decode prog_1_method_6_code 29 = .ok (.iload 4, 2) := by decide +kernel
theorem d_X_put_31 : decode prog_1_method_6_code 31 = .ok (.bipush 64, 2) := by decide +kernel
theorem d_X_put_33 : decode prog_1_method_6_code 33 = .ok (.if_icmp .ge 35, 3) := by decide +kernel
theorem d_X_put_36 : decode prog_1_method_6_code 36 = .ok (.lload_n 1, 1) := by decide +kernel
theorem d_X_put_37 : decode prog_1_method_6_code 37 = .ok (.iload 4, 2) := by decide +kernel
theorem d_X_put_39 : decode prog_1_method_6_code 39 = .ok (.lushr, 1) := by decide +kernel
theorem d_X_put_40 : decode prog_1_method_6_code 40 = .ok (.l2i, 1) := by decide +kernel
theorem d_X_put_41 : decode prog_1_method_6_code 41 = .ok (.iconst 1, 1) := by decide +kernel
theorem d_X_put_42 : decode prog_1_method_6_code 42 = .ok (.iand, 1) := by decide +kernel
theorem d_X_put_43 : decode prog_1_method_6_code 43 = .ok (.istore 5, 2) := by decide +kernel
theorem d_X_put_45 : decode prog_1_method_6_code 45 = .ok (.aload_n 0, 1) := by decide +kernel
theorem d_X_put_46 : decode prog_1_method_6_code 46 = .ok (.getfield 16, 3) := by decide +kernel
theorem d_X_put_49 : decode prog_1_method_6_code 49 = .ok (.aload_n 0, 1) := by decide +kernel
theorem d_X_put_50 : decode prog_1_method_6_code 50 = .ok (.getfield 38, 3) := by decide +kernel
theorem d_X_put_53 : decode prog_1_method_6_code 53 = .ok (.iload 5, 2) := by decide +kernel
theorem d_X_put_55 : decode prog_1_method_6_code 55 = .ok (.invokevirtual 84, 3) := by decide +kernel
theorem d_X_put_58 : decode prog_1_method_6_code 58 = .ok (.iconst 1, 1) := by decide +kernel
theorem d_X_put_59 : decode prog_1_method_6_code 59 = .ok (.invokevirtual 70, 3) := by decide +kernel
theorem d_X_put_62 : decode prog_1_method_6_code 62 = .ok (.iinc 4 1, 3) := by decide +kernel
theorem d_X_put_65 : decode prog_1_method_6_code 65 = .ok (.goto (-36), 3) := by decide +kernel
theorem d_X_put_68 : decode prog_1_method_6_code 68 = .ok (.aload_n 0, 1) := by decide +kernel
theorem d_X_put_69 : decode prog_1_method_6_code 69 = .ok (.getfield 16, 3) := by decide +kernel
theorem d_X_put_72 : decode prog_1_method_6_code 72 = .ok (.invokevirtual 88, 3) := by decide +kernel
theorem d_X_put_75 : decode prog_1_method_6_code 75 = .ok (.ireturn, 1) := by decide +kernel
theorem d_X_raw_0 : decode prog_1_method_9_code 0 = .ok (.aload_n 0, 1) := by decide +kernel
theorem d_X_raw_1 : decode prog_1_method_9_code 1 = .ok (.iload_n 1, 1) := by decide +kernel
theorem d_X_raw_2 : decode prog_1_method_9_code 2 = .ok (.invokevirtual 96, 3) := by decide +kernel
theorem d_X_raw_5 : decode prog_1_method_9_code 5 = .ok (.astore 4, 2) := by decide +kernel
theorem d_X_raw_7 : decode prog_1_method_9_code 7 = .ok (.iload_n 3, 1) := by decide +kernel
theorem d_X_raw_8 : decode prog_1_method_9_code 8 = .ok (.ifCond .lt 9, 3) := by decide +kernel
theorem d_X_raw_11 : decode prog_1_method_9_code 11 = .ok (.iload_n 3, 1) := by decide +kernel
theorem d_X_raw_12 : decode prog_1_method_9_code 12 = .ok (.bipush 32, 2) := by decide +kernel
theorem d_X_raw_14 : decode prog_1_method_9_code 14 = .ok (.if_icmp .le 13, 3) := by decide +kernel
theorem d_X_raw_17 : decode prog_1_method_9_code 17 = .ok (.new 56, 3) := by decide +kernel
theorem d_X_raw_20 : decode prog_1_method_9_code 20 = .ok (.dup, 1) := by decide +kernel
theorem d_X_raw_21 : decode prog_1_method_9_code 21 = .ok (.ldc 100, 2) := by decide +kernel
theorem d_X_raw_23 : decode prog_1_method_9_code 23 = .ok (.invokespecial 60, 3) := by decide +kernel
theorem d_X_raw_26 : decode prog_1_method_9_code 26 = .ok (.athrow, 1) := by decide +kernel
theorem d_X_raw_27 : decode prog_1_method_9_code 27 = .ok (.aload 4, 2) := by decide +kernel
theorem d_X_raw_29 : decode prog_1_method_9_code 29 = .ok (.iload_n 3, 1) := by decide +kernel
theorem d_X_raw_30 : decode prog_1_method_9_code 30 = .ok (.invokestatic 66, 3) := by decide +kernel
theorem d_X_raw_33 : decode prog_1_method_9_code 33 = .ok (.aload 4, 2) := by decide +kernel
theorem d_X_raw_35 : decode prog_1_method_9_code 35 = .ok (.iload_n 2, 1) := by decide +kernel
theorem d_X_raw_36 : decode prog_1_method_9_code 36 = .ok (.iload_n 3, 1) := by decide +kernel
theorem d_X_raw_37 : decode prog_1_method_9_code 37 = .ok (.invokevirtual 70, 3) := by decide +kernel
theorem d_X_raw_40 : decode prog_1_method_9_code 40 = .ok (.aload 4, 2) := by decide +kernel
theorem d_X_raw_42 : decode prog_1_method_9_code 42 = .ok (.invokevirtual 88, 3) := by decide +kernel
theorem d_X_raw_45 : decode prog_1_method_9_code 45 = .ok (.ireturn, 1) := by decide +kernel
theorem d_X_lineOf_0 : decode prog_1_method_16_code 0 = .ok (.iload_n 1, 1) := by decide +kernel
theorem d_X_lineOf_1 : decode prog_1_method_16_code 1 = .ok (.ifCond .eq 18, 3) := by decide +kernel
theorem d_X_lineOf_4 : decode prog_1_method_16_code 4 = .ok (.iload_n 1, 1) := by decide +kernel
theorem d_X_lineOf_5 : decode prog_1_method_16_code 5 = .ok (.iconst 1, 1) := by decide +kernel
theorem d_X_lineOf_6 : decode prog_1_method_16_code 6 = .ok (.if_icmp .eq 13, 3) := by decide +kernel
theorem d_X_lineOf_9 : decode prog_1_method_16_code 9 = .ok (.new 56, 3) := by decide +kernel
theorem d_X_lineOf_12 : decode prog_1_method_16_code 12 = .ok (.dup, 1) := by decide +kernel
theorem d_X_lineOf_13 : decode prog_1_method_16_code 13 = .ok (.ldc 167, 2) := by decide +kernel
theorem d_X_lineOf_15 : decode prog_1_method_16_code 15 = .ok (.invokespecial 60, 3) := by decide +kernel
theorem d_X_lineOf_18 : decode prog_1_method_16_code 18 = .ok (.athrow, 1) := by decide +kernel
theorem d_X_lineOf_19 : decode prog_1_method_16_code 19 = .ok (.iload_n 1, 1) := by decide +kernel
theorem d_X_lineOf_20 : decode prog_1_method_16_code 20 = .ok (.ifCond .ne 10, 3) := by decide +kernel
theorem d_X_lineOf_23 : decode prog_1_method_16_code 23 = .ok (.aload_n 0, 1) := by decide +kernel
theorem d_X_lineOf_24 : decode prog_1_method_16_code 24 = .ok (.getfield 10, 3) := by decide +kernel
theorem d_X_lineOf_27 : decode prog_1_method_16_code 27 = .ok (.goto 7, 3) := by decide +kernel
theorem d_X_lineOf_30 : decode prog_1_method_16_code 30 = .ok (.aload_n 0, 1) := by decide +kernel
theorem d_X_lineOf_31 : decode prog_1_method_16_code 31 = .ok (.getfield 16, 3) := by decide +kernel
theorem d_X_lineOf_34 : decode prog_1_method_16_code 34 = .ok (.areturn, 1) := by decide +kernel
theorem d_X_bend_0 : decode prog_1_method_10_code 0 = .ok (.aload_n 0, 1) := by decide +kernel
theorem d_X_bend_1 : decode prog_1_method_10_code 1 = .ok (.iload_n 1, 1) := by decide +kernel
theorem d_X_bend_2 : decode prog_1_method_10_code 2 = .ok (.invokevirtual 96, 3) := by decide +kernel
theorem d_X_bend_5 : decode prog_1_method_10_code 5 = .ok (.astore_n 3, 1) := by decide +kernel
theorem d_X_bend_6 : decode prog_1_method_10_code 6 = .ok (.aload_n 3, 1) := by decide +kernel
theorem d_X_bend_7 : decode prog_1_method_10_code 7 = .ok (.iload_n 2, 1) := by decide +kernel
theorem d_X_bend_8 : decode prog_1_method_10_code 8 = .ok (.invokevirtual 102, 3) := by decide +kernel
theorem d_X_bend_11 : decode prog_1_method_10_code 11 = .ok (.ifCond .ne 13, 3) := by decide +kernel
theorem d_X_bend_14 : decode prog_1_method_10_code 14 = .ok (.new 106, 3) := by decide +kernel
theorem d_X_bend_17 : decode prog_1_method_10_code 17 = .ok (.dup, 1) := by decide +kernel
theorem d_X_bend_18 : decode prog_1_method_10_code 18 = .ok (.ldc 108, 2) := by decide +kernel
theorem d_X_bend_20 : decode prog_1_method_10_code 20 = .ok (.invokespecial 110, 3) := by decide +kernel
theorem d_X_bend_23 : decode prog_1_method_10_code 23 = .ok (.athrow, 1) := by decide +kernel
theorem d_X_bend_24 : decode prog_1_method_10_code 24 = .ok (.aload_n 3, 1) := by decide +kernel
theorem d_X_bend_25 : decode prog_1_method_10_code 25 = .ok (.iload_n 2, 1) := by decide +kernel
theorem d_X_bend_26 : decode prog_1_method_10_code 26 = .ok (.invokevirtual 111, 3) := by decide +kernel
theorem d_X_bend_29 : decode prog_1_method_10_code 29 = .ok (.aload_n 3, 1) := by decide +kernel
theorem d_X_bend_30 : decode prog_1_method_10_code 30 = .ok (.iload_n 2, 1) := by decide +kernel
theorem d_X_bend_31 : decode prog_1_method_10_code 31 = .ok (.invokevirtual 114, 3) := by decide +kernel
theorem d_X_bend_34 : decode prog_1_method_10_code 34 = .ok (.iconst 1, 1) := by decide +kernel
theorem d_X_bend_35 : decode prog_1_method_10_code 35 = .ok (.if_icmp .ne 7, 3) := by decide +kernel
theorem d_X_bend_38 : decode prog_1_method_10_code 38 = .ok (.iconst 1, 1) := by decide +kernel
theorem d_X_bend_39 : decode prog_1_method_10_code 39 = .ok (.goto 4, 3) := by decide +kernel
theorem d_X_bend_42 : decode prog_1_method_10_code 42 = .ok (.iconst 0, 1) := by decide +kernel
theorem d_X_bend_43 : decode prog_1_method_10_code 43 = .ok (.ireturn, 1) := by decide +kernel
theorem d_X_lose_0 : decode prog_1_method_11_code 0 = .ok (.aload_n 0, 1) := by decide +kernel
theorem d_X_lose_1 : decode prog_1_method_11_code 1 = .ok (.iload_n 1, 1) := by decide +kernel
theorem d_X_lose_2 : decode prog_1_method_11_code 2 = .ok (.invokevirtual 96, 3) := by decide +kernel
theorem d_X_lose_5 : decode prog_1_method_11_code 5 = .ok (.astore 4, 2) := by decide +kernel
theorem d_X_lose_7 : decode prog_1_method_11_code 7 = .ok (.iload_n 3, 1) := by decide +kernel
theorem d_X_lose_8 : decode prog_1_method_11_code 8 = .ok (.ifCond .ge 13, 3) := by decide +kernel
theorem d_X_lose_11 : decode prog_1_method_11_code 11 = .ok (.new 56, 3) := by decide +kernel
theorem d_X_lose_14 : decode prog_1_method_11_code 14 = .ok (.dup, 1) := by decide +kernel
theorem d_X_lose_15 : decode prog_1_method_11_code 15 = .ok (.ldc 117, 2) := by decide +kernel
theorem d_X_lose_17 : decode prog_1_method_11_code 17 = .ok (.invokespecial 60, 3) := by decide +kernel
theorem d_X_lose_20 : decode prog_1_method_11_code 20 = .ok (.athrow, 1) := by decide +kernel
theorem d_X_lose_21 : decode prog_1_method_11_code 21 = .ok (.iload_n 2, 1) := by decide +kernel
theorem d_X_lose_22 : decode prog_1_method_11_code 22 = .ok (.aload 4, 2) := by decide +kernel
theorem d_X_lose_24 : decode prog_1_method_11_code 24 = .ok (.invokevirtual 119, 3) := by decide +kernel
theorem d_X_lose_27 : decode prog_1_method_11_code 27 = .ok (.if_icmp .ge 13, 3) := by decide +kernel
theorem d_X_lose_30 : decode prog_1_method_11_code 30 = .ok (.new 56, 3) := by decide +kernel
theorem d_X_lose_33 : decode prog_1_method_11_code 33 = .ok (.dup, 1) := by decide +kernel
theorem d_X_lose_34 : decode prog_1_method_11_code 34 = .ok (.ldc 122, 2) := by decide +kernel
theorem d_X_lose_36 : decode prog_1_method_11_code 36 = .ok (.invokespecial 60, 3) := by decide +kernel
theorem d_X_lose_39 : decode prog_1_method_11_code 39 = .ok (.athrow, 1) := by decide +kernel
theorem d_X_lose_40 : decode prog_1_method_11_code 40 = .ok (.aload 4, 2) := by decide +kernel
theorem d_X_lose_42 : decode prog_1_method_11_code 42 = .ok (.iload_n 2, 1) := by decide +kernel
theorem d_X_lose_43 : decode prog_1_method_11_code 43 = .ok (.iload_n 3, 1) := by decide +kernel
theorem d_X_lose_44 : decode prog_1_method_11_code 44 = .ok (.invokevirtual 124, 3) := by decide +kernel
theorem d_X_lose_47 : decode prog_1_method_11_code 47 = .ok (.ireturn, 1) := by decide +kernel
theorem d_X_bit_0 : decode prog_1_method_12_code 0 = .ok (.aload_n 0, 1) := by decide +kernel
theorem d_X_bit_1 : decode prog_1_method_12_code 1 = .ok (.iload_n 1, 1) := by decide +kernel
theorem d_X_bit_2 : decode prog_1_method_12_code 2 = .ok (.invokevirtual 96, 3) := by decide +kernel
theorem d_X_bit_5 : decode prog_1_method_12_code 5 = .ok (.iload_n 2, 1) := by decide +kernel
theorem d_X_bit_6 : decode prog_1_method_12_code 6 = .ok (.invokevirtual 114, 3) := by decide +kernel
theorem d_X_bit_9 : decode prog_1_method_12_code 9 = .ok (.ireturn, 1) := by decide +kernel
theorem d_X_count_0 : decode prog_1_method_13_code 0 = .ok (.aload_n 0, 1) := by decide +kernel
theorem d_X_count_1 : decode prog_1_method_13_code 1 = .ok (.iload_n 1, 1) := by decide +kernel
theorem d_X_count_2 : decode prog_1_method_13_code 2 = .ok (.invokevirtual 96, 3) := by decide +kernel
theorem d_X_count_5 : decode prog_1_method_13_code 5 = .ok (.astore_n 3, 1) := by decide +kernel
theorem d_X_count_6 : decode prog_1_method_13_code 6 = .ok (.iload_n 1, 1) := by decide +kernel
theorem d_X_count_7 : decode prog_1_method_13_code 7 = .ok (.ifCond .ne 10, 3) := by decide +kernel
theorem d_X_count_10 : decode prog_1_method_13_code 10 = .ok (.aload_n 0, 1) := by decide +kernel
theorem d_X_count_11 : decode prog_1_method_13_code 11 = .ok (.getfield 24, 3) := by decide +kernel
theorem d_X_count_14 : decode prog_1_method_13_code 14 = .ok (.goto 7, 3) := by decide +kernel
theorem d_X_count_17 : decode prog_1_method_13_code 17 = .ok (.aload_n 0, 1) := by decide +kernel
theorem d_X_count_18 : decode prog_1_method_13_code 18 = .ok (.getfield 31, 3) := by decide +kernel
theorem d_X_count_21 : decode prog_1_method_13_code 21 = .ok (.astore 4, 2) := by decide +kernel
theorem d_X_count_23 : decode prog_1_method_13_code 23 = .ok (.iload_n 2, 1) := by decide +kernel
theorem d_X_count_24 : decode prog_1_method_13_code 24 = .ok (.tableswitch 110 0 8 #[52, 57, 62, 76, 82, 88, 94, 100, 105], 52) := by decide +kernel
theorem d_X_count_76 : decode prog_1_method_13_code 76 = .ok (.aload_n 3, 1) := by decide +kernel
theorem d_X_count_77 : decode prog_1_method_13_code 77 = .ok (.invokevirtual 88, 3) := by decide +kernel
theorem d_X_count_80 : decode prog_1_method_13_code 80 = .ok (.ireturn, 1) := by decide +kernel
theorem d_X_count_81 : decode prog_1_method_13_code 81 = .ok (.aload_n 3, 1) := by decide +kernel
theorem d_X_count_82 : decode prog_1_method_13_code 82 = .ok (.invokevirtual 119, 3) := by decide +kernel
theorem d_X_count_85 : decode prog_1_method_13_code 85 = .ok (.ireturn, 1) := by decide +kernel
theorem d_X_count_86 : decode prog_1_method_13_code 86 = .ok (.aload 4, 2) := by decide +kernel
theorem d_X_count_88 : decode prog_1_method_13_code 88 = .ok (.invokevirtual 128, 3) := by decide +kernel
theorem d_X_count_91 : decode prog_1_method_13_code 91 = .ok (.ifCond .eq 7, 3) := by decide +kernel
theorem d_X_count_94 : decode prog_1_method_13_code 94 = .ok (.iconst 1, 1) := by decide +kernel
theorem d_X_count_95 : decode prog_1_method_13_code 95 = .ok (.goto 4, 3) := by decide +kernel
theorem d_X_count_98 : decode prog_1_method_13_code 98 = .ok (.iconst 0, 1) := by decide +kernel
theorem d_X_count_99 : decode prog_1_method_13_code 99 = .ok (.ireturn, 1) := by decide +kernel
theorem d_X_count_100 : decode prog_1_method_13_code 100 = .ok (.aload 4, 2) := by decide +kernel
theorem d_X_count_102 : decode prog_1_method_13_code 102 = .ok (.invokevirtual 134, 3) := by decide +kernel
theorem d_X_count_105 : decode prog_1_method_13_code 105 = .ok (.ireturn, 1) := by decide +kernel
theorem d_X_count_106 : decode prog_1_method_13_code 106 = .ok (.aload 4, 2) := by decide +kernel
theorem d_X_count_108 : decode prog_1_method_13_code 108 = .ok (.invokevirtual 137, 3) := by decide +kernel
theorem d_X_count_111 : decode prog_1_method_13_code 111 = .ok (.ireturn, 1) := by decide +kernel
theorem d_X_count_112 : decode prog_1_method_13_code 112 = .ok (.aload 4, 2) := by decide +kernel
theorem d_X_count_114 : decode prog_1_method_13_code 114 = .ok (.invokevirtual 140, 3) := by decide +kernel
theorem d_X_count_117 : decode prog_1_method_13_code 117 = .ok (.ireturn, 1) := by decide +kernel
theorem d_X_count_118 : decode prog_1_method_13_code 118 = .ok (.aload 4, 2) := by decide +kernel
theorem d_X_count_120 : decode prog_1_method_13_code 120 = .ok (.invokevirtual 143, 3) := by decide +kernel
theorem d_X_count_123 : decode prog_1_method_13_code 123 = .ok (.ireturn, 1) := by decide +kernel
theorem d_X_count_124 : decode prog_1_method_13_code 124 = .ok (.aload_n 3, 1) := by decide +kernel
theorem d_X_count_125 : decode prog_1_method_13_code 125 = .ok (.invokevirtual 146, 3) := by decide +kernel
theorem d_X_count_128 : decode prog_1_method_13_code 128 = .ok (.ireturn, 1) := by decide +kernel
theorem d_X_count_129 : decode prog_1_method_13_code 129 = .ok (.aload_n 3, 1) := by decide +kernel
theorem d_X_count_130 : decode prog_1_method_13_code 130 = .ok (.invokevirtual 149, 3) := by decide +kernel
theorem d_X_count_133 : decode prog_1_method_13_code 133 = .ok (.ireturn, 1) := by decide +kernel
theorem d_X_count_134 : decode prog_1_method_13_code 134 = .ok (.new 56, 3) := by decide +kernel
theorem d_X_count_137 : decode prog_1_method_13_code 137 = .ok (.dup, 1) := by decide +kernel
theorem d_X_count_138 : decode prog_1_method_13_code 138 = .ok (.ldc 152, 2) := by decide +kernel
theorem d_X_count_140 : decode prog_1_method_13_code 140 = .ok (.invokespecial 60, 3) := by decide +kernel
theorem d_X_count_143 : decode prog_1_method_13_code 143 = .ok (.athrow, 1) := by decide +kernel
