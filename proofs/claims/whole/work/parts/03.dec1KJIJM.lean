theorem d_JM_min_0 : decode prog_16_method_69_code 0 = .ok (.iload_n 0, 1) := by decide +kernel
theorem d_JM_min_1 : decode prog_16_method_69_code 1 = .ok (.iload_n 1, 1) := by decide +kernel
theorem d_JM_min_2 : decode prog_16_method_69_code 2 = .ok (.if_icmp .gt 7, 3) := by decide +kernel
theorem d_JM_min_5 : decode prog_16_method_69_code 5 = .ok (.iload_n 0, 1) := by decide +kernel
theorem d_JM_min_6 : decode prog_16_method_69_code 6 = .ok (.goto 4, 3) := by decide +kernel
theorem d_JM_min_9 : decode prog_16_method_69_code 9 = .ok (.iload_n 1, 1) := by decide +kernel
theorem d_JM_min_10 : decode prog_16_method_69_code 10 = .ok (.ireturn, 1) := by decide +kernel
theorem d_K_decode_0 : decode prog_5_method_4_code 0 = .ok (.iload_n 0, 1) := by decide +kernel
theorem d_K_decode_1 : decode prog_5_method_4_code 1 = .ok (.iconst 4, 1) := by decide +kernel
theorem d_K_decode_2 : decode prog_5_method_4_code 2 = .ok (.ishr, 1) := by decide +kernel
theorem d_K_decode_3 : decode prog_5_method_4_code 3 = .ok (.iload_n 1, 1) := by decide +kernel
theorem d_K_decode_4 : decode prog_5_method_4_code 4 = .ok (.invokestatic 27, 3) := by decide +kernel
theorem d_K_decode_7 : decode prog_5_method_4_code 7 = .ok (.istore_n 2, 1) := by decide +kernel
theorem d_K_decode_8 : decode prog_5_method_4_code 8 = .ok (.iload_n 2, 1) := by decide +kernel
theorem d_K_decode_9 : decode prog_5_method_4_code 9 = .ok (.iconst (-1), 1) := by decide +kernel
theorem d_K_decode_10 : decode prog_5_method_4_code 10 = .ok (.if_icmp .ne 5, 3) := by decide +kernel
theorem d_K_decode_13 : decode prog_5_method_4_code 13 = .ok (.iconst (-1), 1) := by decide +kernel
theorem d_K_decode_14 : decode prog_5_method_4_code 14 = .ok (.ireturn, 1) := by decide +kernel
theorem d_K_decode_15 : decode prog_5_method_4_code 15 = .ok (.iload_n 2, 1) := by decide +kernel
theorem d_K_decode_16 : decode prog_5_method_4_code 16 = .ok (.istore_n 3, 1) := by decide +kernel
theorem d_K_decode_17 : decode prog_5_method_4_code 17 = .ok (.iload_n 3, 1) := by decide +kernel
theorem d_K_decode_18 : decode prog_5_method_4_code 18 = .ok (.sipush 512, 3) := by decide +kernel
theorem d_K_decode_21 : decode prog_5_method_4_code 21 = .ok (.if_icmp .ge 27, 3) := by decide +kernel
theorem d_K_decode_24 : decode prog_5_method_4_code 24 = .ok (.iload_n 3, 1) := by decide +kernel
theorem d_K_decode_25 : decode prog_5_method_4_code 25 = .ok (.invokestatic 30, 3) := by decide +kernel
theorem d_K_decode_28 : decode prog_5_method_4_code 28 = .ok (.ifCond .eq 14, 3) := by decide +kernel
theorem d_K_decode_31 : decode prog_5_method_4_code 31 = .ok (.iload_n 3, 1) := by decide +kernel
theorem d_K_decode_32 : decode prog_5_method_4_code 32 = .ok (.iload_n 1, 1) := by decide +kernel
theorem d_K_decode_33 : decode prog_5_method_4_code 33 = .ok (.invokestatic 34, 3) := by decide +kernel
theorem d_K_decode_36 : decode prog_5_method_4_code 36 = .ok (.iload_n 0, 1) := by decide +kernel
theorem d_K_decode_37 : decode prog_5_method_4_code 37 = .ok (.if_icmp .ne 5, 3) := by decide +kernel
theorem d_K_decode_40 : decode prog_5_method_4_code 40 = .ok (.iload_n 3, 1) := by decide +kernel
theorem d_K_decode_41 : decode prog_5_method_4_code 41 = .ok (.ireturn, 1) := by decide +kernel
theorem d_K_decode_42 : decode prog_5_method_4_code 42 = .ok (.iinc 3 32, 3) := by decide +kernel
theorem d_K_decode_45 : decode prog_5_method_4_code 45 = .ok (.goto (-28), 3) := by decide +kernel
theorem d_K_decode_48 : decode prog_5_method_4_code 48 = .ok (.iconst (-1), 1) := by decide +kernel
theorem d_K_decode_49 : decode prog_5_method_4_code 49 = .ok (.ireturn, 1) := by decide +kernel
theorem d_K_xOf_0 : decode prog_5_method_7_code 0 = .ok (.iconst 0, 1) := by decide +kernel
theorem d_K_xOf_1 : decode prog_5_method_7_code 1 = .ok (.istore_n 2, 1) := by decide +kernel
theorem d_K_xOf_2 : decode prog_5_method_7_code 2 = .ok (.iload_n 2, 1) := by decide +kernel
theorem d_K_xOf_3 : decode prog_5_method_7_code 3 = .ok (.bipush 32, 2) := by decide +kernel
theorem d_K_xOf_5 : decode prog_5_method_7_code 5 = .ok (.if_icmp .ge 33, 3) := by decide +kernel
theorem d_K_xOf_8 : decode prog_5_method_7_code 8 = .ok (.iload_n 2, 1) := by decide +kernel
theorem d_K_xOf_9 : decode prog_5_method_7_code 9 = .ok (.iload_n 1, 1) := by decide +kernel
theorem d_K_xOf_10 : decode prog_5_method_7_code 10 = .ok (.invokestatic 16, 3) := by decide +kernel
theorem d_K_xOf_13 : decode prog_5_method_7_code 13 = .ok (.iload_n 0, 1) := by decide +kernel
theorem d_K_xOf_14 : decode prog_5_method_7_code 14 = .ok (.if_icmp .eq 16, 3) := by decide +kernel
theorem d_K_xOf_17 : decode prog_5_method_7_code 17 = .ok (.sipush 256, 3) := by decide +kernel
theorem d_K_xOf_20 : decode prog_5_method_7_code 20 = .ok (.iload_n 2, 1) := by decide +kernel
theorem d_K_xOf_21 : decode prog_5_method_7_code 21 = .ok (.iadd, 1) := by decide +kernel
theorem d_K_xOf_22 : decode prog_5_method_7_code 22 = .ok (.iload_n 1, 1) := by decide +kernel
theorem d_K_xOf_23 : decode prog_5_method_7_code 23 = .ok (.invokestatic 16, 3) := by decide +kernel
theorem d_K_xOf_26 : decode prog_5_method_7_code 26 = .ok (.iload_n 0, 1) := by decide +kernel
theorem d_K_xOf_27 : decode prog_5_method_7_code 27 = .ok (.if_icmp .ne 5, 3) := by decide +kernel
theorem d_K_xOf_30 : decode prog_5_method_7_code 30 = .ok (.iload_n 2, 1) := by decide +kernel
theorem d_K_xOf_31 : decode prog_5_method_7_code 31 = .ok (.ireturn, 1) := by decide +kernel
theorem d_K_xOf_32 : decode prog_5_method_7_code 32 = .ok (.iinc 2 1, 3) := by decide +kernel
theorem d_K_xOf_35 : decode prog_5_method_7_code 35 = .ok (.goto (-33), 3) := by decide +kernel
theorem d_K_xOf_38 : decode prog_5_method_7_code 38 = .ok (.iconst (-1), 1) := by decide +kernel
theorem d_K_xOf_39 : decode prog_5_method_7_code 39 = .ok (.ireturn, 1) := by decide +kernel
theorem d_K_sixOf_0 : decode prog_5_method_8_code 0 = .ok (.iload_n 0, 1) := by decide +kernel
theorem d_K_sixOf_1 : decode prog_5_method_8_code 1 = .ok (.bipush 31, 2) := by decide +kernel
theorem d_K_sixOf_3 : decode prog_5_method_8_code 3 = .ok (.iand, 1) := by decide +kernel
theorem d_K_sixOf_4 : decode prog_5_method_8_code 4 = .ok (.istore_n 2, 1) := by decide +kernel
theorem d_K_sixOf_5 : decode prog_5_method_8_code 5 = .ok (.iload_n 0, 1) := by decide +kernel
theorem d_K_sixOf_6 : decode prog_5_method_8_code 6 = .ok (.sipush 256, 3) := by decide +kernel
theorem d_K_sixOf_9 : decode prog_5_method_8_code 9 = .ok (.if_icmp .lt 14, 3) := by decide +kernel
theorem d_K_sixOf_12 : decode prog_5_method_8_code 12 = .ok (.iload_n 2, 1) := by decide +kernel
theorem d_K_sixOf_13 : decode prog_5_method_8_code 13 = .ok (.bipush 28, 2) := by decide +kernel
theorem d_K_sixOf_15 : decode prog_5_method_8_code 15 = .ok (.if_icmp .ne 8, 3) := by decide +kernel
theorem d_K_sixOf_18 : decode prog_5_method_8_code 18 = .ok (.bipush 15, 2) := by decide +kernel
theorem d_K_sixOf_20 : decode prog_5_method_8_code 20 = .ok (.goto 8, 3) := by decide +kernel
theorem d_K_sixOf_23 : decode prog_5_method_8_code 23 = .ok (.getstatic 40, 3) := by decide +kernel
theorem d_K_sixOf_26 : decode prog_5_method_8_code 26 = .ok (.iload_n 2, 1) := by decide +kernel
theorem d_K_sixOf_27 : decode prog_5_method_8_code 27 = .ok (.iaload, 1) := by decide +kernel
theorem d_K_sixOf_28 : decode prog_5_method_8_code 28 = .ok (.istore_n 3, 1) := by decide +kernel
theorem d_K_sixOf_29 : decode prog_5_method_8_code 29 = .ok (.iload_n 3, 1) := by decide +kernel
theorem d_K_sixOf_30 : decode prog_5_method_8_code 30 = .ok (.invokestatic 44, 3) := by decide +kernel
theorem d_K_sixOf_33 : decode prog_5_method_8_code 33 = .ok (.iconst 3, 1) := by decide +kernel
theorem d_K_sixOf_34 : decode prog_5_method_8_code 34 = .ok (.if_icmp .ne 9, 3) := by decide +kernel
theorem d_K_sixOf_37 : decode prog_5_method_8_code 37 = .ok (.iload_n 3, 1) := by decide +kernel
theorem d_K_sixOf_38 : decode prog_5_method_8_code 38 = .ok (.bipush 56, 2) := by decide +kernel
theorem d_K_sixOf_40 : decode prog_5_method_8_code 40 = .ok (.if_icmp .ne 7, 3) := by decide +kernel
theorem d_K_sixOf_43 : decode prog_5_method_8_code 43 = .ok (.iconst 1, 1) := by decide +kernel
theorem d_K_sixOf_44 : decode prog_5_method_8_code 44 = .ok (.goto 4, 3) := by decide +kernel
theorem d_K_sixOf_47 : decode prog_5_method_8_code 47 = .ok (.iconst 0, 1) := by decide +kernel
theorem d_K_sixOf_48 : decode prog_5_method_8_code 48 = .ok (.istore 4, 2) := by decide +kernel
theorem d_K_sixOf_50 : decode prog_5_method_8_code 50 = .ok (.iload_n 1, 1) := by decide +kernel
theorem d_K_sixOf_51 : decode prog_5_method_8_code 51 = .ok (.ifCond .eq 15, 3) := by decide +kernel
theorem d_K_sixOf_54 : decode prog_5_method_8_code 54 = .ok (.iload 4, 2) := by decide +kernel
theorem d_K_sixOf_56 : decode prog_5_method_8_code 56 = .ok (.ifCond .eq 10, 3) := by decide +kernel
theorem d_K_sixOf_59 : decode prog_5_method_8_code 59 = .ok (.iload_n 3, 1) := by decide +kernel
theorem d_K_sixOf_60 : decode prog_5_method_8_code 60 = .ok (.bipush 63, 2) := by decide +kernel
theorem d_K_sixOf_62 : decode prog_5_method_8_code 62 = .ok (.ixor, 1) := by decide +kernel
theorem d_K_sixOf_63 : decode prog_5_method_8_code 63 = .ok (.goto 4, 3) := by decide +kernel
theorem d_K_sixOf_66 : decode prog_5_method_8_code 66 = .ok (.iload_n 3, 1) := by decide +kernel
theorem d_K_sixOf_67 : decode prog_5_method_8_code 67 = .ok (.ireturn, 1) := by decide +kernel
theorem d_JI_bitCount_0 : decode prog_15_method_49_code 0 = .ok (.iload_n 0, 1) := by decide +kernel
theorem d_JI_bitCount_1 : decode prog_15_method_49_code 1 = .ok (.iload_n 0, 1) := by decide +kernel
theorem d_JI_bitCount_2 : decode prog_15_method_49_code 2 = .ok (.iconst 1, 1) := by decide +kernel
theorem d_JI_bitCount_3 : decode prog_15_method_49_code 3 = .ok (.iushr, 1) := by decide +kernel
theorem d_JI_bitCount_4 : decode prog_15_method_49_code 4 = .ok (.ldc_w 265, 3) := by decide +kernel
theorem d_JI_bitCount_7 : decode prog_15_method_49_code 7 = .ok (.iand, 1) := by decide +kernel
theorem d_JI_bitCount_8 : decode prog_15_method_49_code 8 = .ok (.isub, 1) := by decide +kernel
theorem d_JI_bitCount_9 : decode prog_15_method_49_code 9 = .ok (.istore_n 0, 1) := by decide +kernel
theorem d_JI_bitCount_10 : decode prog_15_method_49_code 10 = .ok (.iload_n 0, 1) := by decide +kernel
theorem d_JI_bitCount_11 : decode prog_15_method_49_code 11 = .ok (.ldc_w 266, 3) := by decide +kernel
theorem d_JI_bitCount_14 : decode prog_15_method_49_code 14 = .ok (.iand, 1) := by decide +kernel
theorem d_JI_bitCount_15 : decode prog_15_method_49_code 15 = .ok (.iload_n 0, 1) := by decide +kernel
theorem d_JI_bitCount_16 : decode prog_15_method_49_code 16 = .ok (.iconst 2, 1) := by decide +kernel
theorem d_JI_bitCount_17 : decode prog_15_method_49_code 17 = .ok (.iushr, 1) := by decide +kernel
theorem d_JI_bitCount_18 : decode prog_15_method_49_code 18 = .ok (.ldc_w 266, 3) := by decide +kernel
theorem d_JI_bitCount_21 : decode prog_15_method_49_code 21 = .ok (.iand, 1) := by decide +kernel
theorem d_JI_bitCount_22 : decode prog_15_method_49_code 22 = .ok (.iadd, 1) := by decide +kernel
theorem d_JI_bitCount_23 : decode prog_15_method_49_code 23 = .ok (.istore_n 0, 1) := by decide +kernel
theorem d_JI_bitCount_24 : decode prog_15_method_49_code 24 = .ok (.iload_n 0, 1) := by decide +kernel
theorem d_JI_bitCount_25 : decode prog_15_method_49_code 25 = .ok (.iload_n 0, 1) := by decide +kernel
theorem d_JI_bitCount_26 : decode prog_15_method_49_code 26 = .ok (.iconst 4, 1) := by decide +kernel
theorem d_JI_bitCount_27 : decode prog_15_method_49_code 27 = .ok (.iushr, 1) := by decide +kernel
theorem d_JI_bitCount_28 : decode prog_15_method_49_code 28 = .ok (.iadd, 1) := by decide +kernel
theorem d_JI_bitCount_29 : decode prog_15_method_49_code 29 = .ok (.ldc_w 267, 3) := by decide +kernel
theorem d_JI_bitCount_32 : decode prog_15_method_49_code 32 = .ok (.iand, 1) := by decide +kernel
theorem d_JI_bitCount_33 : decode prog_15_method_49_code 33 = .ok (.istore_n 0, 1) := by decide +kernel
theorem d_JI_bitCount_34 : decode prog_15_method_49_code 34 = .ok (.iload_n 0, 1) := by decide +kernel
theorem d_JI_bitCount_35 : decode prog_15_method_49_code 35 = .ok (.iload_n 0, 1) := by decide +kernel
theorem d_JI_bitCount_36 : decode prog_15_method_49_code 36 = .ok (.bipush 8, 2) := by decide +kernel
theorem d_JI_bitCount_38 : decode prog_15_method_49_code 38 = .ok (.iushr, 1) := by decide +kernel
theorem d_JI_bitCount_39 : decode prog_15_method_49_code 39 = .ok (.iadd, 1) := by decide +kernel
theorem d_JI_bitCount_40 : decode prog_15_method_49_code 40 = .ok (.istore_n 0, 1) := by decide +kernel
theorem d_JI_bitCount_41 : decode prog_15_method_49_code 41 = .ok (.iload_n 0, 1) := by decide +kernel
theorem d_JI_bitCount_42 : decode prog_15_method_49_code 42 = .ok (.iload_n 0, 1) := by decide +kernel
theorem d_JI_bitCount_43 : decode prog_15_method_49_code 43 = .ok (.bipush 16, 2) := by decide +kernel
theorem d_JI_bitCount_45 : decode prog_15_method_49_code 45 = .ok (.iushr, 1) := by decide +kernel
theorem d_JI_bitCount_46 : decode prog_15_method_49_code 46 = .ok (.iadd, 1) := by decide +kernel
theorem d_JI_bitCount_47 : decode prog_15_method_49_code 47 = .ok (.istore_n 0, 1) := by decide +kernel
theorem d_JI_bitCount_48 : decode prog_15_method_49_code 48 = .ok (.iload_n 0, 1) := by decide +kernel
theorem d_JI_bitCount_49 : decode prog_15_method_49_code 49 = .ok (.bipush 63, 2) := by decide +kernel
theorem d_JI_bitCount_51 : decode prog_15_method_49_code 51 = .ok (.iand, 1) := by decide +kernel
theorem d_JI_bitCount_52 : decode prog_15_method_49_code 52 = .ok (.ireturn, 1) := by decide +kernel
theorem d_K_isSymbol_0 : decode prog_5_method_2_code 0 = .ok (.iload_n 0, 1) := by decide +kernel
theorem d_K_isSymbol_1 : decode prog_5_method_2_code 1 = .ok (.ifCond .lt 10, 3) := by decide +kernel
theorem d_K_isSymbol_4 : decode prog_5_method_2_code 4 = .ok (.iload_n 0, 1) := by decide +kernel
theorem d_K_isSymbol_5 : decode prog_5_method_2_code 5 = .ok (.sipush 512, 3) := by decide +kernel
theorem d_K_isSymbol_8 : decode prog_5_method_2_code 8 = .ok (.if_icmp .lt 5, 3) := by decide +kernel
theorem d_K_isSymbol_11 : decode prog_5_method_2_code 11 = .ok (.iconst 0, 1) := by decide +kernel
theorem d_K_isSymbol_12 : decode prog_5_method_2_code 12 = .ok (.ireturn, 1) := by decide +kernel
theorem d_K_isSymbol_13 : decode prog_5_method_2_code 13 = .ok (.iload_n 0, 1) := by decide +kernel
theorem d_K_isSymbol_14 : decode prog_5_method_2_code 14 = .ok (.bipush 31, 2) := by decide +kernel
theorem d_K_isSymbol_16 : decode prog_5_method_2_code 16 = .ok (.iand, 1) := by decide +kernel
theorem d_K_isSymbol_17 : decode prog_5_method_2_code 17 = .ok (.istore_n 1, 1) := by decide +kernel
theorem d_K_isSymbol_18 : decode prog_5_method_2_code 18 = .ok (.iload_n 0, 1) := by decide +kernel
theorem d_K_isSymbol_19 : decode prog_5_method_2_code 19 = .ok (.iconst 5, 1) := by decide +kernel
theorem d_K_isSymbol_20 : decode prog_5_method_2_code 20 = .ok (.ishr, 1) := by decide +kernel
theorem d_K_isSymbol_21 : decode prog_5_method_2_code 21 = .ok (.bipush 7, 2) := by decide +kernel
theorem d_K_isSymbol_23 : decode prog_5_method_2_code 23 = .ok (.iand, 1) := by decide +kernel
theorem d_K_isSymbol_24 : decode prog_5_method_2_code 24 = .ok (.istore_n 2, 1) := by decide +kernel
theorem d_K_isSymbol_25 : decode prog_5_method_2_code 25 = .ok (.iload_n 0, 1) := by decide +kernel
theorem d_K_isSymbol_26 : decode prog_5_method_2_code 26 = .ok (.sipush 256, 3) := by decide +kernel
theorem d_K_isSymbol_29 : decode prog_5_method_2_code 29 = .ok (.if_icmp .lt 24, 3) := by decide +kernel
theorem d_K_isSymbol_32 : decode prog_5_method_2_code 32 = .ok (.iload_n 1, 1) := by decide +kernel
theorem d_K_isSymbol_33 : decode prog_5_method_2_code 33 = .ok (.bipush 28, 2) := by decide +kernel
theorem d_K_isSymbol_35 : decode prog_5_method_2_code 35 = .ok (.if_icmp .eq 18, 3) := by decide +kernel
theorem d_K_isSymbol_38 : decode prog_5_method_2_code 38 = .ok (.iload_n 2, 1) := by decide +kernel
theorem d_K_isSymbol_39 : decode prog_5_method_2_code 39 = .ok (.bipush 7, 2) := by decide +kernel
theorem d_K_isSymbol_41 : decode prog_5_method_2_code 41 = .ok (.if_icmp .ne 16, 3) := by decide +kernel
theorem d_K_isSymbol_44 : decode prog_5_method_2_code 44 = .ok (.iload_n 1, 1) := by decide +kernel
theorem d_K_isSymbol_45 : decode prog_5_method_2_code 45 = .ok (.ldc 11, 2) := by decide +kernel
theorem d_K_isSymbol_47 : decode prog_5_method_2_code 47 = .ok (.invokestatic 12, 3) := by decide +kernel
theorem d_K_isSymbol_50 : decode prog_5_method_2_code 50 = .ok (.ifCond .eq 7, 3) := by decide +kernel
theorem d_K_isSymbol_53 : decode prog_5_method_2_code 53 = .ok (.iconst 1, 1) := by decide +kernel
theorem d_K_isSymbol_54 : decode prog_5_method_2_code 54 = .ok (.goto 4, 3) := by decide +kernel
theorem d_K_isSymbol_57 : decode prog_5_method_2_code 57 = .ok (.iconst 0, 1) := by decide +kernel
theorem d_K_isSymbol_58 : decode prog_5_method_2_code 58 = .ok (.ireturn, 1) := by decide +kernel
theorem d_K_isAmong_0 : decode prog_5_method_6_code 0 = .ok (.iload_n 1, 1) := by decide +kernel
theorem d_K_isAmong_1 : decode prog_5_method_6_code 1 = .ok (.iload_n 0, 1) := by decide +kernel
theorem d_K_isAmong_2 : decode prog_5_method_6_code 2 = .ok (.iushr, 1) := by decide +kernel
theorem d_K_isAmong_3 : decode prog_5_method_6_code 3 = .ok (.iconst 1, 1) := by decide +kernel
theorem d_K_isAmong_4 : decode prog_5_method_6_code 4 = .ok (.iand, 1) := by decide +kernel
theorem d_K_isAmong_5 : decode prog_5_method_6_code 5 = .ok (.iconst 1, 1) := by decide +kernel
theorem d_K_isAmong_6 : decode prog_5_method_6_code 6 = .ok (.if_icmp .ne 7, 3) := by decide +kernel
theorem d_K_isAmong_9 : decode prog_5_method_6_code 9 = .ok (.iconst 1, 1) := by decide +kernel
theorem d_K_isAmong_10 : decode prog_5_method_6_code 10 = .ok (.goto 4, 3) := by decide +kernel
theorem d_K_isAmong_13 : decode prog_5_method_6_code 13 = .ok (.iconst 0, 1) := by decide +kernel
theorem d_K_isAmong_14 : decode prog_5_method_6_code 14 = .ok (.ireturn, 1) := by decide +kernel
theorem d_K_encode_0 : decode prog_5_method_3_code 0 = .ok (.iload_n 0, 1) := by decide +kernel
theorem d_K_encode_1 : decode prog_5_method_3_code 1 = .ok (.iload_n 1, 1) := by decide +kernel
theorem d_K_encode_2 : decode prog_5_method_3_code 2 = .ok (.invokestatic 16, 3) := by decide +kernel
theorem d_K_encode_5 : decode prog_5_method_3_code 5 = .ok (.istore_n 2, 1) := by decide +kernel
theorem d_K_encode_6 : decode prog_5_method_3_code 6 = .ok (.iload_n 0, 1) := by decide +kernel
theorem d_K_encode_7 : decode prog_5_method_3_code 7 = .ok (.iload_n 2, 1) := by decide +kernel
theorem d_K_encode_8 : decode prog_5_method_3_code 8 = .ok (.iload_n 1, 1) := by decide +kernel
theorem d_K_encode_9 : decode prog_5_method_3_code 9 = .ok (.invokestatic 20, 3) := by decide +kernel
theorem d_K_encode_12 : decode prog_5_method_3_code 12 = .ok (.invokestatic 24, 3) := by decide +kernel
theorem d_K_encode_15 : decode prog_5_method_3_code 15 = .ok (.istore_n 3, 1) := by decide +kernel
theorem d_K_encode_16 : decode prog_5_method_3_code 16 = .ok (.iload_n 2, 1) := by decide +kernel
theorem d_K_encode_17 : decode prog_5_method_3_code 17 = .ok (.iconst 4, 1) := by decide +kernel
theorem d_K_encode_18 : decode prog_5_method_3_code 18 = .ok (.ishl, 1) := by decide +kernel
theorem d_K_encode_19 : decode prog_5_method_3_code 19 = .ok (.iload_n 3, 1) := by decide +kernel
theorem d_K_encode_20 : decode prog_5_method_3_code 20 = .ok (.ior, 1) := by decide +kernel
theorem d_K_encode_21 : decode prog_5_method_3_code 21 = .ok (.ireturn, 1) := by decide +kernel
theorem d_K_plusBehindSix_0 : decode prog_5_method_10_code 0 = .ok (.iload_n 0, 1) := by decide +kernel
theorem d_K_plusBehindSix_1 : decode prog_5_method_10_code 1 = .ok (.invokestatic 44, 3) := by decide +kernel
theorem d_K_plusBehindSix_4 : decode prog_5_method_10_code 4 = .ok (.istore_n 2, 1) := by decide +kernel
theorem d_K_plusBehindSix_5 : decode prog_5_method_10_code 5 = .ok (.iload_n 2, 1) := by decide +kernel
theorem d_K_plusBehindSix_6 : decode prog_5_method_10_code 6 = .ok (.iconst 3, 1) := by decide +kernel
theorem d_K_plusBehindSix_7 : decode prog_5_method_10_code 7 = .ok (.if_icmp .eq 14, 3) := by decide +kernel
theorem d_K_plusBehindSix_10 : decode prog_5_method_10_code 10 = .ok (.iload_n 2, 1) := by decide +kernel
theorem d_K_plusBehindSix_11 : decode prog_5_method_10_code 11 = .ok (.iconst 3, 1) := by decide +kernel
theorem d_K_plusBehindSix_12 : decode prog_5_method_10_code 12 = .ok (.if_icmp .le 7, 3) := by decide +kernel
theorem d_K_plusBehindSix_15 : decode prog_5_method_10_code 15 = .ok (.iconst 1, 1) := by decide +kernel
theorem d_K_plusBehindSix_16 : decode prog_5_method_10_code 16 = .ok (.goto 4, 3) := by decide +kernel
theorem d_K_plusBehindSix_19 : decode prog_5_method_10_code 19 = .ok (.iconst 0, 1) := by decide +kernel
theorem d_K_plusBehindSix_20 : decode prog_5_method_10_code 20 = .ok (.ireturn, 1) := by decide +kernel
theorem d_K_plusBehindSix_21 : decode prog_5_method_10_code 21 = .ok (.iload_n 0, 1) := by decide +kernel
theorem d_K_plusBehindSix_22 : decode prog_5_method_10_code 22 = .ok (.bipush 7, 2) := by decide +kernel
theorem d_K_plusBehindSix_24 : decode prog_5_method_10_code 24 = .ok (.if_icmp .eq 13, 3) := by decide +kernel
theorem d_K_plusBehindSix_27 : decode prog_5_method_10_code 27 = .ok (.iload_n 0, 1) := by decide +kernel
theorem d_K_plusBehindSix_28 : decode prog_5_method_10_code 28 = .ok (.bipush 56, 2) := by decide +kernel
theorem d_K_plusBehindSix_30 : decode prog_5_method_10_code 30 = .ok (.if_icmp .eq 11, 3) := by decide +kernel
theorem d_K_plusBehindSix_33 : decode prog_5_method_10_code 33 = .ok (.iload_n 1, 1) := by decide +kernel
theorem d_K_plusBehindSix_34 : decode prog_5_method_10_code 34 = .ok (.ifCond .eq 7, 3) := by decide +kernel
theorem d_K_plusBehindSix_37 : decode prog_5_method_10_code 37 = .ok (.iconst 1, 1) := by decide +kernel
theorem d_K_plusBehindSix_38 : decode prog_5_method_10_code 38 = .ok (.goto 4, 3) := by decide +kernel
theorem d_K_plusBehindSix_41 : decode prog_5_method_10_code 41 = .ok (.iconst 0, 1) := by decide +kernel
theorem d_K_plusBehindSix_42 : decode prog_5_method_10_code 42 = .ok (.ireturn, 1) := by decide +kernel
theorem d_K_fourOf_0 : decode prog_5_method_9_code 0 = .ok (.iload_n 0, 1) := by decide +kernel
theorem d_K_fourOf_1 : decode prog_5_method_9_code 1 = .ok (.iconst 5, 1) := by decide +kernel
theorem d_K_fourOf_2 : decode prog_5_method_9_code 2 = .ok (.ishr, 1) := by decide +kernel
theorem d_K_fourOf_3 : decode prog_5_method_9_code 3 = .ok (.bipush 7, 2) := by decide +kernel
theorem d_K_fourOf_5 : decode prog_5_method_9_code 5 = .ok (.iand, 1) := by decide +kernel
theorem d_K_fourOf_6 : decode prog_5_method_9_code 6 = .ok (.istore_n 2, 1) := by decide +kernel
theorem d_K_fourOf_7 : decode prog_5_method_9_code 7 = .ok (.iload_n 0, 1) := by decide +kernel
theorem d_K_fourOf_8 : decode prog_5_method_9_code 8 = .ok (.sipush 256, 3) := by decide +kernel
theorem d_K_fourOf_11 : decode prog_5_method_9_code 11 = .ok (.if_icmp .lt 7, 3) := by decide +kernel
theorem d_K_fourOf_14 : decode prog_5_method_9_code 14 = .ok (.iconst 1, 1) := by decide +kernel
theorem d_K_fourOf_15 : decode prog_5_method_9_code 15 = .ok (.goto 4, 3) := by decide +kernel
theorem d_K_fourOf_18 : decode prog_5_method_9_code 18 = .ok (.iconst 0, 1) := by decide +kernel
theorem d_K_fourOf_19 : decode prog_5_method_9_code 19 = .ok (.istore_n 3, 1) := by decide +kernel
theorem d_K_fourOf_20 : decode prog_5_method_9_code 20 = .ok (.iload_n 1, 1) := by decide +kernel
theorem d_K_fourOf_21 : decode prog_5_method_9_code 21 = .ok (.ifCond .eq 9, 3) := by decide +kernel
theorem d_K_fourOf_24 : decode prog_5_method_9_code 24 = .ok (.sipush 26624, 3) := by decide +kernel
theorem d_K_fourOf_27 : decode prog_5_method_9_code 27 = .ok (.goto 5, 3) := by decide +kernel
theorem d_K_fourOf_30 : decode prog_5_method_9_code 30 = .ok (.ldc 50, 2) := by decide +kernel
theorem d_K_fourOf_32 : decode prog_5_method_9_code 32 = .ok (.istore 4, 2) := by decide +kernel
theorem d_K_fourOf_34 : decode prog_5_method_9_code 34 = .ok (.getstatic 51, 3) := by decide +kernel
theorem d_K_fourOf_37 : decode prog_5_method_9_code 37 = .ok (.iload_n 2, 1) := by decide +kernel
theorem d_K_fourOf_38 : decode prog_5_method_9_code 38 = .ok (.iaload, 1) := by decide +kernel
theorem d_K_fourOf_39 : decode prog_5_method_9_code 39 = .ok (.istore 5, 2) := by decide +kernel
theorem d_K_fourOf_41 : decode prog_5_method_9_code 41 = .ok (.iload_n 2, 1) := by decide +kernel
theorem d_K_fourOf_42 : decode prog_5_method_9_code 42 = .ok (.bipush 7, 2) := by decide +kernel
theorem d_K_fourOf_44 : decode prog_5_method_9_code 44 = .ok (.if_icmp .ne 23, 3) := by decide +kernel
theorem d_K_fourOf_47 : decode prog_5_method_9_code 47 = .ok (.iload_n 3, 1) := by decide +kernel
theorem d_K_fourOf_48 : decode prog_5_method_9_code 48 = .ok (.ifCond .ne 15, 3) := by decide +kernel
theorem d_K_fourOf_51 : decode prog_5_method_9_code 51 = .ok (.iload_n 0, 1) := by decide +kernel
theorem d_K_fourOf_52 : decode prog_5_method_9_code 52 = .ok (.bipush 31, 2) := by decide +kernel
theorem d_K_fourOf_54 : decode prog_5_method_9_code 54 = .ok (.iand, 1) := by decide +kernel
theorem d_K_fourOf_55 : decode prog_5_method_9_code 55 = .ok (.iload 4, 2) := by decide +kernel
theorem d_K_fourOf_57 : decode prog_5_method_9_code 57 = .ok (.invokestatic 12, 3) := by decide +kernel
theorem d_K_fourOf_60 : decode prog_5_method_9_code 60 = .ok (.ifCond .eq 7, 3) := by decide +kernel
theorem d_K_fourOf_63 : decode prog_5_method_9_code 63 = .ok (.bipush 7, 2) := by decide +kernel
theorem d_K_fourOf_65 : decode prog_5_method_9_code 65 = .ok (.istore 5, 2) := by decide +kernel
theorem d_K_fourOf_67 : decode prog_5_method_9_code 67 = .ok (.iload 5, 2) := by decide +kernel
theorem d_K_fourOf_69 : decode prog_5_method_9_code 69 = .ok (.invokestatic 44, 3) := by decide +kernel
theorem d_K_fourOf_72 : decode prog_5_method_9_code 72 = .ok (.iconst 2, 1) := by decide +kernel
theorem d_K_fourOf_73 : decode prog_5_method_9_code 73 = .ok (.if_icmp .ne 10, 3) := by decide +kernel
theorem d_K_fourOf_76 : decode prog_5_method_9_code 76 = .ok (.iload 5, 2) := by decide +kernel
theorem d_K_fourOf_78 : decode prog_5_method_9_code 78 = .ok (.bipush 12, 2) := by decide +kernel
theorem d_K_fourOf_80 : decode prog_5_method_9_code 80 = .ok (.if_icmp .ne 7, 3) := by decide +kernel
theorem d_K_fourOf_83 : decode prog_5_method_9_code 83 = .ok (.iconst 1, 1) := by decide +kernel
theorem d_K_fourOf_84 : decode prog_5_method_9_code 84 = .ok (.goto 4, 3) := by decide +kernel
theorem d_K_fourOf_87 : decode prog_5_method_9_code 87 = .ok (.iconst 0, 1) := by decide +kernel
theorem d_K_fourOf_88 : decode prog_5_method_9_code 88 = .ok (.istore 6, 2) := by decide +kernel
theorem d_K_fourOf_90 : decode prog_5_method_9_code 90 = .ok (.iload 6, 2) := by decide +kernel
theorem d_K_fourOf_92 : decode prog_5_method_9_code 92 = .ok (.ifCond .eq 7, 3) := by decide +kernel
theorem d_K_fourOf_95 : decode prog_5_method_9_code 95 = .ok (.iload_n 1, 1) := by decide +kernel
theorem d_K_fourOf_96 : decode prog_5_method_9_code 96 = .ok (.goto 16, 3) := by decide +kernel
theorem d_K_fourOf_99 : decode prog_5_method_9_code 99 = .ok (.iload_n 3, 1) := by decide +kernel
theorem d_K_fourOf_100 : decode prog_5_method_9_code 100 = .ok (.ifCond .eq 11, 3) := by decide +kernel
theorem d_K_fourOf_103 : decode prog_5_method_9_code 103 = .ok (.iload_n 1, 1) := by decide +kernel
theorem d_K_fourOf_104 : decode prog_5_method_9_code 104 = .ok (.ifCond .ne 7, 3) := by decide +kernel
theorem d_K_fourOf_107 : decode prog_5_method_9_code 107 = .ok (.iconst 1, 1) := by decide +kernel
theorem d_K_fourOf_108 : decode prog_5_method_9_code 108 = .ok (.goto 4, 3) := by decide +kernel
theorem d_K_fourOf_111 : decode prog_5_method_9_code 111 = .ok (.iconst 0, 1) := by decide +kernel
theorem d_K_fourOf_112 : decode prog_5_method_9_code 112 = .ok (.istore 7, 2) := by decide +kernel
theorem d_K_fourOf_114 : decode prog_5_method_9_code 114 = .ok (.iload 7, 2) := by decide +kernel
theorem d_K_fourOf_116 : decode prog_5_method_9_code 116 = .ok (.ifCond .eq 11, 3) := by decide +kernel
theorem d_K_fourOf_119 : decode prog_5_method_9_code 119 = .ok (.iload 5, 2) := by decide +kernel
theorem d_K_fourOf_121 : decode prog_5_method_9_code 121 = .ok (.bipush 15, 2) := by decide +kernel
theorem d_K_fourOf_123 : decode prog_5_method_9_code 123 = .ok (.ixor, 1) := by decide +kernel
theorem d_K_fourOf_124 : decode prog_5_method_9_code 124 = .ok (.goto 5, 3) := by decide +kernel
theorem d_K_fourOf_127 : decode prog_5_method_9_code 127 = .ok (.iload 5, 2) := by decide +kernel
theorem d_K_fourOf_129 : decode prog_5_method_9_code 129 = .ok (.ireturn, 1) := by decide +kernel
theorem d_K_plusBehind_0 : decode prog_5_method_5_code 0 = .ok (.iload_n 0, 1) := by decide +kernel
theorem d_K_plusBehind_1 : decode prog_5_method_5_code 1 = .ok (.iconst 4, 1) := by decide +kernel
theorem d_K_plusBehind_2 : decode prog_5_method_5_code 2 = .ok (.ishr, 1) := by decide +kernel
theorem d_K_plusBehind_3 : decode prog_5_method_5_code 3 = .ok (.iload_n 1, 1) := by decide +kernel
theorem d_K_plusBehind_4 : decode prog_5_method_5_code 4 = .ok (.invokestatic 20, 3) := by decide +kernel
theorem d_K_plusBehind_7 : decode prog_5_method_5_code 7 = .ok (.istore_n 2, 1) := by decide +kernel
theorem d_K_plusBehind_8 : decode prog_5_method_5_code 8 = .ok (.iload_n 0, 1) := by decide +kernel
theorem d_K_plusBehind_9 : decode prog_5_method_5_code 9 = .ok (.bipush 15, 2) := by decide +kernel
theorem d_K_plusBehind_11 : decode prog_5_method_5_code 11 = .ok (.iand, 1) := by decide +kernel
theorem d_K_plusBehind_12 : decode prog_5_method_5_code 12 = .ok (.iload_n 2, 1) := by decide +kernel
theorem d_K_plusBehind_13 : decode prog_5_method_5_code 13 = .ok (.invokestatic 37, 3) := by decide +kernel
theorem d_K_plusBehind_16 : decode prog_5_method_5_code 16 = .ok (.ireturn, 1) := by decide +kernel
theorem d_K_plusBehindFour_0 : decode prog_5_method_11_code 0 = .ok (.iload_n 0, 1) := by decide +kernel
theorem d_K_plusBehindFour_1 : decode prog_5_method_11_code 1 = .ok (.invokestatic 44, 3) := by decide +kernel
theorem d_K_plusBehindFour_4 : decode prog_5_method_11_code 4 = .ok (.istore_n 2, 1) := by decide +kernel
theorem d_K_plusBehindFour_5 : decode prog_5_method_11_code 5 = .ok (.iload_n 2, 1) := by decide +kernel
theorem d_K_plusBehindFour_6 : decode prog_5_method_11_code 6 = .ok (.iconst 2, 1) := by decide +kernel
theorem d_K_plusBehindFour_7 : decode prog_5_method_11_code 7 = .ok (.if_icmp .eq 14, 3) := by decide +kernel
theorem d_K_plusBehindFour_10 : decode prog_5_method_11_code 10 = .ok (.iload_n 2, 1) := by decide +kernel
theorem d_K_plusBehindFour_11 : decode prog_5_method_11_code 11 = .ok (.iconst 2, 1) := by decide +kernel
theorem d_K_plusBehindFour_12 : decode prog_5_method_11_code 12 = .ok (.if_icmp .le 7, 3) := by decide +kernel
theorem d_K_plusBehindFour_15 : decode prog_5_method_11_code 15 = .ok (.iconst 1, 1) := by decide +kernel
theorem d_K_plusBehindFour_16 : decode prog_5_method_11_code 16 = .ok (.goto 4, 3) := by decide +kernel
theorem d_K_plusBehindFour_19 : decode prog_5_method_11_code 19 = .ok (.iconst 0, 1) := by decide +kernel
theorem d_K_plusBehindFour_20 : decode prog_5_method_11_code 20 = .ok (.ireturn, 1) := by decide +kernel
theorem d_K_plusBehindFour_21 : decode prog_5_method_11_code 21 = .ok (.iload_n 0, 1) := by decide +kernel
theorem d_K_plusBehindFour_22 : decode prog_5_method_11_code 22 = .ok (.iconst 3, 1) := by decide +kernel
theorem d_K_plusBehindFour_23 : decode prog_5_method_11_code 23 = .ok (.if_icmp .eq 13, 3) := by decide +kernel
theorem d_K_plusBehindFour_26 : decode prog_5_method_11_code 26 = .ok (.iload_n 0, 1) := by decide +kernel
theorem d_K_plusBehindFour_27 : decode prog_5_method_11_code 27 = .ok (.bipush 12, 2) := by decide +kernel
theorem d_K_plusBehindFour_29 : decode prog_5_method_11_code 29 = .ok (.if_icmp .eq 11, 3) := by decide +kernel
theorem d_K_plusBehindFour_32 : decode prog_5_method_11_code 32 = .ok (.iload_n 1, 1) := by decide +kernel
theorem d_K_plusBehindFour_33 : decode prog_5_method_11_code 33 = .ok (.ifCond .eq 7, 3) := by decide +kernel
theorem d_K_plusBehindFour_36 : decode prog_5_method_11_code 36 = .ok (.iconst 1, 1) := by decide +kernel
theorem d_K_plusBehindFour_37 : decode prog_5_method_11_code 37 = .ok (.goto 4, 3) := by decide +kernel
theorem d_K_plusBehindFour_40 : decode prog_5_method_11_code 40 = .ok (.iconst 0, 1) := by decide +kernel
theorem d_K_plusBehindFour_41 : decode prog_5_method_11_code 41 = .ok (.ireturn, 1) := by decide +kernel
theorem d_JM_max_0 : decode prog_16_method_65_code 0 = .ok (.iload_n 0, 1) := by decide +kernel
theorem d_JM_max_1 : decode prog_16_method_65_code 1 = .ok (.iload_n 1, 1) := by decide +kernel
theorem d_JM_max_2 : decode prog_16_method_65_code 2 = .ok (.if_icmp .lt 7, 3) := by decide +kernel
theorem d_JM_max_5 : decode prog_16_method_65_code 5 = .ok (.iload_n 0, 1) := by decide +kernel
theorem d_JM_max_6 : decode prog_16_method_65_code 6 = .ok (.goto 4, 3) := by decide +kernel
theorem d_JM_max_9 : decode prog_16_method_65_code 9 = .ok (.iload_n 1, 1) := by decide +kernel
theorem d_JM_max_10 : decode prog_16_method_65_code 10 = .ok (.ireturn, 1) := by decide +kernel
