theorem d_T_init_0 : decode prog_6_method_1_code 0 = .ok (.aload_n 0, 1) := by decide +kernel
theorem d_T_init_1 : decode prog_6_method_1_code 1 = .ok (.aload_n 1, 1) := by decide +kernel
theorem d_T_init_2 : decode prog_6_method_1_code 2 = .ok (.invokespecial 3, 3) := by decide +kernel
theorem d_T_init_5 : decode prog_6_method_1_code 5 = .ok (.aload_n 0, 1) := by decide +kernel
theorem d_T_init_6 : decode prog_6_method_1_code 6 = .ok (.iconst 0, 1) := by decide +kernel
theorem d_T_init_7 : decode prog_6_method_1_code 7 = .ok (.putfield 9, 3) := by decide +kernel
theorem d_T_init_10 : decode prog_6_method_1_code 10 = .ok (.aload_n 0, 1) := by decide +kernel
theorem d_T_init_11 : decode prog_6_method_1_code 11 = .ok (.iconst 0, 1) := by decide +kernel
theorem d_T_init_12 : decode prog_6_method_1_code 12 = .ok (.putfield 15, 3) := by decide +kernel
theorem d_T_init_15 : decode prog_6_method_1_code 15 = .ok (.aload_n 0, 1) := by decide +kernel
theorem d_T_init_16 : decode prog_6_method_1_code 16 = .ok (.iconst 0, 1) := by decide +kernel
theorem d_T_init_17 : decode prog_6_method_1_code 17 = .ok (.putfield 18, 3) := by decide +kernel
theorem d_T_init_20 : decode prog_6_method_1_code 20 = .ok (.aload_n 0, 1) := by decide +kernel
theorem d_T_init_21 : decode prog_6_method_1_code 21 = .ok (.iconst 0, 1) := by decide +kernel
theorem d_T_init_22 : decode prog_6_method_1_code 22 = .ok (.putfield 22, 3) := by decide +kernel
theorem d_T_init_25 : decode prog_6_method_1_code 25 = .ok (.return_, 1) := by decide +kernel
theorem d_W_init_0 : decode prog_8_method_1_code 0 = .ok (.aload_n 0, 1) := by decide +kernel
theorem d_W_init_1 : decode prog_8_method_1_code 1 = .ok (.aload_n 1, 1) := by decide +kernel
theorem d_W_init_2 : decode prog_8_method_1_code 2 = .ok (.invokespecial 3, 3) := by decide +kernel
theorem d_W_init_5 : decode prog_8_method_1_code 5 = .ok (.aload_n 0, 1) := by decide +kernel
theorem d_W_init_6 : decode prog_8_method_1_code 6 = .ok (.new 9, 3) := by decide +kernel
theorem d_W_init_9 : decode prog_8_method_1_code 9 = .ok (.dup, 1) := by decide +kernel
theorem d_W_init_10 : decode prog_8_method_1_code 10 = .ok (.invokespecial 11, 3) := by decide +kernel
theorem d_W_init_13 : decode prog_8_method_1_code 13 = .ok (.putfield 14, 3) := by decide +kernel
theorem d_W_init_16 : decode prog_8_method_1_code 16 = .ok (.aload_n 0, 1) := by decide +kernel
theorem d_W_init_17 : decode prog_8_method_1_code 17 = .ok (.iconst 0, 1) := by decide +kernel
theorem d_W_init_18 : decode prog_8_method_1_code 18 = .ok (.putfield 20, 3) := by decide +kernel
theorem d_W_init_21 : decode prog_8_method_1_code 21 = .ok (.aload_n 0, 1) := by decide +kernel
theorem d_W_init_22 : decode prog_8_method_1_code 22 = .ok (.iconst 0, 1) := by decide +kernel
theorem d_W_init_23 : decode prog_8_method_1_code 23 = .ok (.putfield 24, 3) := by decide +kernel
theorem d_W_init_26 : decode prog_8_method_1_code 26 = .ok (.aload_n 0, 1) := by decide +kernel
theorem d_W_init_27 : decode prog_8_method_1_code 27 = .ok (.lconst 0, 1) := by decide +kernel
theorem d_W_init_28 : decode prog_8_method_1_code 28 = .ok (.putfield 27, 3) := by decide +kernel
theorem d_W_init_31 : decode prog_8_method_1_code 31 = .ok (.return_, 1) := by decide +kernel
theorem d_T_step_0 : decode prog_6_method_5_code 0 = .ok (.aload_n 0, 1) := by decide +kernel
theorem d_T_step_1 : decode prog_6_method_5_code 1 = .ok (.getfield 29, 3) := by decide +kernel
theorem d_T_step_4 : decode prog_6_method_5_code 4 = .ok (.ifCond .ne 39, 3) := by decide +kernel
theorem d_T_step_7 : decode prog_6_method_5_code 7 = .ok (.aload_n 0, 1) := by decide +kernel
theorem d_T_step_8 : decode prog_6_method_5_code 8 = .ok (.getfield 32, 3) := by decide +kernel
theorem d_T_step_11 : decode prog_6_method_5_code 11 = .ok (.invokevirtual 36, 3) := by decide +kernel
theorem d_T_step_14 : decode prog_6_method_5_code 14 = .ok (.bipush 7, 2) := by decide +kernel
theorem d_T_step_16 : decode prog_6_method_5_code 16 = .ok (.if_icmp .ge 5, 3) := by decide +kernel
theorem d_T_step_19 : decode prog_6_method_5_code 19 = .ok (.iconst (-1), 1) := by decide +kernel
theorem d_T_step_20 : decode prog_6_method_5_code 20 = .ok (.ireturn, 1) := by decide +kernel
theorem d_T_step_21 : decode prog_6_method_5_code 21 = .ok (.aload_n 0, 1) := by decide +kernel
theorem d_T_step_22 : decode prog_6_method_5_code 22 = .ok (.invokevirtual 42, 3) := by decide +kernel
theorem d_T_step_25 : decode prog_6_method_5_code 25 = .ok (.ifCond .ne 8, 3) := by decide +kernel
theorem d_T_step_28 : decode prog_6_method_5_code 28 = .ok (.aload_n 0, 1) := by decide +kernel
theorem d_T_step_29 : decode prog_6_method_5_code 29 = .ok (.invokevirtual 46, 3) := by decide +kernel
theorem d_T_step_32 : decode prog_6_method_5_code 32 = .ok (.ireturn, 1) := by decide +kernel
theorem d_T_step_33 : decode prog_6_method_5_code 33 = .ok (.aload_n 0, 1) := by decide +kernel
theorem d_T_step_34 : decode prog_6_method_5_code 34 = .ok (.iconst 1, 1) := by decide +kernel
theorem d_T_step_35 : decode prog_6_method_5_code 35 = .ok (.putfield 29, 3) := by decide +kernel
theorem d_T_step_38 : decode prog_6_method_5_code 38 = .ok (.aload_n 0, 1) := by decide +kernel
theorem d_T_step_39 : decode prog_6_method_5_code 39 = .ok (.iconst 1, 1) := by decide +kernel
theorem d_T_step_40 : decode prog_6_method_5_code 40 = .ok (.putfield 15, 3) := by decide +kernel
theorem d_T_step_43 : decode prog_6_method_5_code 43 = .ok (.aload_n 0, 1) := by decide +kernel
theorem d_T_step_44 : decode prog_6_method_5_code 44 = .ok (.getfield 32, 3) := by decide +kernel
theorem d_T_step_47 : decode prog_6_method_5_code 47 = .ok (.invokevirtual 36, 3) := by decide +kernel
theorem d_T_step_50 : decode prog_6_method_5_code 50 = .ok (.bipush 10, 2) := by decide +kernel
theorem d_T_step_52 : decode prog_6_method_5_code 52 = .ok (.if_icmp .ge 7, 3) := by decide +kernel
theorem d_T_step_55 : decode prog_6_method_5_code 55 = .ok (.iconst (-1), 1) := by decide +kernel
theorem d_T_step_56 : decode prog_6_method_5_code 56 = .ok (.goto 7, 3) := by decide +kernel
theorem d_T_step_59 : decode prog_6_method_5_code 59 = .ok (.aload_n 0, 1) := by decide +kernel
theorem d_T_step_60 : decode prog_6_method_5_code 60 = .ok (.invokevirtual 51, 3) := by decide +kernel
theorem d_T_step_63 : decode prog_6_method_5_code 63 = .ok (.ireturn, 1) := by decide +kernel
theorem d_T_isAtMark_0 : decode prog_6_method_6_code 0 = .ok (.aload_n 0, 1) := by decide +kernel
theorem d_T_isAtMark_1 : decode prog_6_method_6_code 1 = .ok (.getfield 32, 3) := by decide +kernel
theorem d_T_isAtMark_4 : decode prog_6_method_6_code 4 = .ok (.bipush 7, 2) := by decide +kernel
theorem d_T_isAtMark_6 : decode prog_6_method_6_code 6 = .ok (.invokevirtual 54, 3) := by decide +kernel
theorem d_T_isAtMark_9 : decode prog_6_method_6_code 9 = .ok (.istore_n 1, 1) := by decide +kernel
theorem d_T_isAtMark_10 : decode prog_6_method_6_code 10 = .ok (.iload_n 1, 1) := by decide +kernel
theorem d_T_isAtMark_11 : decode prog_6_method_6_code 11 = .ok (.bipush 31, 2) := by decide +kernel
theorem d_T_isAtMark_13 : decode prog_6_method_6_code 13 = .ok (.if_icmp .eq 9, 3) := by decide +kernel
theorem d_T_isAtMark_16 : decode prog_6_method_6_code 16 = .ok (.iload_n 1, 1) := by decide +kernel
theorem d_T_isAtMark_17 : decode prog_6_method_6_code 17 = .ok (.bipush 96, 2) := by decide +kernel
theorem d_T_isAtMark_19 : decode prog_6_method_6_code 19 = .ok (.if_icmp .ne 7, 3) := by decide +kernel
theorem d_T_isAtMark_22 : decode prog_6_method_6_code 22 = .ok (.iconst 1, 1) := by decide +kernel
theorem d_T_isAtMark_23 : decode prog_6_method_6_code 23 = .ok (.goto 4, 3) := by decide +kernel
theorem d_T_isAtMark_26 : decode prog_6_method_6_code 26 = .ok (.iconst 0, 1) := by decide +kernel
theorem d_T_isAtMark_27 : decode prog_6_method_6_code 27 = .ok (.ireturn, 1) := by decide +kernel
theorem d_T_takeTen_0 : decode prog_6_method_7_code 0 = .ok (.aload_n 0, 1) := by decide +kernel
theorem d_T_takeTen_1 : decode prog_6_method_7_code 1 = .ok (.getfield 32, 3) := by decide +kernel
theorem d_T_takeTen_4 : decode prog_6_method_7_code 4 = .ok (.bipush 10, 2) := by decide +kernel
theorem d_T_takeTen_6 : decode prog_6_method_7_code 6 = .ok (.invokevirtual 54, 3) := by decide +kernel
theorem d_T_takeTen_9 : decode prog_6_method_7_code 9 = .ok (.istore_n 1, 1) := by decide +kernel
theorem d_T_takeTen_10 : decode prog_6_method_7_code 10 = .ok (.aload_n 0, 1) := by decide +kernel
theorem d_T_takeTen_11 : decode prog_6_method_7_code 11 = .ok (.getfield 32, 3) := by decide +kernel
theorem d_T_takeTen_14 : decode prog_6_method_7_code 14 = .ok (.bipush 10, 2) := by decide +kernel
theorem d_T_takeTen_16 : decode prog_6_method_7_code 16 = .ok (.invokevirtual 58, 3) := by decide +kernel
theorem d_T_takeTen_19 : decode prog_6_method_7_code 19 = .ok (.iload_n 1, 1) := by decide +kernel
theorem d_T_takeTen_20 : decode prog_6_method_7_code 20 = .ok (.aload_n 0, 1) := by decide +kernel
theorem d_T_takeTen_21 : decode prog_6_method_7_code 21 = .ok (.getfield 9, 3) := by decide +kernel
theorem d_T_takeTen_24 : decode prog_6_method_7_code 24 = .ok (.invokestatic 62, 3) := by decide +kernel
theorem d_T_takeTen_27 : decode prog_6_method_7_code 27 = .ok (.istore_n 2, 1) := by decide +kernel
theorem d_T_takeTen_28 : decode prog_6_method_7_code 28 = .ok (.iload_n 2, 1) := by decide +kernel
theorem d_T_takeTen_29 : decode prog_6_method_7_code 29 = .ok (.iconst (-1), 1) := by decide +kernel
theorem d_T_takeTen_30 : decode prog_6_method_7_code 30 = .ok (.if_icmp .eq 7, 3) := by decide +kernel
theorem d_T_takeTen_33 : decode prog_6_method_7_code 33 = .ok (.iload_n 2, 1) := by decide +kernel
theorem d_T_takeTen_34 : decode prog_6_method_7_code 34 = .ok (.goto 19, 3) := by decide +kernel
theorem d_T_takeTen_37 : decode prog_6_method_7_code 37 = .ok (.iload_n 1, 1) := by decide +kernel
theorem d_T_takeTen_38 : decode prog_6_method_7_code 38 = .ok (.aload_n 0, 1) := by decide +kernel
theorem d_T_takeTen_39 : decode prog_6_method_7_code 39 = .ok (.getfield 9, 3) := by decide +kernel
theorem d_T_takeTen_42 : decode prog_6_method_7_code 42 = .ok (.ifCond .ne 7, 3) := by decide +kernel
theorem d_T_takeTen_45 : decode prog_6_method_7_code 45 = .ok (.iconst 1, 1) := by decide +kernel
theorem d_T_takeTen_46 : decode prog_6_method_7_code 46 = .ok (.goto 4, 3) := by decide +kernel
theorem d_T_takeTen_49 : decode prog_6_method_7_code 49 = .ok (.iconst 0, 1) := by decide +kernel
theorem d_T_takeTen_50 : decode prog_6_method_7_code 50 = .ok (.invokestatic 62, 3) := by decide +kernel
theorem d_T_takeTen_53 : decode prog_6_method_7_code 53 = .ok (.istore_n 3, 1) := by decide +kernel
theorem d_T_takeTen_54 : decode prog_6_method_7_code 54 = .ok (.iload_n 2, 1) := by decide +kernel
theorem d_T_takeTen_55 : decode prog_6_method_7_code 55 = .ok (.iconst (-1), 1) := by decide +kernel
theorem d_T_takeTen_56 : decode prog_6_method_7_code 56 = .ok (.if_icmp .ne 12, 3) := by decide +kernel
theorem d_T_takeTen_59 : decode prog_6_method_7_code 59 = .ok (.iload_n 3, 1) := by decide +kernel
theorem d_T_takeTen_60 : decode prog_6_method_7_code 60 = .ok (.iconst (-1), 1) := by decide +kernel
theorem d_T_takeTen_61 : decode prog_6_method_7_code 61 = .ok (.if_icmp .eq 7, 3) := by decide +kernel
theorem d_T_takeTen_64 : decode prog_6_method_7_code 64 = .ok (.iconst 1, 1) := by decide +kernel
theorem d_T_takeTen_65 : decode prog_6_method_7_code 65 = .ok (.goto 4, 3) := by decide +kernel
theorem d_T_takeTen_68 : decode prog_6_method_7_code 68 = .ok (.iconst 0, 1) := by decide +kernel
theorem d_T_takeTen_69 : decode prog_6_method_7_code 69 = .ok (.istore 4, 2) := by decide +kernel
theorem d_T_takeTen_71 : decode prog_6_method_7_code 71 = .ok (.iload 4, 2) := by decide +kernel
theorem d_T_takeTen_73 : decode prog_6_method_7_code 73 = .ok (.ifCond .eq 14, 3) := by decide +kernel
theorem d_T_takeTen_76 : decode prog_6_method_7_code 76 = .ok (.aload_n 0, 1) := by decide +kernel
theorem d_T_takeTen_77 : decode prog_6_method_7_code 77 = .ok (.getfield 15, 3) := by decide +kernel
theorem d_T_takeTen_80 : decode prog_6_method_7_code 80 = .ok (.ifCond .ne 7, 3) := by decide +kernel
theorem d_T_takeTen_83 : decode prog_6_method_7_code 83 = .ok (.iconst 1, 1) := by decide +kernel
theorem d_T_takeTen_84 : decode prog_6_method_7_code 84 = .ok (.goto 4, 3) := by decide +kernel
theorem d_T_takeTen_87 : decode prog_6_method_7_code 87 = .ok (.iconst 0, 1) := by decide +kernel
theorem d_T_takeTen_88 : decode prog_6_method_7_code 88 = .ok (.istore 5, 2) := by decide +kernel
theorem d_T_takeTen_90 : decode prog_6_method_7_code 90 = .ok (.iload 4, 2) := by decide +kernel
theorem d_T_takeTen_92 : decode prog_6_method_7_code 92 = .ok (.ifCond .eq 26, 3) := by decide +kernel
theorem d_T_takeTen_95 : decode prog_6_method_7_code 95 = .ok (.aload_n 0, 1) := by decide +kernel
theorem d_T_takeTen_96 : decode prog_6_method_7_code 96 = .ok (.getfield 15, 3) := by decide +kernel
theorem d_T_takeTen_99 : decode prog_6_method_7_code 99 = .ok (.ifCond .eq 19, 3) := by decide +kernel
theorem d_T_takeTen_102 : decode prog_6_method_7_code 102 = .ok (.aload_n 0, 1) := by decide +kernel
theorem d_T_takeTen_103 : decode prog_6_method_7_code 103 = .ok (.aload_n 0, 1) := by decide +kernel
theorem d_T_takeTen_104 : decode prog_6_method_7_code 104 = .ok (.getfield 9, 3) := by decide +kernel
theorem d_T_takeTen_107 : decode prog_6_method_7_code 107 = .ok (.ifCond .ne 7, 3) := by decide +kernel
theorem d_T_takeTen_110 : decode prog_6_method_7_code 110 = .ok (.iconst 1, 1) := by decide +kernel
theorem d_T_takeTen_111 : decode prog_6_method_7_code 111 = .ok (.goto 4, 3) := by decide +kernel
theorem d_T_takeTen_114 : decode prog_6_method_7_code 114 = .ok (.iconst 0, 1) := by decide +kernel
theorem d_T_takeTen_115 : decode prog_6_method_7_code 115 = .ok (.putfield 9, 3) := by decide +kernel
theorem d_T_takeTen_118 : decode prog_6_method_7_code 118 = .ok (.aload_n 0, 1) := by decide +kernel
theorem d_T_takeTen_119 : decode prog_6_method_7_code 119 = .ok (.iconst 0, 1) := by decide +kernel
theorem d_T_takeTen_120 : decode prog_6_method_7_code 120 = .ok (.putfield 15, 3) := by decide +kernel
theorem d_T_takeTen_123 : decode prog_6_method_7_code 123 = .ok (.aload_n 0, 1) := by decide +kernel
theorem d_T_takeTen_124 : decode prog_6_method_7_code 124 = .ok (.iload_n 1, 1) := by decide +kernel
theorem d_T_takeTen_125 : decode prog_6_method_7_code 125 = .ok (.aload_n 0, 1) := by decide +kernel
theorem d_T_takeTen_126 : decode prog_6_method_7_code 126 = .ok (.getfield 9, 3) := by decide +kernel
theorem d_T_takeTen_129 : decode prog_6_method_7_code 129 = .ok (.invokestatic 66, 3) := by decide +kernel
theorem d_T_takeTen_132 : decode prog_6_method_7_code 132 = .ok (.putfield 9, 3) := by decide +kernel
theorem d_T_takeTen_135 : decode prog_6_method_7_code 135 = .ok (.aload_n 0, 1) := by decide +kernel
theorem d_T_takeTen_136 : decode prog_6_method_7_code 136 = .ok (.iload_n 3, 1) := by decide +kernel
theorem d_T_takeTen_137 : decode prog_6_method_7_code 137 = .ok (.iload 5, 2) := by decide +kernel
theorem d_T_takeTen_139 : decode prog_6_method_7_code 139 = .ok (.invokevirtual 70, 3) := by decide +kernel
theorem d_T_takeTen_142 : decode prog_6_method_7_code 142 = .ok (.ireturn, 1) := by decide +kernel
theorem d_T_judge_0 : decode prog_6_method_8_code 0 = .ok (.iload_n 1, 1) := by decide +kernel
theorem d_T_judge_1 : decode prog_6_method_8_code 1 = .ok (.iconst (-1), 1) := by decide +kernel
theorem d_T_judge_2 : decode prog_6_method_8_code 2 = .ok (.if_icmp .ne 20, 3) := by decide +kernel
theorem d_T_judge_5 : decode prog_6_method_8_code 5 = .ok (.aload_n 0, 1) := by decide +kernel
theorem d_T_judge_6 : decode prog_6_method_8_code 6 = .ok (.dup, 1) := by decide +kernel
theorem d_T_judge_7 : decode prog_6_method_8_code 7 = .ok (.getfield 73, 3) := by decide +kernel
theorem d_T_judge_10 : decode prog_6_method_8_code 10 = .ok (.iconst 1, 1) := by decide +kernel
theorem d_T_judge_11 : decode prog_6_method_8_code 11 = .ok (.iadd, 1) := by decide +kernel
theorem d_T_judge_12 : decode prog_6_method_8_code 12 = .ok (.putfield 73, 3) := by decide +kernel
theorem d_T_judge_15 : decode prog_6_method_8_code 15 = .ok (.aload_n 0, 1) := by decide +kernel
theorem d_T_judge_16 : decode prog_6_method_8_code 16 = .ok (.invokevirtual 76, 3) := by decide +kernel
theorem d_T_judge_19 : decode prog_6_method_8_code 19 = .ok (.bipush (-2), 2) := by decide +kernel
theorem d_T_judge_21 : decode prog_6_method_8_code 21 = .ok (.ireturn, 1) := by decide +kernel
theorem d_T_judge_22 : decode prog_6_method_8_code 22 = .ok (.iload_n 2, 1) := by decide +kernel
theorem d_T_judge_23 : decode prog_6_method_8_code 23 = .ok (.ifCond .eq 23, 3) := by decide +kernel
theorem d_T_judge_26 : decode prog_6_method_8_code 26 = .ok (.aload_n 0, 1) := by decide +kernel
theorem d_T_judge_27 : decode prog_6_method_8_code 27 = .ok (.dup, 1) := by decide +kernel
theorem d_T_judge_28 : decode prog_6_method_8_code 28 = .ok (.getfield 79, 3) := by decide +kernel
theorem d_T_judge_31 : decode prog_6_method_8_code 31 = .ok (.iconst 1, 1) := by decide +kernel
theorem d_T_judge_32 : decode prog_6_method_8_code 32 = .ok (.iadd, 1) := by decide +kernel
theorem d_T_judge_33 : decode prog_6_method_8_code 33 = .ok (.putfield 79, 3) := by decide +kernel
theorem d_T_judge_36 : decode prog_6_method_8_code 36 = .ok (.aload_n 0, 1) := by decide +kernel
theorem d_T_judge_37 : decode prog_6_method_8_code 37 = .ok (.invokevirtual 76, 3) := by decide +kernel
theorem d_T_judge_40 : decode prog_6_method_8_code 40 = .ok (.iload_n 1, 1) := by decide +kernel
theorem d_T_judge_41 : decode prog_6_method_8_code 41 = .ok (.sipush 512, 3) := by decide +kernel
theorem d_T_judge_44 : decode prog_6_method_8_code 44 = .ok (.iadd, 1) := by decide +kernel
theorem d_T_judge_45 : decode prog_6_method_8_code 45 = .ok (.ireturn, 1) := by decide +kernel
theorem d_T_judge_46 : decode prog_6_method_8_code 46 = .ok (.aload_n 0, 1) := by decide +kernel
theorem d_T_judge_47 : decode prog_6_method_8_code 47 = .ok (.invokevirtual 82, 3) := by decide +kernel
theorem d_T_judge_50 : decode prog_6_method_8_code 50 = .ok (.iload_n 1, 1) := by decide +kernel
theorem d_T_judge_51 : decode prog_6_method_8_code 51 = .ok (.ireturn, 1) := by decide +kernel
theorem d_T_mark_0 : decode prog_6_method_9_code 0 = .ok (.aload_n 0, 1) := by decide +kernel
theorem d_T_mark_1 : decode prog_6_method_9_code 1 = .ok (.iconst 0, 1) := by decide +kernel
theorem d_T_mark_2 : decode prog_6_method_9_code 2 = .ok (.putfield 22, 3) := by decide +kernel
theorem d_T_mark_5 : decode prog_6_method_9_code 5 = .ok (.aload_n 0, 1) := by decide +kernel
theorem d_T_mark_6 : decode prog_6_method_9_code 6 = .ok (.dup, 1) := by decide +kernel
theorem d_T_mark_7 : decode prog_6_method_9_code 7 = .ok (.getfield 18, 3) := by decide +kernel
theorem d_T_mark_10 : decode prog_6_method_9_code 10 = .ok (.iconst 1, 1) := by decide +kernel
theorem d_T_mark_11 : decode prog_6_method_9_code 11 = .ok (.iadd, 1) := by decide +kernel
theorem d_T_mark_12 : decode prog_6_method_9_code 12 = .ok (.putfield 18, 3) := by decide +kernel
theorem d_T_mark_15 : decode prog_6_method_9_code 15 = .ok (.aload_n 0, 1) := by decide +kernel
theorem d_T_mark_16 : decode prog_6_method_9_code 16 = .ok (.getfield 18, 3) := by decide +kernel
theorem d_T_mark_19 : decode prog_6_method_9_code 19 = .ok (.iconst 4, 1) := by decide +kernel
theorem d_T_mark_20 : decode prog_6_method_9_code 20 = .ok (.if_icmp .lt 13, 3) := by decide +kernel
theorem d_T_mark_23 : decode prog_6_method_9_code 23 = .ok (.aload_n 0, 1) := by decide +kernel
theorem d_T_mark_24 : decode prog_6_method_9_code 24 = .ok (.iconst 0, 1) := by decide +kernel
theorem d_T_mark_25 : decode prog_6_method_9_code 25 = .ok (.putfield 18, 3) := by decide +kernel
theorem d_T_mark_28 : decode prog_6_method_9_code 28 = .ok (.aload_n 0, 1) := by decide +kernel
theorem d_T_mark_29 : decode prog_6_method_9_code 29 = .ok (.iconst 0, 1) := by decide +kernel
theorem d_T_mark_30 : decode prog_6_method_9_code 30 = .ok (.putfield 29, 3) := by decide +kernel
theorem d_T_mark_33 : decode prog_6_method_9_code 33 = .ok (.return_, 1) := by decide +kernel
theorem d_T_praise_0 : decode prog_6_method_10_code 0 = .ok (.aload_n 0, 1) := by decide +kernel
theorem d_T_praise_1 : decode prog_6_method_10_code 1 = .ok (.dup, 1) := by decide +kernel
theorem d_T_praise_2 : decode prog_6_method_10_code 2 = .ok (.getfield 22, 3) := by decide +kernel
theorem d_T_praise_5 : decode prog_6_method_10_code 5 = .ok (.iconst 1, 1) := by decide +kernel
theorem d_T_praise_6 : decode prog_6_method_10_code 6 = .ok (.iadd, 1) := by decide +kernel
theorem d_T_praise_7 : decode prog_6_method_10_code 7 = .ok (.putfield 22, 3) := by decide +kernel
theorem d_T_praise_10 : decode prog_6_method_10_code 10 = .ok (.aload_n 0, 1) := by decide +kernel
theorem d_T_praise_11 : decode prog_6_method_10_code 11 = .ok (.getfield 22, 3) := by decide +kernel
theorem d_T_praise_14 : decode prog_6_method_10_code 14 = .ok (.iconst 4, 1) := by decide +kernel
theorem d_T_praise_15 : decode prog_6_method_10_code 15 = .ok (.if_icmp .ne 22, 3) := by decide +kernel
theorem d_T_praise_18 : decode prog_6_method_10_code 18 = .ok (.aload_n 0, 1) := by decide +kernel
theorem d_T_praise_19 : decode prog_6_method_10_code 19 = .ok (.iconst 0, 1) := by decide +kernel
theorem d_T_praise_20 : decode prog_6_method_10_code 20 = .ok (.putfield 22, 3) := by decide +kernel
theorem d_T_praise_23 : decode prog_6_method_10_code 23 = .ok (.aload_n 0, 1) := by decide +kernel
theorem d_T_praise_24 : decode prog_6_method_10_code 24 = .ok (.iconst 0, 1) := by decide +kernel
theorem d_T_praise_25 : decode prog_6_method_10_code 25 = .ok (.aload_n 0, 1) := by decide +kernel
theorem d_T_praise_26 : decode prog_6_method_10_code 26 = .ok (.getfield 18, 3) := by decide +kernel
theorem d_T_praise_29 : decode prog_6_method_10_code 29 = .ok (.iconst 1, 1) := by decide +kernel
theorem d_T_praise_30 : decode prog_6_method_10_code 30 = .ok (.isub, 1) := by decide +kernel
theorem d_T_praise_31 : decode prog_6_method_10_code 31 = .ok (.invokestatic 85, 3) := by decide +kernel
theorem d_T_praise_34 : decode prog_6_method_10_code 34 = .ok (.putfield 18, 3) := by decide +kernel
theorem d_T_praise_37 : decode prog_6_method_10_code 37 = .ok (.return_, 1) := by decide +kernel
theorem d_W_step_0 : decode prog_8_method_5_code 0 = .ok (.aload_n 0, 1) := by decide +kernel
theorem d_W_step_1 : decode prog_8_method_5_code 1 = .ok (.getfield 47, 3) := by decide +kernel
theorem d_W_step_4 : decode prog_8_method_5_code 4 = .ok (.invokevirtual 51, 3) := by decide +kernel
theorem d_W_step_7 : decode prog_8_method_5_code 7 = .ok (.bipush 66, 2) := by decide +kernel
theorem d_W_step_9 : decode prog_8_method_5_code 9 = .ok (.if_icmp .ge 5, 3) := by decide +kernel
theorem d_W_step_12 : decode prog_8_method_5_code 12 = .ok (.iconst (-1), 1) := by decide +kernel
theorem d_W_step_13 : decode prog_8_method_5_code 13 = .ok (.ireturn, 1) := by decide +kernel
theorem d_W_step_14 : decode prog_8_method_5_code 14 = .ok (.aload_n 0, 1) := by decide +kernel
theorem d_W_step_15 : decode prog_8_method_5_code 15 = .ok (.getfield 47, 3) := by decide +kernel
theorem d_W_step_18 : decode prog_8_method_5_code 18 = .ok (.iconst 2, 1) := by decide +kernel
theorem d_W_step_19 : decode prog_8_method_5_code 19 = .ok (.invokevirtual 59, 3) := by decide +kernel
theorem d_W_step_22 : decode prog_8_method_5_code 22 = .ok (.istore_n 1, 1) := by decide +kernel
theorem d_W_step_23 : decode prog_8_method_5_code 23 = .ok (.iload_n 1, 1) := by decide +kernel
theorem d_W_step_24 : decode prog_8_method_5_code 24 = .ok (.iconst 1, 1) := by decide +kernel
theorem d_W_step_25 : decode prog_8_method_5_code 25 = .ok (.if_icmp .eq 8, 3) := by decide +kernel
theorem d_W_step_28 : decode prog_8_method_5_code 28 = .ok (.iload_n 1, 1) := by decide +kernel
theorem d_W_step_29 : decode prog_8_method_5_code 29 = .ok (.iconst 2, 1) := by decide +kernel
theorem d_W_step_30 : decode prog_8_method_5_code 30 = .ok (.if_icmp .ne 7, 3) := by decide +kernel
theorem d_W_step_33 : decode prog_8_method_5_code 33 = .ok (.iconst 1, 1) := by decide +kernel
theorem d_W_step_34 : decode prog_8_method_5_code 34 = .ok (.goto 4, 3) := by decide +kernel
theorem d_W_step_37 : decode prog_8_method_5_code 37 = .ok (.iconst 0, 1) := by decide +kernel
theorem d_W_step_38 : decode prog_8_method_5_code 38 = .ok (.istore_n 2, 1) := by decide +kernel
theorem d_W_step_39 : decode prog_8_method_5_code 39 = .ok (.aload_n 0, 1) := by decide +kernel
theorem d_W_step_40 : decode prog_8_method_5_code 40 = .ok (.getfield 37, 3) := by decide +kernel
theorem d_W_step_43 : decode prog_8_method_5_code 43 = .ok (.ifCond .ne 17, 3) := by decide +kernel
theorem d_W_step_46 : decode prog_8_method_5_code 46 = .ok (.iload_n 2, 1) := by decide +kernel
theorem d_W_step_47 : decode prog_8_method_5_code 47 = .ok (.ifCond .ne 13, 3) := by decide +kernel
theorem d_W_step_50 : decode prog_8_method_5_code 50 = .ok (.aload_n 0, 1) := by decide +kernel
theorem d_W_step_51 : decode prog_8_method_5_code 51 = .ok (.iconst 0, 1) := by decide +kernel
theorem d_W_step_52 : decode prog_8_method_5_code 52 = .ok (.putfield 20, 3) := by decide +kernel
theorem d_W_step_55 : decode prog_8_method_5_code 55 = .ok (.aload_n 0, 1) := by decide +kernel
theorem d_W_step_56 : decode prog_8_method_5_code 56 = .ok (.invokevirtual 62, 3) := by decide +kernel
theorem d_W_step_59 : decode prog_8_method_5_code 59 = .ok (.ireturn, 1) := by decide +kernel
theorem d_W_step_60 : decode prog_8_method_5_code 60 = .ok (.aload_n 0, 1) := by decide +kernel
theorem d_W_step_61 : decode prog_8_method_5_code 61 = .ok (.invokevirtual 65, 3) := by decide +kernel
theorem d_W_step_64 : decode prog_8_method_5_code 64 = .ok (.aload_n 0, 1) := by decide +kernel
theorem d_W_step_65 : decode prog_8_method_5_code 65 = .ok (.getfield 37, 3) := by decide +kernel
theorem d_W_step_68 : decode prog_8_method_5_code 68 = .ok (.ifCond .eq 11, 3) := by decide +kernel
theorem d_W_step_71 : decode prog_8_method_5_code 71 = .ok (.aload_n 0, 1) := by decide +kernel
theorem d_W_step_72 : decode prog_8_method_5_code 72 = .ok (.iload_n 2, 1) := by decide +kernel
theorem d_W_step_73 : decode prog_8_method_5_code 73 = .ok (.invokevirtual 68, 3) := by decide +kernel
theorem d_W_step_76 : decode prog_8_method_5_code 76 = .ok (.goto 7, 3) := by decide +kernel
theorem d_W_step_79 : decode prog_8_method_5_code 79 = .ok (.aload_n 0, 1) := by decide +kernel
theorem d_W_step_80 : decode prog_8_method_5_code 80 = .ok (.invokevirtual 72, 3) := by decide +kernel
theorem d_W_step_83 : decode prog_8_method_5_code 83 = .ok (.iload_n 2, 1) := by decide +kernel
theorem d_W_step_84 : decode prog_8_method_5_code 84 = .ok (.ifCond .ne 16, 3) := by decide +kernel
theorem d_W_step_87 : decode prog_8_method_5_code 87 = .ok (.aload_n 0, 1) := by decide +kernel
theorem d_W_step_88 : decode prog_8_method_5_code 88 = .ok (.dup, 1) := by decide +kernel
theorem d_W_step_89 : decode prog_8_method_5_code 89 = .ok (.getfield 75, 3) := by decide +kernel
theorem d_W_step_92 : decode prog_8_method_5_code 92 = .ok (.iconst 1, 1) := by decide +kernel
theorem d_W_step_93 : decode prog_8_method_5_code 93 = .ok (.iadd, 1) := by decide +kernel
theorem d_W_step_94 : decode prog_8_method_5_code 94 = .ok (.putfield 75, 3) := by decide +kernel
theorem d_W_step_97 : decode prog_8_method_5_code 97 = .ok (.bipush (-2), 2) := by decide +kernel
theorem d_W_step_99 : decode prog_8_method_5_code 99 = .ok (.ireturn, 1) := by decide +kernel
theorem d_W_step_100 : decode prog_8_method_5_code 100 = .ok (.iload_n 1, 1) := by decide +kernel
theorem d_W_step_101 : decode prog_8_method_5_code 101 = .ok (.iconst 2, 1) := by decide +kernel
theorem d_W_step_102 : decode prog_8_method_5_code 102 = .ok (.if_icmp .ne 7, 3) := by decide +kernel
theorem d_W_step_105 : decode prog_8_method_5_code 105 = .ok (.iconst 1, 1) := by decide +kernel
theorem d_W_step_106 : decode prog_8_method_5_code 106 = .ok (.goto 4, 3) := by decide +kernel
theorem d_W_step_109 : decode prog_8_method_5_code 109 = .ok (.iconst 0, 1) := by decide +kernel
theorem d_W_step_110 : decode prog_8_method_5_code 110 = .ok (.ireturn, 1) := by decide +kernel
theorem d_W_takeWord_0 : decode prog_8_method_6_code 0 = .ok (.aload_n 0, 1) := by decide +kernel
theorem d_W_takeWord_1 : decode prog_8_method_6_code 1 = .ok (.getfield 47, 3) := by decide +kernel
theorem d_W_takeWord_4 : decode prog_8_method_6_code 4 = .ok (.iconst 2, 1) := by decide +kernel
theorem d_W_takeWord_5 : decode prog_8_method_6_code 5 = .ok (.invokevirtual 78, 3) := by decide +kernel
theorem d_W_takeWord_8 : decode prog_8_method_6_code 8 = .ok (.lconst 0, 1) := by decide +kernel
theorem d_W_takeWord_9 : decode prog_8_method_6_code 9 = .ok (.lstore_n 1, 1) := by decide +kernel
theorem d_W_takeWord_10 : decode prog_8_method_6_code 10 = .ok (.iconst 0, 1) := by decide +kernel
theorem d_W_takeWord_11 : decode prog_8_method_6_code 11 = .ok (.istore_n 3, 1) := by decide +kernel
theorem d_W_takeWord_12 : decode prog_8_method_6_code 12 = .ok (.iload_n 3, 1) := by decide +kernel
theorem d_W_takeWord_13 : decode prog_8_method_6_code 13 = .ok (.bipush 64, 2) := by decide +kernel
theorem d_W_takeWord_15 : decode prog_8_method_6_code 15 = .ok (.if_icmp .ge 42, 3) := by decide +kernel
theorem d_W_takeWord_18 : decode prog_8_method_6_code 18 = .ok (.aload_n 0, 1) := by decide +kernel
theorem d_W_takeWord_19 : decode prog_8_method_6_code 19 = .ok (.getfield 14, 3) := by decide +kernel
theorem d_W_takeWord_22 : decode prog_8_method_6_code 22 = .ok (.aload_n 0, 1) := by decide +kernel
theorem d_W_takeWord_23 : decode prog_8_method_6_code 23 = .ok (.getfield 47, 3) := by decide +kernel
theorem d_W_takeWord_26 : decode prog_8_method_6_code 26 = .ok (.iconst 1, 1) := by decide +kernel
theorem d_W_takeWord_27 : decode prog_8_method_6_code 27 = .ok (.invokevirtual 59, 3) := by decide +kernel
theorem d_W_takeWord_30 : decode prog_8_method_6_code 30 = .ok (.invokevirtual 82, 3) := by decide +kernel
theorem d_W_takeWord_33 : decode prog_8_method_6_code 33 = .ok (.i2l, 1) := by decide +kernel
theorem d_W_takeWord_34 : decode prog_8_method_6_code 34 = .ok (.lstore 4, 2) := by decide +kernel
theorem d_W_takeWord_36 : decode prog_8_method_6_code 36 = .ok (.aload_n 0, 1) := by decide +kernel
theorem d_W_takeWord_37 : decode prog_8_method_6_code 37 = .ok (.getfield 47, 3) := by decide +kernel
theorem d_W_takeWord_40 : decode prog_8_method_6_code 40 = .ok (.iconst 1, 1) := by decide +kernel
theorem d_W_takeWord_41 : decode prog_8_method_6_code 41 = .ok (.invokevirtual 78, 3) := by decide +kernel
theorem d_W_takeWord_44 : decode prog_8_method_6_code 44 = .ok (.lload_n 1, 1) := by decide +kernel
theorem d_W_takeWord_45 : decode prog_8_method_6_code 45 = .ok (.lload 4, 2) := by decide +kernel
theorem d_W_takeWord_47 : decode prog_8_method_6_code 47 = .ok (.iload_n 3, 1) := by decide +kernel
theorem d_W_takeWord_48 : decode prog_8_method_6_code 48 = .ok (.lshl, 1) := by decide +kernel
theorem d_W_takeWord_49 : decode prog_8_method_6_code 49 = .ok (.lor, 1) := by decide +kernel
theorem d_W_takeWord_50 : decode prog_8_method_6_code 50 = .ok (.lstore_n 1, 1) := by decide +kernel
theorem d_W_takeWord_51 : decode prog_8_method_6_code 51 = .ok (.iinc 3 1, 3) := by decide +kernel
theorem d_W_takeWord_54 : decode prog_8_method_6_code 54 = .ok (.goto (-42), 3) := by decide +kernel
theorem d_W_takeWord_57 : decode prog_8_method_6_code 57 = .ok (.aload_n 0, 1) := by decide +kernel
theorem d_W_takeWord_58 : decode prog_8_method_6_code 58 = .ok (.lload_n 1, 1) := by decide +kernel
theorem d_W_takeWord_59 : decode prog_8_method_6_code 59 = .ok (.putfield 27, 3) := by decide +kernel
theorem d_W_takeWord_62 : decode prog_8_method_6_code 62 = .ok (.return_, 1) := by decide +kernel
theorem d_W_watch_0 : decode prog_8_method_8_code 0 = .ok (.aload_n 0, 1) := by decide +kernel
theorem d_W_watch_1 : decode prog_8_method_8_code 1 = .ok (.aload_n 0, 1) := by decide +kernel
theorem d_W_watch_2 : decode prog_8_method_8_code 2 = .ok (.getfield 24, 3) := by decide +kernel
theorem d_W_watch_5 : decode prog_8_method_8_code 5 = .ok (.iconst 1, 1) := by decide +kernel
theorem d_W_watch_6 : decode prog_8_method_8_code 6 = .ok (.ishl, 1) := by decide +kernel
theorem d_W_watch_7 : decode prog_8_method_8_code 7 = .ok (.iload_n 1, 1) := by decide +kernel
theorem d_W_watch_8 : decode prog_8_method_8_code 8 = .ok (.ifCond .eq 7, 3) := by decide +kernel
theorem d_W_watch_11 : decode prog_8_method_8_code 11 = .ok (.iconst 0, 1) := by decide +kernel
theorem d_W_watch_12 : decode prog_8_method_8_code 12 = .ok (.goto 4, 3) := by decide +kernel
theorem d_W_watch_15 : decode prog_8_method_8_code 15 = .ok (.iconst 1, 1) := by decide +kernel
theorem d_W_watch_16 : decode prog_8_method_8_code 16 = .ok (.ior, 1) := by decide +kernel
theorem d_W_watch_17 : decode prog_8_method_8_code 17 = .ok (.ldc 85, 2) := by decide +kernel
theorem d_W_watch_19 : decode prog_8_method_8_code 19 = .ok (.iand, 1) := by decide +kernel
theorem d_W_watch_20 : decode prog_8_method_8_code 20 = .ok (.putfield 24, 3) := by decide +kernel
theorem d_W_watch_23 : decode prog_8_method_8_code 23 = .ok (.aload_n 0, 1) := by decide +kernel
theorem d_W_watch_24 : decode prog_8_method_8_code 24 = .ok (.getfield 24, 3) := by decide +kernel
theorem d_W_watch_27 : decode prog_8_method_8_code 27 = .ok (.invokestatic 41, 3) := by decide +kernel
theorem d_W_watch_30 : decode prog_8_method_8_code 30 = .ok (.iconst 4, 1) := by decide +kernel
theorem d_W_watch_31 : decode prog_8_method_8_code 31 = .ok (.if_icmp .lt 13, 3) := by decide +kernel
theorem d_W_watch_34 : decode prog_8_method_8_code 34 = .ok (.aload_n 0, 1) := by decide +kernel
theorem d_W_watch_35 : decode prog_8_method_8_code 35 = .ok (.iconst 0, 1) := by decide +kernel
theorem d_W_watch_36 : decode prog_8_method_8_code 36 = .ok (.putfield 37, 3) := by decide +kernel
theorem d_W_watch_39 : decode prog_8_method_8_code 39 = .ok (.aload_n 0, 1) := by decide +kernel
theorem d_W_watch_40 : decode prog_8_method_8_code 40 = .ok (.iconst 0, 1) := by decide +kernel
theorem d_W_watch_41 : decode prog_8_method_8_code 41 = .ok (.putfield 20, 3) := by decide +kernel
theorem d_W_watch_44 : decode prog_8_method_8_code 44 = .ok (.return_, 1) := by decide +kernel
theorem d_W_gain_0 : decode prog_8_method_7_code 0 = .ok (.aload_n 0, 1) := by decide +kernel
theorem d_W_gain_1 : decode prog_8_method_7_code 1 = .ok (.dup, 1) := by decide +kernel
theorem d_W_gain_2 : decode prog_8_method_7_code 2 = .ok (.getfield 20, 3) := by decide +kernel
theorem d_W_gain_5 : decode prog_8_method_7_code 5 = .ok (.iconst 1, 1) := by decide +kernel
theorem d_W_gain_6 : decode prog_8_method_7_code 6 = .ok (.iadd, 1) := by decide +kernel
theorem d_W_gain_7 : decode prog_8_method_7_code 7 = .ok (.putfield 20, 3) := by decide +kernel
theorem d_W_gain_10 : decode prog_8_method_7_code 10 = .ok (.aload_n 0, 1) := by decide +kernel
theorem d_W_gain_11 : decode prog_8_method_7_code 11 = .ok (.getfield 20, 3) := by decide +kernel
theorem d_W_gain_14 : decode prog_8_method_7_code 14 = .ok (.bipush 8, 2) := by decide +kernel
theorem d_W_gain_16 : decode prog_8_method_7_code 16 = .ok (.if_icmp .lt 13, 3) := by decide +kernel
theorem d_W_gain_19 : decode prog_8_method_7_code 19 = .ok (.aload_n 0, 1) := by decide +kernel
theorem d_W_gain_20 : decode prog_8_method_7_code 20 = .ok (.iconst 1, 1) := by decide +kernel
theorem d_W_gain_21 : decode prog_8_method_7_code 21 = .ok (.putfield 37, 3) := by decide +kernel
theorem d_W_gain_24 : decode prog_8_method_7_code 24 = .ok (.aload_n 0, 1) := by decide +kernel
theorem d_W_gain_25 : decode prog_8_method_7_code 25 = .ok (.iconst 0, 1) := by decide +kernel
theorem d_W_gain_26 : decode prog_8_method_7_code 26 = .ok (.putfield 24, 3) := by decide +kernel
theorem d_W_gain_29 : decode prog_8_method_7_code 29 = .ok (.return_, 1) := by decide +kernel
theorem d_W_lastWord_0 : decode prog_8_method_3_code 0 = .ok (.aload_n 0, 1) := by decide +kernel
theorem d_W_lastWord_1 : decode prog_8_method_3_code 1 = .ok (.getfield 27, 3) := by decide +kernel
theorem d_W_lastWord_4 : decode prog_8_method_3_code 4 = .ok (.lreturn, 1) := by decide +kernel
theorem d_T_hasPlus_0 : decode prog_6_method_3_code 0 = .ok (.aload_n 0, 1) := by decide +kernel
theorem d_T_hasPlus_1 : decode prog_6_method_3_code 1 = .ok (.getfield 9, 3) := by decide +kernel
theorem d_T_hasPlus_4 : decode prog_6_method_3_code 4 = .ok (.ireturn, 1) := by decide +kernel
theorem d_T_restart_0 : decode prog_6_method_2_code 0 = .ok (.aload_n 0, 1) := by decide +kernel
theorem d_T_restart_1 : decode prog_6_method_2_code 1 = .ok (.invokevirtual 25, 3) := by decide +kernel
theorem d_T_restart_4 : decode prog_6_method_2_code 4 = .ok (.aload_n 0, 1) := by decide +kernel
theorem d_T_restart_5 : decode prog_6_method_2_code 5 = .ok (.iconst 0, 1) := by decide +kernel
theorem d_T_restart_6 : decode prog_6_method_2_code 6 = .ok (.putfield 9, 3) := by decide +kernel
theorem d_T_restart_9 : decode prog_6_method_2_code 9 = .ok (.aload_n 0, 1) := by decide +kernel
theorem d_T_restart_10 : decode prog_6_method_2_code 10 = .ok (.iconst 0, 1) := by decide +kernel
theorem d_T_restart_11 : decode prog_6_method_2_code 11 = .ok (.putfield 15, 3) := by decide +kernel
theorem d_T_restart_14 : decode prog_6_method_2_code 14 = .ok (.aload_n 0, 1) := by decide +kernel
theorem d_T_restart_15 : decode prog_6_method_2_code 15 = .ok (.iconst 0, 1) := by decide +kernel
theorem d_T_restart_16 : decode prog_6_method_2_code 16 = .ok (.putfield 18, 3) := by decide +kernel
theorem d_T_restart_19 : decode prog_6_method_2_code 19 = .ok (.aload_n 0, 1) := by decide +kernel
theorem d_T_restart_20 : decode prog_6_method_2_code 20 = .ok (.iconst 0, 1) := by decide +kernel
theorem d_T_restart_21 : decode prog_6_method_2_code 21 = .ok (.putfield 22, 3) := by decide +kernel
theorem d_T_restart_24 : decode prog_6_method_2_code 24 = .ok (.return_, 1) := by decide +kernel
theorem d_W_restart_0 : decode prog_8_method_2_code 0 = .ok (.aload_n 0, 1) := by decide +kernel
theorem d_W_restart_1 : decode prog_8_method_2_code 1 = .ok (.invokevirtual 31, 3) := by decide +kernel
theorem d_W_restart_4 : decode prog_8_method_2_code 4 = .ok (.aload_n 0, 1) := by decide +kernel
theorem d_W_restart_5 : decode prog_8_method_2_code 5 = .ok (.getfield 14, 3) := by decide +kernel
theorem d_W_restart_8 : decode prog_8_method_2_code 8 = .ok (.invokevirtual 34, 3) := by decide +kernel
theorem d_W_restart_11 : decode prog_8_method_2_code 11 = .ok (.aload_n 0, 1) := by decide +kernel
theorem d_W_restart_12 : decode prog_8_method_2_code 12 = .ok (.iconst 0, 1) := by decide +kernel
theorem d_W_restart_13 : decode prog_8_method_2_code 13 = .ok (.putfield 20, 3) := by decide +kernel
theorem d_W_restart_16 : decode prog_8_method_2_code 16 = .ok (.aload_n 0, 1) := by decide +kernel
theorem d_W_restart_17 : decode prog_8_method_2_code 17 = .ok (.iconst 0, 1) := by decide +kernel
theorem d_W_restart_18 : decode prog_8_method_2_code 18 = .ok (.putfield 24, 3) := by decide +kernel
theorem d_W_restart_21 : decode prog_8_method_2_code 21 = .ok (.aload_n 0, 1) := by decide +kernel
theorem d_W_restart_22 : decode prog_8_method_2_code 22 = .ok (.lconst 0, 1) := by decide +kernel
theorem d_W_restart_23 : decode prog_8_method_2_code 23 = .ok (.putfield 27, 3) := by decide +kernel
theorem d_W_restart_26 : decode prog_8_method_2_code 26 = .ok (.return_, 1) := by decide +kernel
theorem d_T_marks_0 : decode prog_6_method_4_code 0 = .ok (.aload_n 0, 1) := by decide +kernel
theorem d_T_marks_1 : decode prog_6_method_4_code 1 = .ok (.getfield 18, 3) := by decide +kernel
theorem d_T_marks_4 : decode prog_6_method_4_code 4 = .ok (.ireturn, 1) := by decide +kernel
theorem d_W_marks_0 : decode prog_8_method_4_code 0 = .ok (.aload_n 0, 1) := by decide +kernel
theorem d_W_marks_1 : decode prog_8_method_4_code 1 = .ok (.getfield 37, 3) := by decide +kernel
theorem d_W_marks_4 : decode prog_8_method_4_code 4 = .ok (.ifCond .eq 13, 3) := by decide +kernel
theorem d_W_marks_7 : decode prog_8_method_4_code 7 = .ok (.aload_n 0, 1) := by decide +kernel
theorem d_W_marks_8 : decode prog_8_method_4_code 8 = .ok (.getfield 24, 3) := by decide +kernel
theorem d_W_marks_11 : decode prog_8_method_4_code 11 = .ok (.invokestatic 41, 3) := by decide +kernel
theorem d_W_marks_14 : decode prog_8_method_4_code 14 = .ok (.goto 7, 3) := by decide +kernel
theorem d_W_marks_17 : decode prog_8_method_4_code 17 = .ok (.aload_n 0, 1) := by decide +kernel
theorem d_W_marks_18 : decode prog_8_method_4_code 18 = .ok (.getfield 20, 3) := by decide +kernel
theorem d_W_marks_21 : decode prog_8_method_4_code 21 = .ok (.ireturn, 1) := by decide +kernel
