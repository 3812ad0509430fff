theorem d_Q_code_0 : decode method_3_code 0 = .ok (.aload_n 3, 1) := by decide +kernel
theorem d_Q_code_1 : decode method_3_code 1 = .ok (.iconst 0, 1) := by decide +kernel
theorem d_Q_code_2 : decode method_3_code 2 = .ok (.aload_n 0, 1) := by decide +kernel
theorem d_Q_code_3 : decode method_3_code 3 = .ok (.iload_n 1, 1) := by decide +kernel
theorem d_Q_code_4 : decode method_3_code 4 = .ok (.iload_n 2, 1) := by decide +kernel
theorem d_Q_code_5 : decode method_3_code 5 = .ok (.invokevirtual 7, 3) := by decide +kernel
theorem d_Q_code_8 : decode method_3_code 8 = .ok (.i2l, 1) := by decide +kernel
theorem d_Q_code_9 : decode method_3_code 9 = .ok (.lastore, 1) := by decide +kernel
theorem d_Q_code_10 : decode method_3_code 10 = .ok (.goto 7, 3) := by decide +kernel
theorem d_Q_code_13 : decode method_3_code 13 = .ok (.astore 4, 2) := by decide +kernel
theorem d_Q_code_15 : decode method_3_code 15 = .ok (.iconst 1, 1) := by decide +kernel
theorem d_Q_code_16 : decode method_3_code 16 = .ok (.ireturn, 1) := by decide +kernel
theorem d_Q_code_17 : decode method_3_code 17 = .ok (.iconst 0, 1) := by decide +kernel
theorem d_Q_code_18 : decode method_3_code 18 = .ok (.ireturn, 1) := by decide +kernel
theorem d_Q_symbol_0 : decode method_4_code 0 = .ok (.aload_n 2, 1) := by decide +kernel
theorem d_Q_symbol_1 : decode method_4_code 1 = .ok (.iconst 0, 1) := by decide +kernel
theorem d_Q_symbol_2 : decode method_4_code 2 = .ok (.aload_n 0, 1) := by decide +kernel
theorem d_Q_symbol_3 : decode method_4_code 3 = .ok (.iload_n 1, 1) := by decide +kernel
theorem d_Q_symbol_4 : decode method_4_code 4 = .ok (.invokevirtual 15, 3) := by decide +kernel
theorem d_Q_symbol_7 : decode method_4_code 7 = .ok (.i2l, 1) := by decide +kernel
theorem d_Q_symbol_8 : decode method_4_code 8 = .ok (.lastore, 1) := by decide +kernel
theorem d_Q_symbol_9 : decode method_4_code 9 = .ok (.goto 6, 3) := by decide +kernel
theorem d_Q_symbol_12 : decode method_4_code 12 = .ok (.astore_n 3, 1) := by decide +kernel
theorem d_Q_symbol_13 : decode method_4_code 13 = .ok (.iconst 1, 1) := by decide +kernel
theorem d_Q_symbol_14 : decode method_4_code 14 = .ok (.ireturn, 1) := by decide +kernel
theorem d_Q_symbol_15 : decode method_4_code 15 = .ok (.iconst 0, 1) := by decide +kernel
theorem d_Q_symbol_16 : decode method_4_code 16 = .ok (.ireturn, 1) := by decide +kernel
theorem d_Q_send_0 : decode method_5_code 0 = .ok (.aload_n 2, 1) := by decide +kernel
theorem d_Q_send_1 : decode method_5_code 1 = .ok (.iconst 0, 1) := by decide +kernel
theorem d_Q_send_2 : decode method_5_code 2 = .ok (.aload_n 0, 1) := by decide +kernel
theorem d_Q_send_3 : decode method_5_code 3 = .ok (.iload_n 1, 1) := by decide +kernel
theorem d_Q_send_4 : decode method_5_code 4 = .ok (.invokevirtual 19, 3) := by decide +kernel
theorem d_Q_send_7 : decode method_5_code 7 = .ok (.i2l, 1) := by decide +kernel
theorem d_Q_send_8 : decode method_5_code 8 = .ok (.lastore, 1) := by decide +kernel
theorem d_Q_send_9 : decode method_5_code 9 = .ok (.goto 9, 3) := by decide +kernel
theorem d_Q_send_12 : decode method_5_code 12 = .ok (.astore_n 3, 1) := by decide +kernel
theorem d_Q_send_13 : decode method_5_code 13 = .ok (.iconst 1, 1) := by decide +kernel
theorem d_Q_send_14 : decode method_5_code 14 = .ok (.ireturn, 1) := by decide +kernel
theorem d_Q_send_15 : decode method_5_code 15 = .ok (.astore_n 3, 1) := by decide +kernel
theorem d_Q_send_16 : decode method_5_code 16 = .ok (.iconst 2, 1) := by decide +kernel
theorem d_Q_send_17 : decode method_5_code 17 = .ok (.ireturn, 1) := by decide +kernel
theorem d_Q_send_18 : decode method_5_code 18 = .ok (.iconst 0, 1) := by decide +kernel
theorem d_Q_send_19 : decode method_5_code 19 = .ok (.ireturn, 1) := by decide +kernel
theorem d_Q_put_0 : decode method_6_code 0 = .ok (.aload 4, 2) := by decide +kernel
theorem d_Q_put_2 : decode method_6_code 2 = .ok (.iconst 0, 1) := by decide +kernel
theorem d_Q_put_3 : decode method_6_code 3 = .ok (.aload_n 0, 1) := by decide +kernel
theorem d_Q_put_4 : decode method_6_code 4 = .ok (.lload_n 1, 1) := by decide +kernel
theorem d_Q_put_5 : decode method_6_code 5 = .ok (.iload_n 3, 1) := by decide +kernel
theorem d_Q_put_6 : decode method_6_code 6 = .ok (.invokevirtual 24, 3) := by decide +kernel
theorem d_Q_put_9 : decode method_6_code 9 = .ok (.i2l, 1) := by decide +kernel
theorem d_Q_put_10 : decode method_6_code 10 = .ok (.lastore, 1) := by decide +kernel
theorem d_Q_put_11 : decode method_6_code 11 = .ok (.goto 7, 3) := by decide +kernel
theorem d_Q_put_14 : decode method_6_code 14 = .ok (.astore 5, 2) := by decide +kernel
theorem d_Q_put_16 : decode method_6_code 16 = .ok (.iconst 1, 1) := by decide +kernel
theorem d_Q_put_17 : decode method_6_code 17 = .ok (.ireturn, 1) := by decide +kernel
theorem d_Q_put_18 : decode method_6_code 18 = .ok (.iconst 0, 1) := by decide +kernel
theorem d_Q_put_19 : decode method_6_code 19 = .ok (.ireturn, 1) := by decide +kernel
theorem d_Q_raw_0 : decode method_7_code 0 = .ok (.aload 4, 2) := by decide +kernel
theorem d_Q_raw_2 : decode method_7_code 2 = .ok (.iconst 0, 1) := by decide +kernel
theorem d_Q_raw_3 : decode method_7_code 3 = .ok (.aload_n 0, 1) := by decide +kernel
theorem d_Q_raw_4 : decode method_7_code 4 = .ok (.iload_n 1, 1) := by decide +kernel
theorem d_Q_raw_5 : decode method_7_code 5 = .ok (.iload_n 2, 1) := by decide +kernel
theorem d_Q_raw_6 : decode method_7_code 6 = .ok (.iload_n 3, 1) := by decide +kernel
theorem d_Q_raw_7 : decode method_7_code 7 = .ok (.invokevirtual 28, 3) := by decide +kernel
theorem d_Q_raw_10 : decode method_7_code 10 = .ok (.i2l, 1) := by decide +kernel
theorem d_Q_raw_11 : decode method_7_code 11 = .ok (.lastore, 1) := by decide +kernel
theorem d_Q_raw_12 : decode method_7_code 12 = .ok (.goto 11, 3) := by decide +kernel
theorem d_Q_raw_15 : decode method_7_code 15 = .ok (.astore 5, 2) := by decide +kernel
theorem d_Q_raw_17 : decode method_7_code 17 = .ok (.iconst 1, 1) := by decide +kernel
theorem d_Q_raw_18 : decode method_7_code 18 = .ok (.ireturn, 1) := by decide +kernel
theorem d_Q_raw_19 : decode method_7_code 19 = .ok (.astore 5, 2) := by decide +kernel
theorem d_Q_raw_21 : decode method_7_code 21 = .ok (.iconst 2, 1) := by decide +kernel
theorem d_Q_raw_22 : decode method_7_code 22 = .ok (.ireturn, 1) := by decide +kernel
theorem d_Q_raw_23 : decode method_7_code 23 = .ok (.iconst 0, 1) := by decide +kernel
theorem d_Q_raw_24 : decode method_7_code 24 = .ok (.ireturn, 1) := by decide +kernel
theorem d_Q_bend_0 : decode method_8_code 0 = .ok (.aload_n 3, 1) := by decide +kernel
theorem d_Q_bend_1 : decode method_8_code 1 = .ok (.iconst 0, 1) := by decide +kernel
theorem d_Q_bend_2 : decode method_8_code 2 = .ok (.aload_n 0, 1) := by decide +kernel
theorem d_Q_bend_3 : decode method_8_code 3 = .ok (.iload_n 1, 1) := by decide +kernel
theorem d_Q_bend_4 : decode method_8_code 4 = .ok (.iload_n 2, 1) := by decide +kernel
theorem d_Q_bend_5 : decode method_8_code 5 = .ok (.invokevirtual 32, 3) := by decide +kernel
theorem d_Q_bend_8 : decode method_8_code 8 = .ok (.ifCond .eq 7, 3) := by decide +kernel
theorem d_Q_bend_11 : decode method_8_code 11 = .ok (.lconst 1, 1) := by decide +kernel
theorem d_Q_bend_12 : decode method_8_code 12 = .ok (.goto 4, 3) := by decide +kernel
theorem d_Q_bend_15 : decode method_8_code 15 = .ok (.lconst 0, 1) := by decide +kernel
theorem d_Q_bend_16 : decode method_8_code 16 = .ok (.lastore, 1) := by decide +kernel
theorem d_Q_bend_17 : decode method_8_code 17 = .ok (.goto 11, 3) := by decide +kernel
theorem d_Q_bend_20 : decode method_8_code 20 = .ok (.astore 4, 2) := by decide +kernel
theorem d_Q_bend_22 : decode method_8_code 22 = .ok (.iconst 1, 1) := by decide +kernel
theorem d_Q_bend_23 : decode method_8_code 23 = .ok (.ireturn, 1) := by decide +kernel
theorem d_Q_bend_24 : decode method_8_code 24 = .ok (.astore 4, 2) := by decide +kernel
theorem d_Q_bend_26 : decode method_8_code 26 = .ok (.iconst 2, 1) := by decide +kernel
theorem d_Q_bend_27 : decode method_8_code 27 = .ok (.ireturn, 1) := by decide +kernel
theorem d_Q_bend_28 : decode method_8_code 28 = .ok (.iconst 0, 1) := by decide +kernel
theorem d_Q_bend_29 : decode method_8_code 29 = .ok (.ireturn, 1) := by decide +kernel
theorem d_Q_lose_0 : decode method_9_code 0 = .ok (.aload 4, 2) := by decide +kernel
theorem d_Q_lose_2 : decode method_9_code 2 = .ok (.iconst 0, 1) := by decide +kernel
theorem d_Q_lose_3 : decode method_9_code 3 = .ok (.aload_n 0, 1) := by decide +kernel
theorem d_Q_lose_4 : decode method_9_code 4 = .ok (.iload_n 1, 1) := by decide +kernel
theorem d_Q_lose_5 : decode method_9_code 5 = .ok (.iload_n 2, 1) := by decide +kernel
theorem d_Q_lose_6 : decode method_9_code 6 = .ok (.iload_n 3, 1) := by decide +kernel
theorem d_Q_lose_7 : decode method_9_code 7 = .ok (.invokevirtual 38, 3) := by decide +kernel
theorem d_Q_lose_10 : decode method_9_code 10 = .ok (.i2l, 1) := by decide +kernel
theorem d_Q_lose_11 : decode method_9_code 11 = .ok (.lastore, 1) := by decide +kernel
theorem d_Q_lose_12 : decode method_9_code 12 = .ok (.goto 7, 3) := by decide +kernel
theorem d_Q_lose_15 : decode method_9_code 15 = .ok (.astore 5, 2) := by decide +kernel
theorem d_Q_lose_17 : decode method_9_code 17 = .ok (.iconst 1, 1) := by decide +kernel
theorem d_Q_lose_18 : decode method_9_code 18 = .ok (.ireturn, 1) := by decide +kernel
theorem d_Q_lose_19 : decode method_9_code 19 = .ok (.iconst 0, 1) := by decide +kernel
theorem d_Q_lose_20 : decode method_9_code 20 = .ok (.ireturn, 1) := by decide +kernel
theorem d_Q_bit_0 : decode method_10_code 0 = .ok (.aload_n 3, 1) := by decide +kernel
theorem d_Q_bit_1 : decode method_10_code 1 = .ok (.iconst 0, 1) := by decide +kernel
theorem d_Q_bit_2 : decode method_10_code 2 = .ok (.aload_n 0, 1) := by decide +kernel
theorem d_Q_bit_3 : decode method_10_code 3 = .ok (.iload_n 1, 1) := by decide +kernel
theorem d_Q_bit_4 : decode method_10_code 4 = .ok (.iload_n 2, 1) := by decide +kernel
theorem d_Q_bit_5 : decode method_10_code 5 = .ok (.invokevirtual 41, 3) := by decide +kernel
theorem d_Q_bit_8 : decode method_10_code 8 = .ok (.i2l, 1) := by decide +kernel
theorem d_Q_bit_9 : decode method_10_code 9 = .ok (.lastore, 1) := by decide +kernel
theorem d_Q_bit_10 : decode method_10_code 10 = .ok (.goto 7, 3) := by decide +kernel
theorem d_Q_bit_13 : decode method_10_code 13 = .ok (.astore 4, 2) := by decide +kernel
theorem d_Q_bit_15 : decode method_10_code 15 = .ok (.iconst 1, 1) := by decide +kernel
theorem d_Q_bit_16 : decode method_10_code 16 = .ok (.ireturn, 1) := by decide +kernel
theorem d_Q_bit_17 : decode method_10_code 17 = .ok (.iconst 0, 1) := by decide +kernel
theorem d_Q_bit_18 : decode method_10_code 18 = .ok (.ireturn, 1) := by decide +kernel
theorem d_Q_count_0 : decode method_11_code 0 = .ok (.aload_n 3, 1) := by decide +kernel
theorem d_Q_count_1 : decode method_11_code 1 = .ok (.iconst 0, 1) := by decide +kernel
theorem d_Q_count_2 : decode method_11_code 2 = .ok (.aload_n 0, 1) := by decide +kernel
theorem d_Q_count_3 : decode method_11_code 3 = .ok (.iload_n 1, 1) := by decide +kernel
theorem d_Q_count_4 : decode method_11_code 4 = .ok (.iload_n 2, 1) := by decide +kernel
theorem d_Q_count_5 : decode method_11_code 5 = .ok (.invokevirtual 45, 3) := by decide +kernel
theorem d_Q_count_8 : decode method_11_code 8 = .ok (.i2l, 1) := by decide +kernel
theorem d_Q_count_9 : decode method_11_code 9 = .ok (.lastore, 1) := by decide +kernel
theorem d_Q_count_10 : decode method_11_code 10 = .ok (.goto 7, 3) := by decide +kernel
theorem d_Q_count_13 : decode method_11_code 13 = .ok (.astore 4, 2) := by decide +kernel
theorem d_Q_count_15 : decode method_11_code 15 = .ok (.iconst 1, 1) := by decide +kernel
theorem d_Q_count_16 : decode method_11_code 16 = .ok (.ireturn, 1) := by decide +kernel
theorem d_Q_count_17 : decode method_11_code 17 = .ok (.iconst 0, 1) := by decide +kernel
theorem d_Q_count_18 : decode method_11_code 18 = .ok (.ireturn, 1) := by decide +kernel
theorem d_law_0 : decode code 0 = .ok (.new 8, 3) := by decide +kernel
theorem d_law_3 : decode code 3 = .ok (.dup, 1) := by decide +kernel
theorem d_law_4 : decode code 4 = .ok (.invokespecial 48, 3) := by decide +kernel
theorem d_law_7 : decode code 7 = .ok (.astore_n 1, 1) := by decide +kernel
theorem d_law_8 : decode code 8 = .ok (.new 49, 3) := by decide +kernel
theorem d_law_11 : decode code 11 = .ok (.dup, 1) := by decide +kernel
theorem d_law_12 : decode code 12 = .ok (.invokespecial 51, 3) := by decide +kernel
theorem d_law_15 : decode code 15 = .ok (.astore_n 2, 1) := by decide +kernel
theorem d_law_16 : decode code 16 = .ok (.iconst 1, 1) := by decide +kernel
theorem d_law_17 : decode code 17 = .ok (.newarray .long, 2) := by decide +kernel
theorem d_law_19 : decode code 19 = .ok (.astore_n 3, 1) := by decide +kernel
theorem d_law_20 : decode code 20 = .ok (.iconst 0, 1) := by decide +kernel
theorem d_law_21 : decode code 21 = .ok (.istore 4, 2) := by decide +kernel
theorem d_law_23 : decode code 23 = .ok (.iload 4, 2) := by decide +kernel
theorem d_law_25 : decode code 25 = .ok (.aload_n 0, 1) := by decide +kernel
theorem d_law_26 : decode code 26 = .ok (.arraylength, 1) := by decide +kernel
theorem d_law_27 : decode code 27 = .ok (.iconst 4, 1) := by decide +kernel
theorem d_law_28 : decode code 28 = .ok (.isub, 1) := by decide +kernel
theorem d_law_29 : decode code 29 = .ok (.if_icmp .gt 860, 3) := by decide +kernel
theorem d_law_32 : decode code 32 = .ok (.aload_n 0, 1) := by decide +kernel
theorem d_law_33 : decode code 33 = .ok (.iload 4, 2) := by decide +kernel
theorem d_law_35 : decode code 35 = .ok (.iaload, 1) := by decide +kernel
theorem d_law_36 : decode code 36 = .ok (.bipush 15, 2) := by decide +kernel
theorem d_law_38 : decode code 38 = .ok (.iand, 1) := by decide +kernel
theorem d_law_39 : decode code 39 = .ok (.tableswitch 844 0 13 #[69, 153, 209, 265, 278, 394, 407, 421, 501, 576, 656, 724, 792, 833], 69) := by decide +kernel
theorem d_law_108 : decode code 108 = .ok (.aload_n 1, 1) := by decide +kernel
theorem d_law_109 : decode code 109 = .ok (.aload_n 0, 1) := by decide +kernel
theorem d_law_110 : decode code 110 = .ok (.iload 4, 2) := by decide +kernel
theorem d_law_112 : decode code 112 = .ok (.iconst 1, 1) := by decide +kernel
theorem d_law_113 : decode code 113 = .ok (.iadd, 1) := by decide +kernel
theorem d_law_114 : decode code 114 = .ok (.iaload, 1) := by decide +kernel
theorem d_law_115 : decode code 115 = .ok (.aload_n 0, 1) := by decide +kernel
theorem d_law_116 : decode code 116 = .ok (.iload 4, 2) := by decide +kernel
theorem d_law_118 : decode code 118 = .ok (.iconst 2, 1) := by decide +kernel
theorem d_law_119 : decode code 119 = .ok (.iadd, 1) := by decide +kernel
theorem d_law_120 : decode code 120 = .ok (.iaload, 1) := by decide +kernel
theorem d_law_121 : decode code 121 = .ok (.ifCond .eq 7, 3) := by decide +kernel
theorem d_law_124 : decode code 124 = .ok (.iconst 1, 1) := by decide +kernel
theorem d_law_125 : decode code 125 = .ok (.goto 4, 3) := by decide +kernel
theorem d_law_128 : decode code 128 = .ok (.iconst 0, 1) := by decide +kernel
theorem d_law_129 : decode code 129 = .ok (.aload_n 3, 1) := by decide +kernel
theorem d_law_130 : decode code 130 = .ok (.invokestatic 52, 3) := by decide +kernel
theorem d_law_133 : decode code 133 = .ok (.istore 5, 2) := by decide +kernel
theorem d_law_135 : decode code 135 = .ok (.aload_n 2, 1) := by decide +kernel
theorem d_law_136 : decode code 136 = .ok (.aload_n 0, 1) := by decide +kernel
theorem d_law_137 : decode code 137 = .ok (.iload 4, 2) := by decide +kernel
theorem d_law_139 : decode code 139 = .ok (.iconst 1, 1) := by decide +kernel
theorem d_law_140 : decode code 140 = .ok (.iadd, 1) := by decide +kernel
theorem d_law_141 : decode code 141 = .ok (.iaload, 1) := by decide +kernel
theorem d_law_142 : decode code 142 = .ok (.aload_n 0, 1) := by decide +kernel
theorem d_law_143 : decode code 143 = .ok (.iload 4, 2) := by decide +kernel
theorem d_law_145 : decode code 145 = .ok (.iconst 2, 1) := by decide +kernel
theorem d_law_146 : decode code 146 = .ok (.iadd, 1) := by decide +kernel
theorem d_law_147 : decode code 147 = .ok (.iaload, 1) := by decide +kernel
theorem d_law_148 : decode code 148 = .ok (.ifCond .eq 7, 3) := by decide +kernel
theorem d_law_151 : decode code 151 = .ok (.iconst 1, 1) := by decide +kernel
theorem d_law_152 : decode code 152 = .ok (.goto 4, 3) := by decide +kernel
theorem d_law_155 : decode code 155 = .ok (.iconst 0, 1) := by decide +kernel
theorem d_law_156 : decode code 156 = .ok (.invokevirtual 57, 3) := by decide +kernel
theorem d_law_159 : decode code 159 = .ok (.istore 6, 2) := by decide +kernel
theorem d_law_161 : decode code 161 = .ok (.aload_n 2, 1) := by decide +kernel
theorem d_law_162 : decode code 162 = .ok (.invokevirtual 58, 3) := by decide +kernel
theorem d_law_165 : decode code 165 = .ok (.iload 5, 2) := by decide +kernel
theorem d_law_167 : decode code 167 = .ok (.if_icmp .eq 5, 3) := by decide +kernel
theorem d_law_170 : decode code 170 = .ok (.iconst 0, 1) := by decide +kernel
theorem d_law_171 : decode code 171 = .ok (.ireturn, 1) := by decide +kernel
theorem d_law_172 : decode code 172 = .ok (.iload 5, 2) := by decide +kernel
theorem d_law_174 : decode code 174 = .ok (.ifCond .ne 15, 3) := by decide +kernel
theorem d_law_177 : decode code 177 = .ok (.aload_n 3, 1) := by decide +kernel
theorem d_law_178 : decode code 178 = .ok (.iconst 0, 1) := by decide +kernel
theorem d_law_179 : decode code 179 = .ok (.laload, 1) := by decide +kernel
theorem d_law_180 : decode code 180 = .ok (.iload 6, 2) := by decide +kernel
theorem d_law_182 : decode code 182 = .ok (.i2l, 1) := by decide +kernel
theorem d_law_183 : decode code 183 = .ok (.lcmp, 1) := by decide +kernel
theorem d_law_184 : decode code 184 = .ok (.ifCond .eq 5, 3) := by decide +kernel
theorem d_law_187 : decode code 187 = .ok (.iconst 0, 1) := by decide +kernel
theorem d_law_188 : decode code 188 = .ok (.ireturn, 1) := by decide +kernel
theorem d_law_189 : decode code 189 = .ok (.goto 694, 3) := by decide +kernel
theorem d_law_192 : decode code 192 = .ok (.aload_n 1, 1) := by decide +kernel
theorem d_law_193 : decode code 193 = .ok (.aload_n 0, 1) := by decide +kernel
theorem d_law_194 : decode code 194 = .ok (.iload 4, 2) := by decide +kernel
theorem d_law_196 : decode code 196 = .ok (.iconst 1, 1) := by decide +kernel
theorem d_law_197 : decode code 197 = .ok (.iadd, 1) := by decide +kernel
theorem d_law_198 : decode code 198 = .ok (.iaload, 1) := by decide +kernel
theorem d_law_199 : decode code 199 = .ok (.aload_n 3, 1) := by decide +kernel
theorem d_law_200 : decode code 200 = .ok (.invokestatic 62, 3) := by decide +kernel
theorem d_law_203 : decode code 203 = .ok (.istore 5, 2) := by decide +kernel
theorem d_law_205 : decode code 205 = .ok (.aload_n 2, 1) := by decide +kernel
theorem d_law_206 : decode code 206 = .ok (.aload_n 0, 1) := by decide +kernel
theorem d_law_207 : decode code 207 = .ok (.iload 4, 2) := by decide +kernel
theorem d_law_209 : decode code 209 = .ok (.iconst 1, 1) := by decide +kernel
theorem d_law_210 : decode code 210 = .ok (.iadd, 1) := by decide +kernel
theorem d_law_211 : decode code 211 = .ok (.iaload, 1) := by decide +kernel
theorem d_law_212 : decode code 212 = .ok (.invokevirtual 65, 3) := by decide +kernel
theorem d_law_215 : decode code 215 = .ok (.istore 6, 2) := by decide +kernel
theorem d_law_217 : decode code 217 = .ok (.aload_n 2, 1) := by decide +kernel
theorem d_law_218 : decode code 218 = .ok (.invokevirtual 58, 3) := by decide +kernel
theorem d_law_221 : decode code 221 = .ok (.iload 5, 2) := by decide +kernel
theorem d_law_223 : decode code 223 = .ok (.if_icmp .eq 5, 3) := by decide +kernel
theorem d_law_226 : decode code 226 = .ok (.iconst 0, 1) := by decide +kernel
theorem d_law_227 : decode code 227 = .ok (.ireturn, 1) := by decide +kernel
theorem d_law_228 : decode code 228 = .ok (.iload 5, 2) := by decide +kernel
theorem d_law_230 : decode code 230 = .ok (.ifCond .ne 15, 3) := by decide +kernel
theorem d_law_233 : decode code 233 = .ok (.aload_n 3, 1) := by decide +kernel
theorem d_law_234 : decode code 234 = .ok (.iconst 0, 1) := by decide +kernel
theorem d_law_235 : decode code 235 = .ok (.laload, 1) := by decide +kernel
theorem d_law_236 : decode code 236 = .ok (.iload 6, 2) := by decide +kernel
theorem d_law_238 : decode code 238 = .ok (.i2l, 1) := by decide +kernel
theorem d_law_239 : decode code 239 = .ok (.lcmp, 1) := by decide +kernel
theorem d_law_240 : decode code 240 = .ok (.ifCond .eq 5, 3) := by decide +kernel
theorem d_law_243 : decode code 243 = .ok (.iconst 0, 1) := by decide +kernel
theorem d_law_244 : decode code 244 = .ok (.ireturn, 1) := by decide +kernel
theorem d_law_245 : decode code 245 = .ok (.goto 638, 3) := by decide +kernel
theorem d_law_248 : decode code 248 = .ok (.aload_n 1, 1) := by decide +kernel
theorem d_law_249 : decode code 249 = .ok (.aload_n 0, 1) := by decide +kernel
theorem d_law_250 : decode code 250 = .ok (.iload 4, 2) := by decide +kernel
theorem d_law_252 : decode code 252 = .ok (.iconst 1, 1) := by decide +kernel
theorem d_law_253 : decode code 253 = .ok (.iadd, 1) := by decide +kernel
theorem d_law_254 : decode code 254 = .ok (.iaload, 1) := by decide +kernel
theorem d_law_255 : decode code 255 = .ok (.aload_n 3, 1) := by decide +kernel
theorem d_law_256 : decode code 256 = .ok (.invokestatic 66, 3) := by decide +kernel
theorem d_law_259 : decode code 259 = .ok (.istore 5, 2) := by decide +kernel
theorem d_law_261 : decode code 261 = .ok (.aload_n 2, 1) := by decide +kernel
theorem d_law_262 : decode code 262 = .ok (.aload_n 0, 1) := by decide +kernel
theorem d_law_263 : decode code 263 = .ok (.iload 4, 2) := by decide +kernel
theorem d_law_265 : decode code 265 = .ok (.iconst 1, 1) := by decide +kernel
theorem d_law_266 : decode code 266 = .ok (.iadd, 1) := by decide +kernel
theorem d_law_267 : decode code 267 = .ok (.iaload, 1) := by decide +kernel
theorem d_law_268 : decode code 268 = .ok (.invokevirtual 68, 3) := by decide +kernel
theorem d_law_271 : decode code 271 = .ok (.istore 6, 2) := by decide +kernel
theorem d_law_273 : decode code 273 = .ok (.aload_n 2, 1) := by decide +kernel
theorem d_law_274 : decode code 274 = .ok (.invokevirtual 58, 3) := by decide +kernel
theorem d_law_277 : decode code 277 = .ok (.iload 5, 2) := by decide +kernel
theorem d_law_279 : decode code 279 = .ok (.if_icmp .eq 5, 3) := by decide +kernel
theorem d_law_282 : decode code 282 = .ok (.iconst 0, 1) := by decide +kernel
theorem d_law_283 : decode code 283 = .ok (.ireturn, 1) := by decide +kernel
theorem d_law_284 : decode code 284 = .ok (.iload 5, 2) := by decide +kernel
theorem d_law_286 : decode code 286 = .ok (.ifCond .ne 15, 3) := by decide +kernel
theorem d_law_289 : decode code 289 = .ok (.aload_n 3, 1) := by decide +kernel
theorem d_law_290 : decode code 290 = .ok (.iconst 0, 1) := by decide +kernel
theorem d_law_291 : decode code 291 = .ok (.laload, 1) := by decide +kernel
theorem d_law_292 : decode code 292 = .ok (.iload 6, 2) := by decide +kernel
theorem d_law_294 : decode code 294 = .ok (.i2l, 1) := by decide +kernel
theorem d_law_295 : decode code 295 = .ok (.lcmp, 1) := by decide +kernel
theorem d_law_296 : decode code 296 = .ok (.ifCond .eq 5, 3) := by decide +kernel
theorem d_law_299 : decode code 299 = .ok (.iconst 0, 1) := by decide +kernel
theorem d_law_300 : decode code 300 = .ok (.ireturn, 1) := by decide +kernel
theorem d_law_301 : decode code 301 = .ok (.goto 582, 3) := by decide +kernel
theorem d_law_304 : decode code 304 = .ok (.aload_n 1, 1) := by decide +kernel
theorem d_law_305 : decode code 305 = .ok (.invokevirtual 69, 3) := by decide +kernel
theorem d_law_308 : decode code 308 = .ok (.aload_n 2, 1) := by decide +kernel
theorem d_law_309 : decode code 309 = .ok (.invokevirtual 72, 3) := by decide +kernel
theorem d_law_312 : decode code 312 = .ok (.if_icmp .eq 571, 3) := by decide +kernel
theorem d_law_315 : decode code 315 = .ok (.iconst 0, 1) := by decide +kernel
theorem d_law_316 : decode code 316 = .ok (.ireturn, 1) := by decide +kernel
theorem d_law_317 : decode code 317 = .ok (.aload_n 1, 1) := by decide +kernel
theorem d_law_318 : decode code 318 = .ok (.aload_n 0, 1) := by decide +kernel
theorem d_law_319 : decode code 319 = .ok (.iload 4, 2) := by decide +kernel
theorem d_law_321 : decode code 321 = .ok (.iconst 1, 1) := by decide +kernel
theorem d_law_322 : decode code 322 = .ok (.iadd, 1) := by decide +kernel
theorem d_law_323 : decode code 323 = .ok (.iaload, 1) := by decide +kernel
theorem d_law_324 : decode code 324 = .ok (.i2l, 1) := by decide +kernel
theorem d_law_325 : decode code 325 = .ok (.bipush 32, 2) := by decide +kernel
theorem d_law_327 : decode code 327 = .ok (.lshl, 1) := by decide +kernel
theorem d_law_328 : decode code 328 = .ok (.aload_n 0, 1) := by decide +kernel
theorem d_law_329 : decode code 329 = .ok (.iload 4, 2) := by decide +kernel
theorem d_law_331 : decode code 331 = .ok (.iconst 2, 1) := by decide +kernel
theorem d_law_332 : decode code 332 = .ok (.iadd, 1) := by decide +kernel
theorem d_law_333 : decode code 333 = .ok (.iaload, 1) := by decide +kernel
theorem d_law_334 : decode code 334 = .ok (.i2l, 1) := by decide +kernel
theorem d_law_335 : decode code 335 = .ok (.ldc2_w 73, 3) := by decide +kernel
theorem d_law_338 : decode code 338 = .ok (.land, 1) := by decide +kernel
theorem d_law_339 : decode code 339 = .ok (.lor, 1) := by decide +kernel
theorem d_law_340 : decode code 340 = .ok (.aload_n 0, 1) := by decide +kernel
theorem d_law_341 : decode code 341 = .ok (.iload 4, 2) := by decide +kernel
theorem d_law_343 : decode code 343 = .ok (.iconst 3, 1) := by decide +kernel
theorem d_law_344 : decode code 344 = .ok (.iadd, 1) := by decide +kernel
theorem d_law_345 : decode code 345 = .ok (.iaload, 1) := by decide +kernel
theorem d_law_346 : decode code 346 = .ok (.ifCond .eq 7, 3) := by decide +kernel
theorem d_law_349 : decode code 349 = .ok (.iconst 1, 1) := by decide +kernel
theorem d_law_350 : decode code 350 = .ok (.goto 4, 3) := by decide +kernel
theorem d_law_353 : decode code 353 = .ok (.iconst 0, 1) := by decide +kernel
theorem d_law_354 : decode code 354 = .ok (.aload_n 3, 1) := by decide +kernel
theorem d_law_355 : decode code 355 = .ok (.invokestatic 75, 3) := by decide +kernel
theorem d_law_358 : decode code 358 = .ok (.istore 5, 2) := by decide +kernel
theorem d_law_360 : decode code 360 = .ok (.aload_n 2, 1) := by decide +kernel
theorem d_law_361 : decode code 361 = .ok (.aload_n 0, 1) := by decide +kernel
theorem d_law_362 : decode code 362 = .ok (.iload 4, 2) := by decide +kernel
theorem d_law_364 : decode code 364 = .ok (.iconst 1, 1) := by decide +kernel
theorem d_law_365 : decode code 365 = .ok (.iadd, 1) := by decide +kernel
theorem d_law_366 : decode code 366 = .ok (.iaload, 1) := by decide +kernel
theorem d_law_367 : decode code 367 = .ok (.i2l, 1) := by decide +kernel
theorem d_law_368 : decode code 368 = .ok (.bipush 32, 2) := by decide +kernel
theorem d_law_370 : decode code 370 = .ok (.lshl, 1) := by decide +kernel
theorem d_law_371 : decode code 371 = .ok (.aload_n 0, 1) := by decide +kernel
theorem d_law_372 : decode code 372 = .ok (.iload 4, 2) := by decide +kernel
theorem d_law_374 : decode code 374 = .ok (.iconst 2, 1) := by decide +kernel
theorem d_law_375 : decode code 375 = .ok (.iadd, 1) := by decide +kernel
theorem d_law_376 : decode code 376 = .ok (.iaload, 1) := by decide +kernel
theorem d_law_377 : decode code 377 = .ok (.i2l, 1) := by decide +kernel
theorem d_law_378 : decode code 378 = .ok (.ldc2_w 73, 3) := by decide +kernel
theorem d_law_381 : decode code 381 = .ok (.land, 1) := by decide +kernel
theorem d_law_382 : decode code 382 = .ok (.lor, 1) := by decide +kernel
theorem d_law_383 : decode code 383 = .ok (.aload_n 0, 1) := by decide +kernel
theorem d_law_384 : decode code 384 = .ok (.iload 4, 2) := by decide +kernel
theorem d_law_386 : decode code 386 = .ok (.iconst 3, 1) := by decide +kernel
theorem d_law_387 : decode code 387 = .ok (.iadd, 1) := by decide +kernel
theorem d_law_388 : decode code 388 = .ok (.iaload, 1) := by decide +kernel
theorem d_law_389 : decode code 389 = .ok (.ifCond .eq 7, 3) := by decide +kernel
theorem d_law_392 : decode code 392 = .ok (.iconst 1, 1) := by decide +kernel
theorem d_law_393 : decode code 393 = .ok (.goto 4, 3) := by decide +kernel
theorem d_law_396 : decode code 396 = .ok (.iconst 0, 1) := by decide +kernel
theorem d_law_397 : decode code 397 = .ok (.invokevirtual 78, 3) := by decide +kernel
theorem d_law_400 : decode code 400 = .ok (.istore 6, 2) := by decide +kernel
theorem d_law_402 : decode code 402 = .ok (.aload_n 2, 1) := by decide +kernel
theorem d_law_403 : decode code 403 = .ok (.invokevirtual 58, 3) := by decide +kernel
theorem d_law_406 : decode code 406 = .ok (.iload 5, 2) := by decide +kernel
theorem d_law_408 : decode code 408 = .ok (.if_icmp .eq 5, 3) := by decide +kernel
theorem d_law_411 : decode code 411 = .ok (.iconst 0, 1) := by decide +kernel
theorem d_law_412 : decode code 412 = .ok (.ireturn, 1) := by decide +kernel
theorem d_law_413 : decode code 413 = .ok (.iload 5, 2) := by decide +kernel
theorem d_law_415 : decode code 415 = .ok (.ifCond .ne 15, 3) := by decide +kernel
theorem d_law_418 : decode code 418 = .ok (.aload_n 3, 1) := by decide +kernel
theorem d_law_419 : decode code 419 = .ok (.iconst 0, 1) := by decide +kernel
theorem d_law_420 : decode code 420 = .ok (.laload, 1) := by decide +kernel
theorem d_law_421 : decode code 421 = .ok (.iload 6, 2) := by decide +kernel
theorem d_law_423 : decode code 423 = .ok (.i2l, 1) := by decide +kernel
theorem d_law_424 : decode code 424 = .ok (.lcmp, 1) := by decide +kernel
theorem d_law_425 : decode code 425 = .ok (.ifCond .eq 5, 3) := by decide +kernel
theorem d_law_428 : decode code 428 = .ok (.iconst 0, 1) := by decide +kernel
theorem d_law_429 : decode code 429 = .ok (.ireturn, 1) := by decide +kernel
theorem d_law_430 : decode code 430 = .ok (.goto 453, 3) := by decide +kernel
theorem d_law_433 : decode code 433 = .ok (.aload_n 1, 1) := by decide +kernel
theorem d_law_434 : decode code 434 = .ok (.invokevirtual 79, 3) := by decide +kernel
theorem d_law_437 : decode code 437 = .ok (.aload_n 2, 1) := by decide +kernel
theorem d_law_438 : decode code 438 = .ok (.invokevirtual 82, 3) := by decide +kernel
theorem d_law_441 : decode code 441 = .ok (.if_icmp .eq 442, 3) := by decide +kernel
theorem d_law_444 : decode code 444 = .ok (.iconst 0, 1) := by decide +kernel
theorem d_law_445 : decode code 445 = .ok (.ireturn, 1) := by decide +kernel
theorem d_law_446 : decode code 446 = .ok (.aload_n 1, 1) := by decide +kernel
theorem d_law_447 : decode code 447 = .ok (.invokevirtual 83, 3) := by decide +kernel
theorem d_law_450 : decode code 450 = .ok (.aload_n 2, 1) := by decide +kernel
theorem d_law_451 : decode code 451 = .ok (.invokevirtual 87, 3) := by decide +kernel
theorem d_law_454 : decode code 454 = .ok (.lcmp, 1) := by decide +kernel
theorem d_law_455 : decode code 455 = .ok (.ifCond .eq 428, 3) := by decide +kernel
theorem d_law_458 : decode code 458 = .ok (.iconst 0, 1) := by decide +kernel
theorem d_law_459 : decode code 459 = .ok (.ireturn, 1) := by decide +kernel
theorem d_law_460 : decode code 460 = .ok (.aload_n 1, 1) := by decide +kernel
theorem d_law_461 : decode code 461 = .ok (.aload_n 0, 1) := by decide +kernel
theorem d_law_462 : decode code 462 = .ok (.iload 4, 2) := by decide +kernel
theorem d_law_464 : decode code 464 = .ok (.iconst 1, 1) := by decide +kernel
theorem d_law_465 : decode code 465 = .ok (.iadd, 1) := by decide +kernel
theorem d_law_466 : decode code 466 = .ok (.iaload, 1) := by decide +kernel
theorem d_law_467 : decode code 467 = .ok (.aload_n 0, 1) := by decide +kernel
theorem d_law_468 : decode code 468 = .ok (.iload 4, 2) := by decide +kernel
theorem d_law_470 : decode code 470 = .ok (.iconst 2, 1) := by decide +kernel
theorem d_law_471 : decode code 471 = .ok (.iadd, 1) := by decide +kernel
theorem d_law_472 : decode code 472 = .ok (.iaload, 1) := by decide +kernel
theorem d_law_473 : decode code 473 = .ok (.aload_n 0, 1) := by decide +kernel
theorem d_law_474 : decode code 474 = .ok (.iload 4, 2) := by decide +kernel
theorem d_law_476 : decode code 476 = .ok (.iconst 3, 1) := by decide +kernel
theorem d_law_477 : decode code 477 = .ok (.iadd, 1) := by decide +kernel
theorem d_law_478 : decode code 478 = .ok (.iaload, 1) := by decide +kernel
theorem d_law_479 : decode code 479 = .ok (.aload_n 3, 1) := by decide +kernel
theorem d_law_480 : decode code 480 = .ok (.invokestatic 88, 3) := by decide +kernel
theorem d_law_483 : decode code 483 = .ok (.istore 5, 2) := by decide +kernel
theorem d_law_485 : decode code 485 = .ok (.aload_n 2, 1) := by decide +kernel
theorem d_law_486 : decode code 486 = .ok (.aload_n 0, 1) := by decide +kernel
theorem d_law_487 : decode code 487 = .ok (.iload 4, 2) := by decide +kernel
theorem d_law_489 : decode code 489 = .ok (.iconst 1, 1) := by decide +kernel
theorem d_law_490 : decode code 490 = .ok (.iadd, 1) := by decide +kernel
theorem d_law_491 : decode code 491 = .ok (.iaload, 1) := by decide +kernel
theorem d_law_492 : decode code 492 = .ok (.aload_n 0, 1) := by decide +kernel
theorem d_law_493 : decode code 493 = .ok (.iload 4, 2) := by decide +kernel
theorem d_law_495 : decode code 495 = .ok (.iconst 2, 1) := by decide +kernel
theorem d_law_496 : decode code 496 = .ok (.iadd, 1) := by decide +kernel
theorem d_law_497 : decode code 497 = .ok (.iaload, 1) := by decide +kernel
theorem d_law_498 : decode code 498 = .ok (.aload_n 0, 1) := by decide +kernel
theorem d_law_499 : decode code 499 = .ok (.iload 4, 2) := by decide +kernel
theorem d_law_501 : decode code 501 = .ok (.iconst 3, 1) := by decide +kernel
theorem d_law_502 : decode code 502 = .ok (.iadd, 1) := by decide +kernel
theorem d_law_503 : decode code 503 = .ok (.iaload, 1) := by decide +kernel
theorem d_law_504 : decode code 504 = .ok (.invokevirtual 91, 3) := by decide +kernel
theorem d_law_507 : decode code 507 = .ok (.istore 6, 2) := by decide +kernel
theorem d_law_509 : decode code 509 = .ok (.aload_n 2, 1) := by decide +kernel
theorem d_law_510 : decode code 510 = .ok (.invokevirtual 58, 3) := by decide +kernel
theorem d_law_513 : decode code 513 = .ok (.iload 5, 2) := by decide +kernel
theorem d_law_515 : decode code 515 = .ok (.if_icmp .eq 5, 3) := by decide +kernel
theorem d_law_518 : decode code 518 = .ok (.iconst 0, 1) := by decide +kernel
theorem d_law_519 : decode code 519 = .ok (.ireturn, 1) := by decide +kernel
theorem d_law_520 : decode code 520 = .ok (.iload 5, 2) := by decide +kernel
theorem d_law_522 : decode code 522 = .ok (.ifCond .ne 15, 3) := by decide +kernel
theorem d_law_525 : decode code 525 = .ok (.aload_n 3, 1) := by decide +kernel
theorem d_law_526 : decode code 526 = .ok (.iconst 0, 1) := by decide +kernel
theorem d_law_527 : decode code 527 = .ok (.laload, 1) := by decide +kernel
theorem d_law_528 : decode code 528 = .ok (.iload 6, 2) := by decide +kernel
theorem d_law_530 : decode code 530 = .ok (.i2l, 1) := by decide +kernel
theorem d_law_531 : decode code 531 = .ok (.lcmp, 1) := by decide +kernel
theorem d_law_532 : decode code 532 = .ok (.ifCond .eq 5, 3) := by decide +kernel
theorem d_law_535 : decode code 535 = .ok (.iconst 0, 1) := by decide +kernel
theorem d_law_536 : decode code 536 = .ok (.ireturn, 1) := by decide +kernel
theorem d_law_537 : decode code 537 = .ok (.goto 346, 3) := by decide +kernel
theorem d_law_540 : decode code 540 = .ok (.aload_n 1, 1) := by decide +kernel
theorem d_law_541 : decode code 541 = .ok (.aload_n 0, 1) := by decide +kernel
theorem d_law_542 : decode code 542 = .ok (.iload 4, 2) := by decide +kernel
theorem d_law_544 : decode code 544 = .ok (.iconst 1, 1) := by decide +kernel
theorem d_law_545 : decode code 545 = .ok (.iadd, 1) := by decide +kernel
theorem d_law_546 : decode code 546 = .ok (.iaload, 1) := by decide +kernel
theorem d_law_547 : decode code 547 = .ok (.aload_n 0, 1) := by decide +kernel
theorem d_law_548 : decode code 548 = .ok (.iload 4, 2) := by decide +kernel
theorem d_law_550 : decode code 550 = .ok (.iconst 2, 1) := by decide +kernel
theorem d_law_551 : decode code 551 = .ok (.iadd, 1) := by decide +kernel
theorem d_law_552 : decode code 552 = .ok (.iaload, 1) := by decide +kernel
theorem d_law_553 : decode code 553 = .ok (.aload_n 3, 1) := by decide +kernel
theorem d_law_554 : decode code 554 = .ok (.invokestatic 92, 3) := by decide +kernel
theorem d_law_557 : decode code 557 = .ok (.istore 5, 2) := by decide +kernel
theorem d_law_559 : decode code 559 = .ok (.aload_n 2, 1) := by decide +kernel
theorem d_law_560 : decode code 560 = .ok (.aload_n 0, 1) := by decide +kernel
theorem d_law_561 : decode code 561 = .ok (.iload 4, 2) := by decide +kernel
theorem d_law_563 : decode code 563 = .ok (.iconst 1, 1) := by decide +kernel
theorem d_law_564 : decode code 564 = .ok (.iadd, 1) := by decide +kernel
theorem d_law_565 : decode code 565 = .ok (.iaload, 1) := by decide +kernel
theorem d_law_566 : decode code 566 = .ok (.aload_n 0, 1) := by decide +kernel
theorem d_law_567 : decode code 567 = .ok (.iload 4, 2) := by decide +kernel
theorem d_law_569 : decode code 569 = .ok (.iconst 2, 1) := by decide +kernel
theorem d_law_570 : decode code 570 = .ok (.iadd, 1) := by decide +kernel
theorem d_law_571 : decode code 571 = .ok (.iaload, 1) := by decide +kernel
theorem d_law_572 : decode code 572 = .ok (.invokevirtual 95, 3) := by decide +kernel
theorem d_law_575 : decode code 575 = .ok (.istore 6, 2) := by decide +kernel
theorem d_law_577 : decode code 577 = .ok (.aload_n 2, 1) := by decide +kernel
theorem d_law_578 : decode code 578 = .ok (.invokevirtual 58, 3) := by decide +kernel
theorem d_law_581 : decode code 581 = .ok (.iload 5, 2) := by decide +kernel
theorem d_law_583 : decode code 583 = .ok (.if_icmp .eq 5, 3) := by decide +kernel
theorem d_law_586 : decode code 586 = .ok (.iconst 0, 1) := by decide +kernel
theorem d_law_587 : decode code 587 = .ok (.ireturn, 1) := by decide +kernel
theorem d_law_588 : decode code 588 = .ok (.iload 5, 2) := by decide +kernel
theorem d_law_590 : decode code 590 = .ok (.ifCond .ne 22, 3) := by decide +kernel
theorem d_law_593 : decode code 593 = .ok (.aload_n 3, 1) := by decide +kernel
theorem d_law_594 : decode code 594 = .ok (.iconst 0, 1) := by decide +kernel
theorem d_law_595 : decode code 595 = .ok (.laload, 1) := by decide +kernel
theorem d_law_596 : decode code 596 = .ok (.iload 6, 2) := by decide +kernel
theorem d_law_598 : decode code 598 = .ok (.ifCond .eq 7, 3) := by decide +kernel
theorem d_law_601 : decode code 601 = .ok (.lconst 1, 1) := by decide +kernel
theorem d_law_602 : decode code 602 = .ok (.goto 4, 3) := by decide +kernel
theorem d_law_605 : decode code 605 = .ok (.lconst 0, 1) := by decide +kernel
theorem d_law_606 : decode code 606 = .ok (.lcmp, 1) := by decide +kernel
theorem d_law_607 : decode code 607 = .ok (.ifCond .eq 5, 3) := by decide +kernel
theorem d_law_610 : decode code 610 = .ok (.iconst 0, 1) := by decide +kernel
theorem d_law_611 : decode code 611 = .ok (.ireturn, 1) := by decide +kernel
theorem d_law_612 : decode code 612 = .ok (.goto 271, 3) := by decide +kernel
theorem d_law_615 : decode code 615 = .ok (.aload_n 1, 1) := by decide +kernel
theorem d_law_616 : decode code 616 = .ok (.aload_n 0, 1) := by decide +kernel
theorem d_law_617 : decode code 617 = .ok (.iload 4, 2) := by decide +kernel
theorem d_law_619 : decode code 619 = .ok (.iconst 1, 1) := by decide +kernel
theorem d_law_620 : decode code 620 = .ok (.iadd, 1) := by decide +kernel
theorem d_law_621 : decode code 621 = .ok (.iaload, 1) := by decide +kernel
theorem d_law_622 : decode code 622 = .ok (.aload_n 0, 1) := by decide +kernel
theorem d_law_623 : decode code 623 = .ok (.iload 4, 2) := by decide +kernel
theorem d_law_625 : decode code 625 = .ok (.iconst 2, 1) := by decide +kernel
theorem d_law_626 : decode code 626 = .ok (.iadd, 1) := by decide +kernel
theorem d_law_627 : decode code 627 = .ok (.iaload, 1) := by decide +kernel
theorem d_law_628 : decode code 628 = .ok (.aload_n 0, 1) := by decide +kernel
theorem d_law_629 : decode code 629 = .ok (.iload 4, 2) := by decide +kernel
theorem d_law_631 : decode code 631 = .ok (.iconst 3, 1) := by decide +kernel
theorem d_law_632 : decode code 632 = .ok (.iadd, 1) := by decide +kernel
theorem d_law_633 : decode code 633 = .ok (.iaload, 1) := by decide +kernel
theorem d_law_634 : decode code 634 = .ok (.aload_n 3, 1) := by decide +kernel
theorem d_law_635 : decode code 635 = .ok (.invokestatic 96, 3) := by decide +kernel
theorem d_law_638 : decode code 638 = .ok (.istore 5, 2) := by decide +kernel
theorem d_law_640 : decode code 640 = .ok (.aload_n 2, 1) := by decide +kernel
theorem d_law_641 : decode code 641 = .ok (.aload_n 0, 1) := by decide +kernel
theorem d_law_642 : decode code 642 = .ok (.iload 4, 2) := by decide +kernel
theorem d_law_644 : decode code 644 = .ok (.iconst 1, 1) := by decide +kernel
theorem d_law_645 : decode code 645 = .ok (.iadd, 1) := by decide +kernel
theorem d_law_646 : decode code 646 = .ok (.iaload, 1) := by decide +kernel
theorem d_law_647 : decode code 647 = .ok (.aload_n 0, 1) := by decide +kernel
theorem d_law_648 : decode code 648 = .ok (.iload 4, 2) := by decide +kernel
theorem d_law_650 : decode code 650 = .ok (.iconst 2, 1) := by decide +kernel
theorem d_law_651 : decode code 651 = .ok (.iadd, 1) := by decide +kernel
theorem d_law_652 : decode code 652 = .ok (.iaload, 1) := by decide +kernel
theorem d_law_653 : decode code 653 = .ok (.aload_n 0, 1) := by decide +kernel
theorem d_law_654 : decode code 654 = .ok (.iload 4, 2) := by decide +kernel
theorem d_law_656 : decode code 656 = .ok (.iconst 3, 1) := by decide +kernel
theorem d_law_657 : decode code 657 = .ok (.iadd, 1) := by decide +kernel
theorem d_law_658 : decode code 658 = .ok (.iaload, 1) := by decide +kernel
theorem d_law_659 : decode code 659 = .ok (.invokevirtual 98, 3) := by decide +kernel
theorem d_law_662 : decode code 662 = .ok (.istore 6, 2) := by decide +kernel
theorem d_law_664 : decode code 664 = .ok (.aload_n 2, 1) := by decide +kernel
theorem d_law_665 : decode code 665 = .ok (.invokevirtual 58, 3) := by decide +kernel
theorem d_law_668 : decode code 668 = .ok (.iload 5, 2) := by decide +kernel
theorem d_law_670 : decode code 670 = .ok (.if_icmp .eq 5, 3) := by decide +kernel
theorem d_law_673 : decode code 673 = .ok (.iconst 0, 1) := by decide +kernel
theorem d_law_674 : decode code 674 = .ok (.ireturn, 1) := by decide +kernel
theorem d_law_675 : decode code 675 = .ok (.iload 5, 2) := by decide +kernel
theorem d_law_677 : decode code 677 = .ok (.ifCond .ne 15, 3) := by decide +kernel
theorem d_law_680 : decode code 680 = .ok (.aload_n 3, 1) := by decide +kernel
theorem d_law_681 : decode code 681 = .ok (.iconst 0, 1) := by decide +kernel
theorem d_law_682 : decode code 682 = .ok (.laload, 1) := by decide +kernel
theorem d_law_683 : decode code 683 = .ok (.iload 6, 2) := by decide +kernel
theorem d_law_685 : decode code 685 = .ok (.i2l, 1) := by decide +kernel
theorem d_law_686 : decode code 686 = .ok (.lcmp, 1) := by decide +kernel
theorem d_law_687 : decode code 687 = .ok (.ifCond .eq 5, 3) := by decide +kernel
theorem d_law_690 : decode code 690 = .ok (.iconst 0, 1) := by decide +kernel
theorem d_law_691 : decode code 691 = .ok (.ireturn, 1) := by decide +kernel
theorem d_law_692 : decode code 692 = .ok (.goto 191, 3) := by decide +kernel
theorem d_law_695 : decode code 695 = .ok (.aload_n 1, 1) := by decide +kernel
theorem d_law_696 : decode code 696 = .ok (.aload_n 0, 1) := by decide +kernel
theorem d_law_697 : decode code 697 = .ok (.iload 4, 2) := by decide +kernel
theorem d_law_699 : decode code 699 = .ok (.iconst 1, 1) := by decide +kernel
theorem d_law_700 : decode code 700 = .ok (.iadd, 1) := by decide +kernel
theorem d_law_701 : decode code 701 = .ok (.iaload, 1) := by decide +kernel
theorem d_law_702 : decode code 702 = .ok (.aload_n 0, 1) := by decide +kernel
theorem d_law_703 : decode code 703 = .ok (.iload 4, 2) := by decide +kernel
theorem d_law_705 : decode code 705 = .ok (.iconst 2, 1) := by decide +kernel
theorem d_law_706 : decode code 706 = .ok (.iadd, 1) := by decide +kernel
theorem d_law_707 : decode code 707 = .ok (.iaload, 1) := by decide +kernel
theorem d_law_708 : decode code 708 = .ok (.aload_n 3, 1) := by decide +kernel
theorem d_law_709 : decode code 709 = .ok (.invokestatic 99, 3) := by decide +kernel
theorem d_law_712 : decode code 712 = .ok (.istore 5, 2) := by decide +kernel
theorem d_law_714 : decode code 714 = .ok (.aload_n 2, 1) := by decide +kernel
theorem d_law_715 : decode code 715 = .ok (.aload_n 0, 1) := by decide +kernel
theorem d_law_716 : decode code 716 = .ok (.iload 4, 2) := by decide +kernel
theorem d_law_718 : decode code 718 = .ok (.iconst 1, 1) := by decide +kernel
theorem d_law_719 : decode code 719 = .ok (.iadd, 1) := by decide +kernel
theorem d_law_720 : decode code 720 = .ok (.iaload, 1) := by decide +kernel
theorem d_law_721 : decode code 721 = .ok (.aload_n 0, 1) := by decide +kernel
theorem d_law_722 : decode code 722 = .ok (.iload 4, 2) := by decide +kernel
theorem d_law_724 : decode code 724 = .ok (.iconst 2, 1) := by decide +kernel
theorem d_law_725 : decode code 725 = .ok (.iadd, 1) := by decide +kernel
theorem d_law_726 : decode code 726 = .ok (.iaload, 1) := by decide +kernel
theorem d_law_727 : decode code 727 = .ok (.invokevirtual 101, 3) := by decide +kernel
theorem d_law_730 : decode code 730 = .ok (.istore 6, 2) := by decide +kernel
theorem d_law_732 : decode code 732 = .ok (.aload_n 2, 1) := by decide +kernel
theorem d_law_733 : decode code 733 = .ok (.invokevirtual 58, 3) := by decide +kernel
theorem d_law_736 : decode code 736 = .ok (.iload 5, 2) := by decide +kernel
theorem d_law_738 : decode code 738 = .ok (.if_icmp .eq 5, 3) := by decide +kernel
theorem d_law_741 : decode code 741 = .ok (.iconst 0, 1) := by decide +kernel
theorem d_law_742 : decode code 742 = .ok (.ireturn, 1) := by decide +kernel
theorem d_law_743 : decode code 743 = .ok (.iload 5, 2) := by decide +kernel
theorem d_law_745 : decode code 745 = .ok (.ifCond .ne 15, 3) := by decide +kernel
theorem d_law_748 : decode code 748 = .ok (.aload_n 3, 1) := by decide +kernel
theorem d_law_749 : decode code 749 = .ok (.iconst 0, 1) := by decide +kernel
theorem d_law_750 : decode code 750 = .ok (.laload, 1) := by decide +kernel
theorem d_law_751 : decode code 751 = .ok (.iload 6, 2) := by decide +kernel
theorem d_law_753 : decode code 753 = .ok (.i2l, 1) := by decide +kernel
theorem d_law_754 : decode code 754 = .ok (.lcmp, 1) := by decide +kernel
theorem d_law_755 : decode code 755 = .ok (.ifCond .eq 5, 3) := by decide +kernel
theorem d_law_758 : decode code 758 = .ok (.iconst 0, 1) := by decide +kernel
theorem d_law_759 : decode code 759 = .ok (.ireturn, 1) := by decide +kernel
theorem d_law_760 : decode code 760 = .ok (.goto 123, 3) := by decide +kernel
theorem d_law_763 : decode code 763 = .ok (.aload_n 1, 1) := by decide +kernel
theorem d_law_764 : decode code 764 = .ok (.aload_n 0, 1) := by decide +kernel
theorem d_law_765 : decode code 765 = .ok (.iload 4, 2) := by decide +kernel
theorem d_law_767 : decode code 767 = .ok (.iconst 1, 1) := by decide +kernel
theorem d_law_768 : decode code 768 = .ok (.iadd, 1) := by decide +kernel
theorem d_law_769 : decode code 769 = .ok (.iaload, 1) := by decide +kernel
theorem d_law_770 : decode code 770 = .ok (.aload_n 0, 1) := by decide +kernel
theorem d_law_771 : decode code 771 = .ok (.iload 4, 2) := by decide +kernel
theorem d_law_773 : decode code 773 = .ok (.iconst 2, 1) := by decide +kernel
theorem d_law_774 : decode code 774 = .ok (.iadd, 1) := by decide +kernel
theorem d_law_775 : decode code 775 = .ok (.iaload, 1) := by decide +kernel
theorem d_law_776 : decode code 776 = .ok (.aload_n 3, 1) := by decide +kernel
theorem d_law_777 : decode code 777 = .ok (.invokestatic 102, 3) := by decide +kernel
theorem d_law_780 : decode code 780 = .ok (.istore 5, 2) := by decide +kernel
theorem d_law_782 : decode code 782 = .ok (.aload_n 2, 1) := by decide +kernel
theorem d_law_783 : decode code 783 = .ok (.aload_n 0, 1) := by decide +kernel
theorem d_law_784 : decode code 784 = .ok (.iload 4, 2) := by decide +kernel
theorem d_law_786 : decode code 786 = .ok (.iconst 1, 1) := by decide +kernel
theorem d_law_787 : decode code 787 = .ok (.iadd, 1) := by decide +kernel
theorem d_law_788 : decode code 788 = .ok (.iaload, 1) := by decide +kernel
theorem d_law_789 : decode code 789 = .ok (.aload_n 0, 1) := by decide +kernel
theorem d_law_790 : decode code 790 = .ok (.iload 4, 2) := by decide +kernel
theorem d_law_792 : decode code 792 = .ok (.iconst 2, 1) := by decide +kernel
theorem d_law_793 : decode code 793 = .ok (.iadd, 1) := by decide +kernel
theorem d_law_794 : decode code 794 = .ok (.iaload, 1) := by decide +kernel
theorem d_law_795 : decode code 795 = .ok (.invokevirtual 104, 3) := by decide +kernel
theorem d_law_798 : decode code 798 = .ok (.istore 6, 2) := by decide +kernel
theorem d_law_800 : decode code 800 = .ok (.aload_n 2, 1) := by decide +kernel
theorem d_law_801 : decode code 801 = .ok (.invokevirtual 58, 3) := by decide +kernel
theorem d_law_804 : decode code 804 = .ok (.iload 5, 2) := by decide +kernel
theorem d_law_806 : decode code 806 = .ok (.if_icmp .eq 5, 3) := by decide +kernel
theorem d_law_809 : decode code 809 = .ok (.iconst 0, 1) := by decide +kernel
theorem d_law_810 : decode code 810 = .ok (.ireturn, 1) := by decide +kernel
theorem d_law_811 : decode code 811 = .ok (.iload 5, 2) := by decide +kernel
theorem d_law_813 : decode code 813 = .ok (.ifCond .ne 15, 3) := by decide +kernel
theorem d_law_816 : decode code 816 = .ok (.aload_n 3, 1) := by decide +kernel
theorem d_law_817 : decode code 817 = .ok (.iconst 0, 1) := by decide +kernel
theorem d_law_818 : decode code 818 = .ok (.laload, 1) := by decide +kernel
theorem d_law_819 : decode code 819 = .ok (.iload 6, 2) := by decide +kernel
theorem d_law_821 : decode code 821 = .ok (.i2l, 1) := by decide +kernel
theorem d_law_822 : decode code 822 = .ok (.lcmp, 1) := by decide +kernel
theorem d_law_823 : decode code 823 = .ok (.ifCond .eq 5, 3) := by decide +kernel
theorem d_law_826 : decode code 826 = .ok (.iconst 0, 1) := by decide +kernel
theorem d_law_827 : decode code 827 = .ok (.ireturn, 1) := by decide +kernel
theorem d_law_828 : decode code 828 = .ok (.goto 55, 3) := by decide +kernel
theorem d_law_831 : decode code 831 = .ok (.aload_n 1, 1) := by decide +kernel
theorem d_law_832 : decode code 832 = .ok (.aload_n 0, 1) := by decide +kernel
theorem d_law_833 : decode code 833 = .ok (.iload 4, 2) := by decide +kernel
theorem d_law_835 : decode code 835 = .ok (.iconst 1, 1) := by decide +kernel
theorem d_law_836 : decode code 836 = .ok (.iadd, 1) := by decide +kernel
theorem d_law_837 : decode code 837 = .ok (.iaload, 1) := by decide +kernel
theorem d_law_838 : decode code 838 = .ok (.ifCond .eq 7, 3) := by decide +kernel
theorem d_law_841 : decode code 841 = .ok (.iconst 1, 1) := by decide +kernel
theorem d_law_842 : decode code 842 = .ok (.goto 4, 3) := by decide +kernel
theorem d_law_845 : decode code 845 = .ok (.iconst 0, 1) := by decide +kernel
theorem d_law_846 : decode code 846 = .ok (.invokevirtual 105, 3) := by decide +kernel
theorem d_law_849 : decode code 849 = .ok (.aload_n 2, 1) := by decide +kernel
theorem d_law_850 : decode code 850 = .ok (.aload_n 0, 1) := by decide +kernel
theorem d_law_851 : decode code 851 = .ok (.iload 4, 2) := by decide +kernel
theorem d_law_853 : decode code 853 = .ok (.iconst 1, 1) := by decide +kernel
theorem d_law_854 : decode code 854 = .ok (.iadd, 1) := by decide +kernel
theorem d_law_855 : decode code 855 = .ok (.iaload, 1) := by decide +kernel
theorem d_law_856 : decode code 856 = .ok (.ifCond .eq 7, 3) := by decide +kernel
theorem d_law_859 : decode code 859 = .ok (.iconst 1, 1) := by decide +kernel
theorem d_law_860 : decode code 860 = .ok (.goto 4, 3) := by decide +kernel
theorem d_law_863 : decode code 863 = .ok (.iconst 0, 1) := by decide +kernel
theorem d_law_864 : decode code 864 = .ok (.invokevirtual 109, 3) := by decide +kernel
theorem d_law_867 : decode code 867 = .ok (.if_icmp .eq 16, 3) := by decide +kernel
theorem d_law_870 : decode code 870 = .ok (.iconst 0, 1) := by decide +kernel
theorem d_law_871 : decode code 871 = .ok (.ireturn, 1) := by decide +kernel
theorem d_law_872 : decode code 872 = .ok (.aload_n 1, 1) := by decide +kernel
theorem d_law_873 : decode code 873 = .ok (.invokevirtual 110, 3) := by decide +kernel
theorem d_law_876 : decode code 876 = .ok (.aload_n 2, 1) := by decide +kernel
theorem d_law_877 : decode code 877 = .ok (.invokevirtual 113, 3) := by decide +kernel
theorem d_law_880 : decode code 880 = .ok (.goto 3, 3) := by decide +kernel
theorem d_law_883 : decode code 883 = .ok (.iinc 4 4, 3) := by decide +kernel
theorem d_law_886 : decode code 886 = .ok (.goto (-863), 3) := by decide +kernel
theorem d_law_889 : decode code 889 = .ok (.iconst 1, 1) := by decide +kernel
theorem d_law_890 : decode code 890 = .ok (.ireturn, 1) := by decide +kernel
