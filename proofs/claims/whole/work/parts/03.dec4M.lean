theorem d_M_init_0 : decode prog_10_method_1_code 0 = .ok (.aload_n 0, 1) := by decide +kernel
theorem d_M_init_1 : decode prog_10_method_1_code 1 = .ok (.invokespecial 1, 3) := by decide +kernel
theorem d_M_init_4 : decode prog_10_method_1_code 4 = .ok (.aload_n 0, 1) := by decide +kernel
theorem d_M_init_5 : decode prog_10_method_1_code 5 = .ok (.bipush 32, 2) := by decide +kernel
theorem d_M_init_7 : decode prog_10_method_1_code 7 = .ok (.newarray .int, 2) := by decide +kernel
theorem d_M_init_9 : decode prog_10_method_1_code 9 = .ok (.dup, 1) := by decide +kernel
theorem d_M_init_10 : decode prog_10_method_1_code 10 = .ok (.iconst 0, 1) := by decide +kernel
theorem d_M_init_11 : decode prog_10_method_1_code 11 = .ok (.bipush 39, 2) := by decide +kernel
theorem d_M_init_13 : decode prog_10_method_1_code 13 = .ok (.iastore, 1) := by decide +kernel
theorem d_M_init_14 : decode prog_10_method_1_code 14 = .ok (.dup, 1) := by decide +kernel
theorem d_M_init_15 : decode prog_10_method_1_code 15 = .ok (.iconst 1, 1) := by decide +kernel
theorem d_M_init_16 : decode prog_10_method_1_code 16 = .ok (.bipush 29, 2) := by decide +kernel
theorem d_M_init_18 : decode prog_10_method_1_code 18 = .ok (.iastore, 1) := by decide +kernel
theorem d_M_init_19 : decode prog_10_method_1_code 19 = .ok (.dup, 1) := by decide +kernel
theorem d_M_init_20 : decode prog_10_method_1_code 20 = .ok (.iconst 2, 1) := by decide +kernel
theorem d_M_init_21 : decode prog_10_method_1_code 21 = .ok (.bipush 45, 2) := by decide +kernel
theorem d_M_init_23 : decode prog_10_method_1_code 23 = .ok (.iastore, 1) := by decide +kernel
theorem d_M_init_24 : decode prog_10_method_1_code 24 = .ok (.dup, 1) := by decide +kernel
theorem d_M_init_25 : decode prog_10_method_1_code 25 = .ok (.iconst 3, 1) := by decide +kernel
theorem d_M_init_26 : decode prog_10_method_1_code 26 = .ok (.bipush 49, 2) := by decide +kernel
theorem d_M_init_28 : decode prog_10_method_1_code 28 = .ok (.iastore, 1) := by decide +kernel
theorem d_M_init_29 : decode prog_10_method_1_code 29 = .ok (.dup, 1) := by decide +kernel
theorem d_M_init_30 : decode prog_10_method_1_code 30 = .ok (.iconst 4, 1) := by decide +kernel
theorem d_M_init_31 : decode prog_10_method_1_code 31 = .ok (.bipush 53, 2) := by decide +kernel
theorem d_M_init_33 : decode prog_10_method_1_code 33 = .ok (.iastore, 1) := by decide +kernel
theorem d_M_init_34 : decode prog_10_method_1_code 34 = .ok (.dup, 1) := by decide +kernel
theorem d_M_init_35 : decode prog_10_method_1_code 35 = .ok (.iconst 5, 1) := by decide +kernel
theorem d_M_init_36 : decode prog_10_method_1_code 36 = .ok (.bipush 41, 2) := by decide +kernel
theorem d_M_init_38 : decode prog_10_method_1_code 38 = .ok (.iastore, 1) := by decide +kernel
theorem d_M_init_39 : decode prog_10_method_1_code 39 = .ok (.dup, 1) := by decide +kernel
theorem d_M_init_40 : decode prog_10_method_1_code 40 = .ok (.bipush 6, 2) := by decide +kernel
theorem d_M_init_42 : decode prog_10_method_1_code 42 = .ok (.bipush 25, 2) := by decide +kernel
theorem d_M_init_44 : decode prog_10_method_1_code 44 = .ok (.iastore, 1) := by decide +kernel
theorem d_M_init_45 : decode prog_10_method_1_code 45 = .ok (.dup, 1) := by decide +kernel
theorem d_M_init_46 : decode prog_10_method_1_code 46 = .ok (.bipush 7, 2) := by decide +kernel
theorem d_M_init_48 : decode prog_10_method_1_code 48 = .ok (.bipush 56, 2) := by decide +kernel
theorem d_M_init_50 : decode prog_10_method_1_code 50 = .ok (.iastore, 1) := by decide +kernel
theorem d_M_init_51 : decode prog_10_method_1_code 51 = .ok (.dup, 1) := by decide +kernel
theorem d_M_init_52 : decode prog_10_method_1_code 52 = .ok (.bipush 8, 2) := by decide +kernel
theorem d_M_init_54 : decode prog_10_method_1_code 54 = .ok (.bipush 57, 2) := by decide +kernel
theorem d_M_init_56 : decode prog_10_method_1_code 56 = .ok (.iastore, 1) := by decide +kernel
theorem d_M_init_57 : decode prog_10_method_1_code 57 = .ok (.dup, 1) := by decide +kernel
theorem d_M_init_58 : decode prog_10_method_1_code 58 = .ok (.bipush 9, 2) := by decide +kernel
theorem d_M_init_60 : decode prog_10_method_1_code 60 = .ok (.bipush 37, 2) := by decide +kernel
theorem d_M_init_62 : decode prog_10_method_1_code 62 = .ok (.iastore, 1) := by decide +kernel
theorem d_M_init_63 : decode prog_10_method_1_code 63 = .ok (.dup, 1) := by decide +kernel
theorem d_M_init_64 : decode prog_10_method_1_code 64 = .ok (.bipush 10, 2) := by decide +kernel
theorem d_M_init_66 : decode prog_10_method_1_code 66 = .ok (.bipush 21, 2) := by decide +kernel
theorem d_M_init_68 : decode prog_10_method_1_code 68 = .ok (.iastore, 1) := by decide +kernel
theorem d_M_init_69 : decode prog_10_method_1_code 69 = .ok (.dup, 1) := by decide +kernel
theorem d_M_init_70 : decode prog_10_method_1_code 70 = .ok (.bipush 11, 2) := by decide +kernel
theorem d_M_init_72 : decode prog_10_method_1_code 72 = .ok (.bipush 52, 2) := by decide +kernel
theorem d_M_init_74 : decode prog_10_method_1_code 74 = .ok (.iastore, 1) := by decide +kernel
theorem d_M_init_75 : decode prog_10_method_1_code 75 = .ok (.dup, 1) := by decide +kernel
theorem d_M_init_76 : decode prog_10_method_1_code 76 = .ok (.bipush 12, 2) := by decide +kernel
theorem d_M_init_78 : decode prog_10_method_1_code 78 = .ok (.bipush 13, 2) := by decide +kernel
theorem d_M_init_80 : decode prog_10_method_1_code 80 = .ok (.iastore, 1) := by decide +kernel
theorem d_M_init_81 : decode prog_10_method_1_code 81 = .ok (.dup, 1) := by decide +kernel
theorem d_M_init_82 : decode prog_10_method_1_code 82 = .ok (.bipush 13, 2) := by decide +kernel
theorem d_M_init_84 : decode prog_10_method_1_code 84 = .ok (.bipush 44, 2) := by decide +kernel
theorem d_M_init_86 : decode prog_10_method_1_code 86 = .ok (.iastore, 1) := by decide +kernel
theorem d_M_init_87 : decode prog_10_method_1_code 87 = .ok (.dup, 1) := by decide +kernel
theorem d_M_init_88 : decode prog_10_method_1_code 88 = .ok (.bipush 14, 2) := by decide +kernel
theorem d_M_init_90 : decode prog_10_method_1_code 90 = .ok (.bipush 28, 2) := by decide +kernel
theorem d_M_init_92 : decode prog_10_method_1_code 92 = .ok (.iastore, 1) := by decide +kernel
theorem d_M_init_93 : decode prog_10_method_1_code 93 = .ok (.dup, 1) := by decide +kernel
theorem d_M_init_94 : decode prog_10_method_1_code 94 = .ok (.bipush 15, 2) := by decide +kernel
theorem d_M_init_96 : decode prog_10_method_1_code 96 = .ok (.bipush 23, 2) := by decide +kernel
theorem d_M_init_98 : decode prog_10_method_1_code 98 = .ok (.iastore, 1) := by decide +kernel
theorem d_M_init_99 : decode prog_10_method_1_code 99 = .ok (.dup, 1) := by decide +kernel
theorem d_M_init_100 : decode prog_10_method_1_code 100 = .ok (.bipush 16, 2) := by decide +kernel
theorem d_M_init_102 : decode prog_10_method_1_code 102 = .ok (.bipush 27, 2) := by decide +kernel
theorem d_M_init_104 : decode prog_10_method_1_code 104 = .ok (.iastore, 1) := by decide +kernel
theorem d_M_init_105 : decode prog_10_method_1_code 105 = .ok (.dup, 1) := by decide +kernel
theorem d_M_init_106 : decode prog_10_method_1_code 106 = .ok (.bipush 17, 2) := by decide +kernel
theorem d_M_init_108 : decode prog_10_method_1_code 108 = .ok (.bipush 35, 2) := by decide +kernel
theorem d_M_init_110 : decode prog_10_method_1_code 110 = .ok (.iastore, 1) := by decide +kernel
theorem d_M_init_111 : decode prog_10_method_1_code 111 = .ok (.dup, 1) := by decide +kernel
theorem d_M_init_112 : decode prog_10_method_1_code 112 = .ok (.bipush 18, 2) := by decide +kernel
theorem d_M_init_114 : decode prog_10_method_1_code 114 = .ok (.bipush 19, 2) := by decide +kernel
theorem d_M_init_116 : decode prog_10_method_1_code 116 = .ok (.iastore, 1) := by decide +kernel
theorem d_M_init_117 : decode prog_10_method_1_code 117 = .ok (.dup, 1) := by decide +kernel
theorem d_M_init_118 : decode prog_10_method_1_code 118 = .ok (.bipush 19, 2) := by decide +kernel
theorem d_M_init_120 : decode prog_10_method_1_code 120 = .ok (.bipush 50, 2) := by decide +kernel
theorem d_M_init_122 : decode prog_10_method_1_code 122 = .ok (.iastore, 1) := by decide +kernel
theorem d_M_init_123 : decode prog_10_method_1_code 123 = .ok (.dup, 1) := by decide +kernel
theorem d_M_init_124 : decode prog_10_method_1_code 124 = .ok (.bipush 20, 2) := by decide +kernel
theorem d_M_init_126 : decode prog_10_method_1_code 126 = .ok (.bipush 11, 2) := by decide +kernel
theorem d_M_init_128 : decode prog_10_method_1_code 128 = .ok (.iastore, 1) := by decide +kernel
theorem d_M_init_129 : decode prog_10_method_1_code 129 = .ok (.dup, 1) := by decide +kernel
theorem d_M_init_130 : decode prog_10_method_1_code 130 = .ok (.bipush 21, 2) := by decide +kernel
theorem d_M_init_132 : decode prog_10_method_1_code 132 = .ok (.bipush 42, 2) := by decide +kernel
theorem d_M_init_134 : decode prog_10_method_1_code 134 = .ok (.iastore, 1) := by decide +kernel
theorem d_M_init_135 : decode prog_10_method_1_code 135 = .ok (.dup, 1) := by decide +kernel
theorem d_M_init_136 : decode prog_10_method_1_code 136 = .ok (.bipush 22, 2) := by decide +kernel
theorem d_M_init_138 : decode prog_10_method_1_code 138 = .ok (.bipush 26, 2) := by decide +kernel
theorem d_M_init_140 : decode prog_10_method_1_code 140 = .ok (.iastore, 1) := by decide +kernel
theorem d_M_init_141 : decode prog_10_method_1_code 141 = .ok (.dup, 1) := by decide +kernel
theorem d_M_init_142 : decode prog_10_method_1_code 142 = .ok (.bipush 23, 2) := by decide +kernel
theorem d_M_init_144 : decode prog_10_method_1_code 144 = .ok (.bipush 58, 2) := by decide +kernel
theorem d_M_init_146 : decode prog_10_method_1_code 146 = .ok (.iastore, 1) := by decide +kernel
theorem d_M_init_147 : decode prog_10_method_1_code 147 = .ok (.dup, 1) := by decide +kernel
theorem d_M_init_148 : decode prog_10_method_1_code 148 = .ok (.bipush 24, 2) := by decide +kernel
theorem d_M_init_150 : decode prog_10_method_1_code 150 = .ok (.bipush 51, 2) := by decide +kernel
theorem d_M_init_152 : decode prog_10_method_1_code 152 = .ok (.iastore, 1) := by decide +kernel
theorem d_M_init_153 : decode prog_10_method_1_code 153 = .ok (.dup, 1) := by decide +kernel
theorem d_M_init_154 : decode prog_10_method_1_code 154 = .ok (.bipush 25, 2) := by decide +kernel
theorem d_M_init_156 : decode prog_10_method_1_code 156 = .ok (.bipush 38, 2) := by decide +kernel
theorem d_M_init_158 : decode prog_10_method_1_code 158 = .ok (.iastore, 1) := by decide +kernel
theorem d_M_init_159 : decode prog_10_method_1_code 159 = .ok (.dup, 1) := by decide +kernel
theorem d_M_init_160 : decode prog_10_method_1_code 160 = .ok (.bipush 26, 2) := by decide +kernel
theorem d_M_init_162 : decode prog_10_method_1_code 162 = .ok (.bipush 22, 2) := by decide +kernel
theorem d_M_init_164 : decode prog_10_method_1_code 164 = .ok (.iastore, 1) := by decide +kernel
theorem d_M_init_165 : decode prog_10_method_1_code 165 = .ok (.dup, 1) := by decide +kernel
theorem d_M_init_166 : decode prog_10_method_1_code 166 = .ok (.bipush 27, 2) := by decide +kernel
theorem d_M_init_168 : decode prog_10_method_1_code 168 = .ok (.bipush 54, 2) := by decide +kernel
theorem d_M_init_170 : decode prog_10_method_1_code 170 = .ok (.iastore, 1) := by decide +kernel
theorem d_M_init_171 : decode prog_10_method_1_code 171 = .ok (.dup, 1) := by decide +kernel
theorem d_M_init_172 : decode prog_10_method_1_code 172 = .ok (.bipush 28, 2) := by decide +kernel
theorem d_M_init_174 : decode prog_10_method_1_code 174 = .ok (.bipush 14, 2) := by decide +kernel
theorem d_M_init_176 : decode prog_10_method_1_code 176 = .ok (.iastore, 1) := by decide +kernel
theorem d_M_init_177 : decode prog_10_method_1_code 177 = .ok (.dup, 1) := by decide +kernel
theorem d_M_init_178 : decode prog_10_method_1_code 178 = .ok (.bipush 29, 2) := by decide +kernel
theorem d_M_init_180 : decode prog_10_method_1_code 180 = .ok (.bipush 46, 2) := by decide +kernel
theorem d_M_init_182 : decode prog_10_method_1_code 182 = .ok (.iastore, 1) := by decide +kernel
theorem d_M_init_183 : decode prog_10_method_1_code 183 = .ok (.dup, 1) := by decide +kernel
theorem d_M_init_184 : decode prog_10_method_1_code 184 = .ok (.bipush 30, 2) := by decide +kernel
theorem d_M_init_186 : decode prog_10_method_1_code 186 = .ok (.bipush 30, 2) := by decide +kernel
theorem d_M_init_188 : decode prog_10_method_1_code 188 = .ok (.iastore, 1) := by decide +kernel
theorem d_M_init_189 : decode prog_10_method_1_code 189 = .ok (.dup, 1) := by decide +kernel
theorem d_M_init_190 : decode prog_10_method_1_code 190 = .ok (.bipush 31, 2) := by decide +kernel
theorem d_M_init_192 : decode prog_10_method_1_code 192 = .ok (.bipush 43, 2) := by decide +kernel
theorem d_M_init_194 : decode prog_10_method_1_code 194 = .ok (.iastore, 1) := by decide +kernel
theorem d_M_init_195 : decode prog_10_method_1_code 195 = .ok (.putfield 7, 3) := by decide +kernel
theorem d_M_init_198 : decode prog_10_method_1_code 198 = .ok (.aload_n 0, 1) := by decide +kernel
theorem d_M_init_199 : decode prog_10_method_1_code 199 = .ok (.bipush 8, 2) := by decide +kernel
theorem d_M_init_201 : decode prog_10_method_1_code 201 = .ok (.newarray .int, 2) := by decide +kernel
theorem d_M_init_203 : decode prog_10_method_1_code 203 = .ok (.dup, 1) := by decide +kernel
theorem d_M_init_204 : decode prog_10_method_1_code 204 = .ok (.iconst 0, 1) := by decide +kernel
theorem d_M_init_205 : decode prog_10_method_1_code 205 = .ok (.bipush 11, 2) := by decide +kernel
theorem d_M_init_207 : decode prog_10_method_1_code 207 = .ok (.iastore, 1) := by decide +kernel
theorem d_M_init_208 : decode prog_10_method_1_code 208 = .ok (.dup, 1) := by decide +kernel
theorem d_M_init_209 : decode prog_10_method_1_code 209 = .ok (.iconst 1, 1) := by decide +kernel
theorem d_M_init_210 : decode prog_10_method_1_code 210 = .ok (.bipush 9, 2) := by decide +kernel
theorem d_M_init_212 : decode prog_10_method_1_code 212 = .ok (.iastore, 1) := by decide +kernel
theorem d_M_init_213 : decode prog_10_method_1_code 213 = .ok (.dup, 1) := by decide +kernel
theorem d_M_init_214 : decode prog_10_method_1_code 214 = .ok (.iconst 2, 1) := by decide +kernel
theorem d_M_init_215 : decode prog_10_method_1_code 215 = .ok (.iconst 5, 1) := by decide +kernel
theorem d_M_init_216 : decode prog_10_method_1_code 216 = .ok (.iastore, 1) := by decide +kernel
theorem d_M_init_217 : decode prog_10_method_1_code 217 = .ok (.dup, 1) := by decide +kernel
theorem d_M_init_218 : decode prog_10_method_1_code 218 = .ok (.iconst 3, 1) := by decide +kernel
theorem d_M_init_219 : decode prog_10_method_1_code 219 = .ok (.bipush 12, 2) := by decide +kernel
theorem d_M_init_221 : decode prog_10_method_1_code 221 = .ok (.iastore, 1) := by decide +kernel
theorem d_M_init_222 : decode prog_10_method_1_code 222 = .ok (.dup, 1) := by decide +kernel
theorem d_M_init_223 : decode prog_10_method_1_code 223 = .ok (.iconst 4, 1) := by decide +kernel
theorem d_M_init_224 : decode prog_10_method_1_code 224 = .ok (.bipush 13, 2) := by decide +kernel
theorem d_M_init_226 : decode prog_10_method_1_code 226 = .ok (.iastore, 1) := by decide +kernel
theorem d_M_init_227 : decode prog_10_method_1_code 227 = .ok (.dup, 1) := by decide +kernel
theorem d_M_init_228 : decode prog_10_method_1_code 228 = .ok (.iconst 5, 1) := by decide +kernel
theorem d_M_init_229 : decode prog_10_method_1_code 229 = .ok (.bipush 10, 2) := by decide +kernel
theorem d_M_init_231 : decode prog_10_method_1_code 231 = .ok (.iastore, 1) := by decide +kernel
theorem d_M_init_232 : decode prog_10_method_1_code 232 = .ok (.dup, 1) := by decide +kernel
theorem d_M_init_233 : decode prog_10_method_1_code 233 = .ok (.bipush 6, 2) := by decide +kernel
theorem d_M_init_235 : decode prog_10_method_1_code 235 = .ok (.bipush 6, 2) := by decide +kernel
theorem d_M_init_237 : decode prog_10_method_1_code 237 = .ok (.iastore, 1) := by decide +kernel
theorem d_M_init_238 : decode prog_10_method_1_code 238 = .ok (.dup, 1) := by decide +kernel
theorem d_M_init_239 : decode prog_10_method_1_code 239 = .ok (.bipush 7, 2) := by decide +kernel
theorem d_M_init_241 : decode prog_10_method_1_code 241 = .ok (.bipush 14, 2) := by decide +kernel
theorem d_M_init_243 : decode prog_10_method_1_code 243 = .ok (.iastore, 1) := by decide +kernel
theorem d_M_init_244 : decode prog_10_method_1_code 244 = .ok (.putfield 13, 3) := by decide +kernel
theorem d_M_init_247 : decode prog_10_method_1_code 247 = .ok (.aload_n 0, 1) := by decide +kernel
theorem d_M_init_248 : decode prog_10_method_1_code 248 = .ok (.sipush 1024, 3) := by decide +kernel
theorem d_M_init_251 : decode prog_10_method_1_code 251 = .ok (.newarray .int, 2) := by decide +kernel
theorem d_M_init_253 : decode prog_10_method_1_code 253 = .ok (.putfield 16, 3) := by decide +kernel
theorem d_M_init_256 : decode prog_10_method_1_code 256 = .ok (.aload_n 0, 1) := by decide +kernel
theorem d_M_init_257 : decode prog_10_method_1_code 257 = .ok (.sipush 1024, 3) := by decide +kernel
theorem d_M_init_260 : decode prog_10_method_1_code 260 = .ok (.newarray .int, 2) := by decide +kernel
theorem d_M_init_262 : decode prog_10_method_1_code 262 = .ok (.putfield 19, 3) := by decide +kernel
theorem d_M_init_265 : decode prog_10_method_1_code 265 = .ok (.aload_n 0, 1) := by decide +kernel
theorem d_M_init_266 : decode prog_10_method_1_code 266 = .ok (.sipush 5280, 3) := by decide +kernel
theorem d_M_init_269 : decode prog_10_method_1_code 269 = .ok (.newarray .int, 2) := by decide +kernel
theorem d_M_init_271 : decode prog_10_method_1_code 271 = .ok (.putfield 22, 3) := by decide +kernel
theorem d_M_init_274 : decode prog_10_method_1_code 274 = .ok (.aload_n 0, 1) := by decide +kernel
theorem d_M_init_275 : decode prog_10_method_1_code 275 = .ok (.iconst 2, 1) := by decide +kernel
theorem d_M_init_276 : decode prog_10_method_1_code 276 = .ok (.newarray .int, 2) := by decide +kernel
theorem d_M_init_278 : decode prog_10_method_1_code 278 = .ok (.putfield 25, 3) := by decide +kernel
theorem d_M_init_281 : decode prog_10_method_1_code 281 = .ok (.aload_n 0, 1) := by decide +kernel
theorem d_M_init_282 : decode prog_10_method_1_code 282 = .ok (.iconst 2, 1) := by decide +kernel
theorem d_M_init_283 : decode prog_10_method_1_code 283 = .ok (.newarray .int, 2) := by decide +kernel
theorem d_M_init_285 : decode prog_10_method_1_code 285 = .ok (.putfield 28, 3) := by decide +kernel
theorem d_M_init_288 : decode prog_10_method_1_code 288 = .ok (.aload_n 0, 1) := by decide +kernel
theorem d_M_init_289 : decode prog_10_method_1_code 289 = .ok (.iconst 2, 1) := by decide +kernel
theorem d_M_init_290 : decode prog_10_method_1_code 290 = .ok (.newarray .boolean, 2) := by decide +kernel
theorem d_M_init_292 : decode prog_10_method_1_code 292 = .ok (.putfield 31, 3) := by decide +kernel
theorem d_M_init_295 : decode prog_10_method_1_code 295 = .ok (.aload_n 0, 1) := by decide +kernel
theorem d_M_init_296 : decode prog_10_method_1_code 296 = .ok (.iconst 2, 1) := by decide +kernel
theorem d_M_init_297 : decode prog_10_method_1_code 297 = .ok (.newarray .int, 2) := by decide +kernel
theorem d_M_init_299 : decode prog_10_method_1_code 299 = .ok (.putfield 35, 3) := by decide +kernel
theorem d_M_init_302 : decode prog_10_method_1_code 302 = .ok (.aload_n 0, 1) := by decide +kernel
theorem d_M_init_303 : decode prog_10_method_1_code 303 = .ok (.iconst 2, 1) := by decide +kernel
theorem d_M_init_304 : decode prog_10_method_1_code 304 = .ok (.newarray .int, 2) := by decide +kernel
theorem d_M_init_306 : decode prog_10_method_1_code 306 = .ok (.putfield 38, 3) := by decide +kernel
theorem d_M_init_309 : decode prog_10_method_1_code 309 = .ok (.aload_n 0, 1) := by decide +kernel
theorem d_M_init_310 : decode prog_10_method_1_code 310 = .ok (.iconst 2, 1) := by decide +kernel
theorem d_M_init_311 : decode prog_10_method_1_code 311 = .ok (.newarray .int, 2) := by decide +kernel
theorem d_M_init_313 : decode prog_10_method_1_code 313 = .ok (.putfield 41, 3) := by decide +kernel
theorem d_M_init_316 : decode prog_10_method_1_code 316 = .ok (.aload_n 0, 1) := by decide +kernel
theorem d_M_init_317 : decode prog_10_method_1_code 317 = .ok (.bipush 58, 2) := by decide +kernel
theorem d_M_init_319 : decode prog_10_method_1_code 319 = .ok (.newarray .int, 2) := by decide +kernel
theorem d_M_init_321 : decode prog_10_method_1_code 321 = .ok (.putfield 44, 3) := by decide +kernel
theorem d_M_init_324 : decode prog_10_method_1_code 324 = .ok (.aload_n 0, 1) := by decide +kernel
theorem d_M_init_325 : decode prog_10_method_1_code 325 = .ok (.bipush 58, 2) := by decide +kernel
theorem d_M_init_327 : decode prog_10_method_1_code 327 = .ok (.newarray .int, 2) := by decide +kernel
theorem d_M_init_329 : decode prog_10_method_1_code 329 = .ok (.putfield 47, 3) := by decide +kernel
theorem d_M_init_332 : decode prog_10_method_1_code 332 = .ok (.iconst 0, 1) := by decide +kernel
theorem d_M_init_333 : decode prog_10_method_1_code 333 = .ok (.istore_n 1, 1) := by decide +kernel
theorem d_M_init_334 : decode prog_10_method_1_code 334 = .ok (.iload_n 1, 1) := by decide +kernel
theorem d_M_init_335 : decode prog_10_method_1_code 335 = .ok (.sipush 1024, 3) := by decide +kernel
theorem d_M_init_338 : decode prog_10_method_1_code 338 = .ok (.if_icmp .ge 16, 3) := by decide +kernel
theorem d_M_init_341 : decode prog_10_method_1_code 341 = .ok (.aload_n 0, 1) := by decide +kernel
theorem d_M_init_342 : decode prog_10_method_1_code 342 = .ok (.getfield 19, 3) := by decide +kernel
theorem d_M_init_345 : decode prog_10_method_1_code 345 = .ok (.iload_n 1, 1) := by decide +kernel
theorem d_M_init_346 : decode prog_10_method_1_code 346 = .ok (.iconst (-1), 1) := by decide +kernel
theorem d_M_init_347 : decode prog_10_method_1_code 347 = .ok (.iastore, 1) := by decide +kernel
theorem d_M_init_348 : decode prog_10_method_1_code 348 = .ok (.iinc 1 1, 3) := by decide +kernel
theorem d_M_init_351 : decode prog_10_method_1_code 351 = .ok (.goto (-17), 3) := by decide +kernel
theorem d_M_init_354 : decode prog_10_method_1_code 354 = .ok (.iconst 0, 1) := by decide +kernel
theorem d_M_init_355 : decode prog_10_method_1_code 355 = .ok (.istore_n 1, 1) := by decide +kernel
theorem d_M_init_356 : decode prog_10_method_1_code 356 = .ok (.iload_n 1, 1) := by decide +kernel
theorem d_M_init_357 : decode prog_10_method_1_code 357 = .ok (.sipush 512, 3) := by decide +kernel
theorem d_M_init_360 : decode prog_10_method_1_code 360 = .ok (.if_icmp .ge 81, 3) := by decide +kernel
theorem d_M_init_363 : decode prog_10_method_1_code 363 = .ok (.iconst 0, 1) := by decide +kernel
theorem d_M_init_364 : decode prog_10_method_1_code 364 = .ok (.istore_n 2, 1) := by decide +kernel
theorem d_M_init_365 : decode prog_10_method_1_code 365 = .ok (.iload_n 2, 1) := by decide +kernel
theorem d_M_init_366 : decode prog_10_method_1_code 366 = .ok (.iconst 2, 1) := by decide +kernel
theorem d_M_init_367 : decode prog_10_method_1_code 367 = .ok (.if_icmp .ge 68, 3) := by decide +kernel
theorem d_M_init_370 : decode prog_10_method_1_code 370 = .ok (.aload_n 0, 1) := by decide +kernel
theorem d_M_init_371 : decode prog_10_method_1_code 371 = .ok (.getfield 16, 3) := by decide +kernel
theorem d_M_init_374 : decode prog_10_method_1_code 374 = .ok (.iconst 2, 1) := by decide +kernel
theorem d_M_init_375 : decode prog_10_method_1_code 375 = .ok (.iload_n 1, 1) := by decide +kernel
theorem d_M_init_376 : decode prog_10_method_1_code 376 = .ok (.imul, 1) := by decide +kernel
theorem d_M_init_377 : decode prog_10_method_1_code 377 = .ok (.iload_n 2, 1) := by decide +kernel
theorem d_M_init_378 : decode prog_10_method_1_code 378 = .ok (.iadd, 1) := by decide +kernel
theorem d_M_init_379 : decode prog_10_method_1_code 379 = .ok (.iload_n 1, 1) := by decide +kernel
theorem d_M_init_380 : decode prog_10_method_1_code 380 = .ok (.invokestatic 50, 3) := by decide +kernel
theorem d_M_init_383 : decode prog_10_method_1_code 383 = .ok (.ifCond .eq 21, 3) := by decide +kernel
theorem d_M_init_386 : decode prog_10_method_1_code 386 = .ok (.aload_n 0, 1) := by decide +kernel
theorem d_M_init_387 : decode prog_10_method_1_code 387 = .ok (.iload_n 1, 1) := by decide +kernel
theorem d_M_init_388 : decode prog_10_method_1_code 388 = .ok (.iload_n 2, 1) := by decide +kernel
theorem d_M_init_389 : decode prog_10_method_1_code 389 = .ok (.iconst 1, 1) := by decide +kernel
theorem d_M_init_390 : decode prog_10_method_1_code 390 = .ok (.if_icmp .ne 7, 3) := by decide +kernel
theorem d_M_init_393 : decode prog_10_method_1_code 393 = .ok (.iconst 1, 1) := by decide +kernel
theorem d_M_init_394 : decode prog_10_method_1_code 394 = .ok (.goto 4, 3) := by decide +kernel
theorem d_M_init_397 : decode prog_10_method_1_code 397 = .ok (.iconst 0, 1) := by decide +kernel
theorem d_M_init_398 : decode prog_10_method_1_code 398 = .ok (.invokevirtual 54, 3) := by decide +kernel
theorem d_M_init_401 : decode prog_10_method_1_code 401 = .ok (.goto 4, 3) := by decide +kernel
theorem d_M_init_404 : decode prog_10_method_1_code 404 = .ok (.iconst (-1), 1) := by decide +kernel
theorem d_M_init_405 : decode prog_10_method_1_code 405 = .ok (.iastore, 1) := by decide +kernel
theorem d_M_init_406 : decode prog_10_method_1_code 406 = .ok (.iload_n 1, 1) := by decide +kernel
theorem d_M_init_407 : decode prog_10_method_1_code 407 = .ok (.invokestatic 50, 3) := by decide +kernel
theorem d_M_init_410 : decode prog_10_method_1_code 410 = .ok (.ifCond .eq 19, 3) := by decide +kernel
theorem d_M_init_413 : decode prog_10_method_1_code 413 = .ok (.aload_n 0, 1) := by decide +kernel
theorem d_M_init_414 : decode prog_10_method_1_code 414 = .ok (.getfield 19, 3) := by decide +kernel
theorem d_M_init_417 : decode prog_10_method_1_code 417 = .ok (.aload_n 0, 1) := by decide +kernel
theorem d_M_init_418 : decode prog_10_method_1_code 418 = .ok (.getfield 16, 3) := by decide +kernel
theorem d_M_init_421 : decode prog_10_method_1_code 421 = .ok (.iconst 2, 1) := by decide +kernel
theorem d_M_init_422 : decode prog_10_method_1_code 422 = .ok (.iload_n 1, 1) := by decide +kernel
theorem d_M_init_423 : decode prog_10_method_1_code 423 = .ok (.imul, 1) := by decide +kernel
theorem d_M_init_424 : decode prog_10_method_1_code 424 = .ok (.iload_n 2, 1) := by decide +kernel
theorem d_M_init_425 : decode prog_10_method_1_code 425 = .ok (.iadd, 1) := by decide +kernel
theorem d_M_init_426 : decode prog_10_method_1_code 426 = .ok (.iaload, 1) := by decide +kernel
theorem d_M_init_427 : decode prog_10_method_1_code 427 = .ok (.iload_n 1, 1) := by decide +kernel
theorem d_M_init_428 : decode prog_10_method_1_code 428 = .ok (.iastore, 1) := by decide +kernel
theorem d_M_init_429 : decode prog_10_method_1_code 429 = .ok (.iinc 2 1, 3) := by decide +kernel
theorem d_M_init_432 : decode prog_10_method_1_code 432 = .ok (.goto (-67), 3) := by decide +kernel
theorem d_M_init_435 : decode prog_10_method_1_code 435 = .ok (.iinc 1 1, 3) := by decide +kernel
theorem d_M_init_438 : decode prog_10_method_1_code 438 = .ok (.goto (-82), 3) := by decide +kernel
theorem d_M_init_441 : decode prog_10_method_1_code 441 = .ok (.aload_n 0, 1) := by decide +kernel
theorem d_M_init_442 : decode prog_10_method_1_code 442 = .ok (.invokevirtual 58, 3) := by decide +kernel
theorem d_M_init_445 : decode prog_10_method_1_code 445 = .ok (.return_, 1) := by decide +kernel
theorem d_M_isSymbol_0 : decode prog_10_method_7_code 0 = .ok (.iload_n 0, 1) := by decide +kernel
theorem d_M_isSymbol_1 : decode prog_10_method_7_code 1 = .ok (.ifCond .lt 10, 3) := by decide +kernel
theorem d_M_isSymbol_4 : decode prog_10_method_7_code 4 = .ok (.iload_n 0, 1) := by decide +kernel
theorem d_M_isSymbol_5 : decode prog_10_method_7_code 5 = .ok (.sipush 512, 3) := by decide +kernel
theorem d_M_isSymbol_8 : decode prog_10_method_7_code 8 = .ok (.if_icmp .lt 5, 3) := by decide +kernel
theorem d_M_isSymbol_11 : decode prog_10_method_7_code 11 = .ok (.iconst 0, 1) := by decide +kernel
theorem d_M_isSymbol_12 : decode prog_10_method_7_code 12 = .ok (.ireturn, 1) := by decide +kernel
theorem d_M_isSymbol_13 : decode prog_10_method_7_code 13 = .ok (.iload_n 0, 1) := by decide +kernel
theorem d_M_isSymbol_14 : decode prog_10_method_7_code 14 = .ok (.bipush 31, 2) := by decide +kernel
theorem d_M_isSymbol_16 : decode prog_10_method_7_code 16 = .ok (.iand, 1) := by decide +kernel
theorem d_M_isSymbol_17 : decode prog_10_method_7_code 17 = .ok (.istore_n 1, 1) := by decide +kernel
theorem d_M_isSymbol_18 : decode prog_10_method_7_code 18 = .ok (.iload_n 0, 1) := by decide +kernel
theorem d_M_isSymbol_19 : decode prog_10_method_7_code 19 = .ok (.iconst 5, 1) := by decide +kernel
theorem d_M_isSymbol_20 : decode prog_10_method_7_code 20 = .ok (.ishr, 1) := by decide +kernel
theorem d_M_isSymbol_21 : decode prog_10_method_7_code 21 = .ok (.bipush 7, 2) := by decide +kernel
theorem d_M_isSymbol_23 : decode prog_10_method_7_code 23 = .ok (.iand, 1) := by decide +kernel
theorem d_M_isSymbol_24 : decode prog_10_method_7_code 24 = .ok (.istore_n 2, 1) := by decide +kernel
theorem d_M_isSymbol_25 : decode prog_10_method_7_code 25 = .ok (.iload_n 0, 1) := by decide +kernel
theorem d_M_isSymbol_26 : decode prog_10_method_7_code 26 = .ok (.sipush 256, 3) := by decide +kernel
theorem d_M_isSymbol_29 : decode prog_10_method_7_code 29 = .ok (.if_icmp .lt 39, 3) := by decide +kernel
theorem d_M_isSymbol_32 : decode prog_10_method_7_code 32 = .ok (.iload_n 1, 1) := by decide +kernel
theorem d_M_isSymbol_33 : decode prog_10_method_7_code 33 = .ok (.bipush 28, 2) := by decide +kernel
theorem d_M_isSymbol_35 : decode prog_10_method_7_code 35 = .ok (.if_icmp .eq 33, 3) := by decide +kernel
theorem d_M_isSymbol_38 : decode prog_10_method_7_code 38 = .ok (.iload_n 2, 1) := by decide +kernel
theorem d_M_isSymbol_39 : decode prog_10_method_7_code 39 = .ok (.bipush 7, 2) := by decide +kernel
theorem d_M_isSymbol_41 : decode prog_10_method_7_code 41 = .ok (.if_icmp .ne 31, 3) := by decide +kernel
theorem d_M_isSymbol_44 : decode prog_10_method_7_code 44 = .ok (.iload_n 1, 1) := by decide +kernel
theorem d_M_isSymbol_45 : decode prog_10_method_7_code 45 = .ok (.bipush 23, 2) := by decide +kernel
theorem d_M_isSymbol_47 : decode prog_10_method_7_code 47 = .ok (.if_icmp .eq 21, 3) := by decide +kernel
theorem d_M_isSymbol_50 : decode prog_10_method_7_code 50 = .ok (.iload_n 1, 1) := by decide +kernel
theorem d_M_isSymbol_51 : decode prog_10_method_7_code 51 = .ok (.bipush 27, 2) := by decide +kernel
theorem d_M_isSymbol_53 : decode prog_10_method_7_code 53 = .ok (.if_icmp .eq 15, 3) := by decide +kernel
theorem d_M_isSymbol_56 : decode prog_10_method_7_code 56 = .ok (.iload_n 1, 1) := by decide +kernel
theorem d_M_isSymbol_57 : decode prog_10_method_7_code 57 = .ok (.bipush 29, 2) := by decide +kernel
theorem d_M_isSymbol_59 : decode prog_10_method_7_code 59 = .ok (.if_icmp .eq 9, 3) := by decide +kernel
theorem d_M_isSymbol_62 : decode prog_10_method_7_code 62 = .ok (.iload_n 1, 1) := by decide +kernel
theorem d_M_isSymbol_63 : decode prog_10_method_7_code 63 = .ok (.bipush 30, 2) := by decide +kernel
theorem d_M_isSymbol_65 : decode prog_10_method_7_code 65 = .ok (.if_icmp .ne 7, 3) := by decide +kernel
theorem d_M_isSymbol_68 : decode prog_10_method_7_code 68 = .ok (.iconst 1, 1) := by decide +kernel
theorem d_M_isSymbol_69 : decode prog_10_method_7_code 69 = .ok (.goto 4, 3) := by decide +kernel
theorem d_M_isSymbol_72 : decode prog_10_method_7_code 72 = .ok (.iconst 0, 1) := by decide +kernel
theorem d_M_isSymbol_73 : decode prog_10_method_7_code 73 = .ok (.ireturn, 1) := by decide +kernel
theorem d_M_make_0 : decode prog_10_method_11_code 0 = .ok (.iload_n 1, 1) := by decide +kernel
theorem d_M_make_1 : decode prog_10_method_11_code 1 = .ok (.sipush 255, 3) := by decide +kernel
theorem d_M_make_4 : decode prog_10_method_11_code 4 = .ok (.if_icmp .le 7, 3) := by decide +kernel
theorem d_M_make_7 : decode prog_10_method_11_code 7 = .ok (.iconst 1, 1) := by decide +kernel
theorem d_M_make_8 : decode prog_10_method_11_code 8 = .ok (.goto 4, 3) := by decide +kernel
theorem d_M_make_11 : decode prog_10_method_11_code 11 = .ok (.iconst 0, 1) := by decide +kernel
theorem d_M_make_12 : decode prog_10_method_11_code 12 = .ok (.istore_n 3, 1) := by decide +kernel
theorem d_M_make_13 : decode prog_10_method_11_code 13 = .ok (.iload_n 1, 1) := by decide +kernel
theorem d_M_make_14 : decode prog_10_method_11_code 14 = .ok (.bipush 31, 2) := by decide +kernel
theorem d_M_make_16 : decode prog_10_method_11_code 16 = .ok (.iand, 1) := by decide +kernel
theorem d_M_make_17 : decode prog_10_method_11_code 17 = .ok (.istore 4, 2) := by decide +kernel
theorem d_M_make_19 : decode prog_10_method_11_code 19 = .ok (.iload_n 1, 1) := by decide +kernel
theorem d_M_make_20 : decode prog_10_method_11_code 20 = .ok (.iconst 5, 1) := by decide +kernel
theorem d_M_make_21 : decode prog_10_method_11_code 21 = .ok (.ishr, 1) := by decide +kernel
theorem d_M_make_22 : decode prog_10_method_11_code 22 = .ok (.bipush 7, 2) := by decide +kernel
theorem d_M_make_24 : decode prog_10_method_11_code 24 = .ok (.iand, 1) := by decide +kernel
theorem d_M_make_25 : decode prog_10_method_11_code 25 = .ok (.istore 5, 2) := by decide +kernel
theorem d_M_make_27 : decode prog_10_method_11_code 27 = .ok (.iload_n 3, 1) := by decide +kernel
theorem d_M_make_28 : decode prog_10_method_11_code 28 = .ok (.ifCond .eq 15, 3) := by decide +kernel
theorem d_M_make_31 : decode prog_10_method_11_code 31 = .ok (.iload 4, 2) := by decide +kernel
theorem d_M_make_33 : decode prog_10_method_11_code 33 = .ok (.bipush 28, 2) := by decide +kernel
theorem d_M_make_35 : decode prog_10_method_11_code 35 = .ok (.if_icmp .ne 8, 3) := by decide +kernel
theorem d_M_make_38 : decode prog_10_method_11_code 38 = .ok (.bipush 15, 2) := by decide +kernel
theorem d_M_make_40 : decode prog_10_method_11_code 40 = .ok (.goto 10, 3) := by decide +kernel
theorem d_M_make_43 : decode prog_10_method_11_code 43 = .ok (.aload_n 0, 1) := by decide +kernel
theorem d_M_make_44 : decode prog_10_method_11_code 44 = .ok (.getfield 7, 3) := by decide +kernel
theorem d_M_make_47 : decode prog_10_method_11_code 47 = .ok (.iload 4, 2) := by decide +kernel
theorem d_M_make_49 : decode prog_10_method_11_code 49 = .ok (.iaload, 1) := by decide +kernel
theorem d_M_make_50 : decode prog_10_method_11_code 50 = .ok (.istore 6, 2) := by decide +kernel
theorem d_M_make_52 : decode prog_10_method_11_code 52 = .ok (.iload_n 2, 1) := by decide +kernel
theorem d_M_make_53 : decode prog_10_method_11_code 53 = .ok (.ifCond .eq 27, 3) := by decide +kernel
theorem d_M_make_56 : decode prog_10_method_11_code 56 = .ok (.iload 6, 2) := by decide +kernel
theorem d_M_make_58 : decode prog_10_method_11_code 58 = .ok (.invokestatic 91, 3) := by decide +kernel
theorem d_M_make_61 : decode prog_10_method_11_code 61 = .ok (.iconst 3, 1) := by decide +kernel
theorem d_M_make_62 : decode prog_10_method_11_code 62 = .ok (.if_icmp .ne 10, 3) := by decide +kernel
theorem d_M_make_65 : decode prog_10_method_11_code 65 = .ok (.iload 6, 2) := by decide +kernel
theorem d_M_make_67 : decode prog_10_method_11_code 67 = .ok (.bipush 56, 2) := by decide +kernel
theorem d_M_make_69 : decode prog_10_method_11_code 69 = .ok (.if_icmp .ne 11, 3) := by decide +kernel
theorem d_M_make_72 : decode prog_10_method_11_code 72 = .ok (.bipush 63, 2) := by decide +kernel
theorem d_M_make_74 : decode prog_10_method_11_code 74 = .ok (.iload 6, 2) := by decide +kernel
theorem d_M_make_76 : decode prog_10_method_11_code 76 = .ok (.isub, 1) := by decide +kernel
theorem d_M_make_77 : decode prog_10_method_11_code 77 = .ok (.goto 5, 3) := by decide +kernel
theorem d_M_make_80 : decode prog_10_method_11_code 80 = .ok (.iload 6, 2) := by decide +kernel
theorem d_M_make_82 : decode prog_10_method_11_code 82 = .ok (.istore 6, 2) := by decide +kernel
theorem d_M_make_84 : decode prog_10_method_11_code 84 = .ok (.iload 6, 2) := by decide +kernel
theorem d_M_make_86 : decode prog_10_method_11_code 86 = .ok (.iload_n 2, 1) := by decide +kernel
theorem d_M_make_87 : decode prog_10_method_11_code 87 = .ok (.invokestatic 95, 3) := by decide +kernel
theorem d_M_make_90 : decode prog_10_method_11_code 90 = .ok (.istore 7, 2) := by decide +kernel
theorem d_M_make_92 : decode prog_10_method_11_code 92 = .ok (.aload_n 0, 1) := by decide +kernel
theorem d_M_make_93 : decode prog_10_method_11_code 93 = .ok (.getfield 13, 3) := by decide +kernel
theorem d_M_make_96 : decode prog_10_method_11_code 96 = .ok (.iload 5, 2) := by decide +kernel
theorem d_M_make_98 : decode prog_10_method_11_code 98 = .ok (.iaload, 1) := by decide +kernel
theorem d_M_make_99 : decode prog_10_method_11_code 99 = .ok (.istore 8, 2) := by decide +kernel
theorem d_M_make_101 : decode prog_10_method_11_code 101 = .ok (.iload_n 3, 1) := by decide +kernel
theorem d_M_make_102 : decode prog_10_method_11_code 102 = .ok (.ifCond .ne 53, 3) := by decide +kernel
theorem d_M_make_105 : decode prog_10_method_11_code 105 = .ok (.iload 7, 2) := by decide +kernel
theorem d_M_make_107 : decode prog_10_method_11_code 107 = .ok (.ifCond .eq 27, 3) := by decide +kernel
theorem d_M_make_110 : decode prog_10_method_11_code 110 = .ok (.iload 4, 2) := by decide +kernel
theorem d_M_make_112 : decode prog_10_method_11_code 112 = .ok (.bipush 11, 2) := by decide +kernel
theorem d_M_make_114 : decode prog_10_method_11_code 114 = .ok (.if_icmp .eq 41, 3) := by decide +kernel
theorem d_M_make_117 : decode prog_10_method_11_code 117 = .ok (.iload 4, 2) := by decide +kernel
theorem d_M_make_119 : decode prog_10_method_11_code 119 = .ok (.bipush 13, 2) := by decide +kernel
theorem d_M_make_121 : decode prog_10_method_11_code 121 = .ok (.if_icmp .eq 34, 3) := by decide +kernel
theorem d_M_make_124 : decode prog_10_method_11_code 124 = .ok (.iload 4, 2) := by decide +kernel
theorem d_M_make_126 : decode prog_10_method_11_code 126 = .ok (.bipush 14, 2) := by decide +kernel
theorem d_M_make_128 : decode prog_10_method_11_code 128 = .ok (.if_icmp .ne 31, 3) := by decide +kernel
theorem d_M_make_131 : decode prog_10_method_11_code 131 = .ok (.goto 24, 3) := by decide +kernel
theorem d_M_make_134 : decode prog_10_method_11_code 134 = .ok (.iload 4, 2) := by decide +kernel
theorem d_M_make_136 : decode prog_10_method_11_code 136 = .ok (.bipush 17, 2) := by decide +kernel
theorem d_M_make_138 : decode prog_10_method_11_code 138 = .ok (.if_icmp .eq 17, 3) := by decide +kernel
theorem d_M_make_141 : decode prog_10_method_11_code 141 = .ok (.iload 4, 2) := by decide +kernel
theorem d_M_make_143 : decode prog_10_method_11_code 143 = .ok (.bipush 18, 2) := by decide +kernel
theorem d_M_make_145 : decode prog_10_method_11_code 145 = .ok (.if_icmp .eq 10, 3) := by decide +kernel
theorem d_M_make_148 : decode prog_10_method_11_code 148 = .ok (.iload 4, 2) := by decide +kernel
theorem d_M_make_150 : decode prog_10_method_11_code 150 = .ok (.bipush 20, 2) := by decide +kernel
theorem d_M_make_152 : decode prog_10_method_11_code 152 = .ok (.if_icmp .ne 7, 3) := by decide +kernel
theorem d_M_make_155 : decode prog_10_method_11_code 155 = .ok (.iconst 1, 1) := by decide +kernel
theorem d_M_make_156 : decode prog_10_method_11_code 156 = .ok (.goto 4, 3) := by decide +kernel
theorem d_M_make_159 : decode prog_10_method_11_code 159 = .ok (.iconst 0, 1) := by decide +kernel
theorem d_M_make_160 : decode prog_10_method_11_code 160 = .ok (.istore 9, 2) := by decide +kernel
theorem d_M_make_162 : decode prog_10_method_11_code 162 = .ok (.iload 5, 2) := by decide +kernel
theorem d_M_make_164 : decode prog_10_method_11_code 164 = .ok (.bipush 7, 2) := by decide +kernel
theorem d_M_make_166 : decode prog_10_method_11_code 166 = .ok (.if_icmp .ne 13, 3) := by decide +kernel
theorem d_M_make_169 : decode prog_10_method_11_code 169 = .ok (.iload 9, 2) := by decide +kernel
theorem d_M_make_171 : decode prog_10_method_11_code 171 = .ok (.ifCond .eq 8, 3) := by decide +kernel
theorem d_M_make_174 : decode prog_10_method_11_code 174 = .ok (.bipush 7, 2) := by decide +kernel
theorem d_M_make_176 : decode prog_10_method_11_code 176 = .ok (.goto 5, 3) := by decide +kernel
theorem d_M_make_179 : decode prog_10_method_11_code 179 = .ok (.iload 8, 2) := by decide +kernel
theorem d_M_make_181 : decode prog_10_method_11_code 181 = .ok (.istore 8, 2) := by decide +kernel
theorem d_M_make_183 : decode prog_10_method_11_code 183 = .ok (.iload 7, 2) := by decide +kernel
theorem d_M_make_185 : decode prog_10_method_11_code 185 = .ok (.ifCond .eq 23, 3) := by decide +kernel
theorem d_M_make_188 : decode prog_10_method_11_code 188 = .ok (.iload 8, 2) := by decide +kernel
theorem d_M_make_190 : decode prog_10_method_11_code 190 = .ok (.invokestatic 91, 3) := by decide +kernel
theorem d_M_make_193 : decode prog_10_method_11_code 193 = .ok (.iconst 2, 1) := by decide +kernel
theorem d_M_make_194 : decode prog_10_method_11_code 194 = .ok (.if_icmp .ne 10, 3) := by decide +kernel
theorem d_M_make_197 : decode prog_10_method_11_code 197 = .ok (.iload 8, 2) := by decide +kernel
theorem d_M_make_199 : decode prog_10_method_11_code 199 = .ok (.bipush 12, 2) := by decide +kernel
theorem d_M_make_201 : decode prog_10_method_11_code 201 = .ok (.if_icmp .ne 7, 3) := by decide +kernel
theorem d_M_make_204 : decode prog_10_method_11_code 204 = .ok (.iconst 1, 1) := by decide +kernel
theorem d_M_make_205 : decode prog_10_method_11_code 205 = .ok (.goto 4, 3) := by decide +kernel
theorem d_M_make_208 : decode prog_10_method_11_code 208 = .ok (.iconst 0, 1) := by decide +kernel
theorem d_M_make_209 : decode prog_10_method_11_code 209 = .ok (.istore 10, 2) := by decide +kernel
theorem d_M_make_211 : decode prog_10_method_11_code 211 = .ok (.iload_n 3, 1) := by decide +kernel
theorem d_M_make_212 : decode prog_10_method_11_code 212 = .ok (.ifCond .eq 40, 3) := by decide +kernel
theorem d_M_make_215 : decode prog_10_method_11_code 215 = .ok (.iload 5, 2) := by decide +kernel
theorem d_M_make_217 : decode prog_10_method_11_code 217 = .ok (.iconst 1, 1) := by decide +kernel
theorem d_M_make_218 : decode prog_10_method_11_code 218 = .ok (.if_icmp .eq 22, 3) := by decide +kernel
theorem d_M_make_221 : decode prog_10_method_11_code 221 = .ok (.iload 5, 2) := by decide +kernel
theorem d_M_make_223 : decode prog_10_method_11_code 223 = .ok (.iconst 2, 1) := by decide +kernel
theorem d_M_make_224 : decode prog_10_method_11_code 224 = .ok (.if_icmp .eq 16, 3) := by decide +kernel
theorem d_M_make_227 : decode prog_10_method_11_code 227 = .ok (.iload 5, 2) := by decide +kernel
theorem d_M_make_229 : decode prog_10_method_11_code 229 = .ok (.iconst 5, 1) := by decide +kernel
theorem d_M_make_230 : decode prog_10_method_11_code 230 = .ok (.if_icmp .eq 10, 3) := by decide +kernel
theorem d_M_make_233 : decode prog_10_method_11_code 233 = .ok (.iload 5, 2) := by decide +kernel
theorem d_M_make_235 : decode prog_10_method_11_code 235 = .ok (.bipush 6, 2) := by decide +kernel
theorem d_M_make_237 : decode prog_10_method_11_code 237 = .ok (.if_icmp .ne 15, 3) := by decide +kernel
theorem d_M_make_240 : decode prog_10_method_11_code 240 = .ok (.iload 7, 2) := by decide +kernel
theorem d_M_make_242 : decode prog_10_method_11_code 242 = .ok (.ifCond .ne 7, 3) := by decide +kernel
theorem d_M_make_245 : decode prog_10_method_11_code 245 = .ok (.iconst 1, 1) := by decide +kernel
theorem d_M_make_246 : decode prog_10_method_11_code 246 = .ok (.goto 4, 3) := by decide +kernel
theorem d_M_make_249 : decode prog_10_method_11_code 249 = .ok (.iconst 0, 1) := by decide +kernel
theorem d_M_make_250 : decode prog_10_method_11_code 250 = .ok (.istore 10, 2) := by decide +kernel
theorem d_M_make_252 : decode prog_10_method_11_code 252 = .ok (.bipush 16, 2) := by decide +kernel
theorem d_M_make_254 : decode prog_10_method_11_code 254 = .ok (.iload 6, 2) := by decide +kernel
theorem d_M_make_256 : decode prog_10_method_11_code 256 = .ok (.imul, 1) := by decide +kernel
theorem d_M_make_257 : decode prog_10_method_11_code 257 = .ok (.iload 10, 2) := by decide +kernel
theorem d_M_make_259 : decode prog_10_method_11_code 259 = .ok (.ifCond .eq 11, 3) := by decide +kernel
theorem d_M_make_262 : decode prog_10_method_11_code 262 = .ok (.bipush 15, 2) := by decide +kernel
theorem d_M_make_264 : decode prog_10_method_11_code 264 = .ok (.iload 8, 2) := by decide +kernel
theorem d_M_make_266 : decode prog_10_method_11_code 266 = .ok (.isub, 1) := by decide +kernel
theorem d_M_make_267 : decode prog_10_method_11_code 267 = .ok (.goto 5, 3) := by decide +kernel
theorem d_M_make_270 : decode prog_10_method_11_code 270 = .ok (.iload 8, 2) := by decide +kernel
theorem d_M_make_272 : decode prog_10_method_11_code 272 = .ok (.iadd, 1) := by decide +kernel
theorem d_M_make_273 : decode prog_10_method_11_code 273 = .ok (.ireturn, 1) := by decide +kernel
theorem d_M_ones_0 : decode prog_10_method_8_code 0 = .ok (.iconst 0, 1) := by decide +kernel
theorem d_M_ones_1 : decode prog_10_method_8_code 1 = .ok (.istore_n 1, 1) := by decide +kernel
theorem d_M_ones_2 : decode prog_10_method_8_code 2 = .ok (.iconst 0, 1) := by decide +kernel
theorem d_M_ones_3 : decode prog_10_method_8_code 3 = .ok (.istore_n 2, 1) := by decide +kernel
theorem d_M_ones_4 : decode prog_10_method_8_code 4 = .ok (.iload_n 2, 1) := by decide +kernel
theorem d_M_ones_5 : decode prog_10_method_8_code 5 = .ok (.bipush 10, 2) := by decide +kernel
theorem d_M_ones_7 : decode prog_10_method_8_code 7 = .ok (.if_icmp .ge 17, 3) := by decide +kernel
theorem d_M_ones_10 : decode prog_10_method_8_code 10 = .ok (.iload_n 1, 1) := by decide +kernel
theorem d_M_ones_11 : decode prog_10_method_8_code 11 = .ok (.iload_n 0, 1) := by decide +kernel
theorem d_M_ones_12 : decode prog_10_method_8_code 12 = .ok (.iload_n 2, 1) := by decide +kernel
theorem d_M_ones_13 : decode prog_10_method_8_code 13 = .ok (.ishr, 1) := by decide +kernel
theorem d_M_ones_14 : decode prog_10_method_8_code 14 = .ok (.iconst 1, 1) := by decide +kernel
theorem d_M_ones_15 : decode prog_10_method_8_code 15 = .ok (.iand, 1) := by decide +kernel
theorem d_M_ones_16 : decode prog_10_method_8_code 16 = .ok (.iadd, 1) := by decide +kernel
theorem d_M_ones_17 : decode prog_10_method_8_code 17 = .ok (.istore_n 1, 1) := by decide +kernel
theorem d_M_ones_18 : decode prog_10_method_8_code 18 = .ok (.iinc 2 1, 3) := by decide +kernel
theorem d_M_ones_21 : decode prog_10_method_8_code 21 = .ok (.goto (-17), 3) := by decide +kernel
theorem d_M_ones_24 : decode prog_10_method_8_code 24 = .ok (.iload_n 1, 1) := by decide +kernel
theorem d_M_ones_25 : decode prog_10_method_8_code 25 = .ok (.ireturn, 1) := by decide +kernel
theorem d_M_behindSix_0 : decode prog_10_method_9_code 0 = .ok (.iload_n 0, 1) := by decide +kernel
theorem d_M_behindSix_1 : decode prog_10_method_9_code 1 = .ok (.invokestatic 91, 3) := by decide +kernel
theorem d_M_behindSix_4 : decode prog_10_method_9_code 4 = .ok (.istore_n 2, 1) := by decide +kernel
theorem d_M_behindSix_5 : decode prog_10_method_9_code 5 = .ok (.iload_n 2, 1) := by decide +kernel
theorem d_M_behindSix_6 : decode prog_10_method_9_code 6 = .ok (.iconst 3, 1) := by decide +kernel
theorem d_M_behindSix_7 : decode prog_10_method_9_code 7 = .ok (.if_icmp .gt 24, 3) := by decide +kernel
theorem d_M_behindSix_10 : decode prog_10_method_9_code 10 = .ok (.iload_n 0, 1) := by decide +kernel
theorem d_M_behindSix_11 : decode prog_10_method_9_code 11 = .ok (.bipush 7, 2) := by decide +kernel
theorem d_M_behindSix_13 : decode prog_10_method_9_code 13 = .ok (.if_icmp .eq 18, 3) := by decide +kernel
theorem d_M_behindSix_16 : decode prog_10_method_9_code 16 = .ok (.iload_n 2, 1) := by decide +kernel
theorem d_M_behindSix_17 : decode prog_10_method_9_code 17 = .ok (.iconst 3, 1) := by decide +kernel
theorem d_M_behindSix_18 : decode prog_10_method_9_code 18 = .ok (.if_icmp .ne 17, 3) := by decide +kernel
theorem d_M_behindSix_21 : decode prog_10_method_9_code 21 = .ok (.iload_n 0, 1) := by decide +kernel
theorem d_M_behindSix_22 : decode prog_10_method_9_code 22 = .ok (.bipush 56, 2) := by decide +kernel
theorem d_M_behindSix_24 : decode prog_10_method_9_code 24 = .ok (.if_icmp .eq 11, 3) := by decide +kernel
theorem d_M_behindSix_27 : decode prog_10_method_9_code 27 = .ok (.iload_n 1, 1) := by decide +kernel
theorem d_M_behindSix_28 : decode prog_10_method_9_code 28 = .ok (.ifCond .eq 7, 3) := by decide +kernel
theorem d_M_behindSix_31 : decode prog_10_method_9_code 31 = .ok (.iconst 1, 1) := by decide +kernel
theorem d_M_behindSix_32 : decode prog_10_method_9_code 32 = .ok (.goto 4, 3) := by decide +kernel
theorem d_M_behindSix_35 : decode prog_10_method_9_code 35 = .ok (.iconst 0, 1) := by decide +kernel
theorem d_M_behindSix_36 : decode prog_10_method_9_code 36 = .ok (.ireturn, 1) := by decide +kernel
theorem d_M_empty_0 : decode prog_10_method_5_code 0 = .ok (.iconst 0, 1) := by decide +kernel
theorem d_M_empty_1 : decode prog_10_method_5_code 1 = .ok (.istore_n 1, 1) := by decide +kernel
theorem d_M_empty_2 : decode prog_10_method_5_code 2 = .ok (.iload_n 1, 1) := by decide +kernel
theorem d_M_empty_3 : decode prog_10_method_5_code 3 = .ok (.iconst 2, 1) := by decide +kernel
theorem d_M_empty_4 : decode prog_10_method_5_code 4 = .ok (.if_icmp .ge 51, 3) := by decide +kernel
theorem d_M_empty_7 : decode prog_10_method_5_code 7 = .ok (.aload_n 0, 1) := by decide +kernel
theorem d_M_empty_8 : decode prog_10_method_5_code 8 = .ok (.getfield 25, 3) := by decide +kernel
theorem d_M_empty_11 : decode prog_10_method_5_code 11 = .ok (.iload_n 1, 1) := by decide +kernel
theorem d_M_empty_12 : decode prog_10_method_5_code 12 = .ok (.iconst 0, 1) := by decide +kernel
theorem d_M_empty_13 : decode prog_10_method_5_code 13 = .ok (.iastore, 1) := by decide +kernel
theorem d_M_empty_14 : decode prog_10_method_5_code 14 = .ok (.aload_n 0, 1) := by decide +kernel
theorem d_M_empty_15 : decode prog_10_method_5_code 15 = .ok (.getfield 28, 3) := by decide +kernel
theorem d_M_empty_18 : decode prog_10_method_5_code 18 = .ok (.iload_n 1, 1) := by decide +kernel
theorem d_M_empty_19 : decode prog_10_method_5_code 19 = .ok (.iconst 0, 1) := by decide +kernel
theorem d_M_empty_20 : decode prog_10_method_5_code 20 = .ok (.iastore, 1) := by decide +kernel
theorem d_M_empty_21 : decode prog_10_method_5_code 21 = .ok (.aload_n 0, 1) := by decide +kernel
theorem d_M_empty_22 : decode prog_10_method_5_code 22 = .ok (.getfield 31, 3) := by decide +kernel
theorem d_M_empty_25 : decode prog_10_method_5_code 25 = .ok (.iload_n 1, 1) := by decide +kernel
theorem d_M_empty_26 : decode prog_10_method_5_code 26 = .ok (.iconst 0, 1) := by decide +kernel
theorem d_M_empty_27 : decode prog_10_method_5_code 27 = .ok (.bastore, 1) := by decide +kernel
theorem d_M_empty_28 : decode prog_10_method_5_code 28 = .ok (.aload_n 0, 1) := by decide +kernel
theorem d_M_empty_29 : decode prog_10_method_5_code 29 = .ok (.getfield 35, 3) := by decide +kernel
theorem d_M_empty_32 : decode prog_10_method_5_code 32 = .ok (.iload_n 1, 1) := by decide +kernel
theorem d_M_empty_33 : decode prog_10_method_5_code 33 = .ok (.iconst 0, 1) := by decide +kernel
theorem d_M_empty_34 : decode prog_10_method_5_code 34 = .ok (.iastore, 1) := by decide +kernel
theorem d_M_empty_35 : decode prog_10_method_5_code 35 = .ok (.aload_n 0, 1) := by decide +kernel
theorem d_M_empty_36 : decode prog_10_method_5_code 36 = .ok (.getfield 38, 3) := by decide +kernel
theorem d_M_empty_39 : decode prog_10_method_5_code 39 = .ok (.iload_n 1, 1) := by decide +kernel
theorem d_M_empty_40 : decode prog_10_method_5_code 40 = .ok (.iconst 0, 1) := by decide +kernel
theorem d_M_empty_41 : decode prog_10_method_5_code 41 = .ok (.iastore, 1) := by decide +kernel
theorem d_M_empty_42 : decode prog_10_method_5_code 42 = .ok (.aload_n 0, 1) := by decide +kernel
theorem d_M_empty_43 : decode prog_10_method_5_code 43 = .ok (.getfield 41, 3) := by decide +kernel
theorem d_M_empty_46 : decode prog_10_method_5_code 46 = .ok (.iload_n 1, 1) := by decide +kernel
theorem d_M_empty_47 : decode prog_10_method_5_code 47 = .ok (.iconst 0, 1) := by decide +kernel
theorem d_M_empty_48 : decode prog_10_method_5_code 48 = .ok (.iastore, 1) := by decide +kernel
theorem d_M_empty_49 : decode prog_10_method_5_code 49 = .ok (.iinc 1 1, 3) := by decide +kernel
theorem d_M_empty_52 : decode prog_10_method_5_code 52 = .ok (.goto (-50), 3) := by decide +kernel
theorem d_M_empty_55 : decode prog_10_method_5_code 55 = .ok (.iconst 0, 1) := by decide +kernel
theorem d_M_empty_56 : decode prog_10_method_5_code 56 = .ok (.istore_n 1, 1) := by decide +kernel
theorem d_M_empty_57 : decode prog_10_method_5_code 57 = .ok (.iload_n 1, 1) := by decide +kernel
theorem d_M_empty_58 : decode prog_10_method_5_code 58 = .ok (.bipush 58, 2) := by decide +kernel
theorem d_M_empty_60 : decode prog_10_method_5_code 60 = .ok (.if_icmp .ge 23, 3) := by decide +kernel
theorem d_M_empty_63 : decode prog_10_method_5_code 63 = .ok (.aload_n 0, 1) := by decide +kernel
theorem d_M_empty_64 : decode prog_10_method_5_code 64 = .ok (.getfield 44, 3) := by decide +kernel
theorem d_M_empty_67 : decode prog_10_method_5_code 67 = .ok (.iload_n 1, 1) := by decide +kernel
theorem d_M_empty_68 : decode prog_10_method_5_code 68 = .ok (.iconst 1, 1) := by decide +kernel
theorem d_M_empty_69 : decode prog_10_method_5_code 69 = .ok (.iastore, 1) := by decide +kernel
theorem d_M_empty_70 : decode prog_10_method_5_code 70 = .ok (.aload_n 0, 1) := by decide +kernel
theorem d_M_empty_71 : decode prog_10_method_5_code 71 = .ok (.getfield 47, 3) := by decide +kernel
theorem d_M_empty_74 : decode prog_10_method_5_code 74 = .ok (.iload_n 1, 1) := by decide +kernel
theorem d_M_empty_75 : decode prog_10_method_5_code 75 = .ok (.iconst 1, 1) := by decide +kernel
theorem d_M_empty_76 : decode prog_10_method_5_code 76 = .ok (.iastore, 1) := by decide +kernel
theorem d_M_empty_77 : decode prog_10_method_5_code 77 = .ok (.iinc 1 1, 3) := by decide +kernel
theorem d_M_empty_80 : decode prog_10_method_5_code 80 = .ok (.goto (-23), 3) := by decide +kernel
theorem d_M_empty_83 : decode prog_10_method_5_code 83 = .ok (.aload_n 0, 1) := by decide +kernel
theorem d_M_empty_84 : decode prog_10_method_5_code 84 = .ok (.iconst 0, 1) := by decide +kernel
theorem d_M_empty_85 : decode prog_10_method_5_code 85 = .ok (.putfield 65, 3) := by decide +kernel
theorem d_M_empty_88 : decode prog_10_method_5_code 88 = .ok (.aload_n 0, 1) := by decide +kernel
theorem d_M_empty_89 : decode prog_10_method_5_code 89 = .ok (.iconst 0, 1) := by decide +kernel
theorem d_M_empty_90 : decode prog_10_method_5_code 90 = .ok (.putfield 68, 3) := by decide +kernel
theorem d_M_empty_93 : decode prog_10_method_5_code 93 = .ok (.aload_n 0, 1) := by decide +kernel
theorem d_M_empty_94 : decode prog_10_method_5_code 94 = .ok (.iconst 0, 1) := by decide +kernel
theorem d_M_empty_95 : decode prog_10_method_5_code 95 = .ok (.putfield 72, 3) := by decide +kernel
theorem d_M_empty_98 : decode prog_10_method_5_code 98 = .ok (.aload_n 0, 1) := by decide +kernel
theorem d_M_empty_99 : decode prog_10_method_5_code 99 = .ok (.iconst 0, 1) := by decide +kernel
theorem d_M_empty_100 : decode prog_10_method_5_code 100 = .ok (.putfield 75, 3) := by decide +kernel
theorem d_M_empty_103 : decode prog_10_method_5_code 103 = .ok (.aload_n 0, 1) := by decide +kernel
theorem d_M_empty_104 : decode prog_10_method_5_code 104 = .ok (.iconst 0, 1) := by decide +kernel
theorem d_M_empty_105 : decode prog_10_method_5_code 105 = .ok (.putfield 78, 3) := by decide +kernel
theorem d_M_empty_108 : decode prog_10_method_5_code 108 = .ok (.aload_n 0, 1) := by decide +kernel
theorem d_M_empty_109 : decode prog_10_method_5_code 109 = .ok (.iconst 0, 1) := by decide +kernel
theorem d_M_empty_110 : decode prog_10_method_5_code 110 = .ok (.putfield 81, 3) := by decide +kernel
theorem d_M_empty_113 : decode prog_10_method_5_code 113 = .ok (.aload_n 0, 1) := by decide +kernel
theorem d_M_empty_114 : decode prog_10_method_5_code 114 = .ok (.iconst 0, 1) := by decide +kernel
theorem d_M_empty_115 : decode prog_10_method_5_code 115 = .ok (.putfield 84, 3) := by decide +kernel
theorem d_M_empty_118 : decode prog_10_method_5_code 118 = .ok (.aload_n 0, 1) := by decide +kernel
theorem d_M_empty_119 : decode prog_10_method_5_code 119 = .ok (.lconst 0, 1) := by decide +kernel
theorem d_M_empty_120 : decode prog_10_method_5_code 120 = .ok (.putfield 87, 3) := by decide +kernel
theorem d_M_empty_123 : decode prog_10_method_5_code 123 = .ok (.return_, 1) := by decide +kernel
theorem d_M_thrown_0 : decode prog_10_method_2_code 0 = .ok (.aload_n 0, 1) := by decide +kernel
theorem d_M_thrown_1 : decode prog_10_method_2_code 1 = .ok (.getfield 61, 3) := by decide +kernel
theorem d_M_thrown_4 : decode prog_10_method_2_code 4 = .ok (.ireturn, 1) := by decide +kernel
theorem d_M_clear_0 : decode prog_10_method_6_code 0 = .ok (.aload_n 0, 1) := by decide +kernel
theorem d_M_clear_1 : decode prog_10_method_6_code 1 = .ok (.iconst 0, 1) := by decide +kernel
theorem d_M_clear_2 : decode prog_10_method_6_code 2 = .ok (.putfield 61, 3) := by decide +kernel
theorem d_M_clear_5 : decode prog_10_method_6_code 5 = .ok (.aload_n 0, 1) := by decide +kernel
theorem d_M_clear_6 : decode prog_10_method_6_code 6 = .ok (.invokevirtual 58, 3) := by decide +kernel
theorem d_M_clear_9 : decode prog_10_method_6_code 9 = .ok (.return_, 1) := by decide +kernel
theorem d_M_code_0 : decode prog_10_method_13_code 0 = .ok (.aload_n 0, 1) := by decide +kernel
theorem d_M_code_1 : decode prog_10_method_13_code 1 = .ok (.iload_n 1, 1) := by decide +kernel
theorem d_M_code_2 : decode prog_10_method_13_code 2 = .ok (.invokestatic 50, 3) := by decide +kernel
theorem d_M_code_5 : decode prog_10_method_13_code 5 = .ok (.ifCond .eq 7, 3) := by decide +kernel
theorem d_M_code_8 : decode prog_10_method_13_code 8 = .ok (.iconst 0, 1) := by decide +kernel
theorem d_M_code_9 : decode prog_10_method_13_code 9 = .ok (.goto 4, 3) := by decide +kernel
theorem d_M_code_12 : decode prog_10_method_13_code 12 = .ok (.iconst 1, 1) := by decide +kernel
theorem d_M_code_13 : decode prog_10_method_13_code 13 = .ok (.invokevirtual 102, 3) := by decide +kernel
theorem d_M_code_16 : decode prog_10_method_13_code 16 = .ok (.ifCond .eq 5, 3) := by decide +kernel
theorem d_M_code_19 : decode prog_10_method_13_code 19 = .ok (.iconst 0, 1) := by decide +kernel
theorem d_M_code_20 : decode prog_10_method_13_code 20 = .ok (.ireturn, 1) := by decide +kernel
theorem d_M_code_21 : decode prog_10_method_13_code 21 = .ok (.aload_n 0, 1) := by decide +kernel
theorem d_M_code_22 : decode prog_10_method_13_code 22 = .ok (.getfield 16, 3) := by decide +kernel
theorem d_M_code_25 : decode prog_10_method_13_code 25 = .ok (.iconst 2, 1) := by decide +kernel
theorem d_M_code_26 : decode prog_10_method_13_code 26 = .ok (.iload_n 1, 1) := by decide +kernel
theorem d_M_code_27 : decode prog_10_method_13_code 27 = .ok (.imul, 1) := by decide +kernel
theorem d_M_code_28 : decode prog_10_method_13_code 28 = .ok (.iload_n 2, 1) := by decide +kernel
theorem d_M_code_29 : decode prog_10_method_13_code 29 = .ok (.ifCond .eq 7, 3) := by decide +kernel
theorem d_M_code_32 : decode prog_10_method_13_code 32 = .ok (.iconst 1, 1) := by decide +kernel
theorem d_M_code_33 : decode prog_10_method_13_code 33 = .ok (.goto 4, 3) := by decide +kernel
theorem d_M_code_36 : decode prog_10_method_13_code 36 = .ok (.iconst 0, 1) := by decide +kernel
theorem d_M_code_37 : decode prog_10_method_13_code 37 = .ok (.iadd, 1) := by decide +kernel
theorem d_M_code_38 : decode prog_10_method_13_code 38 = .ok (.iaload, 1) := by decide +kernel
theorem d_M_code_39 : decode prog_10_method_13_code 39 = .ok (.ireturn, 1) := by decide +kernel
theorem d_M_refused_0 : decode prog_10_method_3_code 0 = .ok (.aload_n 0, 1) := by decide +kernel
theorem d_M_refused_1 : decode prog_10_method_3_code 1 = .ok (.iload_n 1, 1) := by decide +kernel
theorem d_M_refused_2 : decode prog_10_method_3_code 2 = .ok (.putfield 61, 3) := by decide +kernel
theorem d_M_refused_5 : decode prog_10_method_3_code 5 = .ok (.iload_n 1, 1) := by decide +kernel
theorem d_M_refused_6 : decode prog_10_method_3_code 6 = .ok (.ifCond .le 7, 3) := by decide +kernel
theorem d_M_refused_9 : decode prog_10_method_3_code 9 = .ok (.iconst 1, 1) := by decide +kernel
theorem d_M_refused_10 : decode prog_10_method_3_code 10 = .ok (.goto 4, 3) := by decide +kernel
theorem d_M_refused_13 : decode prog_10_method_3_code 13 = .ok (.iconst 0, 1) := by decide +kernel
theorem d_M_refused_14 : decode prog_10_method_3_code 14 = .ok (.ireturn, 1) := by decide +kernel
theorem d_M_symbol_0 : decode prog_10_method_14_code 0 = .ok (.aload_n 0, 1) := by decide +kernel
theorem d_M_symbol_1 : decode prog_10_method_14_code 1 = .ok (.iload_n 1, 1) := by decide +kernel
theorem d_M_symbol_2 : decode prog_10_method_14_code 2 = .ok (.iconst 0, 1) := by decide +kernel
theorem d_M_symbol_3 : decode prog_10_method_14_code 3 = .ok (.sipush 1023, 3) := by decide +kernel
theorem d_M_symbol_6 : decode prog_10_method_14_code 6 = .ok (.invokestatic 105, 3) := by decide +kernel
theorem d_M_symbol_9 : decode prog_10_method_14_code 9 = .ok (.ifCond .eq 7, 3) := by decide +kernel
theorem d_M_symbol_12 : decode prog_10_method_14_code 12 = .ok (.iconst 0, 1) := by decide +kernel
theorem d_M_symbol_13 : decode prog_10_method_14_code 13 = .ok (.goto 4, 3) := by decide +kernel
theorem d_M_symbol_16 : decode prog_10_method_14_code 16 = .ok (.iconst 1, 1) := by decide +kernel
theorem d_M_symbol_17 : decode prog_10_method_14_code 17 = .ok (.invokevirtual 102, 3) := by decide +kernel
theorem d_M_symbol_20 : decode prog_10_method_14_code 20 = .ok (.ifCond .eq 5, 3) := by decide +kernel
theorem d_M_symbol_23 : decode prog_10_method_14_code 23 = .ok (.iconst 0, 1) := by decide +kernel
theorem d_M_symbol_24 : decode prog_10_method_14_code 24 = .ok (.ireturn, 1) := by decide +kernel
theorem d_M_symbol_25 : decode prog_10_method_14_code 25 = .ok (.aload_n 0, 1) := by decide +kernel
theorem d_M_symbol_26 : decode prog_10_method_14_code 26 = .ok (.getfield 19, 3) := by decide +kernel
theorem d_M_symbol_29 : decode prog_10_method_14_code 29 = .ok (.iload_n 1, 1) := by decide +kernel
theorem d_M_symbol_30 : decode prog_10_method_14_code 30 = .ok (.iaload, 1) := by decide +kernel
theorem d_M_symbol_31 : decode prog_10_method_14_code 31 = .ok (.ireturn, 1) := by decide +kernel
theorem d_M_isIn_0 : decode prog_10_method_4_code 0 = .ok (.iload_n 0, 1) := by decide +kernel
theorem d_M_isIn_1 : decode prog_10_method_4_code 1 = .ok (.iload_n 1, 1) := by decide +kernel
theorem d_M_isIn_2 : decode prog_10_method_4_code 2 = .ok (.if_icmp .lt 12, 3) := by decide +kernel
theorem d_M_isIn_5 : decode prog_10_method_4_code 5 = .ok (.iload_n 0, 1) := by decide +kernel
theorem d_M_isIn_6 : decode prog_10_method_4_code 6 = .ok (.iload_n 2, 1) := by decide +kernel
theorem d_M_isIn_7 : decode prog_10_method_4_code 7 = .ok (.if_icmp .gt 7, 3) := by decide +kernel
theorem d_M_isIn_10 : decode prog_10_method_4_code 10 = .ok (.iconst 1, 1) := by decide +kernel
theorem d_M_isIn_11 : decode prog_10_method_4_code 11 = .ok (.goto 4, 3) := by decide +kernel
theorem d_M_isIn_14 : decode prog_10_method_4_code 14 = .ok (.iconst 0, 1) := by decide +kernel
theorem d_M_isIn_15 : decode prog_10_method_4_code 15 = .ok (.ireturn, 1) := by decide +kernel
theorem d_M_send_0 : decode prog_10_method_16_code 0 = .ok (.aload_n 0, 1) := by decide +kernel
theorem d_M_send_1 : decode prog_10_method_16_code 1 = .ok (.iload_n 1, 1) := by decide +kernel
theorem d_M_send_2 : decode prog_10_method_16_code 2 = .ok (.invokestatic 50, 3) := by decide +kernel
theorem d_M_send_5 : decode prog_10_method_16_code 5 = .ok (.ifCond .ne 7, 3) := by decide +kernel
theorem d_M_send_8 : decode prog_10_method_16_code 8 = .ok (.iconst 1, 1) := by decide +kernel
theorem d_M_send_9 : decode prog_10_method_16_code 9 = .ok (.goto 23, 3) := by decide +kernel
theorem d_M_send_12 : decode prog_10_method_16_code 12 = .ok (.aload_n 0, 1) := by decide +kernel
theorem d_M_send_13 : decode prog_10_method_16_code 13 = .ok (.getfield 25, 3) := by decide +kernel
theorem d_M_send_16 : decode prog_10_method_16_code 16 = .ok (.iconst 0, 1) := by decide +kernel
theorem d_M_send_17 : decode prog_10_method_16_code 17 = .ok (.iaload, 1) := by decide +kernel
theorem d_M_send_18 : decode prog_10_method_16_code 18 = .ok (.bipush 10, 2) := by decide +kernel
theorem d_M_send_20 : decode prog_10_method_16_code 20 = .ok (.iadd, 1) := by decide +kernel
theorem d_M_send_21 : decode prog_10_method_16_code 21 = .ok (.sipush 2640, 3) := by decide +kernel
theorem d_M_send_24 : decode prog_10_method_16_code 24 = .ok (.if_icmp .le 7, 3) := by decide +kernel
theorem d_M_send_27 : decode prog_10_method_16_code 27 = .ok (.iconst 2, 1) := by decide +kernel
theorem d_M_send_28 : decode prog_10_method_16_code 28 = .ok (.goto 4, 3) := by decide +kernel
theorem d_M_send_31 : decode prog_10_method_16_code 31 = .ok (.iconst 0, 1) := by decide +kernel
theorem d_M_send_32 : decode prog_10_method_16_code 32 = .ok (.invokevirtual 102, 3) := by decide +kernel
theorem d_M_send_35 : decode prog_10_method_16_code 35 = .ok (.ifCond .eq 5, 3) := by decide +kernel
theorem d_M_send_38 : decode prog_10_method_16_code 38 = .ok (.iconst 0, 1) := by decide +kernel
theorem d_M_send_39 : decode prog_10_method_16_code 39 = .ok (.ireturn, 1) := by decide +kernel
theorem d_M_send_40 : decode prog_10_method_16_code 40 = .ok (.aload_n 0, 1) := by decide +kernel
theorem d_M_send_41 : decode prog_10_method_16_code 41 = .ok (.getfield 16, 3) := by decide +kernel
theorem d_M_send_44 : decode prog_10_method_16_code 44 = .ok (.iconst 2, 1) := by decide +kernel
theorem d_M_send_45 : decode prog_10_method_16_code 45 = .ok (.iload_n 1, 1) := by decide +kernel
theorem d_M_send_46 : decode prog_10_method_16_code 46 = .ok (.imul, 1) := by decide +kernel
theorem d_M_send_47 : decode prog_10_method_16_code 47 = .ok (.aload_n 0, 1) := by decide +kernel
theorem d_M_send_48 : decode prog_10_method_16_code 48 = .ok (.getfield 68, 3) := by decide +kernel
theorem d_M_send_51 : decode prog_10_method_16_code 51 = .ok (.ifCond .eq 7, 3) := by decide +kernel
theorem d_M_send_54 : decode prog_10_method_16_code 54 = .ok (.iconst 1, 1) := by decide +kernel
theorem d_M_send_55 : decode prog_10_method_16_code 55 = .ok (.goto 4, 3) := by decide +kernel
theorem d_M_send_58 : decode prog_10_method_16_code 58 = .ok (.iconst 0, 1) := by decide +kernel
theorem d_M_send_59 : decode prog_10_method_16_code 59 = .ok (.iadd, 1) := by decide +kernel
theorem d_M_send_60 : decode prog_10_method_16_code 60 = .ok (.iaload, 1) := by decide +kernel
theorem d_M_send_61 : decode prog_10_method_16_code 61 = .ok (.istore_n 2, 1) := by decide +kernel
theorem d_M_send_62 : decode prog_10_method_16_code 62 = .ok (.bipush 9, 2) := by decide +kernel
theorem d_M_send_64 : decode prog_10_method_16_code 64 = .ok (.istore_n 3, 1) := by decide +kernel
theorem d_M_send_65 : decode prog_10_method_16_code 65 = .ok (.iload_n 3, 1) := by decide +kernel
theorem d_M_send_66 : decode prog_10_method_16_code 66 = .ok (.ifCond .lt 19, 3) := by decide +kernel
theorem d_M_send_69 : decode prog_10_method_16_code 69 = .ok (.aload_n 0, 1) := by decide +kernel
theorem d_M_send_70 : decode prog_10_method_16_code 70 = .ok (.iconst 0, 1) := by decide +kernel
theorem d_M_send_71 : decode prog_10_method_16_code 71 = .ok (.iload_n 2, 1) := by decide +kernel
theorem d_M_send_72 : decode prog_10_method_16_code 72 = .ok (.iload_n 3, 1) := by decide +kernel
theorem d_M_send_73 : decode prog_10_method_16_code 73 = .ok (.ishr, 1) := by decide +kernel
theorem d_M_send_74 : decode prog_10_method_16_code 74 = .ok (.iconst 1, 1) := by decide +kernel
theorem d_M_send_75 : decode prog_10_method_16_code 75 = .ok (.iand, 1) := by decide +kernel
theorem d_M_send_76 : decode prog_10_method_16_code 76 = .ok (.invokevirtual 109, 3) := by decide +kernel
theorem d_M_send_79 : decode prog_10_method_16_code 79 = .ok (.iinc 3 (-1), 3) := by decide +kernel
theorem d_M_send_82 : decode prog_10_method_16_code 82 = .ok (.goto (-17), 3) := by decide +kernel
theorem d_M_send_85 : decode prog_10_method_16_code 85 = .ok (.aload_n 0, 1) := by decide +kernel
theorem d_M_send_86 : decode prog_10_method_16_code 86 = .ok (.iload_n 2, 1) := by decide +kernel
theorem d_M_send_87 : decode prog_10_method_16_code 87 = .ok (.aload_n 0, 1) := by decide +kernel
theorem d_M_send_88 : decode prog_10_method_16_code 88 = .ok (.getfield 68, 3) := by decide +kernel
theorem d_M_send_91 : decode prog_10_method_16_code 91 = .ok (.invokestatic 113, 3) := by decide +kernel
theorem d_M_send_94 : decode prog_10_method_16_code 94 = .ok (.putfield 68, 3) := by decide +kernel
theorem d_M_send_97 : decode prog_10_method_16_code 97 = .ok (.iload_n 2, 1) := by decide +kernel
theorem d_M_send_98 : decode prog_10_method_16_code 98 = .ok (.ireturn, 1) := by decide +kernel
theorem d_M_append_0 : decode prog_10_method_15_code 0 = .ok (.aload_n 0, 1) := by decide +kernel
theorem d_M_append_1 : decode prog_10_method_15_code 1 = .ok (.getfield 22, 3) := by decide +kernel
theorem d_M_append_4 : decode prog_10_method_15_code 4 = .ok (.sipush 2640, 3) := by decide +kernel
theorem d_M_append_7 : decode prog_10_method_15_code 7 = .ok (.iload_n 1, 1) := by decide +kernel
theorem d_M_append_8 : decode prog_10_method_15_code 8 = .ok (.imul, 1) := by decide +kernel
theorem d_M_append_9 : decode prog_10_method_15_code 9 = .ok (.aload_n 0, 1) := by decide +kernel
theorem d_M_append_10 : decode prog_10_method_15_code 10 = .ok (.getfield 25, 3) := by decide +kernel
theorem d_M_append_13 : decode prog_10_method_15_code 13 = .ok (.iload_n 1, 1) := by decide +kernel
theorem d_M_append_14 : decode prog_10_method_15_code 14 = .ok (.iaload, 1) := by decide +kernel
theorem d_M_append_15 : decode prog_10_method_15_code 15 = .ok (.iadd, 1) := by decide +kernel
theorem d_M_append_16 : decode prog_10_method_15_code 16 = .ok (.iload_n 2, 1) := by decide +kernel
theorem d_M_append_17 : decode prog_10_method_15_code 17 = .ok (.iastore, 1) := by decide +kernel
theorem d_M_append_18 : decode prog_10_method_15_code 18 = .ok (.aload_n 0, 1) := by decide +kernel
theorem d_M_append_19 : decode prog_10_method_15_code 19 = .ok (.getfield 25, 3) := by decide +kernel
theorem d_M_append_22 : decode prog_10_method_15_code 22 = .ok (.iload_n 1, 1) := by decide +kernel
theorem d_M_append_23 : decode prog_10_method_15_code 23 = .ok (.dup2, 1) := by decide +kernel
theorem d_M_append_24 : decode prog_10_method_15_code 24 = .ok (.iaload, 1) := by decide +kernel
theorem d_M_append_25 : decode prog_10_method_15_code 25 = .ok (.iconst 1, 1) := by decide +kernel
theorem d_M_append_26 : decode prog_10_method_15_code 26 = .ok (.iadd, 1) := by decide +kernel
theorem d_M_append_27 : decode prog_10_method_15_code 27 = .ok (.iastore, 1) := by decide +kernel
theorem d_M_append_28 : decode prog_10_method_15_code 28 = .ok (.return_, 1) := by decide +kernel
theorem d_M_behind_0 : decode prog_10_method_12_code 0 = .ok (.iload_n 0, 1) := by decide +kernel
theorem d_M_behind_1 : decode prog_10_method_12_code 1 = .ok (.bipush 15, 2) := by decide +kernel
theorem d_M_behind_3 : decode prog_10_method_12_code 3 = .ok (.iand, 1) := by decide +kernel
theorem d_M_behind_4 : decode prog_10_method_12_code 4 = .ok (.iload_n 0, 1) := by decide +kernel
theorem d_M_behind_5 : decode prog_10_method_12_code 5 = .ok (.iconst 4, 1) := by decide +kernel
theorem d_M_behind_6 : decode prog_10_method_12_code 6 = .ok (.ishr, 1) := by decide +kernel
theorem d_M_behind_7 : decode prog_10_method_12_code 7 = .ok (.iload_n 1, 1) := by decide +kernel
theorem d_M_behind_8 : decode prog_10_method_12_code 8 = .ok (.invokestatic 95, 3) := by decide +kernel
theorem d_M_behind_11 : decode prog_10_method_12_code 11 = .ok (.invokestatic 99, 3) := by decide +kernel
theorem d_M_behind_14 : decode prog_10_method_12_code 14 = .ok (.ireturn, 1) := by decide +kernel
theorem d_M_behindFour_0 : decode prog_10_method_10_code 0 = .ok (.iload_n 0, 1) := by decide +kernel
theorem d_M_behindFour_1 : decode prog_10_method_10_code 1 = .ok (.invokestatic 91, 3) := by decide +kernel
theorem d_M_behindFour_4 : decode prog_10_method_10_code 4 = .ok (.istore_n 2, 1) := by decide +kernel
theorem d_M_behindFour_5 : decode prog_10_method_10_code 5 = .ok (.iload_n 2, 1) := by decide +kernel
theorem d_M_behindFour_6 : decode prog_10_method_10_code 6 = .ok (.iconst 2, 1) := by decide +kernel
theorem d_M_behindFour_7 : decode prog_10_method_10_code 7 = .ok (.if_icmp .gt 23, 3) := by decide +kernel
theorem d_M_behindFour_10 : decode prog_10_method_10_code 10 = .ok (.iload_n 0, 1) := by decide +kernel
theorem d_M_behindFour_11 : decode prog_10_method_10_code 11 = .ok (.iconst 3, 1) := by decide +kernel
theorem d_M_behindFour_12 : decode prog_10_method_10_code 12 = .ok (.if_icmp .eq 18, 3) := by decide +kernel
theorem d_M_behindFour_15 : decode prog_10_method_10_code 15 = .ok (.iload_n 2, 1) := by decide +kernel
theorem d_M_behindFour_16 : decode prog_10_method_10_code 16 = .ok (.iconst 2, 1) := by decide +kernel
theorem d_M_behindFour_17 : decode prog_10_method_10_code 17 = .ok (.if_icmp .ne 17, 3) := by decide +kernel
theorem d_M_behindFour_20 : decode prog_10_method_10_code 20 = .ok (.iload_n 0, 1) := by decide +kernel
theorem d_M_behindFour_21 : decode prog_10_method_10_code 21 = .ok (.bipush 12, 2) := by decide +kernel
theorem d_M_behindFour_23 : decode prog_10_method_10_code 23 = .ok (.if_icmp .eq 11, 3) := by decide +kernel
theorem d_M_behindFour_26 : decode prog_10_method_10_code 26 = .ok (.iload_n 1, 1) := by decide +kernel
theorem d_M_behindFour_27 : decode prog_10_method_10_code 27 = .ok (.ifCond .eq 7, 3) := by decide +kernel
theorem d_M_behindFour_30 : decode prog_10_method_10_code 30 = .ok (.iconst 1, 1) := by decide +kernel
theorem d_M_behindFour_31 : decode prog_10_method_10_code 31 = .ok (.goto 4, 3) := by decide +kernel
theorem d_M_behindFour_34 : decode prog_10_method_10_code 34 = .ok (.iconst 0, 1) := by decide +kernel
theorem d_M_behindFour_35 : decode prog_10_method_10_code 35 = .ok (.ireturn, 1) := by decide +kernel
theorem d_M_receive_0 : decode prog_10_method_18_code 0 = .ok (.aload_n 0, 1) := by decide +kernel
theorem d_M_receive_1 : decode prog_10_method_18_code 1 = .ok (.iconst 0, 1) := by decide +kernel
theorem d_M_receive_2 : decode prog_10_method_18_code 2 = .ok (.putfield 61, 3) := by decide +kernel
theorem d_M_receive_5 : decode prog_10_method_18_code 5 = .ok (.aload_n 0, 1) := by decide +kernel
theorem d_M_receive_6 : decode prog_10_method_18_code 6 = .ok (.getfield 31, 3) := by decide +kernel
theorem d_M_receive_9 : decode prog_10_method_18_code 9 = .ok (.iconst 0, 1) := by decide +kernel
theorem d_M_receive_10 : decode prog_10_method_18_code 10 = .ok (.baload, 1) := by decide +kernel
theorem d_M_receive_11 : decode prog_10_method_18_code 11 = .ok (.ifCond .ne 88, 3) := by decide +kernel
theorem d_M_receive_14 : decode prog_10_method_18_code 14 = .ok (.aload_n 0, 1) := by decide +kernel
theorem d_M_receive_15 : decode prog_10_method_18_code 15 = .ok (.getfield 25, 3) := by decide +kernel
theorem d_M_receive_18 : decode prog_10_method_18_code 18 = .ok (.iconst 0, 1) := by decide +kernel
theorem d_M_receive_19 : decode prog_10_method_18_code 19 = .ok (.iaload, 1) := by decide +kernel
theorem d_M_receive_20 : decode prog_10_method_18_code 20 = .ok (.aload_n 0, 1) := by decide +kernel
theorem d_M_receive_21 : decode prog_10_method_18_code 21 = .ok (.getfield 28, 3) := by decide +kernel
theorem d_M_receive_24 : decode prog_10_method_18_code 24 = .ok (.iconst 0, 1) := by decide +kernel
theorem d_M_receive_25 : decode prog_10_method_18_code 25 = .ok (.iaload, 1) := by decide +kernel
theorem d_M_receive_26 : decode prog_10_method_18_code 26 = .ok (.isub, 1) := by decide +kernel
theorem d_M_receive_27 : decode prog_10_method_18_code 27 = .ok (.bipush 7, 2) := by decide +kernel
theorem d_M_receive_29 : decode prog_10_method_18_code 29 = .ok (.if_icmp .ge 5, 3) := by decide +kernel
theorem d_M_receive_32 : decode prog_10_method_18_code 32 = .ok (.iconst (-1), 1) := by decide +kernel
theorem d_M_receive_33 : decode prog_10_method_18_code 33 = .ok (.ireturn, 1) := by decide +kernel
theorem d_M_receive_34 : decode prog_10_method_18_code 34 = .ok (.aload_n 0, 1) := by decide +kernel
theorem d_M_receive_35 : decode prog_10_method_18_code 35 = .ok (.aload_n 0, 1) := by decide +kernel
theorem d_M_receive_36 : decode prog_10_method_18_code 36 = .ok (.getfield 28, 3) := by decide +kernel
theorem d_M_receive_39 : decode prog_10_method_18_code 39 = .ok (.iconst 0, 1) := by decide +kernel
theorem d_M_receive_40 : decode prog_10_method_18_code 40 = .ok (.iaload, 1) := by decide +kernel
theorem d_M_receive_41 : decode prog_10_method_18_code 41 = .ok (.bipush 7, 2) := by decide +kernel
theorem d_M_receive_43 : decode prog_10_method_18_code 43 = .ok (.invokevirtual 116, 3) := by decide +kernel
theorem d_M_receive_46 : decode prog_10_method_18_code 46 = .ok (.istore_n 1, 1) := by decide +kernel
theorem d_M_receive_47 : decode prog_10_method_18_code 47 = .ok (.iload_n 1, 1) := by decide +kernel
theorem d_M_receive_48 : decode prog_10_method_18_code 48 = .ok (.bipush 31, 2) := by decide +kernel
theorem d_M_receive_50 : decode prog_10_method_18_code 50 = .ok (.if_icmp .eq 32, 3) := by decide +kernel
theorem d_M_receive_53 : decode prog_10_method_18_code 53 = .ok (.iload_n 1, 1) := by decide +kernel
theorem d_M_receive_54 : decode prog_10_method_18_code 54 = .ok (.bipush 96, 2) := by decide +kernel
theorem d_M_receive_56 : decode prog_10_method_18_code 56 = .ok (.if_icmp .eq 26, 3) := by decide +kernel
theorem d_M_receive_59 : decode prog_10_method_18_code 59 = .ok (.aload_n 0, 1) := by decide +kernel
theorem d_M_receive_60 : decode prog_10_method_18_code 60 = .ok (.getfield 28, 3) := by decide +kernel
theorem d_M_receive_63 : decode prog_10_method_18_code 63 = .ok (.iconst 0, 1) := by decide +kernel
theorem d_M_receive_64 : decode prog_10_method_18_code 64 = .ok (.dup2, 1) := by decide +kernel
theorem d_M_receive_65 : decode prog_10_method_18_code 65 = .ok (.iaload, 1) := by decide +kernel
theorem d_M_receive_66 : decode prog_10_method_18_code 66 = .ok (.iconst 1, 1) := by decide +kernel
theorem d_M_receive_67 : decode prog_10_method_18_code 67 = .ok (.iadd, 1) := by decide +kernel
theorem d_M_receive_68 : decode prog_10_method_18_code 68 = .ok (.iastore, 1) := by decide +kernel
theorem d_M_receive_69 : decode prog_10_method_18_code 69 = .ok (.aload_n 0, 1) := by decide +kernel
theorem d_M_receive_70 : decode prog_10_method_18_code 70 = .ok (.getfield 38, 3) := by decide +kernel
theorem d_M_receive_73 : decode prog_10_method_18_code 73 = .ok (.iconst 0, 1) := by decide +kernel
theorem d_M_receive_74 : decode prog_10_method_18_code 74 = .ok (.dup2, 1) := by decide +kernel
theorem d_M_receive_75 : decode prog_10_method_18_code 75 = .ok (.iaload, 1) := by decide +kernel
theorem d_M_receive_76 : decode prog_10_method_18_code 76 = .ok (.iconst 1, 1) := by decide +kernel
theorem d_M_receive_77 : decode prog_10_method_18_code 77 = .ok (.iadd, 1) := by decide +kernel
theorem d_M_receive_78 : decode prog_10_method_18_code 78 = .ok (.iastore, 1) := by decide +kernel
theorem d_M_receive_79 : decode prog_10_method_18_code 79 = .ok (.bipush (-3), 2) := by decide +kernel
theorem d_M_receive_81 : decode prog_10_method_18_code 81 = .ok (.ireturn, 1) := by decide +kernel
theorem d_M_receive_82 : decode prog_10_method_18_code 82 = .ok (.aload_n 0, 1) := by decide +kernel
theorem d_M_receive_83 : decode prog_10_method_18_code 83 = .ok (.getfield 31, 3) := by decide +kernel
theorem d_M_receive_86 : decode prog_10_method_18_code 86 = .ok (.iconst 0, 1) := by decide +kernel
theorem d_M_receive_87 : decode prog_10_method_18_code 87 = .ok (.iconst 1, 1) := by decide +kernel
theorem d_M_receive_88 : decode prog_10_method_18_code 88 = .ok (.bastore, 1) := by decide +kernel
theorem d_M_receive_89 : decode prog_10_method_18_code 89 = .ok (.aload_n 0, 1) := by decide +kernel
theorem d_M_receive_90 : decode prog_10_method_18_code 90 = .ok (.iconst 1, 1) := by decide +kernel
theorem d_M_receive_91 : decode prog_10_method_18_code 91 = .ok (.putfield 75, 3) := by decide +kernel
theorem d_M_receive_94 : decode prog_10_method_18_code 94 = .ok (.aload_n 0, 1) := by decide +kernel
theorem d_M_receive_95 : decode prog_10_method_18_code 95 = .ok (.iconst 0, 1) := by decide +kernel
theorem d_M_receive_96 : decode prog_10_method_18_code 96 = .ok (.putfield 78, 3) := by decide +kernel
theorem d_M_receive_99 : decode prog_10_method_18_code 99 = .ok (.aload_n 0, 1) := by decide +kernel
theorem d_M_receive_100 : decode prog_10_method_18_code 100 = .ok (.getfield 25, 3) := by decide +kernel
theorem d_M_receive_103 : decode prog_10_method_18_code 103 = .ok (.iconst 0, 1) := by decide +kernel
theorem d_M_receive_104 : decode prog_10_method_18_code 104 = .ok (.iaload, 1) := by decide +kernel
theorem d_M_receive_105 : decode prog_10_method_18_code 105 = .ok (.aload_n 0, 1) := by decide +kernel
theorem d_M_receive_106 : decode prog_10_method_18_code 106 = .ok (.getfield 28, 3) := by decide +kernel
theorem d_M_receive_109 : decode prog_10_method_18_code 109 = .ok (.iconst 0, 1) := by decide +kernel
theorem d_M_receive_110 : decode prog_10_method_18_code 110 = .ok (.iaload, 1) := by decide +kernel
theorem d_M_receive_111 : decode prog_10_method_18_code 111 = .ok (.isub, 1) := by decide +kernel
theorem d_M_receive_112 : decode prog_10_method_18_code 112 = .ok (.bipush 10, 2) := by decide +kernel
theorem d_M_receive_114 : decode prog_10_method_18_code 114 = .ok (.if_icmp .ge 5, 3) := by decide +kernel
theorem d_M_receive_117 : decode prog_10_method_18_code 117 = .ok (.iconst (-1), 1) := by decide +kernel
theorem d_M_receive_118 : decode prog_10_method_18_code 118 = .ok (.ireturn, 1) := by decide +kernel
theorem d_M_receive_119 : decode prog_10_method_18_code 119 = .ok (.aload_n 0, 1) := by decide +kernel
theorem d_M_receive_120 : decode prog_10_method_18_code 120 = .ok (.aload_n 0, 1) := by decide +kernel
theorem d_M_receive_121 : decode prog_10_method_18_code 121 = .ok (.getfield 28, 3) := by decide +kernel
theorem d_M_receive_124 : decode prog_10_method_18_code 124 = .ok (.iconst 0, 1) := by decide +kernel
theorem d_M_receive_125 : decode prog_10_method_18_code 125 = .ok (.iaload, 1) := by decide +kernel
theorem d_M_receive_126 : decode prog_10_method_18_code 126 = .ok (.bipush 10, 2) := by decide +kernel
theorem d_M_receive_128 : decode prog_10_method_18_code 128 = .ok (.invokevirtual 116, 3) := by decide +kernel
theorem d_M_receive_131 : decode prog_10_method_18_code 131 = .ok (.istore_n 1, 1) := by decide +kernel
theorem d_M_receive_132 : decode prog_10_method_18_code 132 = .ok (.aload_n 0, 1) := by decide +kernel
theorem d_M_receive_133 : decode prog_10_method_18_code 133 = .ok (.getfield 28, 3) := by decide +kernel
theorem d_M_receive_136 : decode prog_10_method_18_code 136 = .ok (.iconst 0, 1) := by decide +kernel
theorem d_M_receive_137 : decode prog_10_method_18_code 137 = .ok (.aload_n 0, 1) := by decide +kernel
theorem d_M_receive_138 : decode prog_10_method_18_code 138 = .ok (.getfield 28, 3) := by decide +kernel
theorem d_M_receive_141 : decode prog_10_method_18_code 141 = .ok (.iconst 0, 1) := by decide +kernel
theorem d_M_receive_142 : decode prog_10_method_18_code 142 = .ok (.iaload, 1) := by decide +kernel
theorem d_M_receive_143 : decode prog_10_method_18_code 143 = .ok (.bipush 10, 2) := by decide +kernel
theorem d_M_receive_145 : decode prog_10_method_18_code 145 = .ok (.iadd, 1) := by decide +kernel
theorem d_M_receive_146 : decode prog_10_method_18_code 146 = .ok (.iastore, 1) := by decide +kernel
theorem d_M_receive_147 : decode prog_10_method_18_code 147 = .ok (.aload_n 0, 1) := by decide +kernel
theorem d_M_receive_148 : decode prog_10_method_18_code 148 = .ok (.iload_n 1, 1) := by decide +kernel
theorem d_M_receive_149 : decode prog_10_method_18_code 149 = .ok (.invokevirtual 120, 3) := by decide +kernel
theorem d_M_receive_152 : decode prog_10_method_18_code 152 = .ok (.ireturn, 1) := by decide +kernel
theorem d_M_bitsAt_0 : decode prog_10_method_17_code 0 = .ok (.iconst 0, 1) := by decide +kernel
theorem d_M_bitsAt_1 : decode prog_10_method_17_code 1 = .ok (.istore_n 3, 1) := by decide +kernel
theorem d_M_bitsAt_2 : decode prog_10_method_17_code 2 = .ok (.iload_n 1, 1) := by decide +kernel
theorem d_M_bitsAt_3 : decode prog_10_method_17_code 3 = .ok (.istore 4, 2) := by decide +kernel
theorem d_M_bitsAt_5 : decode prog_10_method_17_code 5 = .ok (.iload 4, 2) := by decide +kernel
theorem d_M_bitsAt_7 : decode prog_10_method_17_code 7 = .ok (.iload_n 1, 1) := by decide +kernel
theorem d_M_bitsAt_8 : decode prog_10_method_17_code 8 = .ok (.iload_n 2, 1) := by decide +kernel
theorem d_M_bitsAt_9 : decode prog_10_method_17_code 9 = .ok (.iadd, 1) := by decide +kernel
theorem d_M_bitsAt_10 : decode prog_10_method_17_code 10 = .ok (.if_icmp .ge 21, 3) := by decide +kernel
theorem d_M_bitsAt_13 : decode prog_10_method_17_code 13 = .ok (.iconst 2, 1) := by decide +kernel
theorem d_M_bitsAt_14 : decode prog_10_method_17_code 14 = .ok (.iload_n 3, 1) := by decide +kernel
theorem d_M_bitsAt_15 : decode prog_10_method_17_code 15 = .ok (.imul, 1) := by decide +kernel
theorem d_M_bitsAt_16 : decode prog_10_method_17_code 16 = .ok (.aload_n 0, 1) := by decide +kernel
theorem d_M_bitsAt_17 : decode prog_10_method_17_code 17 = .ok (.getfield 22, 3) := by decide +kernel
theorem d_M_bitsAt_20 : decode prog_10_method_17_code 20 = .ok (.iload 4, 2) := by decide +kernel
theorem d_M_bitsAt_22 : decode prog_10_method_17_code 22 = .ok (.iaload, 1) := by decide +kernel
theorem d_M_bitsAt_23 : decode prog_10_method_17_code 23 = .ok (.iadd, 1) := by decide +kernel
theorem d_M_bitsAt_24 : decode prog_10_method_17_code 24 = .ok (.istore_n 3, 1) := by decide +kernel
theorem d_M_bitsAt_25 : decode prog_10_method_17_code 25 = .ok (.iinc 4 1, 3) := by decide +kernel
theorem d_M_bitsAt_28 : decode prog_10_method_17_code 28 = .ok (.goto (-23), 3) := by decide +kernel
theorem d_M_bitsAt_31 : decode prog_10_method_17_code 31 = .ok (.iload_n 3, 1) := by decide +kernel
theorem d_M_bitsAt_32 : decode prog_10_method_17_code 32 = .ok (.ireturn, 1) := by decide +kernel
theorem d_M_taken_0 : decode prog_10_method_19_code 0 = .ok (.aload_n 0, 1) := by decide +kernel
theorem d_M_taken_1 : decode prog_10_method_19_code 1 = .ok (.getfield 19, 3) := by decide +kernel
theorem d_M_taken_4 : decode prog_10_method_19_code 4 = .ok (.iload_n 1, 1) := by decide +kernel
theorem d_M_taken_5 : decode prog_10_method_19_code 5 = .ok (.iaload, 1) := by decide +kernel
theorem d_M_taken_6 : decode prog_10_method_19_code 6 = .ok (.istore_n 2, 1) := by decide +kernel
theorem d_M_taken_7 : decode prog_10_method_19_code 7 = .ok (.iload_n 2, 1) := by decide +kernel
theorem d_M_taken_8 : decode prog_10_method_19_code 8 = .ok (.ifCond .ge 7, 3) := by decide +kernel
theorem d_M_taken_11 : decode prog_10_method_19_code 11 = .ok (.iconst 1, 1) := by decide +kernel
theorem d_M_taken_12 : decode prog_10_method_19_code 12 = .ok (.goto 4, 3) := by decide +kernel
theorem d_M_taken_15 : decode prog_10_method_19_code 15 = .ok (.iconst 0, 1) := by decide +kernel
theorem d_M_taken_16 : decode prog_10_method_19_code 16 = .ok (.istore_n 3, 1) := by decide +kernel
theorem d_M_taken_17 : decode prog_10_method_19_code 17 = .ok (.iload_n 3, 1) := by decide +kernel
theorem d_M_taken_18 : decode prog_10_method_19_code 18 = .ok (.ifCond .ne 32, 3) := by decide +kernel
theorem d_M_taken_21 : decode prog_10_method_19_code 21 = .ok (.aload_n 0, 1) := by decide +kernel
theorem d_M_taken_22 : decode prog_10_method_19_code 22 = .ok (.getfield 16, 3) := by decide +kernel
theorem d_M_taken_25 : decode prog_10_method_19_code 25 = .ok (.iconst 2, 1) := by decide +kernel
theorem d_M_taken_26 : decode prog_10_method_19_code 26 = .ok (.iload_n 2, 1) := by decide +kernel
theorem d_M_taken_27 : decode prog_10_method_19_code 27 = .ok (.imul, 1) := by decide +kernel
theorem d_M_taken_28 : decode prog_10_method_19_code 28 = .ok (.aload_n 0, 1) := by decide +kernel
theorem d_M_taken_29 : decode prog_10_method_19_code 29 = .ok (.getfield 72, 3) := by decide +kernel
theorem d_M_taken_32 : decode prog_10_method_19_code 32 = .ok (.ifCond .eq 7, 3) := by decide +kernel
theorem d_M_taken_35 : decode prog_10_method_19_code 35 = .ok (.iconst 1, 1) := by decide +kernel
theorem d_M_taken_36 : decode prog_10_method_19_code 36 = .ok (.goto 4, 3) := by decide +kernel
theorem d_M_taken_39 : decode prog_10_method_19_code 39 = .ok (.iconst 0, 1) := by decide +kernel
theorem d_M_taken_40 : decode prog_10_method_19_code 40 = .ok (.iadd, 1) := by decide +kernel
theorem d_M_taken_41 : decode prog_10_method_19_code 41 = .ok (.iaload, 1) := by decide +kernel
theorem d_M_taken_42 : decode prog_10_method_19_code 42 = .ok (.iload_n 1, 1) := by decide +kernel
theorem d_M_taken_43 : decode prog_10_method_19_code 43 = .ok (.if_icmp .ne 7, 3) := by decide +kernel
theorem d_M_taken_46 : decode prog_10_method_19_code 46 = .ok (.iconst 1, 1) := by decide +kernel
theorem d_M_taken_47 : decode prog_10_method_19_code 47 = .ok (.goto 4, 3) := by decide +kernel
theorem d_M_taken_50 : decode prog_10_method_19_code 50 = .ok (.iconst 0, 1) := by decide +kernel
theorem d_M_taken_51 : decode prog_10_method_19_code 51 = .ok (.istore 4, 2) := by decide +kernel
theorem d_M_taken_53 : decode prog_10_method_19_code 53 = .ok (.iload_n 3, 1) := by decide +kernel
theorem d_M_taken_54 : decode prog_10_method_19_code 54 = .ok (.ifCond .ne 34, 3) := by decide +kernel
theorem d_M_taken_57 : decode prog_10_method_19_code 57 = .ok (.iload 4, 2) := by decide +kernel
theorem d_M_taken_59 : decode prog_10_method_19_code 59 = .ok (.ifCond .ne 29, 3) := by decide +kernel
theorem d_M_taken_62 : decode prog_10_method_19_code 62 = .ok (.aload_n 0, 1) := by decide +kernel
theorem d_M_taken_63 : decode prog_10_method_19_code 63 = .ok (.getfield 75, 3) := by decide +kernel
theorem d_M_taken_66 : decode prog_10_method_19_code 66 = .ok (.ifCond .eq 22, 3) := by decide +kernel
theorem d_M_taken_69 : decode prog_10_method_19_code 69 = .ok (.aload_n 0, 1) := by decide +kernel
theorem d_M_taken_70 : decode prog_10_method_19_code 70 = .ok (.aload_n 0, 1) := by decide +kernel
theorem d_M_taken_71 : decode prog_10_method_19_code 71 = .ok (.getfield 72, 3) := by decide +kernel
theorem d_M_taken_74 : decode prog_10_method_19_code 74 = .ok (.ifCond .ne 7, 3) := by decide +kernel
theorem d_M_taken_77 : decode prog_10_method_19_code 77 = .ok (.iconst 1, 1) := by decide +kernel
theorem d_M_taken_78 : decode prog_10_method_19_code 78 = .ok (.goto 4, 3) := by decide +kernel
theorem d_M_taken_81 : decode prog_10_method_19_code 81 = .ok (.iconst 0, 1) := by decide +kernel
theorem d_M_taken_82 : decode prog_10_method_19_code 82 = .ok (.putfield 72, 3) := by decide +kernel
theorem d_M_taken_85 : decode prog_10_method_19_code 85 = .ok (.iconst 1, 1) := by decide +kernel
theorem d_M_taken_86 : decode prog_10_method_19_code 86 = .ok (.istore 4, 2) := by decide +kernel
theorem d_M_taken_88 : decode prog_10_method_19_code 88 = .ok (.aload_n 0, 1) := by decide +kernel
theorem d_M_taken_89 : decode prog_10_method_19_code 89 = .ok (.iconst 0, 1) := by decide +kernel
theorem d_M_taken_90 : decode prog_10_method_19_code 90 = .ok (.putfield 75, 3) := by decide +kernel
theorem d_M_taken_93 : decode prog_10_method_19_code 93 = .ok (.aload_n 0, 1) := by decide +kernel
theorem d_M_taken_94 : decode prog_10_method_19_code 94 = .ok (.iload_n 1, 1) := by decide +kernel
theorem d_M_taken_95 : decode prog_10_method_19_code 95 = .ok (.aload_n 0, 1) := by decide +kernel
theorem d_M_taken_96 : decode prog_10_method_19_code 96 = .ok (.getfield 72, 3) := by decide +kernel
theorem d_M_taken_99 : decode prog_10_method_19_code 99 = .ok (.invokestatic 113, 3) := by decide +kernel
theorem d_M_taken_102 : decode prog_10_method_19_code 102 = .ok (.putfield 72, 3) := by decide +kernel
theorem d_M_taken_105 : decode prog_10_method_19_code 105 = .ok (.iload_n 3, 1) := by decide +kernel
theorem d_M_taken_106 : decode prog_10_method_19_code 106 = .ok (.ifCond .ne 8, 3) := by decide +kernel
theorem d_M_taken_109 : decode prog_10_method_19_code 109 = .ok (.iload 4, 2) := by decide +kernel
theorem d_M_taken_111 : decode prog_10_method_19_code 111 = .ok (.ifCond .ne 105, 3) := by decide +kernel
theorem d_M_taken_114 : decode prog_10_method_19_code 114 = .ok (.aload_n 0, 1) := by decide +kernel
theorem d_M_taken_115 : decode prog_10_method_19_code 115 = .ok (.getfield 41, 3) := by decide +kernel
theorem d_M_taken_118 : decode prog_10_method_19_code 118 = .ok (.iconst 0, 1) := by decide +kernel
theorem d_M_taken_119 : decode prog_10_method_19_code 119 = .ok (.iload_n 3, 1) := by decide +kernel
theorem d_M_taken_120 : decode prog_10_method_19_code 120 = .ok (.ifCond .eq 14, 3) := by decide +kernel
theorem d_M_taken_123 : decode prog_10_method_19_code 123 = .ok (.aload_n 0, 1) := by decide +kernel
theorem d_M_taken_124 : decode prog_10_method_19_code 124 = .ok (.getfield 41, 3) := by decide +kernel
theorem d_M_taken_127 : decode prog_10_method_19_code 127 = .ok (.iconst 0, 1) := by decide +kernel
theorem d_M_taken_128 : decode prog_10_method_19_code 128 = .ok (.iaload, 1) := by decide +kernel
theorem d_M_taken_129 : decode prog_10_method_19_code 129 = .ok (.iconst 1, 1) := by decide +kernel
theorem d_M_taken_130 : decode prog_10_method_19_code 130 = .ok (.iadd, 1) := by decide +kernel
theorem d_M_taken_131 : decode prog_10_method_19_code 131 = .ok (.goto 9, 3) := by decide +kernel
theorem d_M_taken_134 : decode prog_10_method_19_code 134 = .ok (.aload_n 0, 1) := by decide +kernel
theorem d_M_taken_135 : decode prog_10_method_19_code 135 = .ok (.getfield 41, 3) := by decide +kernel
theorem d_M_taken_138 : decode prog_10_method_19_code 138 = .ok (.iconst 0, 1) := by decide +kernel
theorem d_M_taken_139 : decode prog_10_method_19_code 139 = .ok (.iaload, 1) := by decide +kernel
theorem d_M_taken_140 : decode prog_10_method_19_code 140 = .ok (.iastore, 1) := by decide +kernel
theorem d_M_taken_141 : decode prog_10_method_19_code 141 = .ok (.aload_n 0, 1) := by decide +kernel
theorem d_M_taken_142 : decode prog_10_method_19_code 142 = .ok (.iload_n 3, 1) := by decide +kernel
theorem d_M_taken_143 : decode prog_10_method_19_code 143 = .ok (.ifCond .eq 10, 3) := by decide +kernel
theorem d_M_taken_146 : decode prog_10_method_19_code 146 = .ok (.aload_n 0, 1) := by decide +kernel
theorem d_M_taken_147 : decode prog_10_method_19_code 147 = .ok (.getfield 65, 3) := by decide +kernel
theorem d_M_taken_150 : decode prog_10_method_19_code 150 = .ok (.goto 9, 3) := by decide +kernel
theorem d_M_taken_153 : decode prog_10_method_19_code 153 = .ok (.aload_n 0, 1) := by decide +kernel
theorem d_M_taken_154 : decode prog_10_method_19_code 154 = .ok (.getfield 65, 3) := by decide +kernel
theorem d_M_taken_157 : decode prog_10_method_19_code 157 = .ok (.iconst 1, 1) := by decide +kernel
theorem d_M_taken_158 : decode prog_10_method_19_code 158 = .ok (.iadd, 1) := by decide +kernel
theorem d_M_taken_159 : decode prog_10_method_19_code 159 = .ok (.putfield 65, 3) := by decide +kernel
theorem d_M_taken_162 : decode prog_10_method_19_code 162 = .ok (.aload_n 0, 1) := by decide +kernel
theorem d_M_taken_163 : decode prog_10_method_19_code 163 = .ok (.iconst 0, 1) := by decide +kernel
theorem d_M_taken_164 : decode prog_10_method_19_code 164 = .ok (.putfield 78, 3) := by decide +kernel
theorem d_M_taken_167 : decode prog_10_method_19_code 167 = .ok (.aload_n 0, 1) := by decide +kernel
theorem d_M_taken_168 : decode prog_10_method_19_code 168 = .ok (.getfield 35, 3) := by decide +kernel
theorem d_M_taken_171 : decode prog_10_method_19_code 171 = .ok (.iconst 0, 1) := by decide +kernel
theorem d_M_taken_172 : decode prog_10_method_19_code 172 = .ok (.dup2, 1) := by decide +kernel
theorem d_M_taken_173 : decode prog_10_method_19_code 173 = .ok (.iaload, 1) := by decide +kernel
theorem d_M_taken_174 : decode prog_10_method_19_code 174 = .ok (.iconst 1, 1) := by decide +kernel
theorem d_M_taken_175 : decode prog_10_method_19_code 175 = .ok (.iadd, 1) := by decide +kernel
theorem d_M_taken_176 : decode prog_10_method_19_code 176 = .ok (.iastore, 1) := by decide +kernel
theorem d_M_taken_177 : decode prog_10_method_19_code 177 = .ok (.aload_n 0, 1) := by decide +kernel
theorem d_M_taken_178 : decode prog_10_method_19_code 178 = .ok (.getfield 35, 3) := by decide +kernel
theorem d_M_taken_181 : decode prog_10_method_19_code 181 = .ok (.iconst 0, 1) := by decide +kernel
theorem d_M_taken_182 : decode prog_10_method_19_code 182 = .ok (.iaload, 1) := by decide +kernel
theorem d_M_taken_183 : decode prog_10_method_19_code 183 = .ok (.iconst 4, 1) := by decide +kernel
theorem d_M_taken_184 : decode prog_10_method_19_code 184 = .ok (.if_icmp .ne 17, 3) := by decide +kernel
theorem d_M_taken_187 : decode prog_10_method_19_code 187 = .ok (.aload_n 0, 1) := by decide +kernel
theorem d_M_taken_188 : decode prog_10_method_19_code 188 = .ok (.getfield 35, 3) := by decide +kernel
theorem d_M_taken_191 : decode prog_10_method_19_code 191 = .ok (.iconst 0, 1) := by decide +kernel
theorem d_M_taken_192 : decode prog_10_method_19_code 192 = .ok (.iconst 0, 1) := by decide +kernel
theorem d_M_taken_193 : decode prog_10_method_19_code 193 = .ok (.iastore, 1) := by decide +kernel
theorem d_M_taken_194 : decode prog_10_method_19_code 194 = .ok (.aload_n 0, 1) := by decide +kernel
theorem d_M_taken_195 : decode prog_10_method_19_code 195 = .ok (.getfield 31, 3) := by decide +kernel
theorem d_M_taken_198 : decode prog_10_method_19_code 198 = .ok (.iconst 0, 1) := by decide +kernel
theorem d_M_taken_199 : decode prog_10_method_19_code 199 = .ok (.iconst 0, 1) := by decide +kernel
theorem d_M_taken_200 : decode prog_10_method_19_code 200 = .ok (.bastore, 1) := by decide +kernel
theorem d_M_taken_201 : decode prog_10_method_19_code 201 = .ok (.iload_n 3, 1) := by decide +kernel
theorem d_M_taken_202 : decode prog_10_method_19_code 202 = .ok (.ifCond .eq 8, 3) := by decide +kernel
theorem d_M_taken_205 : decode prog_10_method_19_code 205 = .ok (.bipush (-2), 2) := by decide +kernel
theorem d_M_taken_207 : decode prog_10_method_19_code 207 = .ok (.goto 8, 3) := by decide +kernel
theorem d_M_taken_210 : decode prog_10_method_19_code 210 = .ok (.sipush 512, 3) := by decide +kernel
theorem d_M_taken_213 : decode prog_10_method_19_code 213 = .ok (.iload_n 2, 1) := by decide +kernel
theorem d_M_taken_214 : decode prog_10_method_19_code 214 = .ok (.iadd, 1) := by decide +kernel
theorem d_M_taken_215 : decode prog_10_method_19_code 215 = .ok (.ireturn, 1) := by decide +kernel
theorem d_M_taken_216 : decode prog_10_method_19_code 216 = .ok (.aload_n 0, 1) := by decide +kernel
theorem d_M_taken_217 : decode prog_10_method_19_code 217 = .ok (.dup, 1) := by decide +kernel
theorem d_M_taken_218 : decode prog_10_method_19_code 218 = .ok (.getfield 78, 3) := by decide +kernel
theorem d_M_taken_221 : decode prog_10_method_19_code 221 = .ok (.iconst 1, 1) := by decide +kernel
theorem d_M_taken_222 : decode prog_10_method_19_code 222 = .ok (.iadd, 1) := by decide +kernel
theorem d_M_taken_223 : decode prog_10_method_19_code 223 = .ok (.putfield 78, 3) := by decide +kernel
theorem d_M_taken_226 : decode prog_10_method_19_code 226 = .ok (.aload_n 0, 1) := by decide +kernel
theorem d_M_taken_227 : decode prog_10_method_19_code 227 = .ok (.getfield 78, 3) := by decide +kernel
theorem d_M_taken_230 : decode prog_10_method_19_code 230 = .ok (.iconst 4, 1) := by decide +kernel
theorem d_M_taken_231 : decode prog_10_method_19_code 231 = .ok (.if_icmp .ne 35, 3) := by decide +kernel
theorem d_M_taken_234 : decode prog_10_method_19_code 234 = .ok (.aload_n 0, 1) := by decide +kernel
theorem d_M_taken_235 : decode prog_10_method_19_code 235 = .ok (.iconst 0, 1) := by decide +kernel
theorem d_M_taken_236 : decode prog_10_method_19_code 236 = .ok (.putfield 78, 3) := by decide +kernel
theorem d_M_taken_239 : decode prog_10_method_19_code 239 = .ok (.aload_n 0, 1) := by decide +kernel
theorem d_M_taken_240 : decode prog_10_method_19_code 240 = .ok (.getfield 35, 3) := by decide +kernel
theorem d_M_taken_243 : decode prog_10_method_19_code 243 = .ok (.iconst 0, 1) := by decide +kernel
theorem d_M_taken_244 : decode prog_10_method_19_code 244 = .ok (.aload_n 0, 1) := by decide +kernel
theorem d_M_taken_245 : decode prog_10_method_19_code 245 = .ok (.getfield 35, 3) := by decide +kernel
theorem d_M_taken_248 : decode prog_10_method_19_code 248 = .ok (.iconst 0, 1) := by decide +kernel
theorem d_M_taken_249 : decode prog_10_method_19_code 249 = .ok (.iaload, 1) := by decide +kernel
theorem d_M_taken_250 : decode prog_10_method_19_code 250 = .ok (.ifCond .le 14, 3) := by decide +kernel
theorem d_M_taken_253 : decode prog_10_method_19_code 253 = .ok (.aload_n 0, 1) := by decide +kernel
theorem d_M_taken_254 : decode prog_10_method_19_code 254 = .ok (.getfield 35, 3) := by decide +kernel
theorem d_M_taken_257 : decode prog_10_method_19_code 257 = .ok (.iconst 0, 1) := by decide +kernel
theorem d_M_taken_258 : decode prog_10_method_19_code 258 = .ok (.iaload, 1) := by decide +kernel
theorem d_M_taken_259 : decode prog_10_method_19_code 259 = .ok (.iconst 1, 1) := by decide +kernel
theorem d_M_taken_260 : decode prog_10_method_19_code 260 = .ok (.isub, 1) := by decide +kernel
theorem d_M_taken_261 : decode prog_10_method_19_code 261 = .ok (.goto 4, 3) := by decide +kernel
theorem d_M_taken_264 : decode prog_10_method_19_code 264 = .ok (.iconst 0, 1) := by decide +kernel
theorem d_M_taken_265 : decode prog_10_method_19_code 265 = .ok (.iastore, 1) := by decide +kernel
theorem d_M_taken_266 : decode prog_10_method_19_code 266 = .ok (.iload_n 2, 1) := by decide +kernel
theorem d_M_taken_267 : decode prog_10_method_19_code 267 = .ok (.ireturn, 1) := by decide +kernel
theorem d_M_put_0 : decode prog_10_method_21_code 0 = .ok (.aload_n 0, 1) := by decide +kernel
theorem d_M_put_1 : decode prog_10_method_21_code 1 = .ok (.aload_n 0, 1) := by decide +kernel
theorem d_M_put_2 : decode prog_10_method_21_code 2 = .ok (.getfield 25, 3) := by decide +kernel
theorem d_M_put_5 : decode prog_10_method_21_code 5 = .ok (.iconst 1, 1) := by decide +kernel
theorem d_M_put_6 : decode prog_10_method_21_code 6 = .ok (.iaload, 1) := by decide +kernel
theorem d_M_put_7 : decode prog_10_method_21_code 7 = .ok (.bipush 66, 2) := by decide +kernel
theorem d_M_put_9 : decode prog_10_method_21_code 9 = .ok (.iadd, 1) := by decide +kernel
theorem d_M_put_10 : decode prog_10_method_21_code 10 = .ok (.sipush 2640, 3) := by decide +kernel
theorem d_M_put_13 : decode prog_10_method_21_code 13 = .ok (.if_icmp .le 7, 3) := by decide +kernel
theorem d_M_put_16 : decode prog_10_method_21_code 16 = .ok (.iconst 1, 1) := by decide +kernel
theorem d_M_put_17 : decode prog_10_method_21_code 17 = .ok (.goto 4, 3) := by decide +kernel
theorem d_M_put_20 : decode prog_10_method_21_code 20 = .ok (.iconst 0, 1) := by decide +kernel
theorem d_M_put_21 : decode prog_10_method_21_code 21 = .ok (.invokevirtual 102, 3) := by decide +kernel
theorem d_M_put_24 : decode prog_10_method_21_code 24 = .ok (.ifCond .eq 5, 3) := by decide +kernel
theorem d_M_put_27 : decode prog_10_method_21_code 27 = .ok (.iconst 0, 1) := by decide +kernel
theorem d_M_put_28 : decode prog_10_method_21_code 28 = .ok (.ireturn, 1) := by decide +kernel
theorem d_M_put_29 : decode prog_10_method_21_code 29 = .ok (.aload_n 0, 1) := by decide +kernel
theorem d_M_put_30 : decode prog_10_method_21_code 30 = .ok (.iconst 1, 1) := by decide +kernel
theorem d_M_put_31 : decode prog_10_method_21_code 31 = .ok (.iload_n 3, 1) := by decide +kernel
theorem d_M_put_32 : decode prog_10_method_21_code 32 = .ok (.ifCond .eq 7, 3) := by decide +kernel
theorem d_M_put_35 : decode prog_10_method_21_code 35 = .ok (.iconst 1, 1) := by decide +kernel
theorem d_M_put_36 : decode prog_10_method_21_code 36 = .ok (.goto 4, 3) := by decide +kernel
theorem d_M_put_39 : decode prog_10_method_21_code 39 = .ok (.iconst 0, 1) := by decide +kernel
theorem d_M_put_40 : decode prog_10_method_21_code 40 = .ok (.invokevirtual 109, 3) := by decide +kernel
theorem d_M_put_43 : decode prog_10_method_21_code 43 = .ok (.aload_n 0, 1) := by decide +kernel
theorem d_M_put_44 : decode prog_10_method_21_code 44 = .ok (.iconst 1, 1) := by decide +kernel
theorem d_M_put_45 : decode prog_10_method_21_code 45 = .ok (.iload_n 3, 1) := by decide +kernel
theorem d_M_put_46 : decode prog_10_method_21_code 46 = .ok (.ifCond .eq 7, 3) := by decide +kernel
theorem d_M_put_49 : decode prog_10_method_21_code 49 = .ok (.iconst 0, 1) := by decide +kernel
theorem d_M_put_50 : decode prog_10_method_21_code 50 = .ok (.goto 4, 3) := by decide +kernel
theorem d_M_put_53 : decode prog_10_method_21_code 53 = .ok (.iconst 1, 1) := by decide +kernel
theorem d_M_put_54 : decode prog_10_method_21_code 54 = .ok (.invokevirtual 109, 3) := by decide +kernel
theorem d_M_put_57 : decode prog_10_method_21_code 57 = .ok (.iconst 0, 1) := by decide +kernel
theorem d_M_put_58 : decode prog_10_method_21_code 58 = .ok (.istore 4, 2) := by decide +kernel
theorem d_M_put_60 : decode prog_10_method_21_code 60 = .ok (.iload 4, 2) := by decide +kernel
theorem d_M_put_62 : decode prog_10_method_21_code 62 = .ok (.bipush 64, 2) := by decide +kernel
theorem d_M_put_64 : decode prog_10_method_21_code 64 = .ok (.if_icmp .ge 50, 3) := by decide +kernel
theorem d_M_put_67 : decode prog_10_method_21_code 67 = .ok (.lload_n 1, 1) := by decide +kernel
theorem d_M_put_68 : decode prog_10_method_21_code 68 = .ok (.iload 4, 2) := by decide +kernel
theorem d_M_put_70 : decode prog_10_method_21_code 70 = .ok (.lshr, 1) := by decide +kernel
theorem d_M_put_71 : decode prog_10_method_21_code 71 = .ok (.lconst 1, 1) := by decide +kernel
theorem d_M_put_72 : decode prog_10_method_21_code 72 = .ok (.land, 1) := by decide +kernel
theorem d_M_put_73 : decode prog_10_method_21_code 73 = .ok (.l2i, 1) := by decide +kernel
theorem d_M_put_74 : decode prog_10_method_21_code 74 = .ok (.aload_n 0, 1) := by decide +kernel
theorem d_M_put_75 : decode prog_10_method_21_code 75 = .ok (.getfield 44, 3) := by decide +kernel
theorem d_M_put_78 : decode prog_10_method_21_code 78 = .ok (.bipush 38, 2) := by decide +kernel
theorem d_M_put_80 : decode prog_10_method_21_code 80 = .ok (.iaload, 1) := by decide +kernel
theorem d_M_put_81 : decode prog_10_method_21_code 81 = .ok (.ixor, 1) := by decide +kernel
theorem d_M_put_82 : decode prog_10_method_21_code 82 = .ok (.aload_n 0, 1) := by decide +kernel
theorem d_M_put_83 : decode prog_10_method_21_code 83 = .ok (.getfield 44, 3) := by decide +kernel
theorem d_M_put_86 : decode prog_10_method_21_code 86 = .ok (.bipush 57, 2) := by decide +kernel
theorem d_M_put_88 : decode prog_10_method_21_code 88 = .ok (.iaload, 1) := by decide +kernel
theorem d_M_put_89 : decode prog_10_method_21_code 89 = .ok (.ixor, 1) := by decide +kernel
theorem d_M_put_90 : decode prog_10_method_21_code 90 = .ok (.istore 5, 2) := by decide +kernel
theorem d_M_put_92 : decode prog_10_method_21_code 92 = .ok (.aload_n 0, 1) := by decide +kernel
theorem d_M_put_93 : decode prog_10_method_21_code 93 = .ok (.iconst 1, 1) := by decide +kernel
theorem d_M_put_94 : decode prog_10_method_21_code 94 = .ok (.iload 5, 2) := by decide +kernel
theorem d_M_put_96 : decode prog_10_method_21_code 96 = .ok (.invokevirtual 109, 3) := by decide +kernel
theorem d_M_put_99 : decode prog_10_method_21_code 99 = .ok (.aload_n 0, 1) := by decide +kernel
theorem d_M_put_100 : decode prog_10_method_21_code 100 = .ok (.getfield 44, 3) := by decide +kernel
theorem d_M_put_103 : decode prog_10_method_21_code 103 = .ok (.iload 5, 2) := by decide +kernel
theorem d_M_put_105 : decode prog_10_method_21_code 105 = .ok (.invokestatic 123, 3) := by decide +kernel
theorem d_M_put_108 : decode prog_10_method_21_code 108 = .ok (.iinc 4 1, 3) := by decide +kernel
theorem d_M_put_111 : decode prog_10_method_21_code 111 = .ok (.goto (-51), 3) := by decide +kernel
theorem d_M_put_114 : decode prog_10_method_21_code 114 = .ok (.aload_n 0, 1) := by decide +kernel
theorem d_M_put_115 : decode prog_10_method_21_code 115 = .ok (.getfield 25, 3) := by decide +kernel
theorem d_M_put_118 : decode prog_10_method_21_code 118 = .ok (.iconst 1, 1) := by decide +kernel
theorem d_M_put_119 : decode prog_10_method_21_code 119 = .ok (.iaload, 1) := by decide +kernel
theorem d_M_put_120 : decode prog_10_method_21_code 120 = .ok (.ireturn, 1) := by decide +kernel
theorem d_M_remember_0 : decode prog_10_method_20_code 0 = .ok (.bipush 57, 2) := by decide +kernel
theorem d_M_remember_2 : decode prog_10_method_20_code 2 = .ok (.istore_n 2, 1) := by decide +kernel
theorem d_M_remember_3 : decode prog_10_method_20_code 3 = .ok (.iload_n 2, 1) := by decide +kernel
theorem d_M_remember_4 : decode prog_10_method_20_code 4 = .ok (.ifCond .le 17, 3) := by decide +kernel
theorem d_M_remember_7 : decode prog_10_method_20_code 7 = .ok (.aload_n 0, 1) := by decide +kernel
theorem d_M_remember_8 : decode prog_10_method_20_code 8 = .ok (.iload_n 2, 1) := by decide +kernel
theorem d_M_remember_9 : decode prog_10_method_20_code 9 = .ok (.aload_n 0, 1) := by decide +kernel
theorem d_M_remember_10 : decode prog_10_method_20_code 10 = .ok (.iload_n 2, 1) := by decide +kernel
theorem d_M_remember_11 : decode prog_10_method_20_code 11 = .ok (.iconst 1, 1) := by decide +kernel
theorem d_M_remember_12 : decode prog_10_method_20_code 12 = .ok (.isub, 1) := by decide +kernel
theorem d_M_remember_13 : decode prog_10_method_20_code 13 = .ok (.iaload, 1) := by decide +kernel
theorem d_M_remember_14 : decode prog_10_method_20_code 14 = .ok (.iastore, 1) := by decide +kernel
theorem d_M_remember_15 : decode prog_10_method_20_code 15 = .ok (.iinc 2 (-1), 3) := by decide +kernel
theorem d_M_remember_18 : decode prog_10_method_20_code 18 = .ok (.goto (-15), 3) := by decide +kernel
theorem d_M_remember_21 : decode prog_10_method_20_code 21 = .ok (.aload_n 0, 1) := by decide +kernel
theorem d_M_remember_22 : decode prog_10_method_20_code 22 = .ok (.iconst 0, 1) := by decide +kernel
theorem d_M_remember_23 : decode prog_10_method_20_code 23 = .ok (.iload_n 1, 1) := by decide +kernel
theorem d_M_remember_24 : decode prog_10_method_20_code 24 = .ok (.iastore, 1) := by decide +kernel
theorem d_M_remember_25 : decode prog_10_method_20_code 25 = .ok (.return_, 1) := by decide +kernel
theorem d_M_take_0 : decode prog_10_method_24_code 0 = .ok (.aload_n 0, 1) := by decide +kernel
theorem d_M_take_1 : decode prog_10_method_24_code 1 = .ok (.iconst 0, 1) := by decide +kernel
theorem d_M_take_2 : decode prog_10_method_24_code 2 = .ok (.putfield 61, 3) := by decide +kernel
theorem d_M_take_5 : decode prog_10_method_24_code 5 = .ok (.aload_n 0, 1) := by decide +kernel
theorem d_M_take_6 : decode prog_10_method_24_code 6 = .ok (.getfield 25, 3) := by decide +kernel
theorem d_M_take_9 : decode prog_10_method_24_code 9 = .ok (.iconst 1, 1) := by decide +kernel
theorem d_M_take_10 : decode prog_10_method_24_code 10 = .ok (.iaload, 1) := by decide +kernel
theorem d_M_take_11 : decode prog_10_method_24_code 11 = .ok (.aload_n 0, 1) := by decide +kernel
theorem d_M_take_12 : decode prog_10_method_24_code 12 = .ok (.getfield 28, 3) := by decide +kernel
theorem d_M_take_15 : decode prog_10_method_24_code 15 = .ok (.iconst 1, 1) := by decide +kernel
theorem d_M_take_16 : decode prog_10_method_24_code 16 = .ok (.iaload, 1) := by decide +kernel
theorem d_M_take_17 : decode prog_10_method_24_code 17 = .ok (.isub, 1) := by decide +kernel
theorem d_M_take_18 : decode prog_10_method_24_code 18 = .ok (.bipush 66, 2) := by decide +kernel
theorem d_M_take_20 : decode prog_10_method_24_code 20 = .ok (.if_icmp .ge 5, 3) := by decide +kernel
theorem d_M_take_23 : decode prog_10_method_24_code 23 = .ok (.iconst (-1), 1) := by decide +kernel
theorem d_M_take_24 : decode prog_10_method_24_code 24 = .ok (.ireturn, 1) := by decide +kernel
theorem d_M_take_25 : decode prog_10_method_24_code 25 = .ok (.sipush 2640, 3) := by decide +kernel
theorem d_M_take_28 : decode prog_10_method_24_code 28 = .ok (.aload_n 0, 1) := by decide +kernel
theorem d_M_take_29 : decode prog_10_method_24_code 29 = .ok (.getfield 28, 3) := by decide +kernel
theorem d_M_take_32 : decode prog_10_method_24_code 32 = .ok (.iconst 1, 1) := by decide +kernel
theorem d_M_take_33 : decode prog_10_method_24_code 33 = .ok (.iaload, 1) := by decide +kernel
theorem d_M_take_34 : decode prog_10_method_24_code 34 = .ok (.iadd, 1) := by decide +kernel
theorem d_M_take_35 : decode prog_10_method_24_code 35 = .ok (.istore_n 1, 1) := by decide +kernel
theorem d_M_take_36 : decode prog_10_method_24_code 36 = .ok (.aload_n 0, 1) := by decide +kernel
theorem d_M_take_37 : decode prog_10_method_24_code 37 = .ok (.getfield 22, 3) := by decide +kernel
theorem d_M_take_40 : decode prog_10_method_24_code 40 = .ok (.iload_n 1, 1) := by decide +kernel
theorem d_M_take_41 : decode prog_10_method_24_code 41 = .ok (.iaload, 1) := by decide +kernel
theorem d_M_take_42 : decode prog_10_method_24_code 42 = .ok (.istore_n 2, 1) := by decide +kernel
theorem d_M_take_43 : decode prog_10_method_24_code 43 = .ok (.iload_n 2, 1) := by decide +kernel
theorem d_M_take_44 : decode prog_10_method_24_code 44 = .ok (.aload_n 0, 1) := by decide +kernel
theorem d_M_take_45 : decode prog_10_method_24_code 45 = .ok (.getfield 22, 3) := by decide +kernel
theorem d_M_take_48 : decode prog_10_method_24_code 48 = .ok (.iload_n 1, 1) := by decide +kernel
theorem d_M_take_49 : decode prog_10_method_24_code 49 = .ok (.iconst 1, 1) := by decide +kernel
theorem d_M_take_50 : decode prog_10_method_24_code 50 = .ok (.iadd, 1) := by decide +kernel
theorem d_M_take_51 : decode prog_10_method_24_code 51 = .ok (.iaload, 1) := by decide +kernel
theorem d_M_take_52 : decode prog_10_method_24_code 52 = .ok (.if_icmp .eq 7, 3) := by decide +kernel
theorem d_M_take_55 : decode prog_10_method_24_code 55 = .ok (.iconst 1, 1) := by decide +kernel
theorem d_M_take_56 : decode prog_10_method_24_code 56 = .ok (.goto 4, 3) := by decide +kernel
theorem d_M_take_59 : decode prog_10_method_24_code 59 = .ok (.iconst 0, 1) := by decide +kernel
theorem d_M_take_60 : decode prog_10_method_24_code 60 = .ok (.istore_n 3, 1) := by decide +kernel
theorem d_M_take_61 : decode prog_10_method_24_code 61 = .ok (.aload_n 0, 1) := by decide +kernel
theorem d_M_take_62 : decode prog_10_method_24_code 62 = .ok (.getfield 31, 3) := by decide +kernel
theorem d_M_take_65 : decode prog_10_method_24_code 65 = .ok (.iconst 1, 1) := by decide +kernel
theorem d_M_take_66 : decode prog_10_method_24_code 66 = .ok (.baload, 1) := by decide +kernel
theorem d_M_take_67 : decode prog_10_method_24_code 67 = .ok (.ifCond .ne 37, 3) := by decide +kernel
theorem d_M_take_70 : decode prog_10_method_24_code 70 = .ok (.iload_n 3, 1) := by decide +kernel
theorem d_M_take_71 : decode prog_10_method_24_code 71 = .ok (.ifCond .ne 33, 3) := by decide +kernel
theorem d_M_take_74 : decode prog_10_method_24_code 74 = .ok (.aload_n 0, 1) := by decide +kernel
theorem d_M_take_75 : decode prog_10_method_24_code 75 = .ok (.getfield 28, 3) := by decide +kernel
theorem d_M_take_78 : decode prog_10_method_24_code 78 = .ok (.iconst 1, 1) := by decide +kernel
theorem d_M_take_79 : decode prog_10_method_24_code 79 = .ok (.dup2, 1) := by decide +kernel
theorem d_M_take_80 : decode prog_10_method_24_code 80 = .ok (.iaload, 1) := by decide +kernel
theorem d_M_take_81 : decode prog_10_method_24_code 81 = .ok (.iconst 1, 1) := by decide +kernel
theorem d_M_take_82 : decode prog_10_method_24_code 82 = .ok (.iadd, 1) := by decide +kernel
theorem d_M_take_83 : decode prog_10_method_24_code 83 = .ok (.iastore, 1) := by decide +kernel
theorem d_M_take_84 : decode prog_10_method_24_code 84 = .ok (.aload_n 0, 1) := by decide +kernel
theorem d_M_take_85 : decode prog_10_method_24_code 85 = .ok (.getfield 38, 3) := by decide +kernel
theorem d_M_take_88 : decode prog_10_method_24_code 88 = .ok (.iconst 1, 1) := by decide +kernel
theorem d_M_take_89 : decode prog_10_method_24_code 89 = .ok (.dup2, 1) := by decide +kernel
theorem d_M_take_90 : decode prog_10_method_24_code 90 = .ok (.iaload, 1) := by decide +kernel
theorem d_M_take_91 : decode prog_10_method_24_code 91 = .ok (.iconst 1, 1) := by decide +kernel
theorem d_M_take_92 : decode prog_10_method_24_code 92 = .ok (.iadd, 1) := by decide +kernel
theorem d_M_take_93 : decode prog_10_method_24_code 93 = .ok (.iastore, 1) := by decide +kernel
theorem d_M_take_94 : decode prog_10_method_24_code 94 = .ok (.aload_n 0, 1) := by decide +kernel
theorem d_M_take_95 : decode prog_10_method_24_code 95 = .ok (.getfield 35, 3) := by decide +kernel
theorem d_M_take_98 : decode prog_10_method_24_code 98 = .ok (.iconst 1, 1) := by decide +kernel
theorem d_M_take_99 : decode prog_10_method_24_code 99 = .ok (.iconst 0, 1) := by decide +kernel
theorem d_M_take_100 : decode prog_10_method_24_code 100 = .ok (.iastore, 1) := by decide +kernel
theorem d_M_take_101 : decode prog_10_method_24_code 101 = .ok (.bipush (-3), 2) := by decide +kernel
theorem d_M_take_103 : decode prog_10_method_24_code 103 = .ok (.ireturn, 1) := by decide +kernel
theorem d_M_take_104 : decode prog_10_method_24_code 104 = .ok (.aload_n 0, 1) := by decide +kernel
theorem d_M_take_105 : decode prog_10_method_24_code 105 = .ok (.iload_n 1, 1) := by decide +kernel
theorem d_M_take_106 : decode prog_10_method_24_code 106 = .ok (.iconst 2, 1) := by decide +kernel
theorem d_M_take_107 : decode prog_10_method_24_code 107 = .ok (.iadd, 1) := by decide +kernel
theorem d_M_take_108 : decode prog_10_method_24_code 108 = .ok (.invokevirtual 127, 3) := by decide +kernel
theorem d_M_take_111 : decode prog_10_method_24_code 111 = .ok (.aload_n 0, 1) := by decide +kernel
theorem d_M_take_112 : decode prog_10_method_24_code 112 = .ok (.getfield 28, 3) := by decide +kernel
theorem d_M_take_115 : decode prog_10_method_24_code 115 = .ok (.iconst 1, 1) := by decide +kernel
theorem d_M_take_116 : decode prog_10_method_24_code 116 = .ok (.aload_n 0, 1) := by decide +kernel
theorem d_M_take_117 : decode prog_10_method_24_code 117 = .ok (.getfield 28, 3) := by decide +kernel
theorem d_M_take_120 : decode prog_10_method_24_code 120 = .ok (.iconst 1, 1) := by decide +kernel
theorem d_M_take_121 : decode prog_10_method_24_code 121 = .ok (.iaload, 1) := by decide +kernel
theorem d_M_take_122 : decode prog_10_method_24_code 122 = .ok (.bipush 66, 2) := by decide +kernel
theorem d_M_take_124 : decode prog_10_method_24_code 124 = .ok (.iadd, 1) := by decide +kernel
theorem d_M_take_125 : decode prog_10_method_24_code 125 = .ok (.iastore, 1) := by decide +kernel
theorem d_M_take_126 : decode prog_10_method_24_code 126 = .ok (.aload_n 0, 1) := by decide +kernel
theorem d_M_take_127 : decode prog_10_method_24_code 127 = .ok (.getfield 31, 3) := by decide +kernel
theorem d_M_take_130 : decode prog_10_method_24_code 130 = .ok (.iconst 1, 1) := by decide +kernel
theorem d_M_take_131 : decode prog_10_method_24_code 131 = .ok (.baload, 1) := by decide +kernel
theorem d_M_take_132 : decode prog_10_method_24_code 132 = .ok (.ifCond .ne 45, 3) := by decide +kernel
theorem d_M_take_135 : decode prog_10_method_24_code 135 = .ok (.aload_n 0, 1) := by decide +kernel
theorem d_M_take_136 : decode prog_10_method_24_code 136 = .ok (.getfield 35, 3) := by decide +kernel
theorem d_M_take_139 : decode prog_10_method_24_code 139 = .ok (.iconst 1, 1) := by decide +kernel
theorem d_M_take_140 : decode prog_10_method_24_code 140 = .ok (.dup2, 1) := by decide +kernel
theorem d_M_take_141 : decode prog_10_method_24_code 141 = .ok (.iaload, 1) := by decide +kernel
theorem d_M_take_142 : decode prog_10_method_24_code 142 = .ok (.iconst 1, 1) := by decide +kernel
theorem d_M_take_143 : decode prog_10_method_24_code 143 = .ok (.iadd, 1) := by decide +kernel
theorem d_M_take_144 : decode prog_10_method_24_code 144 = .ok (.iastore, 1) := by decide +kernel
theorem d_M_take_145 : decode prog_10_method_24_code 145 = .ok (.aload_n 0, 1) := by decide +kernel
theorem d_M_take_146 : decode prog_10_method_24_code 146 = .ok (.getfield 35, 3) := by decide +kernel
theorem d_M_take_149 : decode prog_10_method_24_code 149 = .ok (.iconst 1, 1) := by decide +kernel
theorem d_M_take_150 : decode prog_10_method_24_code 150 = .ok (.iaload, 1) := by decide +kernel
theorem d_M_take_151 : decode prog_10_method_24_code 151 = .ok (.bipush 8, 2) := by decide +kernel
theorem d_M_take_153 : decode prog_10_method_24_code 153 = .ok (.if_icmp .ne 22, 3) := by decide +kernel
theorem d_M_take_156 : decode prog_10_method_24_code 156 = .ok (.aload_n 0, 1) := by decide +kernel
theorem d_M_take_157 : decode prog_10_method_24_code 157 = .ok (.getfield 31, 3) := by decide +kernel
theorem d_M_take_160 : decode prog_10_method_24_code 160 = .ok (.iconst 1, 1) := by decide +kernel
theorem d_M_take_161 : decode prog_10_method_24_code 161 = .ok (.iconst 1, 1) := by decide +kernel
theorem d_M_take_162 : decode prog_10_method_24_code 162 = .ok (.bastore, 1) := by decide +kernel
theorem d_M_take_163 : decode prog_10_method_24_code 163 = .ok (.aload_n 0, 1) := by decide +kernel
theorem d_M_take_164 : decode prog_10_method_24_code 164 = .ok (.iconst 0, 1) := by decide +kernel
theorem d_M_take_165 : decode prog_10_method_24_code 165 = .ok (.putfield 81, 3) := by decide +kernel
theorem d_M_take_168 : decode prog_10_method_24_code 168 = .ok (.aload_n 0, 1) := by decide +kernel
theorem d_M_take_169 : decode prog_10_method_24_code 169 = .ok (.getfield 35, 3) := by decide +kernel
theorem d_M_take_172 : decode prog_10_method_24_code 172 = .ok (.iconst 1, 1) := by decide +kernel
theorem d_M_take_173 : decode prog_10_method_24_code 173 = .ok (.iconst 0, 1) := by decide +kernel
theorem d_M_take_174 : decode prog_10_method_24_code 174 = .ok (.iastore, 1) := by decide +kernel
theorem d_M_take_175 : decode prog_10_method_24_code 175 = .ok (.iload_n 2, 1) := by decide +kernel
theorem d_M_take_176 : decode prog_10_method_24_code 176 = .ok (.ireturn, 1) := by decide +kernel
theorem d_M_take_177 : decode prog_10_method_24_code 177 = .ok (.aload_n 0, 1) := by decide +kernel
theorem d_M_take_178 : decode prog_10_method_24_code 178 = .ok (.aload_n 0, 1) := by decide +kernel
theorem d_M_take_179 : decode prog_10_method_24_code 179 = .ok (.getfield 81, 3) := by decide +kernel
theorem d_M_take_182 : decode prog_10_method_24_code 182 = .ok (.iconst 1, 1) := by decide +kernel
theorem d_M_take_183 : decode prog_10_method_24_code 183 = .ok (.ishl, 1) := by decide +kernel
theorem d_M_take_184 : decode prog_10_method_24_code 184 = .ok (.iload_n 3, 1) := by decide +kernel
theorem d_M_take_185 : decode prog_10_method_24_code 185 = .ok (.ifCond .eq 7, 3) := by decide +kernel
theorem d_M_take_188 : decode prog_10_method_24_code 188 = .ok (.iconst 0, 1) := by decide +kernel
theorem d_M_take_189 : decode prog_10_method_24_code 189 = .ok (.goto 4, 3) := by decide +kernel
theorem d_M_take_192 : decode prog_10_method_24_code 192 = .ok (.iconst 1, 1) := by decide +kernel
theorem d_M_take_193 : decode prog_10_method_24_code 193 = .ok (.ior, 1) := by decide +kernel
theorem d_M_take_194 : decode prog_10_method_24_code 194 = .ok (.ldc 131, 2) := by decide +kernel
theorem d_M_take_196 : decode prog_10_method_24_code 196 = .ok (.iand, 1) := by decide +kernel
theorem d_M_take_197 : decode prog_10_method_24_code 197 = .ok (.putfield 81, 3) := by decide +kernel
theorem d_M_take_200 : decode prog_10_method_24_code 200 = .ok (.aload_n 0, 1) := by decide +kernel
theorem d_M_take_201 : decode prog_10_method_24_code 201 = .ok (.getfield 35, 3) := by decide +kernel
theorem d_M_take_204 : decode prog_10_method_24_code 204 = .ok (.iconst 1, 1) := by decide +kernel
theorem d_M_take_205 : decode prog_10_method_24_code 205 = .ok (.aload_n 0, 1) := by decide +kernel
theorem d_M_take_206 : decode prog_10_method_24_code 206 = .ok (.getfield 81, 3) := by decide +kernel
theorem d_M_take_209 : decode prog_10_method_24_code 209 = .ok (.invokestatic 132, 3) := by decide +kernel
theorem d_M_take_212 : decode prog_10_method_24_code 212 = .ok (.iastore, 1) := by decide +kernel
theorem d_M_take_213 : decode prog_10_method_24_code 213 = .ok (.aload_n 0, 1) := by decide +kernel
theorem d_M_take_214 : decode prog_10_method_24_code 214 = .ok (.getfield 41, 3) := by decide +kernel
theorem d_M_take_217 : decode prog_10_method_24_code 217 = .ok (.iconst 1, 1) := by decide +kernel
theorem d_M_take_218 : decode prog_10_method_24_code 218 = .ok (.iload_n 3, 1) := by decide +kernel
theorem d_M_take_219 : decode prog_10_method_24_code 219 = .ok (.ifCond .eq 12, 3) := by decide +kernel
theorem d_M_take_222 : decode prog_10_method_24_code 222 = .ok (.aload_n 0, 1) := by decide +kernel
theorem d_M_take_223 : decode prog_10_method_24_code 223 = .ok (.getfield 41, 3) := by decide +kernel
theorem d_M_take_226 : decode prog_10_method_24_code 226 = .ok (.iconst 1, 1) := by decide +kernel
theorem d_M_take_227 : decode prog_10_method_24_code 227 = .ok (.iaload, 1) := by decide +kernel
theorem d_M_take_228 : decode prog_10_method_24_code 228 = .ok (.goto 11, 3) := by decide +kernel
theorem d_M_take_231 : decode prog_10_method_24_code 231 = .ok (.aload_n 0, 1) := by decide +kernel
theorem d_M_take_232 : decode prog_10_method_24_code 232 = .ok (.getfield 41, 3) := by decide +kernel
theorem d_M_take_235 : decode prog_10_method_24_code 235 = .ok (.iconst 1, 1) := by decide +kernel
theorem d_M_take_236 : decode prog_10_method_24_code 236 = .ok (.iaload, 1) := by decide +kernel
theorem d_M_take_237 : decode prog_10_method_24_code 237 = .ok (.iconst 1, 1) := by decide +kernel
theorem d_M_take_238 : decode prog_10_method_24_code 238 = .ok (.iadd, 1) := by decide +kernel
theorem d_M_take_239 : decode prog_10_method_24_code 239 = .ok (.iastore, 1) := by decide +kernel
theorem d_M_take_240 : decode prog_10_method_24_code 240 = .ok (.aload_n 0, 1) := by decide +kernel
theorem d_M_take_241 : decode prog_10_method_24_code 241 = .ok (.getfield 35, 3) := by decide +kernel
theorem d_M_take_244 : decode prog_10_method_24_code 244 = .ok (.iconst 1, 1) := by decide +kernel
theorem d_M_take_245 : decode prog_10_method_24_code 245 = .ok (.iaload, 1) := by decide +kernel
theorem d_M_take_246 : decode prog_10_method_24_code 246 = .ok (.iconst 4, 1) := by decide +kernel
theorem d_M_take_247 : decode prog_10_method_24_code 247 = .ok (.if_icmp .ne 17, 3) := by decide +kernel
theorem d_M_take_250 : decode prog_10_method_24_code 250 = .ok (.aload_n 0, 1) := by decide +kernel
theorem d_M_take_251 : decode prog_10_method_24_code 251 = .ok (.getfield 31, 3) := by decide +kernel
theorem d_M_take_254 : decode prog_10_method_24_code 254 = .ok (.iconst 1, 1) := by decide +kernel
theorem d_M_take_255 : decode prog_10_method_24_code 255 = .ok (.iconst 0, 1) := by decide +kernel
theorem d_M_take_256 : decode prog_10_method_24_code 256 = .ok (.bastore, 1) := by decide +kernel
theorem d_M_take_257 : decode prog_10_method_24_code 257 = .ok (.aload_n 0, 1) := by decide +kernel
theorem d_M_take_258 : decode prog_10_method_24_code 258 = .ok (.getfield 35, 3) := by decide +kernel
theorem d_M_take_261 : decode prog_10_method_24_code 261 = .ok (.iconst 1, 1) := by decide +kernel
theorem d_M_take_262 : decode prog_10_method_24_code 262 = .ok (.iconst 0, 1) := by decide +kernel
theorem d_M_take_263 : decode prog_10_method_24_code 263 = .ok (.iastore, 1) := by decide +kernel
theorem d_M_take_264 : decode prog_10_method_24_code 264 = .ok (.iload_n 3, 1) := by decide +kernel
theorem d_M_take_265 : decode prog_10_method_24_code 265 = .ok (.ifCond .eq 7, 3) := by decide +kernel
theorem d_M_take_268 : decode prog_10_method_24_code 268 = .ok (.iload_n 2, 1) := by decide +kernel
theorem d_M_take_269 : decode prog_10_method_24_code 269 = .ok (.goto 5, 3) := by decide +kernel
theorem d_M_take_272 : decode prog_10_method_24_code 272 = .ok (.bipush (-2), 2) := by decide +kernel
theorem d_M_take_274 : decode prog_10_method_24_code 274 = .ok (.ireturn, 1) := by decide +kernel
theorem d_M_takeWord_0 : decode prog_10_method_22_code 0 = .ok (.aload_n 0, 1) := by decide +kernel
theorem d_M_takeWord_1 : decode prog_10_method_22_code 1 = .ok (.lconst 0, 1) := by decide +kernel
theorem d_M_takeWord_2 : decode prog_10_method_22_code 2 = .ok (.putfield 87, 3) := by decide +kernel
theorem d_M_takeWord_5 : decode prog_10_method_22_code 5 = .ok (.iconst 0, 1) := by decide +kernel
theorem d_M_takeWord_6 : decode prog_10_method_22_code 6 = .ok (.istore_n 2, 1) := by decide +kernel
theorem d_M_takeWord_7 : decode prog_10_method_22_code 7 = .ok (.iload_n 2, 1) := by decide +kernel
theorem d_M_takeWord_8 : decode prog_10_method_22_code 8 = .ok (.bipush 64, 2) := by decide +kernel
theorem d_M_takeWord_10 : decode prog_10_method_22_code 10 = .ok (.if_icmp .ge 55, 3) := by decide +kernel
theorem d_M_takeWord_13 : decode prog_10_method_22_code 13 = .ok (.aload_n 0, 1) := by decide +kernel
theorem d_M_takeWord_14 : decode prog_10_method_22_code 14 = .ok (.getfield 22, 3) := by decide +kernel
theorem d_M_takeWord_17 : decode prog_10_method_22_code 17 = .ok (.iload_n 1, 1) := by decide +kernel
theorem d_M_takeWord_18 : decode prog_10_method_22_code 18 = .ok (.iload_n 2, 1) := by decide +kernel
theorem d_M_takeWord_19 : decode prog_10_method_22_code 19 = .ok (.iadd, 1) := by decide +kernel
theorem d_M_takeWord_20 : decode prog_10_method_22_code 20 = .ok (.iaload, 1) := by decide +kernel
theorem d_M_takeWord_21 : decode prog_10_method_22_code 21 = .ok (.istore_n 3, 1) := by decide +kernel
theorem d_M_takeWord_22 : decode prog_10_method_22_code 22 = .ok (.aload_n 0, 1) := by decide +kernel
theorem d_M_takeWord_23 : decode prog_10_method_22_code 23 = .ok (.aload_n 0, 1) := by decide +kernel
theorem d_M_takeWord_24 : decode prog_10_method_22_code 24 = .ok (.getfield 87, 3) := by decide +kernel
theorem d_M_takeWord_27 : decode prog_10_method_22_code 27 = .ok (.iload_n 3, 1) := by decide +kernel
theorem d_M_takeWord_28 : decode prog_10_method_22_code 28 = .ok (.aload_n 0, 1) := by decide +kernel
theorem d_M_takeWord_29 : decode prog_10_method_22_code 29 = .ok (.getfield 47, 3) := by decide +kernel
theorem d_M_takeWord_32 : decode prog_10_method_22_code 32 = .ok (.bipush 38, 2) := by decide +kernel
theorem d_M_takeWord_34 : decode prog_10_method_22_code 34 = .ok (.iaload, 1) := by decide +kernel
theorem d_M_takeWord_35 : decode prog_10_method_22_code 35 = .ok (.ixor, 1) := by decide +kernel
theorem d_M_takeWord_36 : decode prog_10_method_22_code 36 = .ok (.aload_n 0, 1) := by decide +kernel
theorem d_M_takeWord_37 : decode prog_10_method_22_code 37 = .ok (.getfield 47, 3) := by decide +kernel
theorem d_M_takeWord_40 : decode prog_10_method_22_code 40 = .ok (.bipush 57, 2) := by decide +kernel
theorem d_M_takeWord_42 : decode prog_10_method_22_code 42 = .ok (.iaload, 1) := by decide +kernel
theorem d_M_takeWord_43 : decode prog_10_method_22_code 43 = .ok (.ixor, 1) := by decide +kernel
theorem d_M_takeWord_44 : decode prog_10_method_22_code 44 = .ok (.i2l, 1) := by decide +kernel
theorem d_M_takeWord_45 : decode prog_10_method_22_code 45 = .ok (.iload_n 2, 1) := by decide +kernel
theorem d_M_takeWord_46 : decode prog_10_method_22_code 46 = .ok (.lshl, 1) := by decide +kernel
theorem d_M_takeWord_47 : decode prog_10_method_22_code 47 = .ok (.lor, 1) := by decide +kernel
theorem d_M_takeWord_48 : decode prog_10_method_22_code 48 = .ok (.putfield 87, 3) := by decide +kernel
theorem d_M_takeWord_51 : decode prog_10_method_22_code 51 = .ok (.aload_n 0, 1) := by decide +kernel
theorem d_M_takeWord_52 : decode prog_10_method_22_code 52 = .ok (.getfield 47, 3) := by decide +kernel
theorem d_M_takeWord_55 : decode prog_10_method_22_code 55 = .ok (.iload_n 3, 1) := by decide +kernel
theorem d_M_takeWord_56 : decode prog_10_method_22_code 56 = .ok (.invokestatic 123, 3) := by decide +kernel
theorem d_M_takeWord_59 : decode prog_10_method_22_code 59 = .ok (.iinc 2 1, 3) := by decide +kernel
theorem d_M_takeWord_62 : decode prog_10_method_22_code 62 = .ok (.goto (-55), 3) := by decide +kernel
theorem d_M_takeWord_65 : decode prog_10_method_22_code 65 = .ok (.return_, 1) := by decide +kernel
theorem d_M_onesOf_0 : decode prog_10_method_23_code 0 = .ok (.iconst 0, 1) := by decide +kernel
theorem d_M_onesOf_1 : decode prog_10_method_23_code 1 = .ok (.istore_n 1, 1) := by decide +kernel
theorem d_M_onesOf_2 : decode prog_10_method_23_code 2 = .ok (.iconst 0, 1) := by decide +kernel
theorem d_M_onesOf_3 : decode prog_10_method_23_code 3 = .ok (.istore_n 2, 1) := by decide +kernel
theorem d_M_onesOf_4 : decode prog_10_method_23_code 4 = .ok (.iload_n 2, 1) := by decide +kernel
theorem d_M_onesOf_5 : decode prog_10_method_23_code 5 = .ok (.bipush 16, 2) := by decide +kernel
theorem d_M_onesOf_7 : decode prog_10_method_23_code 7 = .ok (.if_icmp .ge 17, 3) := by decide +kernel
theorem d_M_onesOf_10 : decode prog_10_method_23_code 10 = .ok (.iload_n 1, 1) := by decide +kernel
theorem d_M_onesOf_11 : decode prog_10_method_23_code 11 = .ok (.iload_n 0, 1) := by decide +kernel
theorem d_M_onesOf_12 : decode prog_10_method_23_code 12 = .ok (.iload_n 2, 1) := by decide +kernel
theorem d_M_onesOf_13 : decode prog_10_method_23_code 13 = .ok (.ishr, 1) := by decide +kernel
theorem d_M_onesOf_14 : decode prog_10_method_23_code 14 = .ok (.iconst 1, 1) := by decide +kernel
theorem d_M_onesOf_15 : decode prog_10_method_23_code 15 = .ok (.iand, 1) := by decide +kernel
theorem d_M_onesOf_16 : decode prog_10_method_23_code 16 = .ok (.iadd, 1) := by decide +kernel
theorem d_M_onesOf_17 : decode prog_10_method_23_code 17 = .ok (.istore_n 1, 1) := by decide +kernel
theorem d_M_onesOf_18 : decode prog_10_method_23_code 18 = .ok (.iinc 2 1, 3) := by decide +kernel
theorem d_M_onesOf_21 : decode prog_10_method_23_code 21 = .ok (.goto (-17), 3) := by decide +kernel
theorem d_M_onesOf_24 : decode prog_10_method_23_code 24 = .ok (.iload_n 1, 1) := by decide +kernel
theorem d_M_onesOf_25 : decode prog_10_method_23_code 25 = .ok (.ireturn, 1) := by decide +kernel
theorem d_M_word_0 : decode prog_10_method_25_code 0 = .ok (.aload_n 0, 1) := by decide +kernel
theorem d_M_word_1 : decode prog_10_method_25_code 1 = .ok (.iconst 0, 1) := by decide +kernel
theorem d_M_word_2 : decode prog_10_method_25_code 2 = .ok (.putfield 61, 3) := by decide +kernel
theorem d_M_word_5 : decode prog_10_method_25_code 5 = .ok (.aload_n 0, 1) := by decide +kernel
theorem d_M_word_6 : decode prog_10_method_25_code 6 = .ok (.getfield 87, 3) := by decide +kernel
theorem d_M_word_9 : decode prog_10_method_25_code 9 = .ok (.lreturn, 1) := by decide +kernel
theorem d_M_raw_0 : decode prog_10_method_27_code 0 = .ok (.iload_n 1, 1) := by decide +kernel
theorem d_M_raw_1 : decode prog_10_method_27_code 1 = .ok (.invokestatic 135, 3) := by decide +kernel
theorem d_M_raw_4 : decode prog_10_method_27_code 4 = .ok (.ifCond .eq 17, 3) := by decide +kernel
theorem d_M_raw_7 : decode prog_10_method_27_code 7 = .ok (.iload_n 3, 1) := by decide +kernel
theorem d_M_raw_8 : decode prog_10_method_27_code 8 = .ok (.iconst 0, 1) := by decide +kernel
theorem d_M_raw_9 : decode prog_10_method_27_code 9 = .ok (.bipush 32, 2) := by decide +kernel
theorem d_M_raw_11 : decode prog_10_method_27_code 11 = .ok (.invokestatic 105, 3) := by decide +kernel
theorem d_M_raw_14 : decode prog_10_method_27_code 14 = .ok (.ifCond .eq 7, 3) := by decide +kernel
theorem d_M_raw_17 : decode prog_10_method_27_code 17 = .ok (.iconst 1, 1) := by decide +kernel
theorem d_M_raw_18 : decode prog_10_method_27_code 18 = .ok (.goto 4, 3) := by decide +kernel
theorem d_M_raw_21 : decode prog_10_method_27_code 21 = .ok (.iconst 0, 1) := by decide +kernel
theorem d_M_raw_22 : decode prog_10_method_27_code 22 = .ok (.istore 4, 2) := by decide +kernel
theorem d_M_raw_24 : decode prog_10_method_27_code 24 = .ok (.aload_n 0, 1) := by decide +kernel
theorem d_M_raw_25 : decode prog_10_method_27_code 25 = .ok (.iload 4, 2) := by decide +kernel
theorem d_M_raw_27 : decode prog_10_method_27_code 27 = .ok (.ifCond .ne 7, 3) := by decide +kernel
theorem d_M_raw_30 : decode prog_10_method_27_code 30 = .ok (.iconst 1, 1) := by decide +kernel
theorem d_M_raw_31 : decode prog_10_method_27_code 31 = .ok (.goto 22, 3) := by decide +kernel
theorem d_M_raw_34 : decode prog_10_method_27_code 34 = .ok (.aload_n 0, 1) := by decide +kernel
theorem d_M_raw_35 : decode prog_10_method_27_code 35 = .ok (.getfield 25, 3) := by decide +kernel
theorem d_M_raw_38 : decode prog_10_method_27_code 38 = .ok (.iload_n 1, 1) := by decide +kernel
theorem d_M_raw_39 : decode prog_10_method_27_code 39 = .ok (.iaload, 1) := by decide +kernel
theorem d_M_raw_40 : decode prog_10_method_27_code 40 = .ok (.iload_n 3, 1) := by decide +kernel
theorem d_M_raw_41 : decode prog_10_method_27_code 41 = .ok (.iadd, 1) := by decide +kernel
theorem d_M_raw_42 : decode prog_10_method_27_code 42 = .ok (.sipush 2640, 3) := by decide +kernel
theorem d_M_raw_45 : decode prog_10_method_27_code 45 = .ok (.if_icmp .le 7, 3) := by decide +kernel
theorem d_M_raw_48 : decode prog_10_method_27_code 48 = .ok (.iconst 2, 1) := by decide +kernel
theorem d_M_raw_49 : decode prog_10_method_27_code 49 = .ok (.goto 4, 3) := by decide +kernel
theorem d_M_raw_52 : decode prog_10_method_27_code 52 = .ok (.iconst 0, 1) := by decide +kernel
theorem d_M_raw_53 : decode prog_10_method_27_code 53 = .ok (.invokevirtual 102, 3) := by decide +kernel
theorem d_M_raw_56 : decode prog_10_method_27_code 56 = .ok (.ifCond .eq 5, 3) := by decide +kernel
theorem d_M_raw_59 : decode prog_10_method_27_code 59 = .ok (.iconst 0, 1) := by decide +kernel
theorem d_M_raw_60 : decode prog_10_method_27_code 60 = .ok (.ireturn, 1) := by decide +kernel
theorem d_M_raw_61 : decode prog_10_method_27_code 61 = .ok (.iload_n 3, 1) := by decide +kernel
theorem d_M_raw_62 : decode prog_10_method_27_code 62 = .ok (.iconst 1, 1) := by decide +kernel
theorem d_M_raw_63 : decode prog_10_method_27_code 63 = .ok (.isub, 1) := by decide +kernel
theorem d_M_raw_64 : decode prog_10_method_27_code 64 = .ok (.istore 5, 2) := by decide +kernel
theorem d_M_raw_66 : decode prog_10_method_27_code 66 = .ok (.iload 5, 2) := by decide +kernel
theorem d_M_raw_68 : decode prog_10_method_27_code 68 = .ok (.ifCond .lt 20, 3) := by decide +kernel
theorem d_M_raw_71 : decode prog_10_method_27_code 71 = .ok (.aload_n 0, 1) := by decide +kernel
theorem d_M_raw_72 : decode prog_10_method_27_code 72 = .ok (.iload_n 1, 1) := by decide +kernel
theorem d_M_raw_73 : decode prog_10_method_27_code 73 = .ok (.iload_n 2, 1) := by decide +kernel
theorem d_M_raw_74 : decode prog_10_method_27_code 74 = .ok (.iload 5, 2) := by decide +kernel
theorem d_M_raw_76 : decode prog_10_method_27_code 76 = .ok (.ishr, 1) := by decide +kernel
theorem d_M_raw_77 : decode prog_10_method_27_code 77 = .ok (.iconst 1, 1) := by decide +kernel
theorem d_M_raw_78 : decode prog_10_method_27_code 78 = .ok (.iand, 1) := by decide +kernel
theorem d_M_raw_79 : decode prog_10_method_27_code 79 = .ok (.invokevirtual 109, 3) := by decide +kernel
theorem d_M_raw_82 : decode prog_10_method_27_code 82 = .ok (.iinc 5 (-1), 3) := by decide +kernel
theorem d_M_raw_85 : decode prog_10_method_27_code 85 = .ok (.goto (-19), 3) := by decide +kernel
theorem d_M_raw_88 : decode prog_10_method_27_code 88 = .ok (.aload_n 0, 1) := by decide +kernel
theorem d_M_raw_89 : decode prog_10_method_27_code 89 = .ok (.getfield 25, 3) := by decide +kernel
theorem d_M_raw_92 : decode prog_10_method_27_code 92 = .ok (.iload_n 1, 1) := by decide +kernel
theorem d_M_raw_93 : decode prog_10_method_27_code 93 = .ok (.iaload, 1) := by decide +kernel
theorem d_M_raw_94 : decode prog_10_method_27_code 94 = .ok (.ireturn, 1) := by decide +kernel
theorem d_M_isStream_0 : decode prog_10_method_26_code 0 = .ok (.iload_n 0, 1) := by decide +kernel
theorem d_M_isStream_1 : decode prog_10_method_26_code 1 = .ok (.ifCond .eq 8, 3) := by decide +kernel
theorem d_M_isStream_4 : decode prog_10_method_26_code 4 = .ok (.iload_n 0, 1) := by decide +kernel
theorem d_M_isStream_5 : decode prog_10_method_26_code 5 = .ok (.iconst 1, 1) := by decide +kernel
theorem d_M_isStream_6 : decode prog_10_method_26_code 6 = .ok (.if_icmp .ne 7, 3) := by decide +kernel
theorem d_M_isStream_9 : decode prog_10_method_26_code 9 = .ok (.iconst 1, 1) := by decide +kernel
theorem d_M_isStream_10 : decode prog_10_method_26_code 10 = .ok (.goto 4, 3) := by decide +kernel
theorem d_M_isStream_13 : decode prog_10_method_26_code 13 = .ok (.iconst 0, 1) := by decide +kernel
theorem d_M_isStream_14 : decode prog_10_method_26_code 14 = .ok (.ireturn, 1) := by decide +kernel
theorem d_M_bend_0 : decode prog_10_method_28_code 0 = .ok (.aload_n 0, 1) := by decide +kernel
theorem d_M_bend_1 : decode prog_10_method_28_code 1 = .ok (.iload_n 1, 1) := by decide +kernel
theorem d_M_bend_2 : decode prog_10_method_28_code 2 = .ok (.invokestatic 135, 3) := by decide +kernel
theorem d_M_bend_5 : decode prog_10_method_28_code 5 = .ok (.ifCond .ne 7, 3) := by decide +kernel
theorem d_M_bend_8 : decode prog_10_method_28_code 8 = .ok (.iconst 1, 1) := by decide +kernel
theorem d_M_bend_9 : decode prog_10_method_28_code 9 = .ok (.goto 24, 3) := by decide +kernel
theorem d_M_bend_12 : decode prog_10_method_28_code 12 = .ok (.iload_n 2, 1) := by decide +kernel
theorem d_M_bend_13 : decode prog_10_method_28_code 13 = .ok (.iconst 0, 1) := by decide +kernel
theorem d_M_bend_14 : decode prog_10_method_28_code 14 = .ok (.aload_n 0, 1) := by decide +kernel
theorem d_M_bend_15 : decode prog_10_method_28_code 15 = .ok (.getfield 25, 3) := by decide +kernel
theorem d_M_bend_18 : decode prog_10_method_28_code 18 = .ok (.iload_n 1, 1) := by decide +kernel
theorem d_M_bend_19 : decode prog_10_method_28_code 19 = .ok (.iaload, 1) := by decide +kernel
theorem d_M_bend_20 : decode prog_10_method_28_code 20 = .ok (.iconst 1, 1) := by decide +kernel
theorem d_M_bend_21 : decode prog_10_method_28_code 21 = .ok (.isub, 1) := by decide +kernel
theorem d_M_bend_22 : decode prog_10_method_28_code 22 = .ok (.invokestatic 105, 3) := by decide +kernel
theorem d_M_bend_25 : decode prog_10_method_28_code 25 = .ok (.ifCond .ne 7, 3) := by decide +kernel
theorem d_M_bend_28 : decode prog_10_method_28_code 28 = .ok (.iconst 2, 1) := by decide +kernel
theorem d_M_bend_29 : decode prog_10_method_28_code 29 = .ok (.goto 4, 3) := by decide +kernel
theorem d_M_bend_32 : decode prog_10_method_28_code 32 = .ok (.iconst 0, 1) := by decide +kernel
theorem d_M_bend_33 : decode prog_10_method_28_code 33 = .ok (.invokevirtual 102, 3) := by decide +kernel
theorem d_M_bend_36 : decode prog_10_method_28_code 36 = .ok (.ifCond .eq 5, 3) := by decide +kernel
theorem d_M_bend_39 : decode prog_10_method_28_code 39 = .ok (.iconst 0, 1) := by decide +kernel
theorem d_M_bend_40 : decode prog_10_method_28_code 40 = .ok (.ireturn, 1) := by decide +kernel
theorem d_M_bend_41 : decode prog_10_method_28_code 41 = .ok (.aload_n 0, 1) := by decide +kernel
theorem d_M_bend_42 : decode prog_10_method_28_code 42 = .ok (.getfield 22, 3) := by decide +kernel
theorem d_M_bend_45 : decode prog_10_method_28_code 45 = .ok (.sipush 2640, 3) := by decide +kernel
theorem d_M_bend_48 : decode prog_10_method_28_code 48 = .ok (.iload_n 1, 1) := by decide +kernel
theorem d_M_bend_49 : decode prog_10_method_28_code 49 = .ok (.imul, 1) := by decide +kernel
theorem d_M_bend_50 : decode prog_10_method_28_code 50 = .ok (.iload_n 2, 1) := by decide +kernel
theorem d_M_bend_51 : decode prog_10_method_28_code 51 = .ok (.iadd, 1) := by decide +kernel
theorem d_M_bend_52 : decode prog_10_method_28_code 52 = .ok (.iconst 1, 1) := by decide +kernel
theorem d_M_bend_53 : decode prog_10_method_28_code 53 = .ok (.aload_n 0, 1) := by decide +kernel
theorem d_M_bend_54 : decode prog_10_method_28_code 54 = .ok (.getfield 22, 3) := by decide +kernel
theorem d_M_bend_57 : decode prog_10_method_28_code 57 = .ok (.sipush 2640, 3) := by decide +kernel
theorem d_M_bend_60 : decode prog_10_method_28_code 60 = .ok (.iload_n 1, 1) := by decide +kernel
theorem d_M_bend_61 : decode prog_10_method_28_code 61 = .ok (.imul, 1) := by decide +kernel
theorem d_M_bend_62 : decode prog_10_method_28_code 62 = .ok (.iload_n 2, 1) := by decide +kernel
theorem d_M_bend_63 : decode prog_10_method_28_code 63 = .ok (.iadd, 1) := by decide +kernel
theorem d_M_bend_64 : decode prog_10_method_28_code 64 = .ok (.iaload, 1) := by decide +kernel
theorem d_M_bend_65 : decode prog_10_method_28_code 65 = .ok (.isub, 1) := by decide +kernel
theorem d_M_bend_66 : decode prog_10_method_28_code 66 = .ok (.iastore, 1) := by decide +kernel
theorem d_M_bend_67 : decode prog_10_method_28_code 67 = .ok (.aload_n 0, 1) := by decide +kernel
theorem d_M_bend_68 : decode prog_10_method_28_code 68 = .ok (.getfield 22, 3) := by decide +kernel
theorem d_M_bend_71 : decode prog_10_method_28_code 71 = .ok (.sipush 2640, 3) := by decide +kernel
theorem d_M_bend_74 : decode prog_10_method_28_code 74 = .ok (.iload_n 1, 1) := by decide +kernel
theorem d_M_bend_75 : decode prog_10_method_28_code 75 = .ok (.imul, 1) := by decide +kernel
theorem d_M_bend_76 : decode prog_10_method_28_code 76 = .ok (.iload_n 2, 1) := by decide +kernel
theorem d_M_bend_77 : decode prog_10_method_28_code 77 = .ok (.iadd, 1) := by decide +kernel
theorem d_M_bend_78 : decode prog_10_method_28_code 78 = .ok (.iaload, 1) := by decide +kernel
theorem d_M_bend_79 : decode prog_10_method_28_code 79 = .ok (.iconst 1, 1) := by decide +kernel
theorem d_M_bend_80 : decode prog_10_method_28_code 80 = .ok (.if_icmp .ne 7, 3) := by decide +kernel
theorem d_M_bend_83 : decode prog_10_method_28_code 83 = .ok (.iconst 1, 1) := by decide +kernel
theorem d_M_bend_84 : decode prog_10_method_28_code 84 = .ok (.goto 4, 3) := by decide +kernel
theorem d_M_bend_87 : decode prog_10_method_28_code 87 = .ok (.iconst 0, 1) := by decide +kernel
theorem d_M_bend_88 : decode prog_10_method_28_code 88 = .ok (.ireturn, 1) := by decide +kernel
theorem d_M_lose_0 : decode prog_10_method_29_code 0 = .ok (.iload_n 1, 1) := by decide +kernel
theorem d_M_lose_1 : decode prog_10_method_29_code 1 = .ok (.invokestatic 135, 3) := by decide +kernel
theorem d_M_lose_4 : decode prog_10_method_29_code 4 = .ok (.ifCond .eq 15, 3) := by decide +kernel
theorem d_M_lose_7 : decode prog_10_method_29_code 7 = .ok (.iload_n 3, 1) := by decide +kernel
theorem d_M_lose_8 : decode prog_10_method_29_code 8 = .ok (.ifCond .lt 11, 3) := by decide +kernel
theorem d_M_lose_11 : decode prog_10_method_29_code 11 = .ok (.iload_n 2, 1) := by decide +kernel
theorem d_M_lose_12 : decode prog_10_method_29_code 12 = .ok (.ifCond .lt 7, 3) := by decide +kernel
theorem d_M_lose_15 : decode prog_10_method_29_code 15 = .ok (.iconst 1, 1) := by decide +kernel
theorem d_M_lose_16 : decode prog_10_method_29_code 16 = .ok (.goto 4, 3) := by decide +kernel
theorem d_M_lose_19 : decode prog_10_method_29_code 19 = .ok (.iconst 0, 1) := by decide +kernel
theorem d_M_lose_20 : decode prog_10_method_29_code 20 = .ok (.istore 4, 2) := by decide +kernel
theorem d_M_lose_22 : decode prog_10_method_29_code 22 = .ok (.aload_n 0, 1) := by decide +kernel
theorem d_M_lose_23 : decode prog_10_method_29_code 23 = .ok (.iload 4, 2) := by decide +kernel
theorem d_M_lose_25 : decode prog_10_method_29_code 25 = .ok (.ifCond .eq 17, 3) := by decide +kernel
theorem d_M_lose_28 : decode prog_10_method_29_code 28 = .ok (.iload_n 2, 1) := by decide +kernel
theorem d_M_lose_29 : decode prog_10_method_29_code 29 = .ok (.aload_n 0, 1) := by decide +kernel
theorem d_M_lose_30 : decode prog_10_method_29_code 30 = .ok (.getfield 28, 3) := by decide +kernel
theorem d_M_lose_33 : decode prog_10_method_29_code 33 = .ok (.iload_n 1, 1) := by decide +kernel
theorem d_M_lose_34 : decode prog_10_method_29_code 34 = .ok (.iaload, 1) := by decide +kernel
theorem d_M_lose_35 : decode prog_10_method_29_code 35 = .ok (.if_icmp .lt 7, 3) := by decide +kernel
theorem d_M_lose_38 : decode prog_10_method_29_code 38 = .ok (.iconst 0, 1) := by decide +kernel
theorem d_M_lose_39 : decode prog_10_method_29_code 39 = .ok (.goto 4, 3) := by decide +kernel
theorem d_M_lose_42 : decode prog_10_method_29_code 42 = .ok (.iconst 1, 1) := by decide +kernel
theorem d_M_lose_43 : decode prog_10_method_29_code 43 = .ok (.invokevirtual 102, 3) := by decide +kernel
theorem d_M_lose_46 : decode prog_10_method_29_code 46 = .ok (.ifCond .eq 5, 3) := by decide +kernel
theorem d_M_lose_49 : decode prog_10_method_29_code 49 = .ok (.iconst 0, 1) := by decide +kernel
theorem d_M_lose_50 : decode prog_10_method_29_code 50 = .ok (.ireturn, 1) := by decide +kernel
theorem d_M_lose_51 : decode prog_10_method_29_code 51 = .ok (.iload_n 2, 1) := by decide +kernel
theorem d_M_lose_52 : decode prog_10_method_29_code 52 = .ok (.aload_n 0, 1) := by decide +kernel
theorem d_M_lose_53 : decode prog_10_method_29_code 53 = .ok (.getfield 25, 3) := by decide +kernel
theorem d_M_lose_56 : decode prog_10_method_29_code 56 = .ok (.iload_n 1, 1) := by decide +kernel
theorem d_M_lose_57 : decode prog_10_method_29_code 57 = .ok (.iaload, 1) := by decide +kernel
theorem d_M_lose_58 : decode prog_10_method_29_code 58 = .ok (.if_icmp .lt 5, 3) := by decide +kernel
theorem d_M_lose_61 : decode prog_10_method_29_code 61 = .ok (.iconst 0, 1) := by decide +kernel
theorem d_M_lose_62 : decode prog_10_method_29_code 62 = .ok (.ireturn, 1) := by decide +kernel
theorem d_M_lose_63 : decode prog_10_method_29_code 63 = .ok (.iload_n 3, 1) := by decide +kernel
theorem d_M_lose_64 : decode prog_10_method_29_code 64 = .ok (.aload_n 0, 1) := by decide +kernel
theorem d_M_lose_65 : decode prog_10_method_29_code 65 = .ok (.getfield 25, 3) := by decide +kernel
theorem d_M_lose_68 : decode prog_10_method_29_code 68 = .ok (.iload_n 1, 1) := by decide +kernel
theorem d_M_lose_69 : decode prog_10_method_29_code 69 = .ok (.iaload, 1) := by decide +kernel
theorem d_M_lose_70 : decode prog_10_method_29_code 70 = .ok (.iload_n 2, 1) := by decide +kernel
theorem d_M_lose_71 : decode prog_10_method_29_code 71 = .ok (.isub, 1) := by decide +kernel
theorem d_M_lose_72 : decode prog_10_method_29_code 72 = .ok (.if_icmp .ge 7, 3) := by decide +kernel
theorem d_M_lose_75 : decode prog_10_method_29_code 75 = .ok (.iload_n 3, 1) := by decide +kernel
theorem d_M_lose_76 : decode prog_10_method_29_code 76 = .ok (.goto 11, 3) := by decide +kernel
theorem d_M_lose_79 : decode prog_10_method_29_code 79 = .ok (.aload_n 0, 1) := by decide +kernel
theorem d_M_lose_80 : decode prog_10_method_29_code 80 = .ok (.getfield 25, 3) := by decide +kernel
theorem d_M_lose_83 : decode prog_10_method_29_code 83 = .ok (.iload_n 1, 1) := by decide +kernel
theorem d_M_lose_84 : decode prog_10_method_29_code 84 = .ok (.iaload, 1) := by decide +kernel
theorem d_M_lose_85 : decode prog_10_method_29_code 85 = .ok (.iload_n 2, 1) := by decide +kernel
theorem d_M_lose_86 : decode prog_10_method_29_code 86 = .ok (.isub, 1) := by decide +kernel
theorem d_M_lose_87 : decode prog_10_method_29_code 87 = .ok (.istore 5, 2) := by decide +kernel
theorem d_M_lose_89 : decode prog_10_method_29_code 89 = .ok (.aload_n 0, 1) := by decide +kernel
theorem d_M_lose_90 : decode prog_10_method_29_code 90 = .ok (.getfield 25, 3) := by decide +kernel
theorem d_M_lose_93 : decode prog_10_method_29_code 93 = .ok (.iload_n 1, 1) := by decide +kernel
theorem d_M_lose_94 : decode prog_10_method_29_code 94 = .ok (.aload_n 0, 1) := by decide +kernel
theorem d_M_lose_95 : decode prog_10_method_29_code 95 = .ok (.getfield 25, 3) := by decide +kernel
theorem d_M_lose_98 : decode prog_10_method_29_code 98 = .ok (.iload_n 1, 1) := by decide +kernel
theorem d_M_lose_99 : decode prog_10_method_29_code 99 = .ok (.iaload, 1) := by decide +kernel
theorem d_M_lose_100 : decode prog_10_method_29_code 100 = .ok (.iload 5, 2) := by decide +kernel
theorem d_M_lose_102 : decode prog_10_method_29_code 102 = .ok (.isub, 1) := by decide +kernel
theorem d_M_lose_103 : decode prog_10_method_29_code 103 = .ok (.iastore, 1) := by decide +kernel
theorem d_M_lose_104 : decode prog_10_method_29_code 104 = .ok (.iload_n 2, 1) := by decide +kernel
theorem d_M_lose_105 : decode prog_10_method_29_code 105 = .ok (.istore 6, 2) := by decide +kernel
theorem d_M_lose_107 : decode prog_10_method_29_code 107 = .ok (.iload 6, 2) := by decide +kernel
theorem d_M_lose_109 : decode prog_10_method_29_code 109 = .ok (.aload_n 0, 1) := by decide +kernel
theorem d_M_lose_110 : decode prog_10_method_29_code 110 = .ok (.getfield 25, 3) := by decide +kernel
theorem d_M_lose_113 : decode prog_10_method_29_code 113 = .ok (.iload_n 1, 1) := by decide +kernel
theorem d_M_lose_114 : decode prog_10_method_29_code 114 = .ok (.iaload, 1) := by decide +kernel
theorem d_M_lose_115 : decode prog_10_method_29_code 115 = .ok (.if_icmp .ge 38, 3) := by decide +kernel
theorem d_M_lose_118 : decode prog_10_method_29_code 118 = .ok (.aload_n 0, 1) := by decide +kernel
theorem d_M_lose_119 : decode prog_10_method_29_code 119 = .ok (.getfield 22, 3) := by decide +kernel
theorem d_M_lose_122 : decode prog_10_method_29_code 122 = .ok (.sipush 2640, 3) := by decide +kernel
theorem d_M_lose_125 : decode prog_10_method_29_code 125 = .ok (.iload_n 1, 1) := by decide +kernel
theorem d_M_lose_126 : decode prog_10_method_29_code 126 = .ok (.imul, 1) := by decide +kernel
theorem d_M_lose_127 : decode prog_10_method_29_code 127 = .ok (.iload 6, 2) := by decide +kernel
theorem d_M_lose_129 : decode prog_10_method_29_code 129 = .ok (.iadd, 1) := by decide +kernel
theorem d_M_lose_130 : decode prog_10_method_29_code 130 = .ok (.aload_n 0, 1) := by decide +kernel
theorem d_M_lose_131 : decode prog_10_method_29_code 131 = .ok (.getfield 22, 3) := by decide +kernel
theorem d_M_lose_134 : decode prog_10_method_29_code 134 = .ok (.sipush 2640, 3) := by decide +kernel
theorem d_M_lose_137 : decode prog_10_method_29_code 137 = .ok (.iload_n 1, 1) := by decide +kernel
theorem d_M_lose_138 : decode prog_10_method_29_code 138 = .ok (.imul, 1) := by decide +kernel
theorem d_M_lose_139 : decode prog_10_method_29_code 139 = .ok (.iload 6, 2) := by decide +kernel
theorem d_M_lose_141 : decode prog_10_method_29_code 141 = .ok (.iadd, 1) := by decide +kernel
theorem d_M_lose_142 : decode prog_10_method_29_code 142 = .ok (.iload 5, 2) := by decide +kernel
theorem d_M_lose_144 : decode prog_10_method_29_code 144 = .ok (.iadd, 1) := by decide +kernel
theorem d_M_lose_145 : decode prog_10_method_29_code 145 = .ok (.iaload, 1) := by decide +kernel
theorem d_M_lose_146 : decode prog_10_method_29_code 146 = .ok (.iastore, 1) := by decide +kernel
theorem d_M_lose_147 : decode prog_10_method_29_code 147 = .ok (.iinc 6 1, 3) := by decide +kernel
theorem d_M_lose_150 : decode prog_10_method_29_code 150 = .ok (.goto (-43), 3) := by decide +kernel
theorem d_M_lose_153 : decode prog_10_method_29_code 153 = .ok (.iload 5, 2) := by decide +kernel
theorem d_M_lose_155 : decode prog_10_method_29_code 155 = .ok (.ireturn, 1) := by decide +kernel
theorem d_M_bit_0 : decode prog_10_method_30_code 0 = .ok (.aload_n 0, 1) := by decide +kernel
theorem d_M_bit_1 : decode prog_10_method_30_code 1 = .ok (.iload_n 1, 1) := by decide +kernel
theorem d_M_bit_2 : decode prog_10_method_30_code 2 = .ok (.invokestatic 135, 3) := by decide +kernel
theorem d_M_bit_5 : decode prog_10_method_30_code 5 = .ok (.ifCond .eq 7, 3) := by decide +kernel
theorem d_M_bit_8 : decode prog_10_method_30_code 8 = .ok (.iconst 0, 1) := by decide +kernel
theorem d_M_bit_9 : decode prog_10_method_30_code 9 = .ok (.goto 4, 3) := by decide +kernel
theorem d_M_bit_12 : decode prog_10_method_30_code 12 = .ok (.iconst 1, 1) := by decide +kernel
theorem d_M_bit_13 : decode prog_10_method_30_code 13 = .ok (.invokevirtual 102, 3) := by decide +kernel
theorem d_M_bit_16 : decode prog_10_method_30_code 16 = .ok (.ifCond .eq 5, 3) := by decide +kernel
theorem d_M_bit_19 : decode prog_10_method_30_code 19 = .ok (.iconst 0, 1) := by decide +kernel
theorem d_M_bit_20 : decode prog_10_method_30_code 20 = .ok (.ireturn, 1) := by decide +kernel
theorem d_M_bit_21 : decode prog_10_method_30_code 21 = .ok (.iload_n 2, 1) := by decide +kernel
theorem d_M_bit_22 : decode prog_10_method_30_code 22 = .ok (.iconst 0, 1) := by decide +kernel
theorem d_M_bit_23 : decode prog_10_method_30_code 23 = .ok (.aload_n 0, 1) := by decide +kernel
theorem d_M_bit_24 : decode prog_10_method_30_code 24 = .ok (.getfield 25, 3) := by decide +kernel
theorem d_M_bit_27 : decode prog_10_method_30_code 27 = .ok (.iload_n 1, 1) := by decide +kernel
theorem d_M_bit_28 : decode prog_10_method_30_code 28 = .ok (.iaload, 1) := by decide +kernel
theorem d_M_bit_29 : decode prog_10_method_30_code 29 = .ok (.iconst 1, 1) := by decide +kernel
theorem d_M_bit_30 : decode prog_10_method_30_code 30 = .ok (.isub, 1) := by decide +kernel
theorem d_M_bit_31 : decode prog_10_method_30_code 31 = .ok (.invokestatic 105, 3) := by decide +kernel
theorem d_M_bit_34 : decode prog_10_method_30_code 34 = .ok (.ifCond .eq 18, 3) := by decide +kernel
theorem d_M_bit_37 : decode prog_10_method_30_code 37 = .ok (.aload_n 0, 1) := by decide +kernel
theorem d_M_bit_38 : decode prog_10_method_30_code 38 = .ok (.getfield 22, 3) := by decide +kernel
theorem d_M_bit_41 : decode prog_10_method_30_code 41 = .ok (.sipush 2640, 3) := by decide +kernel
theorem d_M_bit_44 : decode prog_10_method_30_code 44 = .ok (.iload_n 1, 1) := by decide +kernel
theorem d_M_bit_45 : decode prog_10_method_30_code 45 = .ok (.imul, 1) := by decide +kernel
theorem d_M_bit_46 : decode prog_10_method_30_code 46 = .ok (.iload_n 2, 1) := by decide +kernel
theorem d_M_bit_47 : decode prog_10_method_30_code 47 = .ok (.iadd, 1) := by decide +kernel
theorem d_M_bit_48 : decode prog_10_method_30_code 48 = .ok (.iaload, 1) := by decide +kernel
theorem d_M_bit_49 : decode prog_10_method_30_code 49 = .ok (.goto 4, 3) := by decide +kernel
theorem d_M_bit_52 : decode prog_10_method_30_code 52 = .ok (.iconst (-1), 1) := by decide +kernel
theorem d_M_bit_53 : decode prog_10_method_30_code 53 = .ok (.ireturn, 1) := by decide +kernel
theorem d_M_count_0 : decode prog_10_method_33_code 0 = .ok (.aload_n 0, 1) := by decide +kernel
theorem d_M_count_1 : decode prog_10_method_33_code 1 = .ok (.iload_n 1, 1) := by decide +kernel
theorem d_M_count_2 : decode prog_10_method_33_code 2 = .ok (.invokestatic 135, 3) := by decide +kernel
theorem d_M_count_5 : decode prog_10_method_33_code 5 = .ok (.ifCond .eq 17, 3) := by decide +kernel
theorem d_M_count_8 : decode prog_10_method_33_code 8 = .ok (.iload_n 2, 1) := by decide +kernel
theorem d_M_count_9 : decode prog_10_method_33_code 9 = .ok (.iconst 0, 1) := by decide +kernel
theorem d_M_count_10 : decode prog_10_method_33_code 10 = .ok (.bipush 8, 2) := by decide +kernel
theorem d_M_count_12 : decode prog_10_method_33_code 12 = .ok (.invokestatic 105, 3) := by decide +kernel
theorem d_M_count_15 : decode prog_10_method_33_code 15 = .ok (.ifCond .eq 7, 3) := by decide +kernel
theorem d_M_count_18 : decode prog_10_method_33_code 18 = .ok (.iconst 0, 1) := by decide +kernel
theorem d_M_count_19 : decode prog_10_method_33_code 19 = .ok (.goto 4, 3) := by decide +kernel
theorem d_M_count_22 : decode prog_10_method_33_code 22 = .ok (.iconst 1, 1) := by decide +kernel
theorem d_M_count_23 : decode prog_10_method_33_code 23 = .ok (.invokevirtual 102, 3) := by decide +kernel
theorem d_M_count_26 : decode prog_10_method_33_code 26 = .ok (.ifCond .eq 5, 3) := by decide +kernel
theorem d_M_count_29 : decode prog_10_method_33_code 29 = .ok (.iconst 0, 1) := by decide +kernel
theorem d_M_count_30 : decode prog_10_method_33_code 30 = .ok (.ireturn, 1) := by decide +kernel
theorem d_M_count_31 : decode prog_10_method_33_code 31 = .ok (.iload_n 2, 1) := by decide +kernel
theorem d_M_count_32 : decode prog_10_method_33_code 32 = .ok (.tableswitch 117 0 7 #[48, 55, 62, 77, 84, 91, 98, 111], 48) := by decide +kernel
theorem d_M_count_80 : decode prog_10_method_33_code 80 = .ok (.aload_n 0, 1) := by decide +kernel
theorem d_M_count_81 : decode prog_10_method_33_code 81 = .ok (.getfield 25, 3) := by decide +kernel
theorem d_M_count_84 : decode prog_10_method_33_code 84 = .ok (.iload_n 1, 1) := by decide +kernel
theorem d_M_count_85 : decode prog_10_method_33_code 85 = .ok (.iaload, 1) := by decide +kernel
theorem d_M_count_86 : decode prog_10_method_33_code 86 = .ok (.ireturn, 1) := by decide +kernel
theorem d_M_count_87 : decode prog_10_method_33_code 87 = .ok (.aload_n 0, 1) := by decide +kernel
theorem d_M_count_88 : decode prog_10_method_33_code 88 = .ok (.getfield 28, 3) := by decide +kernel
theorem d_M_count_91 : decode prog_10_method_33_code 91 = .ok (.iload_n 1, 1) := by decide +kernel
theorem d_M_count_92 : decode prog_10_method_33_code 92 = .ok (.iaload, 1) := by decide +kernel
theorem d_M_count_93 : decode prog_10_method_33_code 93 = .ok (.ireturn, 1) := by decide +kernel
theorem d_M_count_94 : decode prog_10_method_33_code 94 = .ok (.aload_n 0, 1) := by decide +kernel
theorem d_M_count_95 : decode prog_10_method_33_code 95 = .ok (.getfield 31, 3) := by decide +kernel
theorem d_M_count_98 : decode prog_10_method_33_code 98 = .ok (.iload_n 1, 1) := by decide +kernel
theorem d_M_count_99 : decode prog_10_method_33_code 99 = .ok (.baload, 1) := by decide +kernel
theorem d_M_count_100 : decode prog_10_method_33_code 100 = .ok (.ifCond .eq 7, 3) := by decide +kernel
theorem d_M_count_103 : decode prog_10_method_33_code 103 = .ok (.iconst 1, 1) := by decide +kernel
theorem d_M_count_104 : decode prog_10_method_33_code 104 = .ok (.goto 4, 3) := by decide +kernel
theorem d_M_count_107 : decode prog_10_method_33_code 107 = .ok (.iconst 0, 1) := by decide +kernel
theorem d_M_count_108 : decode prog_10_method_33_code 108 = .ok (.ireturn, 1) := by decide +kernel
theorem d_M_count_109 : decode prog_10_method_33_code 109 = .ok (.aload_n 0, 1) := by decide +kernel
theorem d_M_count_110 : decode prog_10_method_33_code 110 = .ok (.getfield 35, 3) := by decide +kernel
theorem d_M_count_113 : decode prog_10_method_33_code 113 = .ok (.iload_n 1, 1) := by decide +kernel
theorem d_M_count_114 : decode prog_10_method_33_code 114 = .ok (.iaload, 1) := by decide +kernel
theorem d_M_count_115 : decode prog_10_method_33_code 115 = .ok (.ireturn, 1) := by decide +kernel
theorem d_M_count_116 : decode prog_10_method_33_code 116 = .ok (.aload_n 0, 1) := by decide +kernel
theorem d_M_count_117 : decode prog_10_method_33_code 117 = .ok (.getfield 38, 3) := by decide +kernel
theorem d_M_count_120 : decode prog_10_method_33_code 120 = .ok (.iload_n 1, 1) := by decide +kernel
theorem d_M_count_121 : decode prog_10_method_33_code 121 = .ok (.iaload, 1) := by decide +kernel
theorem d_M_count_122 : decode prog_10_method_33_code 122 = .ok (.ireturn, 1) := by decide +kernel
theorem d_M_count_123 : decode prog_10_method_33_code 123 = .ok (.aload_n 0, 1) := by decide +kernel
theorem d_M_count_124 : decode prog_10_method_33_code 124 = .ok (.getfield 41, 3) := by decide +kernel
theorem d_M_count_127 : decode prog_10_method_33_code 127 = .ok (.iload_n 1, 1) := by decide +kernel
theorem d_M_count_128 : decode prog_10_method_33_code 128 = .ok (.iaload, 1) := by decide +kernel
theorem d_M_count_129 : decode prog_10_method_33_code 129 = .ok (.ireturn, 1) := by decide +kernel
theorem d_M_count_130 : decode prog_10_method_33_code 130 = .ok (.iload_n 1, 1) := by decide +kernel
theorem d_M_count_131 : decode prog_10_method_33_code 131 = .ok (.ifCond .ne 10, 3) := by decide +kernel
theorem d_M_count_134 : decode prog_10_method_33_code 134 = .ok (.aload_n 0, 1) := by decide +kernel
theorem d_M_count_135 : decode prog_10_method_33_code 135 = .ok (.getfield 65, 3) := by decide +kernel
theorem d_M_count_138 : decode prog_10_method_33_code 138 = .ok (.goto 4, 3) := by decide +kernel
theorem d_M_count_141 : decode prog_10_method_33_code 141 = .ok (.iconst 0, 1) := by decide +kernel
theorem d_M_count_142 : decode prog_10_method_33_code 142 = .ok (.ireturn, 1) := by decide +kernel
theorem d_M_count_143 : decode prog_10_method_33_code 143 = .ok (.aload_n 0, 1) := by decide +kernel
theorem d_M_count_144 : decode prog_10_method_33_code 144 = .ok (.iload_n 1, 1) := by decide +kernel
theorem d_M_count_145 : decode prog_10_method_33_code 145 = .ok (.invokevirtual 138, 3) := by decide +kernel
theorem d_M_count_148 : decode prog_10_method_33_code 148 = .ok (.ireturn, 1) := by decide +kernel
theorem d_M_count_149 : decode prog_10_method_33_code 149 = .ok (.aload_n 0, 1) := by decide +kernel
theorem d_M_count_150 : decode prog_10_method_33_code 150 = .ok (.iload_n 1, 1) := by decide +kernel
theorem d_M_count_151 : decode prog_10_method_33_code 151 = .ok (.invokevirtual 141, 3) := by decide +kernel
theorem d_M_count_154 : decode prog_10_method_33_code 154 = .ok (.ireturn, 1) := by decide +kernel
theorem d_M_balance_0 : decode prog_10_method_31_code 0 = .ok (.iconst 0, 1) := by decide +kernel
theorem d_M_balance_1 : decode prog_10_method_31_code 1 = .ok (.istore_n 2, 1) := by decide +kernel
theorem d_M_balance_2 : decode prog_10_method_31_code 2 = .ok (.iconst 0, 1) := by decide +kernel
theorem d_M_balance_3 : decode prog_10_method_31_code 3 = .ok (.istore_n 3, 1) := by decide +kernel
theorem d_M_balance_4 : decode prog_10_method_31_code 4 = .ok (.iload_n 3, 1) := by decide +kernel
theorem d_M_balance_5 : decode prog_10_method_31_code 5 = .ok (.aload_n 0, 1) := by decide +kernel
theorem d_M_balance_6 : decode prog_10_method_31_code 6 = .ok (.getfield 25, 3) := by decide +kernel
theorem d_M_balance_9 : decode prog_10_method_31_code 9 = .ok (.iload_n 1, 1) := by decide +kernel
theorem d_M_balance_10 : decode prog_10_method_31_code 10 = .ok (.iaload, 1) := by decide +kernel
theorem d_M_balance_11 : decode prog_10_method_31_code 11 = .ok (.if_icmp .ge 28, 3) := by decide +kernel
theorem d_M_balance_14 : decode prog_10_method_31_code 14 = .ok (.iload_n 2, 1) := by decide +kernel
theorem d_M_balance_15 : decode prog_10_method_31_code 15 = .ok (.iconst 2, 1) := by decide +kernel
theorem d_M_balance_16 : decode prog_10_method_31_code 16 = .ok (.aload_n 0, 1) := by decide +kernel
theorem d_M_balance_17 : decode prog_10_method_31_code 17 = .ok (.getfield 22, 3) := by decide +kernel
theorem d_M_balance_20 : decode prog_10_method_31_code 20 = .ok (.sipush 2640, 3) := by decide +kernel
theorem d_M_balance_23 : decode prog_10_method_31_code 23 = .ok (.iload_n 1, 1) := by decide +kernel
theorem d_M_balance_24 : decode prog_10_method_31_code 24 = .ok (.imul, 1) := by decide +kernel
theorem d_M_balance_25 : decode prog_10_method_31_code 25 = .ok (.iload_n 3, 1) := by decide +kernel
theorem d_M_balance_26 : decode prog_10_method_31_code 26 = .ok (.iadd, 1) := by decide +kernel
theorem d_M_balance_27 : decode prog_10_method_31_code 27 = .ok (.iaload, 1) := by decide +kernel
theorem d_M_balance_28 : decode prog_10_method_31_code 28 = .ok (.imul, 1) := by decide +kernel
theorem d_M_balance_29 : decode prog_10_method_31_code 29 = .ok (.iadd, 1) := by decide +kernel
theorem d_M_balance_30 : decode prog_10_method_31_code 30 = .ok (.iconst 1, 1) := by decide +kernel
theorem d_M_balance_31 : decode prog_10_method_31_code 31 = .ok (.isub, 1) := by decide +kernel
theorem d_M_balance_32 : decode prog_10_method_31_code 32 = .ok (.istore_n 2, 1) := by decide +kernel
theorem d_M_balance_33 : decode prog_10_method_31_code 33 = .ok (.iinc 3 1, 3) := by decide +kernel
theorem d_M_balance_36 : decode prog_10_method_31_code 36 = .ok (.goto (-32), 3) := by decide +kernel
theorem d_M_balance_39 : decode prog_10_method_31_code 39 = .ok (.iload_n 2, 1) := by decide +kernel
theorem d_M_balance_40 : decode prog_10_method_31_code 40 = .ok (.ireturn, 1) := by decide +kernel
theorem d_M_longest_0 : decode prog_10_method_32_code 0 = .ok (.iconst 0, 1) := by decide +kernel
theorem d_M_longest_1 : decode prog_10_method_32_code 1 = .ok (.istore_n 2, 1) := by decide +kernel
theorem d_M_longest_2 : decode prog_10_method_32_code 2 = .ok (.iconst 0, 1) := by decide +kernel
theorem d_M_longest_3 : decode prog_10_method_32_code 3 = .ok (.istore_n 3, 1) := by decide +kernel
theorem d_M_longest_4 : decode prog_10_method_32_code 4 = .ok (.iconst 0, 1) := by decide +kernel
theorem d_M_longest_5 : decode prog_10_method_32_code 5 = .ok (.istore 4, 2) := by decide +kernel
theorem d_M_longest_7 : decode prog_10_method_32_code 7 = .ok (.iload 4, 2) := by decide +kernel
theorem d_M_longest_9 : decode prog_10_method_32_code 9 = .ok (.aload_n 0, 1) := by decide +kernel
theorem d_M_longest_10 : decode prog_10_method_32_code 10 = .ok (.getfield 25, 3) := by decide +kernel
theorem d_M_longest_13 : decode prog_10_method_32_code 13 = .ok (.iload_n 1, 1) := by decide +kernel
theorem d_M_longest_14 : decode prog_10_method_32_code 14 = .ok (.iaload, 1) := by decide +kernel
theorem d_M_longest_15 : decode prog_10_method_32_code 15 = .ok (.if_icmp .ge 76, 3) := by decide +kernel
theorem d_M_longest_18 : decode prog_10_method_32_code 18 = .ok (.iload 4, 2) := by decide +kernel
theorem d_M_longest_20 : decode prog_10_method_32_code 20 = .ok (.ifCond .le 38, 3) := by decide +kernel
theorem d_M_longest_23 : decode prog_10_method_32_code 23 = .ok (.aload_n 0, 1) := by decide +kernel
theorem d_M_longest_24 : decode prog_10_method_32_code 24 = .ok (.getfield 22, 3) := by decide +kernel
theorem d_M_longest_27 : decode prog_10_method_32_code 27 = .ok (.sipush 2640, 3) := by decide +kernel
theorem d_M_longest_30 : decode prog_10_method_32_code 30 = .ok (.iload_n 1, 1) := by decide +kernel
theorem d_M_longest_31 : decode prog_10_method_32_code 31 = .ok (.imul, 1) := by decide +kernel
theorem d_M_longest_32 : decode prog_10_method_32_code 32 = .ok (.iload 4, 2) := by decide +kernel
theorem d_M_longest_34 : decode prog_10_method_32_code 34 = .ok (.iadd, 1) := by decide +kernel
theorem d_M_longest_35 : decode prog_10_method_32_code 35 = .ok (.iaload, 1) := by decide +kernel
theorem d_M_longest_36 : decode prog_10_method_32_code 36 = .ok (.aload_n 0, 1) := by decide +kernel
theorem d_M_longest_37 : decode prog_10_method_32_code 37 = .ok (.getfield 22, 3) := by decide +kernel
theorem d_M_longest_40 : decode prog_10_method_32_code 40 = .ok (.sipush 2640, 3) := by decide +kernel
theorem d_M_longest_43 : decode prog_10_method_32_code 43 = .ok (.iload_n 1, 1) := by decide +kernel
theorem d_M_longest_44 : decode prog_10_method_32_code 44 = .ok (.imul, 1) := by decide +kernel
theorem d_M_longest_45 : decode prog_10_method_32_code 45 = .ok (.iload 4, 2) := by decide +kernel
theorem d_M_longest_47 : decode prog_10_method_32_code 47 = .ok (.iadd, 1) := by decide +kernel
theorem d_M_longest_48 : decode prog_10_method_32_code 48 = .ok (.iconst 1, 1) := by decide +kernel
theorem d_M_longest_49 : decode prog_10_method_32_code 49 = .ok (.isub, 1) := by decide +kernel
theorem d_M_longest_50 : decode prog_10_method_32_code 50 = .ok (.iaload, 1) := by decide +kernel
theorem d_M_longest_51 : decode prog_10_method_32_code 51 = .ok (.if_icmp .ne 7, 3) := by decide +kernel
theorem d_M_longest_54 : decode prog_10_method_32_code 54 = .ok (.iconst 1, 1) := by decide +kernel
theorem d_M_longest_55 : decode prog_10_method_32_code 55 = .ok (.goto 4, 3) := by decide +kernel
theorem d_M_longest_58 : decode prog_10_method_32_code 58 = .ok (.iconst 0, 1) := by decide +kernel
theorem d_M_longest_59 : decode prog_10_method_32_code 59 = .ok (.istore 5, 2) := by decide +kernel
theorem d_M_longest_61 : decode prog_10_method_32_code 61 = .ok (.iload 5, 2) := by decide +kernel
theorem d_M_longest_63 : decode prog_10_method_32_code 63 = .ok (.ifCond .eq 9, 3) := by decide +kernel
theorem d_M_longest_66 : decode prog_10_method_32_code 66 = .ok (.iload_n 3, 1) := by decide +kernel
theorem d_M_longest_67 : decode prog_10_method_32_code 67 = .ok (.iconst 1, 1) := by decide +kernel
theorem d_M_longest_68 : decode prog_10_method_32_code 68 = .ok (.iadd, 1) := by decide +kernel
theorem d_M_longest_69 : decode prog_10_method_32_code 69 = .ok (.goto 4, 3) := by decide +kernel
theorem d_M_longest_72 : decode prog_10_method_32_code 72 = .ok (.iconst 1, 1) := by decide +kernel
theorem d_M_longest_73 : decode prog_10_method_32_code 73 = .ok (.istore_n 3, 1) := by decide +kernel
theorem d_M_longest_74 : decode prog_10_method_32_code 74 = .ok (.iload_n 3, 1) := by decide +kernel
theorem d_M_longest_75 : decode prog_10_method_32_code 75 = .ok (.iload_n 2, 1) := by decide +kernel
theorem d_M_longest_76 : decode prog_10_method_32_code 76 = .ok (.if_icmp .le 7, 3) := by decide +kernel
theorem d_M_longest_79 : decode prog_10_method_32_code 79 = .ok (.iload_n 3, 1) := by decide +kernel
theorem d_M_longest_80 : decode prog_10_method_32_code 80 = .ok (.goto 4, 3) := by decide +kernel
theorem d_M_longest_83 : decode prog_10_method_32_code 83 = .ok (.iload_n 2, 1) := by decide +kernel
theorem d_M_longest_84 : decode prog_10_method_32_code 84 = .ok (.istore_n 2, 1) := by decide +kernel
theorem d_M_longest_85 : decode prog_10_method_32_code 85 = .ok (.iinc 4 1, 3) := by decide +kernel
theorem d_M_longest_88 : decode prog_10_method_32_code 88 = .ok (.goto (-81), 3) := by decide +kernel
theorem d_M_longest_91 : decode prog_10_method_32_code 91 = .ok (.iload_n 2, 1) := by decide +kernel
theorem d_M_longest_92 : decode prog_10_method_32_code 92 = .ok (.ireturn, 1) := by decide +kernel
theorem d_M_isPlus_0 : decode prog_10_method_34_code 0 = .ok (.aload_n 0, 1) := by decide +kernel
theorem d_M_isPlus_1 : decode prog_10_method_34_code 1 = .ok (.iconst 0, 1) := by decide +kernel
theorem d_M_isPlus_2 : decode prog_10_method_34_code 2 = .ok (.putfield 61, 3) := by decide +kernel
theorem d_M_isPlus_5 : decode prog_10_method_34_code 5 = .ok (.iload_n 1, 1) := by decide +kernel
theorem d_M_isPlus_6 : decode prog_10_method_34_code 6 = .ok (.ifCond .eq 10, 3) := by decide +kernel
theorem d_M_isPlus_9 : decode prog_10_method_34_code 9 = .ok (.aload_n 0, 1) := by decide +kernel
theorem d_M_isPlus_10 : decode prog_10_method_34_code 10 = .ok (.getfield 68, 3) := by decide +kernel
theorem d_M_isPlus_13 : decode prog_10_method_34_code 13 = .ok (.goto 7, 3) := by decide +kernel
theorem d_M_isPlus_16 : decode prog_10_method_34_code 16 = .ok (.aload_n 0, 1) := by decide +kernel
theorem d_M_isPlus_17 : decode prog_10_method_34_code 17 = .ok (.getfield 72, 3) := by decide +kernel
theorem d_M_isPlus_20 : decode prog_10_method_34_code 20 = .ok (.ireturn, 1) := by decide +kernel
